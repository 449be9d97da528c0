/-- an order that isn't counted: its numbers tell nothing -/
theorem LX_off {σ σ' : St} {P : Int → Bool} {o : Int} (hp : P o = false) (h9 : σ' 109 = σ 109) (h5 : σ' 83 5 = σ 83 5) (hq : ∀ q, q ≠ o → σ' 84 q = σ 84 q ∧ σ' 85 q = σ 85 q ∧ σ' 112 q = σ 112 q) (k : Int) : LX σ' P k = LX σ P k := by
  unfold LX LFT
  rw [h9, h5]
  congr 1
  exact sm_c (fun q _ _ => by
    by_cases e : q = o
    · rw [e, hp, Bool.false_and, Bool.false_and, if_neg Bool.false_ne_true, if_neg Bool.false_ne_true]
    · obtain ⟨a, b, c⟩ := hq q e
      rw [a, b, c])
theorem MEX_off {σ σ' : St} {P : Int → Bool} {o : Int} (hp : P o = false) (h9 : σ' 109 = σ 109) (h5 : σ' 83 5 = σ 83 5) (hq : ∀ q, q ≠ o → σ' 84 q = σ 84 q ∧ σ' 85 q = σ 85 q ∧ σ' 112 q = σ 112 q) : MEX σ' P ↔ MEX σ P := by
  unfold MEX
  constructor
  · intro h k a b; rw [← LX_off hp h9 h5 hq]; exact h k a b
  · intro h k a b; rw [LX_off hp h9 h5 hq]; exact h k a b
theorem NW_la {σ ρ : St} (h : NW σ ρ) (hn : ρ 0 5 ≤ 24) {o j : Int} (ho : 0 ≤ o) : NW (put σ 112 o j) (put ρ 1 (64 + o) j) := by
  obtain ⟨a, b, c, d⟩ := h
  refine ⟨a, fun i x y => ?_, fun i x y => ?_, fun q x y => ?_⟩
  · show σ 109 i = put ρ 1 (64 + o) j 1 i
    rw [put_k (by omega)]; exact b i x y
  · show σ 110 i = put ρ 1 (64 + o) j 1 (36 + i)
    rw [put_k (by omega)]; exact c i x y
  · have y2 : q < ρ 0 5 := y
    obtain ⟨d1, d2, d3, d4, d5, d6⟩ := d q x y2
    by_cases e : q = o
    · subst e
      refine ⟨?_, by rw [put_s, put_s], d3, d4, d5, d6⟩
      show σ 111 q = put ρ 1 (64 + q) j 1 (40 + q)
      rw [put_k (by omega)]; exact d1
    · refine ⟨?_, by rw [put_k e, put_k (by omega)]; exact d2, d3, d4, d5, d6⟩
      show σ 111 q = put ρ 1 (64 + o) j 1 (40 + q)
      by_cases e2 : 40 + q = 64 + o
      · -- another cell of the same place can't be: orders are below 24
        exact absurd e2 (by omega)
      · rw [put_k e2]; exact d1
theorem NW_am {σ ρ : St} (h : NW σ ρ) {o j : Int} : NW (put σ 84 o j) (put ρ 2 o j) := by
  obtain ⟨a, b, c, d⟩ := h
  refine ⟨a, b, c, fun q x y => ?_⟩
  have y2 : q < ρ 0 5 := y
  obtain ⟨d1, d2, d3, d4, d5, d6⟩ := d q x y2
  refine ⟨d1, d2, ?_, d4, d5, d6⟩
  show put σ 84 o j 84 q = put ρ 2 o j 2 q
  rw [put_e, put_e, d3]
theorem XO_am {σ : St} {o v : Int} (h : XO σ) (hv : 0 ≤ v ∧ v ≤ 60) : XO (put σ 84 o v) := by
  obtain ⟨h1, h2, h4⟩ := h
  refine ⟨h1, h2, fun q a b => ?_⟩
  have h5 := h4 q a b
  refine ⟨h5.1, h5.2.1, ?_, h5.2.2.2⟩
  show 0 ≤ put σ 84 o v 84 q ∧ put σ 84 o v 84 q ≤ 60
  rw [put_e]
  split
  · exact hv
  · exact h5.2.2.1
theorem OB_rg {σ : St} (hn : 0 ≤ σ 83 5 ∧ σ 83 5 ≤ 24) (o : Int) : 0 ≤ OB σ o ∧ OB σ o ≤ 2147483647 := iand_nn (bsI (P := fun o => decide (σ 111 o = 1)) hn)
theorem OB_o {σ : St} (hn : 0 ≤ σ 83 5 ∧ σ 83 5 ≤ 24) {o : Int} (ho : 0 ≤ o ∧ o < 24) : tb (OB σ o) o = false := by
  show tb (iand (bsum (fun o => decide (σ 111 o = 1)) (σ 83 5)) (ixor (pw o) (-1))) o = false
  rw [tb_iandn (bsI (P := fun o => decide (σ 111 o = 1)) hn) (pw_b (by omega)) (by omega), tb_pw ho.1 ho.1, decide_eq_true rfl, Bool.not_true, Bool.and_false]
theorem ins_ior {B o q : Int} (hB : 0 ≤ B ∧ B ≤ 2147483647) (ho : 0 ≤ o ∧ o ≤ 24) (hq : 0 ≤ q) : tb (ior B (pw o)) q = ins (tb B) o q := by
  rw [Bool.eq_iff_iff, tb_iorp hB ho hq]
  unfold ins
  rw [Bool.or_eq_true, decide_eq_true_eq]
/-- one more beside a set: the shares' room, and steps -/
theorem can_c {σ ρ : St} (hw : NW σ ρ) (hX : XO σ) (hR : RO ρ) {o B : Int} (ho : 0 ≤ o ∧ o < ρ 0 5) (hB : 0 ≤ B ∧ B ≤ 2147483647) (hb : tb B o = false) : CAN ρ o (ior B (pw o)) ↔ σ 84 o ≤ ROOM σ (σ 87 o) (tb B) ∧ MEX σ (ins (tb B) o) := by
  have hn := hX.1
  have hn2 := hw.1
  have hg := (hX.2.2 o ho.1 (by omega)).2.2.2.2.2.1
  have e1 : amS (ρ 0 5) (ρ 2) (ρ 4) (tb (ior B (pw o))) (ρ 4 o) = amS (σ 83 5) (σ 84) (σ 87) (tb B) (σ 87 o) + σ 84 o := by
    rw [← CANY_ins hn ⟨ho.1, by omega⟩ hg.1 hb, (hw.2.2.2 o ho.1 ho.2).2.2.2.2.1]
    exact (b_am hw (fun q a _ => (ins_ior hB (by omega) a).symm) _).symm
  have e2 : MET ρ (tb (ior B (pw o))) ↔ MEX σ (ins (tb B) o) := (b_MEX hw (fun q a _ => (ins_ior hB (by omega) a).symm)).symm
  unfold CAN
  rw [e1, e2, ← (hw.2.2.2 o ho.1 ho.2).2.2.2.2.1, ← b_sh hw hg.1 (by omega)]
  unfold ROOM
  constructor
  · rintro ⟨a, b⟩; exact ⟨by omega, b⟩
  · rintro ⟨a, b⟩; exact ⟨by omega, b⟩
theorem canl_c {σ ρ : St} (hw : NW σ ρ) (hX : XO σ) (hR : RO ρ) {o B j : Int} (ho : 0 ≤ o ∧ o < ρ 0 5) (hB : 0 ≤ B ∧ B ≤ 2147483647) (hb : tb B o = false) (hj : 0 ≤ j ∧ j < 12) : CANl ρ o B j ↔ σ 84 o ≤ ROOM σ (σ 87 o) (tb B) ∧ MEX σ (tb B) ∧ FIT (LY σ B) o j := by
  have hn2 := hw.1
  have hw' := NW_la hw hR.1.2 (o := o) (j := j) ho.1
  have hX' : XO (put σ 112 o j) := XO_la hX (by omega)
  have hR' : RO (put ρ 1 (64 + o) j) := RO_w hR (k := 64 + o) (v := j) (by have := hR.1; omega)
  have h1 := can_c hw' hX' hR' (o := o) (B := B) ho hB hb
  have hoff : ∀ q, q ≠ o → put σ 112 o j 84 q = σ 84 q ∧ put σ 112 o j 85 q = σ 85 q ∧ put σ 112 o j 112 q = σ 112 q := fun q e => ⟨rfl, rfl, put_k e⟩
  unfold CANl
  rw [h1]
  have hmo := MEX_off (σ := σ) (σ' := put σ 112 o j) hb rfl rfl hoff
  have hins : MEX (put σ 112 o j) (tb B) → (FIT (LY σ B) o j ↔ MEX (put σ 112 o j) (ins (tb B) o)) := fun hm => by
    have h2 := MEX_ins (σ := put σ 112 o j) (ρ := LY σ B) hX' (P := tb B) (o := o) ⟨ho.1, by show o < σ 83 5; omega⟩ hb hm (fun k a b => by rw [LX_off (σ := σ) (σ' := put σ 112 o j) hb rfl rfl hoff]; exact RW_at ⟨a, b⟩) rfl rfl
    rw [put_s] at h2
    exact h2
  constructor
  · rintro ⟨a, b⟩
    have hm : MEX (put σ 112 o j) (tb B) := MEX_mono hX' (fun q _ _ z => by unfold ins; rw [z, Bool.true_or]) b
    exact ⟨a, hmo.mp hm, (hins hm).mpr b⟩
  · rintro ⟨a, b, c⟩
    exact ⟨a, (hins (hmo.mpr b)).mp c⟩
theorem cana_c {σ ρ : St} (hw : NW σ ρ) (hX : XO σ) (hR : RO ρ) {o B n y : Int} (ho : 0 ≤ o ∧ o < ρ 0 5) (hB : 0 ≤ B ∧ B ≤ 2147483647) (hb : tb B o = false) (hn : 0 ≤ n ∧ n ≤ 60) (hl : LEA (LY σ B) (σ 85 o) (σ 112 o) y) : CANa ρ o B n ↔ n ≤ ROOM σ (σ 87 o) (tb B) ∧ MEX σ (tb B) ∧ n ≤ y := by
  have hn2 := hw.1
  have hw' := NW_am hw (o := o) (j := n)
  have hX' : XO (put σ 84 o n) := XO_am hX hn
  have hR' : RO (put ρ 2 o n) := RO_am hR hn
  have h1 := can_c hw' hX' hR' (o := o) (B := B) ho hB hb
  have hoff : ∀ q, q ≠ o → put σ 84 o n 84 q = σ 84 q ∧ put σ 84 o n 85 q = σ 85 q ∧ put σ 84 o n 112 q = σ 112 q := fun q e => ⟨put_k e, rfl, rfl⟩
  have hroom : ROOM (put σ 84 o n) (σ 87 o) (tb B) = ROOM σ (σ 87 o) (tb B) := by
    unfold ROOM
    have e : amS (put σ 84 o n 83 5) (put σ 84 o n 84) (put σ 84 o n 87) (tb B) (σ 87 o) = amS (σ 83 5) (σ 84) (σ 87) (tb B) (σ 87 o) := sm_c (fun q _ _ => by
      by_cases e : q = o
      · rw [e, hb, if_neg (show ¬ (false = true ∧ (σ 87 o < 0 ∨ put σ 84 o n 87 o = σ 87 o)) from fun z => Bool.noConfusion z.1), if_neg (show ¬ (false = true ∧ (σ 87 o < 0 ∨ σ 87 o = σ 87 o)) from fun z => Bool.noConfusion z.1)]
      · rw [(hoff q e).1]; rfl)
    rw [e]
    rfl
  unfold CANa
  rw [h1]
  have hmo := MEX_off (σ := σ) (σ' := put σ 84 o n) hb rfl rfl hoff
  have e84 : put σ 84 o n 84 o = n := put_s
  have h87 : put σ 84 o n 87 o = σ 87 o := rfl
  rw [e84, h87, hroom]
  have hins : MEX (put σ 84 o n) (tb B) → (n ≤ y ↔ MEX (put σ 84 o n) (ins (tb B) o)) := fun hm => by
    have h2 := MEX_ins (σ := put σ 84 o n) (ρ := LY (put σ 84 o n) B) hX' (P := tb B) (o := o) ⟨ho.1, by show o < σ 83 5; omega⟩ hb hm (fun k a b => RW_at ⟨a, b⟩) rfl rfl
    rw [← h2]
    have eL : ∀ k, 0 ≤ k → k < 2197 → LY (put σ 84 o n) B 92 k = LY σ B 92 k := fun k a b => by
      rw [show LY (put σ 84 o n) B 92 k = LX (put σ 84 o n) (tb B) k from RW_at ⟨a, b⟩, LX_off (σ := σ) (σ' := put σ 84 o n) hb rfl rfl hoff]
      exact (RW_at ⟨a, b⟩).symm
    unfold FIT
    obtain ⟨l1, j, j0, j1, j2, j3⟩ := hl
    constructor
    · intro z k a b g
      rw [eL k a b]
      have := l1 k a b g
      show put σ 84 o n 84 o ≤ _
      rw [put_s]
      omega
    · intro z
      have h3 := z j j0 j1 j2
      rw [eL j j0 j1, j3] at h3
      have h4 : put σ 84 o n 84 o ≤ y := h3
      rw [put_s] at h4
      exact h4
  constructor
  · rintro ⟨a, b⟩
    have hm : MEX (put σ 84 o n) (tb B) := MEX_mono hX' (fun q _ _ z => by unfold ins; rw [z, Bool.true_or]) b
    exact ⟨a, hmo.mp hm, (hins hm).mpr b⟩
  · rintro ⟨a, b, c⟩
    exact ⟨a, (hins (hmo.mpr b)).mp c⟩

theorem LEA_ex {σ : St} {it la : Int} (hit : 0 ≤ it ∧ it ≤ 7) (hla : 0 ≤ la ∧ la ≤ 11) : ∃ x, LEA σ it la x := by
  have hr : ∀ i, 0 ≤ (if tb it i = true then la + 1 else 0) ∧ (if tb it i = true then la + 1 else 0) ≤ 12 := fun i => by split <;> omega
  have r0 := hr 0
  have r1 := hr 1
  have r2 := hr 2
  unfold LEA
  generalize (if tb it 0 = true then la + 1 else 0) = f0 at *
  generalize (if tb it 1 = true then la + 1 else 0) = f1 at *
  generalize (if tb it 2 = true then la + 1 else 0) = f2 at *
  -- the least of finitely many
  have key : ∀ K, 0 ≤ K → K ≤ 2197 → ∃ x, (∀ j, 0 ≤ j → j < K → gef f0 f1 f2 j → x ≤ σ 92 j) ∧ ∃ j, 0 ≤ j ∧ j < 2197 ∧ gef f0 f1 f2 j ∧ σ 92 j = x := int_ind (P := fun K => K ≤ 2197 → ∃ x, (∀ j, 0 ≤ j → j < K → gef f0 f1 f2 j → x ≤ σ 92 j) ∧ ∃ j, 0 ≤ j ∧ j < 2197 ∧ gef f0 f1 f2 j ∧ σ 92 j = x) (fun _ => ⟨σ 92 2196, fun j a b => by omega, 2196, by decide, by decide, ⟨by omega, by omega, by omega⟩, rfl⟩) (fun K h0 ih hK => by
    obtain ⟨x, h1, j, j0, j1, j2, j3⟩ := ih (by omega)
    by_cases z : gef f0 f1 f2 K ∧ σ 92 K < x
    · exact ⟨σ 92 K, fun i a b g => by
        by_cases e : i = K
        · rw [e]; exact Int.le_refl _
        · have := h1 i a (by omega) g
          have := z.2
          omega, K, h0, by omega, z.1, rfl⟩
    · exact ⟨x, fun i a b g => by
        by_cases e : i = K
        · rw [e] at g ⊢
          exact Int.not_lt.mp (fun y => z ⟨g, y⟩)
        · exact h1 i a (by omega) g, j, j0, j1, j2, j3⟩)
  exact key 2197 (by decide) (Int.le_refl _)
theorem s_could {σ σ1 σ2 : St} {o wh : Int} {x y : Int} (h : INV σ) (hx : ((COU σ o wh)) x σ1) (hy : ((fun x σ2 => (¬ ((0 ≤ o ∧ o < σ1 0 5) ∧ (0 ≤ wh ∧ wh ≤ 1)) ∧ x = -1 ∧ σ2 = σ1) ∨ (((0 ≤ o ∧ o < σ1 0 5) ∧ (0 ≤ wh ∧ wh ≤ 1)) ∧ σ1 1 (40 + o) = 2 ∧ x = -5 ∧ σ2 = σ1) ∨ (((0 ≤ o ∧ o < σ1 0 5) ∧ wh = 0) ∧ σ1 1 (40 + o) ≠ 2 ∧ ((x = -2 ∧ ∀ j, 0 ≤ j → j < 12 → ¬ CANl σ1 o (iand (TH σ1 1) (ixor (pw o) (-1))) j) ∨ (0 ≤ x ∧ x < 12 ∧ CANl σ1 o (iand (TH σ1 1) (ixor (pw o) (-1))) x ∧ ∀ j, 0 ≤ j → j < x → ¬ CANl σ1 o (iand (TH σ1 1) (ixor (pw o) (-1))) j)) ∧ ∃ τ, σ2 = SC σ1 τ) ∨ (((0 ≤ o ∧ o < σ1 0 5) ∧ wh = 1) ∧ σ1 1 (40 + o) ≠ 2 ∧ ((x = -2 ∧ ∀ j, 0 < j → j ≤ 60 → ¬ CANa σ1 o (iand (TH σ1 1) (ixor (pw o) (-1))) j) ∨ (0 < x ∧ x ≤ 60 ∧ CANa σ1 o (iand (TH σ1 1) (ixor (pw o) (-1))) x ∧ ∀ j, x < j → j ≤ 60 → ¬ CANa σ1 o (iand (TH σ1 1) (ixor (pw o) (-1))) j)) ∧ ∃ τ, σ2 = SC σ1 τ))) y σ2) : x = y ∧ INV σ2 := by
  have hn24 := (I_xo h).1
  rcases hx with ⟨a, b, e⟩ | ⟨a, ⟨a2, b, e⟩ | ⟨a2, e, hv⟩⟩
  · subst e
    have hn := (I_nw h).1
    rcases hy with ⟨c, d, e⟩ | ⟨c, c2, d, e⟩ | ⟨c, _⟩ | ⟨c, _⟩
    · subst e; exact ⟨by omega, h⟩
    · exact absurd (show (0 ≤ o ∧ o < σ1 83 5) ∧ (0 ≤ wh ∧ wh ≤ 1) by omega) a
    · exact absurd (show (0 ≤ o ∧ o < σ1 83 5) ∧ (0 ≤ wh ∧ wh ≤ 1) by omega) a
    · exact absurd (show (0 ≤ o ∧ o < σ1 83 5) ∧ (0 ≤ wh ∧ wh ≤ 1) by omega) a
  · subst e
    have hw := I_nw h
    have hn := hw.1
    have hk := (hw.2.2.2 o a.1.1 (by omega)).1
    rcases hy with ⟨c, d, e⟩ | ⟨c, c2, d, e⟩ | ⟨c, c2, _⟩ | ⟨c, c2, _⟩
    · exact absurd (show (0 ≤ o ∧ o < σ1 0 5) ∧ (0 ≤ wh ∧ wh ≤ 1) by omega) c
    · subst e; exact ⟨by omega, h⟩
    · omega
    · omega
  · have e1 : EQ σ1 σ := by rw [e]; exact EQ_LY EQ_0
    have h1 := INV_EQ h e1
    have hw := NW_E (I_nw h) EQK_0 (EQ_K e1)
    have hn := hw.1
    have ho : 0 ≤ o ∧ o < σ1 0 5 := by omega
    have hk := (hw.2.2.2 o ho.1 ho.2).1
    have hB := OB_rg hn24 o
    have hb := OB_o hn24 (o := o) (by omega)
    have hOT : iand (TH σ1 1) (ixor (pw o) (-1)) = OB σ o := by unfold OB; rw [b_TX hw 1]
    rw [hOT] at hy
    rcases hy with ⟨c, _⟩ | ⟨c, c2, _⟩ | ⟨c, c2, hz, τ, e9⟩ | ⟨c, c2, hz, τ, e9⟩
    · exact absurd (show (0 ≤ o ∧ o < σ1 0 5) ∧ (0 ≤ wh ∧ wh ≤ 1) by omega) c
    · omega
    · subst e9
      refine ⟨?_, INV_EQ h1 EQ_SC⟩
      have hc := fun j a b => canl_c hw (I_xo h) (I_ro h1) (o := o) (B := OB σ o) (j := j) ho hB hb ⟨a, b⟩
      rcases hv with ⟨u, v⟩ | ⟨u, ⟨w, v⟩ | ⟨w, v⟩⟩
      · rcases hz with ⟨z, _⟩ | ⟨z0, z1, z2, _⟩
        · omega
        · exact absurd ((hc y z0 z1).mp z2).2.1 u
      · rcases v with ⟨v1, v2⟩ | ⟨v1, v⟩
        · rcases hz with ⟨z, _⟩ | ⟨z0, z1, z2, _⟩
          · omega
          · have v1' : ROOM σ (σ 87 o) (tb (OB σ o)) < σ 84 o := v1
            have := ((hc y z0 z1).mp z2).1
            omega
        · have v1' : σ 84 o ≤ ROOM σ (σ 87 o) (tb (OB σ o)) := v1
          rcases v with ⟨v2, v3⟩ | ⟨v2, v3, v4, v5⟩ <;> rcases hz with ⟨z, z9⟩ | ⟨z0, z1, z2, z3⟩
          · omega
          · exact absurd ((hc y z0 z1).mp z2).2.2 (v3 y z0 z1)
          · exact absurd ((hc x v2 v3).mpr ⟨v1', u, v4⟩) (z9 x v2 v3)
          · rcases Int.lt_trichotomy x y with t | t | t
            · exact absurd ((hc x v2 v3).mpr ⟨v1', u, v4⟩) (z3 x v2 t)
            · exact t
            · exact absurd ((hc y z0 z1).mp z2).2.2 (v5 y z0 t)
      · omega
    · subst e9
      refine ⟨?_, INV_EQ h1 EQ_SC⟩
      rcases hv with ⟨u, v⟩ | ⟨u, ⟨w, v⟩ | ⟨w, y9, hl, v⟩⟩
      · rcases hz with ⟨z, _⟩ | ⟨z0, z1, z2, _⟩
        · omega
        · exfalso
          obtain ⟨y9, hl⟩ : ∃ y9, LEA (LY σ (OB σ o)) (σ 85 o) (σ 112 o) y9 := by
            have ho5 := (I_xo h).2.2 o ho.1 (by omega)
            exact LEA_ex ho5.2.2.2.1 ho5.2.1
          exact u ((cana_c hw (I_xo h) (I_ro h1) (o := o) (B := OB σ o) (n := y) ho hB hb ⟨by omega, z1⟩ hl).mp z2).2.1
      · omega
      · have hc := fun n a b => cana_c hw (I_xo h) (I_ro h1) (o := o) (B := OB σ o) (n := n) ho hB hb ⟨a, b⟩ hl
        have v' : x = if 0 < min (min 60 (ROOM σ (σ 87 o) (tb (OB σ o)))) y9 then min (min 60 (ROOM σ (σ 87 o) (tb (OB σ o)))) y9 else -2 := v
        clear v
        generalize ROOM σ (σ 87 o) (tb (OB σ o)) = R at *
        by_cases q : 0 < min (min 60 R) y9
        · rw [if_pos q] at v'
          have hx9 : CANa σ1 o (OB σ o) x := (hc x (by omega) (by omega)).mpr ⟨by omega, u, by omega⟩
          rcases hz with ⟨z, z9⟩ | ⟨z0, z1, z2, z3⟩
          · exact absurd hx9 (z9 x (by omega) (by omega))
          · have hy9 := (hc y (by omega) z1).mp z2
            rcases Int.lt_trichotomy x y with t | t | t
            · omega
            · exact t
            · exact absurd hx9 (z3 x t (by omega))
        · rw [if_neg q] at v'
          rcases hz with ⟨z, z9⟩ | ⟨z0, z1, z2, z3⟩
          · omega
          · have hy9 := (hc y (by omega) z1).mp z2
            omega
