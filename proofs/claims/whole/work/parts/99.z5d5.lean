/-! the laws words hold: those of the tables, and six that follow (private methods of the StringBuilders superclass) -/
theorem sel_priv {C : String} {y y0 : MethodName} {s : State} {args : Array Value} (hc0 : y.cls = y0.cls) (hy : y.cls ≠ "java/lang/invoke/MethodHandle" ∧ y.cls ≠ "java/lang/invoke/VarHandle") (h0 : (Cond.selects C y0 y0).before args s = true) (hpriv : (Cond.privateMethod y).before args s = true) (hinst : (Cond.instanceMethod y).before args s = true) : (Cond.selects C y y).before args s = true := by
  obtain ⟨mk, methM, hnamed, hmethM, -, -⟩ := Cond.instanceMethod_spec hinst
  have hfound : s.methodFound? y.cls y.name y.desc = some mk := State.methodFound?_of_named hnamed hy
  simp only [Cond.before, Cond.holds, Cond.value] at h0
  cases h1 : s.vm.findClass C with
  | none => simp [h1] at h0
  | some c =>
    cases h2 : s.methodNamed? y0 with
    | none =>
      cases h3 : s.methodFound? y0.cls y0.name y0.desc <;> simp [h1, h2, h3] at h0
    | some m0 =>
      cases h3 : s.methodFound? y0.cls y0.name y0.desc with
      | none => simp [h1, h2, h3] at h0
      | some r0 =>
        have hsel : selectMethod {} s.vm c mk = .method mk := selectMethod_private hmethM (Cond.privateMethod_at hpriv mk methM hnamed hmethM)
        have e1 := findClass_of_methodNamed h2
        have e2 := findClass_of_methodNamed hnamed
        rw [hc0, e1] at e2
        have e3 : m0.cls = mk.cls := Option.some.inj e2
        simp only [h1, h2, h3] at h0
        have hni : (s.vm.classes[mk.cls]?).any (fun k => !k.isInterface) = true := by
          rw [← e3]
          cases hs : selectMethod {} s.vm c r0 with
          | method m =>
            simp only [hs] at h0
            have h5 := Option.some.inj (beq_iff_eq.mp h0)
            exact (Bool.and_eq_true_iff.mp h5).2
          | _ => simp [hs] at h0
        simp only [Cond.before, Cond.holds, Cond.value, h1, hfound, hnamed, hsel]
        rw [hni]
        simp
def lw2 : List Cond := [Cond.selects RJ4 ⟨"java/lang/AbstractStringBuilder", "ensureCapacityInternal", "(I)V"⟩ yJ5_ensureCapacityInternal_d00df, Cond.selects RJ4 ⟨"java/lang/AbstractStringBuilder", "newCapacity", "(I)I"⟩ yJ5_newCapacity_0f7a4, Cond.selects RJ4 ⟨"java/lang/AbstractStringBuilder", "inflate", "()V"⟩ yJ5_inflate_da8c8, Cond.selects RJ4 ⟨"java/lang/AbstractStringBuilder", "appendNull", "()Ljava/lang/AbstractStringBuilder;"⟩ yJ5_appendNull_278bc, Cond.selects RJ4 ⟨"java/lang/AbstractStringBuilder", "putStringAt", "(ILjava/lang/String;)V"⟩ yJ5_putStringAt_47b60, Cond.selects RJ4 ⟨"java/lang/AbstractStringBuilder", "inflateIfNeededFor", "(Ljava/lang/String;)V"⟩ yJ5_inflateIfNeededFor_a7421]
theorem in2_wsL_law_r36 : ∀ w ∈ wsL_law_r36, w ∈ lw2 ++ lw_tbl := by decide +kernel
theorem in2_wsL_law_r39 : ∀ w ∈ wsL_law_r39, w ∈ lw2 ++ lw_tbl := by decide +kernel
theorem in2_wsL_law_r41 : ∀ w ∈ wsL_law_r41, w ∈ lw2 ++ lw_tbl := by decide +kernel
theorem lw2_ok {args : Array Value} {s : State} (hts : ∀ w ∈ lw_tbl, w.before args s = true) : ∀ w ∈ lw2 ++ lw_tbl, w.before args s = true := fun w hw => by
  rcases List.mem_append.mp hw with hw | hw
  · have h0 : (Cond.selects RJ4 yJ5_isLatin1_aae02 yJ5_isLatin1_aae02).before args s = true := hts _ (by decide +kernel)
    have key : ∀ y : MethodName, y.cls = RJ5 → Cond.privateMethod y ∈ lw_tbl → Cond.instanceMethod y ∈ lw_tbl → (Cond.selects RJ4 y y).before args s = true := fun y h1 h2 h3 => sel_priv (y0 := yJ5_isLatin1_aae02) h1 (by rw [h1]; exact ⟨by decide +kernel, by decide +kernel⟩) h0 (hts _ h2) (hts _ h3)
    unfold lw2 at hw
    rcases List.mem_cons.mp hw with rfl | hw
    · exact key yJ5_ensureCapacityInternal_d00df rfl (by decide +kernel) (by decide +kernel)
    rcases List.mem_cons.mp hw with rfl | hw
    · exact key yJ5_newCapacity_0f7a4 rfl (by decide +kernel) (by decide +kernel)
    rcases List.mem_cons.mp hw with rfl | hw
    · exact key yJ5_inflate_da8c8 rfl (by decide +kernel) (by decide +kernel)
    rcases List.mem_cons.mp hw with rfl | hw
    · exact key yJ5_appendNull_278bc rfl (by decide +kernel) (by decide +kernel)
    rcases List.mem_cons.mp hw with rfl | hw
    · exact key yJ5_putStringAt_47b60 rfl (by decide +kernel) (by decide +kernel)
    rcases List.mem_cons.mp hw with rfl | hw
    · exact key yJ5_inflateIfNeededFor_a7421 rfl (by decide +kernel) (by decide +kernel)
    cases hw
  · exact hts w hw
theorem law_words {args : Array Value} {s : State} (hts : ∀ w ∈ lw_tbl, w.before args s = true) : ∀ w ∈ wsL_law, w.before args s = true := by
  unfold wsL_law
  exact (List.forall_mem_append.mpr ⟨(List.forall_mem_append.mpr ⟨(List.forall_mem_append.mpr ⟨(List.forall_mem_append.mpr ⟨(List.forall_mem_append.mpr ⟨(List.forall_mem_append.mpr ⟨(List.forall_mem_append.mpr ⟨(List.forall_mem_append.mpr ⟨(List.forall_mem_append.mpr ⟨(List.forall_mem_append.mpr ⟨(List.forall_mem_append.mpr ⟨(List.forall_mem_append.mpr ⟨(List.forall_mem_append.mpr ⟨(fun w h => hts w (in_wsL_law_r1 w h)), (List.forall_mem_append.mpr ⟨(fun w h => hts w (in_wsL_law_r2 w h)), (List.forall_mem_append.mpr ⟨(fun w h => hts w (in_wsL_law_r3 w h)), (List.forall_mem_append.mpr ⟨(fun w h => hts w (in_wsL_law_r4 w h)), (List.forall_mem_append.mpr ⟨(fun w h => hts w (in_wsL_law_r5 w h)), (List.forall_mem_append.mpr ⟨(fun w h => hts w (in_wsL_law_r6 w h)), (List.forall_mem_append.mpr ⟨(fun w h => hts w (in_wsL_law_r7 w h)), (List.forall_mem_append.mpr ⟨(fun w h => hts w (in_wsL_law_r8 w h)), (List.forall_mem_append.mpr ⟨(fun w h => hts w (in_wsL_law_r9 w h)), (List.forall_mem_append.mpr ⟨(fun w h => hts w (in_wsL_law_r10 w h)), (List.forall_mem_append.mpr ⟨(fun w h => hts w (in_wsL_law_r11 w h)), (List.forall_mem_append.mpr ⟨(fun w h => hts w (in_wsL_law_r12 w h)), (List.forall_mem_append.mpr ⟨(fun w h => hts w (in_wsL_law_r13 w h)), (List.forall_mem_append.mpr ⟨(fun w h => hts w (in_wsL_law_r14 w h)), (List.forall_mem_append.mpr ⟨(fun w h => hts w (in_wsL_law_r15 w h)), (List.forall_mem_append.mpr ⟨(fun w h => hts w (in_wsL_law_r16 w h)), (List.forall_mem_append.mpr ⟨(fun w h => hts w (in_wsL_law_r17 w h)), (List.forall_mem_append.mpr ⟨(fun w h => hts w (in_wsL_law_r18 w h)), (List.forall_mem_append.mpr ⟨(fun w h => hts w (in_wsL_law_r19 w h)), (List.forall_mem_append.mpr ⟨(fun w h => hts w (in_wsL_law_r20 w h)), (List.forall_mem_append.mpr ⟨(fun w h => hts w (in_wsL_law_r21 w h)), (List.forall_mem_append.mpr ⟨(fun w h => hts w (in_wsL_law_r22 w h)), (List.forall_mem_append.mpr ⟨(fun w h => hts w (in_wsL_law_r23 w h)), (List.forall_mem_append.mpr ⟨(fun w h => hts w (in_wsL_law_r24 w h)), (List.forall_mem_append.mpr ⟨(fun w h => hts w (in_wsL_law_r25 w h)), (List.forall_mem_append.mpr ⟨(fun w h => hts w (in_wsL_law_r26 w h)), (List.forall_mem_append.mpr ⟨(fun w h => hts w (in_wsL_law_r27 w h)), (List.forall_mem_append.mpr ⟨(fun w h => hts w (in_wsL_law_r28 w h)), (List.forall_mem_append.mpr ⟨(fun w h => hts w (in_wsL_law_r29 w h)), (List.forall_mem_append.mpr ⟨(fun w h => hts w (in_wsL_law_r30 w h)), (List.forall_mem_append.mpr ⟨(fun w h => hts w (in_wsL_law_r31 w h)), (List.forall_mem_append.mpr ⟨(fun w h => hts w (in_wsL_law_r32 w h)), (List.forall_mem_append.mpr ⟨(fun w h => hts w (in_wsL_law_r33 w h)), (List.forall_mem_append.mpr ⟨(fun w h => hts w (in_wsL_law_r34 w h)), (List.forall_mem_append.mpr ⟨(fun w h => hts w (in_wsL_law_r35 w h)), (List.forall_mem_append.mpr ⟨(fun w h => lw2_ok hts w (in2_wsL_law_r36 w h)), (List.forall_mem_append.mpr ⟨(fun w h => hts w (in_wsL_law_r37 w h)), (List.forall_mem_append.mpr ⟨(fun w h => hts w (in_wsL_law_r38 w h)), (List.forall_mem_append.mpr ⟨(fun w h => lw2_ok hts w (in2_wsL_law_r39 w h)), (List.forall_mem_append.mpr ⟨(fun w h => hts w (in_wsL_law_r40 w h)), (List.forall_mem_append.mpr ⟨(fun w h => lw2_ok hts w (in2_wsL_law_r41 w h)), (List.forall_mem_append.mpr ⟨(fun w h => hts w (in_wsL_law_r42 w h)), (List.forall_mem_append.mpr ⟨(fun w h => hts w (in_wsL_law_r43 w h)), (List.forall_mem_append.mpr ⟨(fun w h => hts w (in_wsL_law_r44 w h)), (List.forall_mem_append.mpr ⟨(fun w h => hts w (in_wsL_law_r45 w h)), (List.forall_mem_append.mpr ⟨(fun w h => hts w (in_wsL_law_r46 w h)), (List.forall_mem_append.mpr ⟨(fun w h => hts w (in_wsL_law_r47 w h)), (fun w h => hts w (in_wsL_law_r48 w h))⟩)⟩)⟩)⟩)⟩)⟩)⟩)⟩)⟩)⟩)⟩)⟩)⟩)⟩)⟩)⟩)⟩)⟩)⟩)⟩)⟩)⟩)⟩)⟩)⟩)⟩)⟩)⟩)⟩)⟩)⟩)⟩)⟩)⟩)⟩)⟩)⟩)⟩)⟩)⟩)⟩)⟩)⟩)⟩)⟩)⟩)⟩), (fun w h => hts w (in_wsX80 w h))⟩), (fun w h => hts w (in_wsX90 w h))⟩), (fun w h => hts w (in_wsX00 w h))⟩), (fun w h => hts w (in_wsX50 w h))⟩), (fun w h => hts w (in_wsX20 w h))⟩), (fun w h => hts w (in_wsX70 w h))⟩), (fun w h => hts w (in_wsX60 w h))⟩), (fun w h => hts w (in_wsX10 w h))⟩), (fun w h => hts w (in_wsX40 w h))⟩), (fun w h => hts w (in_wsX30 w h))⟩), (fun w h => hts w (in_wsJ40 w h))⟩), fun _ h => absurd h List.not_mem_nil⟩)
