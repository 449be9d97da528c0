set_option maxHeartbeats 4000000 in
set_option maxRecDepth 100000 in
theorem law_filled {p : Program} {l : Launch} {e : Env} {s : State} {m : MethodId} {below : List Frame} {meth : Method} {c : Code} {A : Nat → Prop} {Q : State → Prop} {G : Gy} {Z : Ky} {cB : ClassId} {b L : Nat} {xs : Nat → Int32} {σ : St} {i : Int} {cells slots : Nat} (hG : Inj G) (hC : Cx p s m #[.ref b] meth c A s.heap 4 G code RL wsL_law) (hX : XKK G Z cB A s) (hS : va_X b L xs s s.heap) (hb : b < s.heap.size) (hA : ¬ A b) (hL : L ≤ 2560) (hi : 0 ≤ i ∧ i + 5 ≤ L) (hr : cells + 16 ≤ 600000 ∧ slots + 3004 ≤ 7302250) (h : INV σ) (kk : ∀ σ2, INV σ2 → wpx p l e room_1 s m #[.ref b] below meth c A s.heap 4 Q G [] (cells + 16) (slots + 3004) σ2 1130 [(0, .ref b), (1, .ref (G.2.2 82)), (2, .ref (G.2.2 0)), (3, .int (zI i))] []) : wpx p l e room_1 s m #[.ref b] below meth c A s.heap 4 Q G [] cells slots σ 661 [(0, .ref b), (1, .ref (G.2.2 82)), (2, .ref (G.2.2 0)), (3, .int (zI i))] [] := by
  refine wpx_aload_n hC dlaw_661 rfl ?_
  refine wpx_aload_n hC dlaw_662 rfl ?_
  refine wpx_iload_n hC dlaw_663 rfl ?_
  refine wpx_iconst hC dlaw_664 ?_
  refine wpx_iadd hC dlaw_665 ?_
  refine wpx_sld hC hS hb hA hL (by omega) dlaw_666 ?_
  refine wpx_callVi (As := [_]) hC (c_X8_filled hG σ (I_xo h) (I_h1 h) sv_iR) gL_law_X8_filled rfl ⟨rfl, rfl⟩ ⟨by decide, by decide⟩ hyVX8_filled rfl (by decide) rfl rfl (Nat.le_of_ble_eq_true rfl) ⟨by show cells + 0 ≤ 600000; omega, by show slots + 0 ≤ 7302250; omega⟩ dlaw_667 (fun x1 σ1 hx1 hp1 => ?_)
  have f : LQ σ1 σ := f_filled hp1
  refine wpx_aload_n hC dlaw_670 rfl ?_
  refine wpx_aload_n hC dlaw_671 rfl ?_
  refine wpx_iload_n hC dlaw_672 rfl ?_
  refine wpx_iconst hC dlaw_673 ?_
  refine wpx_iadd hC dlaw_674 ?_
  refine wpx_sld hC hS hb hA hL (by omega) dlaw_675 ?_
  refine wpx_callVi (As := [_]) hC (c_X9_filled hG σ1 (F_ro h f) sv_iR) gL_law_X9_filled rfl ⟨rfl, rfl⟩ ⟨by decide, by decide⟩ hyVX9_filled rfl (by decide) rfl rfl (Nat.le_of_ble_eq_true rfl) ⟨by show cells + 0 ≤ 600000; omega, by show slots + 0 ≤ 7302250; omega⟩ dlaw_676 (fun y1 σ2 hy1 hp2 => ?_)
  obtain ⟨exy, hI⟩ := s_filled h hp1 hp2
  refine wpx_icmp_eq (tgt := 1130) hC dlaw_679 (by decide) hx1 hy1 (fun _ => ?_) (fun c_1 => absurd exy c_1)
  refine wpx_more (cells2 := cells + 16) (slots2 := slots + 3004) (by omega) (by omega) ?_
  exact kk σ2 hI

set_option maxHeartbeats 4000000 in
set_option maxRecDepth 100000 in
theorem law_range {p : Program} {l : Launch} {e : Env} {s : State} {m : MethodId} {below : List Frame} {meth : Method} {c : Code} {A : Nat → Prop} {Q : State → Prop} {G : Gy} {Z : Ky} {cB : ClassId} {b L : Nat} {xs : Nat → Int32} {σ : St} {i : Int} {cells slots : Nat} (hG : Inj G) (hC : Cx p s m #[.ref b] meth c A s.heap 4 G code RL wsL_law) (hX : XKK G Z cB A s) (hS : va_X b L xs s s.heap) (hb : b < s.heap.size) (hA : ¬ A b) (hL : L ≤ 2560) (hi : 0 ≤ i ∧ i + 5 ≤ L) (hr : cells + 16 ≤ 600000 ∧ slots + 3004 ≤ 7302250) (h : INV σ) (kk : ∀ σ2, INV σ2 → wpx p l e room_1 s m #[.ref b] below meth c A s.heap 4 Q G [] (cells + 16) (slots + 3004) σ2 1130 [(0, .ref b), (1, .ref (G.2.2 82)), (2, .ref (G.2.2 0)), (3, .int (zI i))] []) : wpx p l e room_1 s m #[.ref b] below meth c A s.heap 4 Q G [] cells slots σ 684 [(0, .ref b), (1, .ref (G.2.2 82)), (2, .ref (G.2.2 0)), (3, .int (zI i))] [] := by
  refine wpx_aload_n hC dlaw_684 rfl ?_
  refine wpx_aload_n hC dlaw_685 rfl ?_
  refine wpx_iload_n hC dlaw_686 rfl ?_
  refine wpx_iconst hC dlaw_687 ?_
  refine wpx_iadd hC dlaw_688 ?_
  refine wpx_sld hC hS hb hA hL (by omega) dlaw_689 ?_
  refine wpx_aload_n hC dlaw_690 rfl ?_
  refine wpx_iload_n hC dlaw_691 rfl ?_
  refine wpx_iconst hC dlaw_692 ?_
  refine wpx_iadd hC dlaw_693 ?_
  refine wpx_sld hC hS hb hA hL (by omega) dlaw_694 ?_
  refine wpx_aload_n hC dlaw_695 rfl ?_
  refine wpx_iload_n hC dlaw_696 rfl ?_
  refine wpx_iconst hC dlaw_697 ?_
  refine wpx_iadd hC dlaw_698 ?_
  refine wpx_sld hC hS hb hA hL (by omega) dlaw_699 ?_
  refine wpx_aload_n hC dlaw_700 rfl ?_
  refine wpx_iload_n hC dlaw_701 rfl ?_
  refine wpx_iconst hC dlaw_702 ?_
  refine wpx_iadd hC dlaw_703 ?_
  refine wpx_sld hC hS hb hA hL (by omega) dlaw_704 ?_
  refine wpx_callVi (As := [_, _, _, _]) hC (c_X8_range hG σ (I_xo h) sv_iR sv_iR sv_iR sv_iR) gL_law_X8_range rfl ⟨rfl, rfl⟩ ⟨by decide, by decide⟩ hyVX8_range rfl (by decide) rfl rfl (Nat.le_of_ble_eq_true rfl) ⟨by show cells + 0 ≤ 600000; omega, by show slots + 0 ≤ 7302250; omega⟩ dlaw_705 (fun x1 σ1 hx1 hp1 => ?_)
  have f : LQ σ1 σ := f_range hp1
  refine wpx_aload_n hC dlaw_708 rfl ?_
  refine wpx_aload_n hC dlaw_709 rfl ?_
  refine wpx_iload_n hC dlaw_710 rfl ?_
  refine wpx_iconst hC dlaw_711 ?_
  refine wpx_iadd hC dlaw_712 ?_
  refine wpx_sld hC hS hb hA hL (by omega) dlaw_713 ?_
  refine wpx_aload_n hC dlaw_714 rfl ?_
  refine wpx_iload_n hC dlaw_715 rfl ?_
  refine wpx_iconst hC dlaw_716 ?_
  refine wpx_iadd hC dlaw_717 ?_
  refine wpx_sld hC hS hb hA hL (by omega) dlaw_718 ?_
  refine wpx_aload_n hC dlaw_719 rfl ?_
  refine wpx_iload_n hC dlaw_720 rfl ?_
  refine wpx_iconst hC dlaw_721 ?_
  refine wpx_iadd hC dlaw_722 ?_
  refine wpx_sld hC hS hb hA hL (by omega) dlaw_723 ?_
  refine wpx_aload_n hC dlaw_724 rfl ?_
  refine wpx_iload_n hC dlaw_725 rfl ?_
  refine wpx_iconst hC dlaw_726 ?_
  refine wpx_iadd hC dlaw_727 ?_
  refine wpx_sld hC hS hb hA hL (by omega) dlaw_728 ?_
  refine wpx_callVi (As := [_, _, _, _]) hC (c_X9_range hG σ1 (F_ro h f) sv_iR sv_iR sv_iR sv_iR) gL_law_X9_range rfl ⟨rfl, rfl⟩ ⟨by decide, by decide⟩ hyVX9_range rfl (by decide) rfl rfl (Nat.le_of_ble_eq_true rfl) ⟨by show cells + 0 ≤ 600000; omega, by show slots + 0 ≤ 7302250; omega⟩ dlaw_729 (fun y1 σ2 hy1 hp2 => ?_)
  obtain ⟨exy, hI⟩ := s_range h hp1 hp2
  refine wpx_icmp_eq (tgt := 1130) hC dlaw_732 (by decide) hx1 hy1 (fun _ => ?_) (fun c_1 => absurd exy c_1)
  refine wpx_more (cells2 := cells + 16) (slots2 := slots + 3004) (by omega) (by omega) ?_
  exact kk σ2 hI

set_option maxHeartbeats 4000000 in
set_option maxRecDepth 100000 in
theorem law_late {p : Program} {l : Launch} {e : Env} {s : State} {m : MethodId} {below : List Frame} {meth : Method} {c : Code} {A : Nat → Prop} {Q : State → Prop} {G : Gy} {Z : Ky} {cB : ClassId} {b L : Nat} {xs : Nat → Int32} {σ : St} {i : Int} {cells slots : Nat} (hG : Inj G) (hC : Cx p s m #[.ref b] meth c A s.heap 4 G code RL wsL_law) (hX : XKK G Z cB A s) (hS : va_X b L xs s s.heap) (hb : b < s.heap.size) (hA : ¬ A b) (hL : L ≤ 2560) (hi : 0 ≤ i ∧ i + 5 ≤ L) (hr : cells + 16 ≤ 600000 ∧ slots + 3004 ≤ 7302250) (h : INV σ) (kk : ∀ σ2, INV σ2 → wpx p l e room_1 s m #[.ref b] below meth c A s.heap 4 Q G [] (cells + 16) (slots + 3004) σ2 1130 [(0, .ref b), (1, .ref (G.2.2 82)), (2, .ref (G.2.2 0)), (3, .int (zI i))] []) : wpx p l e room_1 s m #[.ref b] below meth c A s.heap 4 Q G [] cells slots σ 737 [(0, .ref b), (1, .ref (G.2.2 82)), (2, .ref (G.2.2 0)), (3, .int (zI i))] [] := by
  refine wpx_aload_n hC dlaw_737 rfl ?_
  refine wpx_callVi (As := []) hC (c_X8_late hG σ (I_xo h) (I_kok h)) gL_law_X8_late rfl ⟨rfl, rfl⟩ ⟨by decide, by decide⟩ hyVX8_late rfl (by decide) rfl rfl (Nat.le_of_ble_eq_true rfl) ⟨by show cells + 0 ≤ 600000; omega, by show slots + 0 ≤ 7302250; omega⟩ dlaw_738 (fun x1 σ1 hx1 hp1 => ?_)
  have f : LQ σ1 σ := f_late hp1
  refine wpx_aload_n hC dlaw_741 rfl ?_
  refine wpx_callVi (As := []) hC (c_X9_late hG σ1 (F_ro h f)) gL_law_X9_late rfl ⟨rfl, rfl⟩ ⟨by decide, by decide⟩ hyVX9_late rfl (by decide) rfl rfl (Nat.le_of_ble_eq_true rfl) ⟨by show cells + 0 ≤ 600000; omega, by show slots + 0 ≤ 7302250; omega⟩ dlaw_742 (fun y1 σ2 hy1 hp2 => ?_)
  obtain ⟨exy, hI⟩ := s_late h hp1 hp2
  refine wpx_icmp_eq (tgt := 1130) hC dlaw_745 (by decide) hx1 hy1 (fun _ => ?_) (fun c_1 => absurd exy c_1)
  refine wpx_more (cells2 := cells + 16) (slots2 := slots + 3004) (by omega) (by omega) ?_
  exact kk σ2 hI

set_option maxHeartbeats 4000000 in
set_option maxRecDepth 100000 in
theorem law_kept {p : Program} {l : Launch} {e : Env} {s : State} {m : MethodId} {below : List Frame} {meth : Method} {c : Code} {A : Nat → Prop} {Q : State → Prop} {G : Gy} {Z : Ky} {cB : ClassId} {b L : Nat} {xs : Nat → Int32} {σ : St} {i : Int} {cells slots : Nat} (hG : Inj G) (hC : Cx p s m #[.ref b] meth c A s.heap 4 G code RL wsL_law) (hX : XKK G Z cB A s) (hS : va_X b L xs s s.heap) (hb : b < s.heap.size) (hA : ¬ A b) (hL : L ≤ 2560) (hi : 0 ≤ i ∧ i + 5 ≤ L) (hr : cells + 16 ≤ 600000 ∧ slots + 3004 ≤ 7302250) (h : INV σ) (kk : ∀ σ2, INV σ2 → wpx p l e room_1 s m #[.ref b] below meth c A s.heap 4 Q G [] (cells + 16) (slots + 3004) σ2 1130 [(0, .ref b), (1, .ref (G.2.2 82)), (2, .ref (G.2.2 0)), (3, .int (zI i))] []) : wpx p l e room_1 s m #[.ref b] below meth c A s.heap 4 Q G [] cells slots σ 750 [(0, .ref b), (1, .ref (G.2.2 82)), (2, .ref (G.2.2 0)), (3, .int (zI i))] [] := by
  refine wpx_aload_n hC dlaw_750 rfl ?_
  refine wpx_aload_n hC dlaw_751 rfl ?_
  refine wpx_iload_n hC dlaw_752 rfl ?_
  refine wpx_iconst hC dlaw_753 ?_
  refine wpx_iadd hC dlaw_754 ?_
  refine wpx_sld hC hS hb hA hL (by omega) dlaw_755 ?_
  refine wpx_callVi (As := [_]) hC (c_X8_kept hG σ (I_xo h) (I_kok h) sv_iR) gL_law_X8_kept rfl ⟨rfl, rfl⟩ ⟨by decide, by decide⟩ hyVX8_kept rfl (by decide) rfl rfl (Nat.le_of_ble_eq_true rfl) ⟨by show cells + 0 ≤ 600000; omega, by show slots + 0 ≤ 7302250; omega⟩ dlaw_756 (fun x1 σ1 hx1 hp1 => ?_)
  have f : LQ σ1 σ := f_kept hp1
  refine wpx_aload_n hC dlaw_759 rfl ?_
  refine wpx_aload_n hC dlaw_760 rfl ?_
  refine wpx_iload_n hC dlaw_761 rfl ?_
  refine wpx_iconst hC dlaw_762 ?_
  refine wpx_iadd hC dlaw_763 ?_
  refine wpx_sld hC hS hb hA hL (by omega) dlaw_764 ?_
  refine wpx_callVi (As := [_]) hC (c_X9_kept hG σ1 (F_ro h f) sv_iR) gL_law_X9_kept rfl ⟨rfl, rfl⟩ ⟨by decide, by decide⟩ hyVX9_kept rfl (by decide) rfl rfl (Nat.le_of_ble_eq_true rfl) ⟨by show cells + 0 ≤ 600000; omega, by show slots + 0 ≤ 7302250; omega⟩ dlaw_765 (fun y1 σ2 hy1 hp2 => ?_)
  obtain ⟨exy, hI⟩ := s_kept h hp1 hp2
  refine wpx_icmp_eq (tgt := 1130) hC dlaw_768 (by decide) hx1 hy1 (fun _ => ?_) (fun c_1 => absurd exy c_1)
  refine wpx_more (cells2 := cells + 16) (slots2 := slots + 3004) (by omega) (by omega) ?_
  exact kk σ2 hI

set_option maxHeartbeats 4000000 in
set_option maxRecDepth 100000 in
theorem law_why {p : Program} {l : Launch} {e : Env} {s : State} {m : MethodId} {below : List Frame} {meth : Method} {c : Code} {A : Nat → Prop} {Q : State → Prop} {G : Gy} {Z : Ky} {cB : ClassId} {b L : Nat} {xs : Nat → Int32} {σ : St} {i : Int} {cells slots : Nat} (hG : Inj G) (hC : Cx p s m #[.ref b] meth c A s.heap 4 G code RL wsL_law) (hX : XKK G Z cB A s) (hS : va_X b L xs s s.heap) (hb : b < s.heap.size) (hA : ¬ A b) (hL : L ≤ 2560) (hi : 0 ≤ i ∧ i + 5 ≤ L) (hr : cells + 16 ≤ 600000 ∧ slots + 3004 ≤ 7302250) (h : INV σ) (kk : ∀ σ2, INV σ2 → wpx p l e room_1 s m #[.ref b] below meth c A s.heap 4 Q G [] (cells + 16) (slots + 3004) σ2 1130 [(0, .ref b), (1, .ref (G.2.2 82)), (2, .ref (G.2.2 0)), (3, .int (zI i))] []) : wpx p l e room_1 s m #[.ref b] below meth c A s.heap 4 Q G [] cells slots σ 773 [(0, .ref b), (1, .ref (G.2.2 82)), (2, .ref (G.2.2 0)), (3, .int (zI i))] [] := by
  refine wpx_aload_n hC dlaw_773 rfl ?_
  refine wpx_aload_n hC dlaw_774 rfl ?_
  refine wpx_iload_n hC dlaw_775 rfl ?_
  refine wpx_iconst hC dlaw_776 ?_
  refine wpx_iadd hC dlaw_777 ?_
  refine wpx_sld hC hS hb hA hL (by omega) dlaw_778 ?_
  refine wpx_callVi (As := [_]) hC (c_X8_why hG σ (I_xo h) (I_kok h) sv_iR) gL_law_X8_why rfl ⟨rfl, rfl⟩ ⟨by decide, by decide⟩ hyVX8_why rfl (by decide) rfl rfl (Nat.le_of_ble_eq_true rfl) ⟨by show cells + 0 ≤ 600000; omega, by show slots + 0 ≤ 7302250; omega⟩ dlaw_779 (fun x1 σ1 hx1 hp1 => ?_)
  have f : LQ σ1 σ := f_why hp1
  refine wpx_aload_n hC dlaw_782 rfl ?_
  refine wpx_aload_n hC dlaw_783 rfl ?_
  refine wpx_iload_n hC dlaw_784 rfl ?_
  refine wpx_iconst hC dlaw_785 ?_
  refine wpx_iadd hC dlaw_786 ?_
  refine wpx_sld hC hS hb hA hL (by omega) dlaw_787 ?_
  refine wpx_callVi (As := [_]) hC (c_X9_why hG σ1 (F_ro h f) sv_iR) gL_law_X9_why rfl ⟨rfl, rfl⟩ ⟨by decide, by decide⟩ hyVX9_why rfl (by decide) rfl rfl (Nat.le_of_ble_eq_true rfl) ⟨by show cells + 0 ≤ 600000; omega, by show slots + 0 ≤ 7302250; omega⟩ dlaw_788 (fun y1 σ2 hy1 hp2 => ?_)
  obtain ⟨exy, hI⟩ := s_why h hp1 hp2
  refine wpx_icmp_eq (tgt := 1130) hC dlaw_791 (by decide) hx1 hy1 (fun _ => ?_) (fun c_1 => absurd exy c_1)
  refine wpx_more (cells2 := cells + 16) (slots2 := slots + 3004) (by omega) (by omega) ?_
  exact kk σ2 hI

set_option maxHeartbeats 4000000 in
set_option maxRecDepth 100000 in
theorem law_ledger {p : Program} {l : Launch} {e : Env} {s : State} {m : MethodId} {below : List Frame} {meth : Method} {c : Code} {A : Nat → Prop} {Q : State → Prop} {G : Gy} {Z : Ky} {cB : ClassId} {b L : Nat} {xs : Nat → Int32} {σ : St} {i : Int} {cells slots : Nat} (hG : Inj G) (hC : Cx p s m #[.ref b] meth c A s.heap 4 G code RL wsL_law) (hX : XKK G Z cB A s) (hS : va_X b L xs s s.heap) (hb : b < s.heap.size) (hA : ¬ A b) (hL : L ≤ 2560) (hi : 0 ≤ i ∧ i + 5 ≤ L) (hr : cells + 16 ≤ 600000 ∧ slots + 3004 ≤ 7302250) (h : INV σ) (kk : ∀ σ2, INV σ2 → wpx p l e room_1 s m #[.ref b] below meth c A s.heap 4 Q G [] (cells + 16) (slots + 3004) σ2 1130 [(0, .ref b), (1, .ref (G.2.2 82)), (2, .ref (G.2.2 0)), (3, .int (zI i))] []) : wpx p l e room_1 s m #[.ref b] below meth c A s.heap 4 Q G [] cells slots σ 796 [(0, .ref b), (1, .ref (G.2.2 82)), (2, .ref (G.2.2 0)), (3, .int (zI i))] [] := by
  refine wpx_aload_n hC dlaw_796 rfl ?_
  refine wpx_aload_n hC dlaw_797 rfl ?_
  refine wpx_iload_n hC dlaw_798 rfl ?_
  refine wpx_iconst hC dlaw_799 ?_
  refine wpx_iadd hC dlaw_800 ?_
  refine wpx_sld hC hS hb hA hL (by omega) dlaw_801 ?_
  refine wpx_aload_n hC dlaw_802 rfl ?_
  refine wpx_iload_n hC dlaw_803 rfl ?_
  refine wpx_iconst hC dlaw_804 ?_
  refine wpx_iadd hC dlaw_805 ?_
  refine wpx_sld hC hS hb hA hL (by omega) dlaw_806 ?_
  refine wpx_callVik (As := [_, _]) hC hX.2.2.1 (c_X8_ledger hG σ (I_xo h) (I_kok h) sv_iR sv_iR) gL_law_X8_ledger rfl ⟨rfl, rfl⟩ ⟨by decide, by decide⟩ hyVX8_ledger rfl (by decide) rfl rfl (Nat.le_of_ble_eq_true rfl) ⟨by show cells + 0 ≤ 600000; omega, by show slots + 0 ≤ 7302250; omega⟩ dlaw_807 (fun x1 σ1 hx1 hp1 => ?_)
  have f : LQ σ1 σ := f_ledger hp1
  refine wpx_aload_n hC dlaw_810 rfl ?_
  refine wpx_aload_n hC dlaw_811 rfl ?_
  refine wpx_iload_n hC dlaw_812 rfl ?_
  refine wpx_iconst hC dlaw_813 ?_
  refine wpx_iadd hC dlaw_814 ?_
  refine wpx_sld hC hS hb hA hL (by omega) dlaw_815 ?_
  refine wpx_aload_n hC dlaw_816 rfl ?_
  refine wpx_iload_n hC dlaw_817 rfl ?_
  refine wpx_iconst hC dlaw_818 ?_
  refine wpx_iadd hC dlaw_819 ?_
  refine wpx_sld hC hS hb hA hL (by omega) dlaw_820 ?_
  refine wpx_callVg (As := [_, _]) hC hX (c_X9_ledger hG σ1 (F_ro h f) sv_iR sv_iR) gL_law_X9_ledger rfl ⟨by decide, by decide⟩ hyVX9_ledger rfl (by decide) rfl rfl (Nat.le_of_ble_eq_true rfl) ⟨by show cells + 16 ≤ 600000; omega, by show slots + 3004 ≤ 7302250; omega⟩ dlaw_821 (fun y1 σ2 hy1 hp2 => ?_)
  obtain ⟨exy, hI⟩ := s_ledger h hp1 hp2
  refine wpx_icmp_eq (tgt := 1130) hC dlaw_824 (by decide) hx1 hy1 (fun _ => ?_) (fun c_1 => absurd exy c_1)
  exact kk σ2 hI

set_option maxHeartbeats 4000000 in
set_option maxRecDepth 100000 in
theorem law_row {p : Program} {l : Launch} {e : Env} {s : State} {m : MethodId} {below : List Frame} {meth : Method} {c : Code} {A : Nat → Prop} {Q : State → Prop} {G : Gy} {Z : Ky} {cB : ClassId} {b L : Nat} {xs : Nat → Int32} {σ : St} {i : Int} {cells slots : Nat} (hG : Inj G) (hC : Cx p s m #[.ref b] meth c A s.heap 4 G code RL wsL_law) (hX : XKK G Z cB A s) (hS : va_X b L xs s s.heap) (hb : b < s.heap.size) (hA : ¬ A b) (hL : L ≤ 2560) (hi : 0 ≤ i ∧ i + 5 ≤ L) (hr : cells + 16 ≤ 600000 ∧ slots + 3004 ≤ 7302250) (h : INV σ) (kk : ∀ σ2, INV σ2 → wpx p l e room_1 s m #[.ref b] below meth c A s.heap 4 Q G [] (cells + 16) (slots + 3004) σ2 1130 [(0, .ref b), (1, .ref (G.2.2 82)), (2, .ref (G.2.2 0)), (3, .int (zI i))] []) : wpx p l e room_1 s m #[.ref b] below meth c A s.heap 4 Q G [] cells slots σ 829 [(0, .ref b), (1, .ref (G.2.2 82)), (2, .ref (G.2.2 0)), (3, .int (zI i))] [] := by
  refine wpx_aload_n hC dlaw_829 rfl ?_
  refine wpx_aload_n hC dlaw_830 rfl ?_
  refine wpx_iload_n hC dlaw_831 rfl ?_
  refine wpx_iconst hC dlaw_832 ?_
  refine wpx_iadd hC dlaw_833 ?_
  refine wpx_sld hC hS hb hA hL (by omega) dlaw_834 ?_
  refine wpx_aload_n hC dlaw_835 rfl ?_
  refine wpx_iload_n hC dlaw_836 rfl ?_
  refine wpx_iconst hC dlaw_837 ?_
  refine wpx_iadd hC dlaw_838 ?_
  refine wpx_sld hC hS hb hA hL (by omega) dlaw_839 ?_
  refine wpx_callVi (As := [_, _]) hC (c_X8_row hG σ sv_iR sv_iR) gL_law_X8_row rfl ⟨rfl, rfl⟩ ⟨by decide, by decide⟩ hyVX8_row rfl (by decide) rfl rfl (Nat.le_of_ble_eq_true rfl) ⟨by show cells + 0 ≤ 600000; omega, by show slots + 0 ≤ 7302250; omega⟩ dlaw_840 (fun x1 σ1 hx1 hp1 => ?_)
  have f : LQ σ1 σ := f_row hp1
  refine wpx_aload_n hC dlaw_843 rfl ?_
  refine wpx_aload_n hC dlaw_844 rfl ?_
  refine wpx_iload_n hC dlaw_845 rfl ?_
  refine wpx_iconst hC dlaw_846 ?_
  refine wpx_iadd hC dlaw_847 ?_
  refine wpx_sld hC hS hb hA hL (by omega) dlaw_848 ?_
  refine wpx_aload_n hC dlaw_849 rfl ?_
  refine wpx_iload_n hC dlaw_850 rfl ?_
  refine wpx_iconst hC dlaw_851 ?_
  refine wpx_iadd hC dlaw_852 ?_
  refine wpx_sld hC hS hb hA hL (by omega) dlaw_853 ?_
  refine wpx_callVi (As := [_, _]) hC (c_X9_row hG σ1 sv_iR sv_iR) gL_law_X9_row rfl ⟨rfl, rfl⟩ ⟨by decide, by decide⟩ hyVX9_row rfl (by decide) rfl rfl (Nat.le_of_ble_eq_true rfl) ⟨by show cells + 0 ≤ 600000; omega, by show slots + 0 ≤ 7302250; omega⟩ dlaw_854 (fun y1 σ2 hy1 hp2 => ?_)
  obtain ⟨exy, hI⟩ := s_row h hp1 hp2
  refine wpx_icmp_eq (tgt := 1130) hC dlaw_857 (by decide) hx1 hy1 (fun _ => ?_) (fun c_1 => absurd exy c_1)
  refine wpx_more (cells2 := cells + 16) (slots2 := slots + 3004) (by omega) (by omega) ?_
  exact kk σ2 hI

set_option maxHeartbeats 4000000 in
set_option maxRecDepth 100000 in
theorem law_put {p : Program} {l : Launch} {e : Env} {s : State} {m : MethodId} {below : List Frame} {meth : Method} {c : Code} {A : Nat → Prop} {Q : State → Prop} {G : Gy} {Z : Ky} {cB : ClassId} {b L : Nat} {xs : Nat → Int32} {σ : St} {i : Int} {cells slots : Nat} (hG : Inj G) (hC : Cx p s m #[.ref b] meth c A s.heap 4 G code RL wsL_law) (hX : XKK G Z cB A s) (hS : va_X b L xs s s.heap) (hb : b < s.heap.size) (hA : ¬ A b) (hL : L ≤ 2560) (hi : 0 ≤ i ∧ i + 5 ≤ L) (hr : cells + 16 ≤ 600000 ∧ slots + 3004 ≤ 7302250) (h : INV σ) (kk : ∀ σ2, INV σ2 → wpx p l e room_1 s m #[.ref b] below meth c A s.heap 4 Q G [] (cells + 16) (slots + 3004) σ2 1130 [(0, .ref b), (1, .ref (G.2.2 82)), (2, .ref (G.2.2 0)), (3, .int (zI i))] []) : wpx p l e room_1 s m #[.ref b] below meth c A s.heap 4 Q G [] cells slots σ 862 [(0, .ref b), (1, .ref (G.2.2 82)), (2, .ref (G.2.2 0)), (3, .int (zI i))] [] := by
  refine wpx_aload_n hC dlaw_862 rfl ?_
  refine wpx_aload_n hC dlaw_863 rfl ?_
  refine wpx_iload_n hC dlaw_864 rfl ?_
  refine wpx_iconst hC dlaw_865 ?_
  refine wpx_iadd hC dlaw_866 ?_
  refine wpx_sld hC hS hb hA hL (by omega) dlaw_867 ?_
  refine wpx_aload_n hC dlaw_868 rfl ?_
  refine wpx_iload_n hC dlaw_869 rfl ?_
  refine wpx_iconst hC dlaw_870 ?_
  refine wpx_iadd hC dlaw_871 ?_
  refine wpx_sld hC hS hb hA hL (by omega) dlaw_872 ?_
  refine wpx_aload_n hC dlaw_873 rfl ?_
  refine wpx_iload_n hC dlaw_874 rfl ?_
  refine wpx_iconst hC dlaw_875 ?_
  refine wpx_iadd hC dlaw_876 ?_
  refine wpx_sld hC hS hb hA hL (by omega) dlaw_877 ?_
  refine wpx_i2l hC dlaw_878 ?_
  refine wpx_bipush hC dlaw_879 rfl ?_
  refine wpx_lshl hC dlaw_881 ?_
  refine wpx_aload_n hC dlaw_882 rfl ?_
  refine wpx_iload_n hC dlaw_883 rfl ?_
  refine wpx_iconst hC dlaw_884 ?_
  refine wpx_iadd hC dlaw_885 ?_
  refine wpx_sld hC hS hb hA hL (by omega) dlaw_886 ?_
  refine wpx_i2l hC dlaw_887 ?_
  refine wpx_ldc2 (n := 4294967295) hC dlaw_888 (by decide +kernel) ?_
  refine wpx_land hC dlaw_891 ?_
  refine wpx_lor hC dlaw_892 ?_
  refine wpx_topL ?_
  refine wpx_callVi (As := [_, _, _]) hC (c_X8_put hG σ (I_hsx h) sv_iR sv_iR) gL_law_X8_put rfl ⟨rfl, rfl⟩ ⟨by decide, by decide⟩ hyVX8_put rfl (by decide) rfl rfl (Nat.le_of_ble_eq_true rfl) ⟨by show cells + 0 ≤ 600000; omega, by show slots + 0 ≤ 7302250; omega⟩ dlaw_893 (fun x1 σ1 hx1 hp1 => ?_)
  have f : LQ σ1 σ := f_put hp1
  refine wpx_aload_n hC dlaw_896 rfl ?_
  refine wpx_aload_n hC dlaw_897 rfl ?_
  refine wpx_iload_n hC dlaw_898 rfl ?_
  refine wpx_iconst hC dlaw_899 ?_
  refine wpx_iadd hC dlaw_900 ?_
  refine wpx_sld hC hS hb hA hL (by omega) dlaw_901 ?_
  refine wpx_aload_n hC dlaw_902 rfl ?_
  refine wpx_iload_n hC dlaw_903 rfl ?_
  refine wpx_iconst hC dlaw_904 ?_
  refine wpx_iadd hC dlaw_905 ?_
  refine wpx_sld hC hS hb hA hL (by omega) dlaw_906 ?_
  refine wpx_aload_n hC dlaw_907 rfl ?_
  refine wpx_iload_n hC dlaw_908 rfl ?_
  refine wpx_iconst hC dlaw_909 ?_
  refine wpx_iadd hC dlaw_910 ?_
  refine wpx_sld hC hS hb hA hL (by omega) dlaw_911 ?_
  refine wpx_i2l hC dlaw_912 ?_
  refine wpx_bipush hC dlaw_913 rfl ?_
  refine wpx_lshl hC dlaw_915 ?_
  refine wpx_aload_n hC dlaw_916 rfl ?_
  refine wpx_iload_n hC dlaw_917 rfl ?_
  refine wpx_iconst hC dlaw_918 ?_
  refine wpx_iadd hC dlaw_919 ?_
  refine wpx_sld hC hS hb hA hL (by omega) dlaw_920 ?_
  refine wpx_i2l hC dlaw_921 ?_
  refine wpx_ldc2 (n := 4294967295) hC dlaw_922 (by decide +kernel) ?_
  refine wpx_land hC dlaw_925 ?_
  refine wpx_lor hC dlaw_926 ?_
  refine wpx_topL ?_
  refine wpx_callVi (As := [_, _, _]) hC (c_X9_put hG σ1 (F_hs h f) sv_iR sv_iR) gL_law_X9_put rfl ⟨rfl, rfl⟩ ⟨by decide, by decide⟩ hyVX9_put rfl (by decide) rfl rfl (Nat.le_of_ble_eq_true rfl) ⟨by show cells + 0 ≤ 600000; omega, by show slots + 0 ≤ 7302250; omega⟩ dlaw_927 (fun y1 σ2 hy1 hp2 => ?_)
  obtain ⟨exy, hI⟩ := s_put (lR_of _) h hp1 hp2
  refine wpx_icmp_eq (tgt := 1130) hC dlaw_930 (by decide) hx1 hy1 (fun _ => ?_) (fun c_1 => absurd exy c_1)
  refine wpx_more (cells2 := cells + 16) (slots2 := slots + 3004) (by omega) (by omega) ?_
  exact kk σ2 hI

set_option maxHeartbeats 4000000 in
set_option maxRecDepth 100000 in
theorem law_get {p : Program} {l : Launch} {e : Env} {s : State} {m : MethodId} {below : List Frame} {meth : Method} {c : Code} {A : Nat → Prop} {Q : State → Prop} {G : Gy} {Z : Ky} {cB : ClassId} {b L : Nat} {xs : Nat → Int32} {σ : St} {i : Int} {cells slots : Nat} (hG : Inj G) (hC : Cx p s m #[.ref b] meth c A s.heap 4 G code RL wsL_law) (hX : XKK G Z cB A s) (hS : va_X b L xs s s.heap) (hb : b < s.heap.size) (hA : ¬ A b) (hL : L ≤ 2560) (hi : 0 ≤ i ∧ i + 5 ≤ L) (hr : cells + 16 ≤ 600000 ∧ slots + 3004 ≤ 7302250) (h : INV σ) (kk : ∀ σ2, INV σ2 → wpx p l e room_1 s m #[.ref b] below meth c A s.heap 4 Q G [] (cells + 16) (slots + 3004) σ2 1130 [(0, .ref b), (1, .ref (G.2.2 82)), (2, .ref (G.2.2 0)), (3, .int (zI i))] []) : wpx p l e room_1 s m #[.ref b] below meth c A s.heap 4 Q G [] cells slots σ 935 [(0, .ref b), (1, .ref (G.2.2 82)), (2, .ref (G.2.2 0)), (3, .int (zI i))] [] := by
  refine wpx_aload_n hC dlaw_935 rfl ?_
  refine wpx_aload_n hC dlaw_936 rfl ?_
  refine wpx_iload_n hC dlaw_937 rfl ?_
  refine wpx_iconst hC dlaw_938 ?_
  refine wpx_iadd hC dlaw_939 ?_
  refine wpx_sld hC hS hb hA hL (by omega) dlaw_940 ?_
  refine wpx_aload_n hC dlaw_941 rfl ?_
  refine wpx_iload_n hC dlaw_942 rfl ?_
  refine wpx_iconst hC dlaw_943 ?_
  refine wpx_iadd hC dlaw_944 ?_
  refine wpx_sld hC hS hb hA hL (by omega) dlaw_945 ?_
  refine wpx_callVl (As := [_, _]) hC (c_X8_get hG σ (I_hsx h) (I_hrx h) sv_iR sv_iR) gL_law_X8_get rfl ⟨rfl, rfl⟩ ⟨by decide, by decide⟩ hyVX8_get rfl (by decide) rfl rfl (Nat.le_of_ble_eq_true rfl) ⟨by show cells + 0 ≤ 600000; omega, by show slots + 0 ≤ 7302250; omega⟩ dlaw_946 (fun x1 σ1 hx1 hp1 => ?_)
  have f : LQ σ1 σ := f_get hp1
  refine wpx_aload_n hC dlaw_949 rfl ?_
  refine wpx_aload_n hC dlaw_950 rfl ?_
  refine wpx_iload_n hC dlaw_951 rfl ?_
  refine wpx_iconst hC dlaw_952 ?_
  refine wpx_iadd hC dlaw_953 ?_
  refine wpx_sld hC hS hb hA hL (by omega) dlaw_954 ?_
  refine wpx_aload_n hC dlaw_955 rfl ?_
  refine wpx_iload_n hC dlaw_956 rfl ?_
  refine wpx_iconst hC dlaw_957 ?_
  refine wpx_iadd hC dlaw_958 ?_
  refine wpx_sld hC hS hb hA hL (by omega) dlaw_959 ?_
  refine wpx_callVl (As := [_, _]) hC (c_X9_get hG σ1 (F_hs h f) (F_hr h f) sv_iR sv_iR) gL_law_X9_get rfl ⟨rfl, rfl⟩ ⟨by decide, by decide⟩ hyVX9_get rfl (by decide) rfl rfl (Nat.le_of_ble_eq_true rfl) ⟨by show cells + 0 ≤ 600000; omega, by show slots + 0 ≤ 7302250; omega⟩ dlaw_960 (fun y1 σ2 hy1 hp2 => ?_)
  obtain ⟨exy, hI⟩ := s_get h hp1 hp2
  refine wpx_lcmp hC dlaw_963 hx1 hy1 ?_
  refine wpx_if_eq (tgt := 1130) hC dlaw_964 (by decide) lcI_iR (fun _ => ?_) (fun c_1 => absurd (lcI_eq.mpr exy) c_1)
  refine wpx_more (cells2 := cells + 16) (slots2 := slots + 3004) (by omega) (by omega) ?_
  exact kk σ2 hI

set_option maxHeartbeats 4000000 in
set_option maxRecDepth 100000 in
theorem law_from {p : Program} {l : Launch} {e : Env} {s : State} {m : MethodId} {below : List Frame} {meth : Method} {c : Code} {A : Nat → Prop} {Q : State → Prop} {G : Gy} {Z : Ky} {cB : ClassId} {b L : Nat} {xs : Nat → Int32} {σ : St} {i : Int} {cells slots : Nat} (hG : Inj G) (hC : Cx p s m #[.ref b] meth c A s.heap 4 G code RL wsL_law) (hX : XKK G Z cB A s) (hS : va_X b L xs s s.heap) (hb : b < s.heap.size) (hA : ¬ A b) (hL : L ≤ 2560) (hi : 0 ≤ i ∧ i + 5 ≤ L) (hr : cells + 16 ≤ 600000 ∧ slots + 3004 ≤ 7302250) (h : INV σ) (kk : ∀ σ2, INV σ2 → wpx p l e room_1 s m #[.ref b] below meth c A s.heap 4 Q G [] (cells + 16) (slots + 3004) σ2 1130 [(0, .ref b), (1, .ref (G.2.2 82)), (2, .ref (G.2.2 0)), (3, .int (zI i))] []) : wpx p l e room_1 s m #[.ref b] below meth c A s.heap 4 Q G [] cells slots σ 969 [(0, .ref b), (1, .ref (G.2.2 82)), (2, .ref (G.2.2 0)), (3, .int (zI i))] [] := by
  refine wpx_aload_n hC dlaw_969 rfl ?_
  refine wpx_aload_n hC dlaw_970 rfl ?_
  refine wpx_iload_n hC dlaw_971 rfl ?_
  refine wpx_iconst hC dlaw_972 ?_
  refine wpx_iadd hC dlaw_973 ?_
  refine wpx_sld hC hS hb hA hL (by omega) dlaw_974 ?_
  refine wpx_aload_n hC dlaw_975 rfl ?_
  refine wpx_iload_n hC dlaw_976 rfl ?_
  refine wpx_iconst hC dlaw_977 ?_
  refine wpx_iadd hC dlaw_978 ?_
  refine wpx_sld hC hS hb hA hL (by omega) dlaw_979 ?_
  refine wpx_aload_n hC dlaw_980 rfl ?_
  refine wpx_iload_n hC dlaw_981 rfl ?_
  refine wpx_iconst hC dlaw_982 ?_
  refine wpx_iadd hC dlaw_983 ?_
  refine wpx_sld hC hS hb hA hL (by omega) dlaw_984 ?_
  refine wpx_aload_n hC dlaw_985 rfl ?_
  refine wpx_iload_n hC dlaw_986 rfl ?_
  refine wpx_iconst hC dlaw_987 ?_
  refine wpx_iadd hC dlaw_988 ?_
  refine wpx_sld hC hS hb hA hL (by omega) dlaw_989 ?_
  refine wpx_callVi (As := [_, _, _, _]) hC (c_X8_from hG σ (I_xo h) (I_xl h) (I_hsx h) (I_hrx h) sv_iR sv_iR sv_iR sv_iR) gL_law_X8_from rfl ⟨rfl, rfl⟩ ⟨by decide, by decide⟩ hyVX8_from rfl (by decide) rfl rfl (Nat.le_of_ble_eq_true rfl) ⟨by show cells + 0 ≤ 600000; omega, by show slots + 0 ≤ 7302250; omega⟩ dlaw_990 (fun x1 σ1 hx1 hp1 => ?_)
  have f : LQ σ1 σ := f_from hp1
  refine wpx_aload_n hC dlaw_993 rfl ?_
  refine wpx_aload_n hC dlaw_994 rfl ?_
  refine wpx_iload_n hC dlaw_995 rfl ?_
  refine wpx_iconst hC dlaw_996 ?_
  refine wpx_iadd hC dlaw_997 ?_
  refine wpx_sld hC hS hb hA hL (by omega) dlaw_998 ?_
  refine wpx_aload_n hC dlaw_999 rfl ?_
  refine wpx_iload_n hC dlaw_1000 rfl ?_
  refine wpx_iconst hC dlaw_1001 ?_
  refine wpx_iadd hC dlaw_1002 ?_
  refine wpx_sld hC hS hb hA hL (by omega) dlaw_1003 ?_
  refine wpx_aload_n hC dlaw_1004 rfl ?_
  refine wpx_iload_n hC dlaw_1005 rfl ?_
  refine wpx_iconst hC dlaw_1006 ?_
  refine wpx_iadd hC dlaw_1007 ?_
  refine wpx_sld hC hS hb hA hL (by omega) dlaw_1008 ?_
  refine wpx_aload_n hC dlaw_1009 rfl ?_
  refine wpx_iload_n hC dlaw_1010 rfl ?_
  refine wpx_iconst hC dlaw_1011 ?_
  refine wpx_iadd hC dlaw_1012 ?_
  refine wpx_sld hC hS hb hA hL (by omega) dlaw_1013 ?_
  refine wpx_callVi (As := [_, _, _, _]) hC (c_X9_from hG σ1 (F_ro h f) (F_hd h f) (F_hs h f) (F_hr h f) sv_iR sv_iR sv_iR sv_iR) gL_law_X9_from rfl ⟨rfl, rfl⟩ ⟨by decide, by decide⟩ hyVX9_from rfl (by decide) rfl rfl (Nat.le_of_ble_eq_true rfl) ⟨by show cells + 0 ≤ 600000; omega, by show slots + 0 ≤ 7302250; omega⟩ dlaw_1014 (fun y1 σ2 hy1 hp2 => ?_)
  obtain ⟨exy, hI⟩ := s_from h hp1 hp2
  refine wpx_icmp_eq (tgt := 1130) hC dlaw_1017 (by decide) hx1 hy1 (fun _ => ?_) (fun c_1 => absurd exy c_1)
  refine wpx_more (cells2 := cells + 16) (slots2 := slots + 3004) (by omega) (by omega) ?_
  exact kk σ2 hI

set_option maxHeartbeats 4000000 in
set_option maxRecDepth 100000 in
theorem law_lefts {p : Program} {l : Launch} {e : Env} {s : State} {m : MethodId} {below : List Frame} {meth : Method} {c : Code} {A : Nat → Prop} {Q : State → Prop} {G : Gy} {Z : Ky} {cB : ClassId} {b L : Nat} {xs : Nat → Int32} {σ : St} {i : Int} {cells slots : Nat} (hG : Inj G) (hC : Cx p s m #[.ref b] meth c A s.heap 4 G code RL wsL_law) (hX : XKK G Z cB A s) (hS : va_X b L xs s s.heap) (hb : b < s.heap.size) (hA : ¬ A b) (hL : L ≤ 2560) (hi : 0 ≤ i ∧ i + 5 ≤ L) (hr : cells + 16 ≤ 600000 ∧ slots + 3004 ≤ 7302250) (h : INV σ) (kk : ∀ σ2, INV σ2 → wpx p l e room_1 s m #[.ref b] below meth c A s.heap 4 Q G [] (cells + 16) (slots + 3004) σ2 1130 [(0, .ref b), (1, .ref (G.2.2 82)), (2, .ref (G.2.2 0)), (3, .int (zI i))] []) : wpx p l e room_1 s m #[.ref b] below meth c A s.heap 4 Q G [] cells slots σ 1022 [(0, .ref b), (1, .ref (G.2.2 82)), (2, .ref (G.2.2 0)), (3, .int (zI i))] [] := by
  refine wpx_aload_n hC dlaw_1022 rfl ?_
  refine wpx_aload_n hC dlaw_1023 rfl ?_
  refine wpx_iload_n hC dlaw_1024 rfl ?_
  refine wpx_iconst hC dlaw_1025 ?_
  refine wpx_iadd hC dlaw_1026 ?_
  refine wpx_sld hC hS hb hA hL (by omega) dlaw_1027 ?_
  refine wpx_aload_n hC dlaw_1028 rfl ?_
  refine wpx_iload_n hC dlaw_1029 rfl ?_
  refine wpx_iconst hC dlaw_1030 ?_
  refine wpx_iadd hC dlaw_1031 ?_
  refine wpx_sld hC hS hb hA hL (by omega) dlaw_1032 ?_
  refine wpx_callVi (As := [_, _]) hC (c_X8_lefts hG σ (I_xo h) (I_hsx h) sv_iR sv_iR) gL_law_X8_lefts rfl ⟨rfl, rfl⟩ ⟨by decide, by decide⟩ hyVX8_lefts rfl (by decide) rfl rfl (Nat.le_of_ble_eq_true rfl) ⟨by show cells + 0 ≤ 600000; omega, by show slots + 0 ≤ 7302250; omega⟩ dlaw_1033 (fun x1 σ1 hx1 hp1 => ?_)
  have f : LQ σ1 σ := f_lefts hp1
  refine wpx_aload_n hC dlaw_1036 rfl ?_
  refine wpx_aload_n hC dlaw_1037 rfl ?_
  refine wpx_iload_n hC dlaw_1038 rfl ?_
  refine wpx_iconst hC dlaw_1039 ?_
  refine wpx_iadd hC dlaw_1040 ?_
  refine wpx_sld hC hS hb hA hL (by omega) dlaw_1041 ?_
  refine wpx_aload_n hC dlaw_1042 rfl ?_
  refine wpx_iload_n hC dlaw_1043 rfl ?_
  refine wpx_iconst hC dlaw_1044 ?_
  refine wpx_iadd hC dlaw_1045 ?_
  refine wpx_sld hC hS hb hA hL (by omega) dlaw_1046 ?_
  refine wpx_callVi (As := [_, _]) hC (c_X9_lefts hG σ1 (F_ro h f) (F_hs h f) sv_iR sv_iR) gL_law_X9_lefts rfl ⟨rfl, rfl⟩ ⟨by decide, by decide⟩ hyVX9_lefts rfl (by decide) rfl rfl (Nat.le_of_ble_eq_true rfl) ⟨by show cells + 0 ≤ 600000; omega, by show slots + 0 ≤ 7302250; omega⟩ dlaw_1047 (fun y1 σ2 hy1 hp2 => ?_)
  obtain ⟨exy, hI⟩ := s_lefts h hp1 hp2
  refine wpx_icmp_eq (tgt := 1130) hC dlaw_1050 (by decide) hx1 hy1 (fun _ => ?_) (fun c_1 => absurd exy c_1)
  refine wpx_more (cells2 := cells + 16) (slots2 := slots + 3004) (by omega) (by omega) ?_
  exact kk σ2 hI

set_option maxHeartbeats 4000000 in
set_option maxRecDepth 100000 in
theorem law_undo {p : Program} {l : Launch} {e : Env} {s : State} {m : MethodId} {below : List Frame} {meth : Method} {c : Code} {A : Nat → Prop} {Q : State → Prop} {G : Gy} {Z : Ky} {cB : ClassId} {b L : Nat} {xs : Nat → Int32} {σ : St} {i : Int} {cells slots : Nat} (hG : Inj G) (hC : Cx p s m #[.ref b] meth c A s.heap 4 G code RL wsL_law) (hX : XKK G Z cB A s) (hS : va_X b L xs s s.heap) (hb : b < s.heap.size) (hA : ¬ A b) (hL : L ≤ 2560) (hi : 0 ≤ i ∧ i + 5 ≤ L) (hr : cells + 16 ≤ 600000 ∧ slots + 3004 ≤ 7302250) (h : INV σ) (kk : ∀ σ2, INV σ2 → wpx p l e room_1 s m #[.ref b] below meth c A s.heap 4 Q G [] (cells + 16) (slots + 3004) σ2 1130 [(0, .ref b), (1, .ref (G.2.2 82)), (2, .ref (G.2.2 0)), (3, .int (zI i))] []) : wpx p l e room_1 s m #[.ref b] below meth c A s.heap 4 Q G [] cells slots σ 1055 [(0, .ref b), (1, .ref (G.2.2 82)), (2, .ref (G.2.2 0)), (3, .int (zI i))] [] := by
  refine wpx_aload_n hC dlaw_1055 rfl ?_
  refine wpx_callVi (As := []) hC (c_X8_undo hG σ (I_xo h) (I_xl h) (I_ha h) (I_hk h)) gL_law_X8_undo rfl ⟨rfl, rfl⟩ ⟨by decide, by decide⟩ hyVX8_undo rfl (by decide) rfl rfl (Nat.le_of_ble_eq_true rfl) ⟨by show cells + 0 ≤ 600000; omega, by show slots + 0 ≤ 7302250; omega⟩ dlaw_1056 (fun x1 σ1 hx1 hp1 => ?_)
  have f : LQ σ1 σ := f_undo hp1
  refine wpx_aload_n hC dlaw_1059 rfl ?_
  refine wpx_callVi (As := []) hC (c_X9_undo hG σ1 (F_hd h f) (F_h8 h f)) gL_law_X9_undo rfl ⟨rfl, rfl⟩ ⟨by decide, by decide⟩ hyVX9_undo rfl (by decide) rfl rfl (Nat.le_of_ble_eq_true rfl) ⟨by show cells + 0 ≤ 600000; omega, by show slots + 0 ≤ 7302250; omega⟩ dlaw_1060 (fun y1 σ2 hy1 hp2 => ?_)
  obtain ⟨exy, hI⟩ := s_undo h hp1 hp2
  refine wpx_icmp_eq (tgt := 1130) hC dlaw_1063 (by decide) hx1 hy1 (fun _ => ?_) (fun c_1 => absurd exy c_1)
  refine wpx_more (cells2 := cells + 16) (slots2 := slots + 3004) (by omega) (by omega) ?_
  exact kk σ2 hI

set_option maxHeartbeats 4000000 in
set_option maxRecDepth 100000 in
theorem law_redo {p : Program} {l : Launch} {e : Env} {s : State} {m : MethodId} {below : List Frame} {meth : Method} {c : Code} {A : Nat → Prop} {Q : State → Prop} {G : Gy} {Z : Ky} {cB : ClassId} {b L : Nat} {xs : Nat → Int32} {σ : St} {i : Int} {cells slots : Nat} (hG : Inj G) (hC : Cx p s m #[.ref b] meth c A s.heap 4 G code RL wsL_law) (hX : XKK G Z cB A s) (hS : va_X b L xs s s.heap) (hb : b < s.heap.size) (hA : ¬ A b) (hL : L ≤ 2560) (hi : 0 ≤ i ∧ i + 5 ≤ L) (hr : cells + 16 ≤ 600000 ∧ slots + 3004 ≤ 7302250) (h : INV σ) (kk : ∀ σ2, INV σ2 → wpx p l e room_1 s m #[.ref b] below meth c A s.heap 4 Q G [] (cells + 16) (slots + 3004) σ2 1130 [(0, .ref b), (1, .ref (G.2.2 82)), (2, .ref (G.2.2 0)), (3, .int (zI i))] []) : wpx p l e room_1 s m #[.ref b] below meth c A s.heap 4 Q G [] cells slots σ 1068 [(0, .ref b), (1, .ref (G.2.2 82)), (2, .ref (G.2.2 0)), (3, .int (zI i))] [] := by
  refine wpx_aload_n hC dlaw_1068 rfl ?_
  refine wpx_callVi (As := []) hC (c_X8_redo hG σ (I_xo h) (I_xl h) (I_ha h) (I_hk h)) gL_law_X8_redo rfl ⟨rfl, rfl⟩ ⟨by decide, by decide⟩ hyVX8_redo rfl (by decide) rfl rfl (Nat.le_of_ble_eq_true rfl) ⟨by show cells + 0 ≤ 600000; omega, by show slots + 0 ≤ 7302250; omega⟩ dlaw_1069 (fun x1 σ1 hx1 hp1 => ?_)
  have f : LQ σ1 σ := f_redo hp1
  refine wpx_aload_n hC dlaw_1072 rfl ?_
  refine wpx_callVi (As := []) hC (c_X9_redo hG σ1 (F_hd2 h f) (F_h8 h f)) gL_law_X9_redo rfl ⟨rfl, rfl⟩ ⟨by decide, by decide⟩ hyVX9_redo rfl (by decide) rfl rfl (Nat.le_of_ble_eq_true rfl) ⟨by show cells + 0 ≤ 600000; omega, by show slots + 0 ≤ 7302250; omega⟩ dlaw_1073 (fun y1 σ2 hy1 hp2 => ?_)
  obtain ⟨exy, hI⟩ := s_redo h hp1 hp2
  refine wpx_icmp_eq (tgt := 1130) hC dlaw_1076 (by decide) hx1 hy1 (fun _ => ?_) (fun c_1 => absurd exy c_1)
  refine wpx_more (cells2 := cells + 16) (slots2 := slots + 3004) (by omega) (by omega) ?_
  exact kk σ2 hI

set_option maxHeartbeats 4000000 in
set_option maxRecDepth 100000 in
theorem law_image {p : Program} {l : Launch} {e : Env} {s : State} {m : MethodId} {below : List Frame} {meth : Method} {c : Code} {A : Nat → Prop} {Q : State → Prop} {G : Gy} {Z : Ky} {cB : ClassId} {b L : Nat} {xs : Nat → Int32} {σ : St} {i : Int} {cells slots : Nat} (hG : Inj G) (hC : Cx p s m #[.ref b] meth c A s.heap 4 G code RL wsL_law) (hX : XKK G Z cB A s) (hS : va_X b L xs s s.heap) (hb : b < s.heap.size) (hA : ¬ A b) (hL : L ≤ 2560) (hi : 0 ≤ i ∧ i + 5 ≤ L) (hr : cells + 16 ≤ 600000 ∧ slots + 3004 ≤ 7302250) (h : INV σ) (kk : ∀ σ2, INV σ2 → wpx p l e room_1 s m #[.ref b] below meth c A s.heap 4 Q G [] (cells + 16) (slots + 3004) σ2 1130 [(0, .ref b), (1, .ref (G.2.2 82)), (2, .ref (G.2.2 0)), (3, .int (zI i))] []) : wpx p l e room_1 s m #[.ref b] below meth c A s.heap 4 Q G [] cells slots σ 1081 [(0, .ref b), (1, .ref (G.2.2 82)), (2, .ref (G.2.2 0)), (3, .int (zI i))] [] := by
  refine wpx_aload_n hC dlaw_1081 rfl ?_
  refine wpx_callVi (As := []) hC (c_X8_image hG σ (I_xo h)) gL_law_X8_image rfl ⟨rfl, rfl⟩ ⟨by decide, by decide⟩ hyVX8_image rfl (by decide) rfl rfl (Nat.le_of_ble_eq_true rfl) ⟨by show cells + 0 ≤ 600000; omega, by show slots + 0 ≤ 7302250; omega⟩ dlaw_1082 (fun x1 σ1 hx1 hp1 => ?_)
  have f : LQ σ1 σ := by
    rw [hp1.2]
    exact f_image
  refine wpx_aload_n hC dlaw_1085 rfl ?_
  refine wpx_callVi (As := []) hC (c_X9_image hG σ1 (F_ro h f)) gL_law_X9_image rfl ⟨rfl, rfl⟩ ⟨by decide, by decide⟩ hyVX9_image rfl (by decide) rfl rfl (Nat.le_of_ble_eq_true rfl) ⟨by show cells + 0 ≤ 600000; omega, by show slots + 0 ≤ 7302250; omega⟩ dlaw_1086 (fun y1 σ2 hy1 hp2 => ?_)
  obtain ⟨exy, hI⟩ := s_image h hp1 hp2
  refine wpx_icmp_eq (tgt := 1130) hC dlaw_1089 (by decide) hx1 hy1 (fun _ => ?_) (fun c_1 => absurd exy c_1)
  refine wpx_more (cells2 := cells + 16) (slots2 := slots + 3004) (by omega) (by omega) ?_
  exact kk σ2 hI

set_option maxHeartbeats 4000000 in
set_option maxRecDepth 100000 in
theorem law_back {p : Program} {l : Launch} {e : Env} {s : State} {m : MethodId} {below : List Frame} {meth : Method} {c : Code} {A : Nat → Prop} {Q : State → Prop} {G : Gy} {Z : Ky} {cB : ClassId} {b L : Nat} {xs : Nat → Int32} {σ : St} {i : Int} {cells slots : Nat} (hG : Inj G) (hC : Cx p s m #[.ref b] meth c A s.heap 4 G code RL wsL_law) (hX : XKK G Z cB A s) (hS : va_X b L xs s s.heap) (hb : b < s.heap.size) (hA : ¬ A b) (hL : L ≤ 2560) (hi : 0 ≤ i ∧ i + 5 ≤ L) (hr : cells + 16 ≤ 600000 ∧ slots + 3004 ≤ 7302250) (h : INV σ) (kk : ∀ σ2, INV σ2 → wpx p l e room_1 s m #[.ref b] below meth c A s.heap 4 Q G [] (cells + 16) (slots + 3004) σ2 1130 [(0, .ref b), (1, .ref (G.2.2 82)), (2, .ref (G.2.2 0)), (3, .int (zI i))] []) : wpx p l e room_1 s m #[.ref b] below meth c A s.heap 4 Q G [] cells slots σ 1094 [(0, .ref b), (1, .ref (G.2.2 82)), (2, .ref (G.2.2 0)), (3, .int (zI i))] [] := by
  refine wpx_aload_n hC dlaw_1094 rfl ?_
  refine wpx_callVi (As := []) hC (c_X8_back hG σ (I_xo h) (I_xl h) (I_hb h) (I_hk1 h)) gL_law_X8_back rfl ⟨rfl, rfl⟩ ⟨by decide, by decide⟩ hyVX8_back rfl (by decide) rfl rfl (Nat.le_of_ble_eq_true rfl) ⟨by show cells + 0 ≤ 600000; omega, by show slots + 0 ≤ 7302250; omega⟩ dlaw_1095 (fun x1 σ1 hx1 hp1 => ?_)
  have f : LQ σ1 σ := f_back hp1
  refine wpx_aload_n hC dlaw_1098 rfl ?_
  refine wpx_callVi (As := []) hC (c_X9_back hG σ1 (F_ro h f) (F_hi h f) (F_bk h f)) gL_law_X9_back rfl ⟨rfl, rfl⟩ ⟨by decide, by decide⟩ hyVX9_back rfl (by decide) rfl rfl (Nat.le_of_ble_eq_true rfl) ⟨by show cells + 0 ≤ 600000; omega, by show slots + 0 ≤ 7302250; omega⟩ dlaw_1099 (fun y1 σ2 hy1 hp2 => ?_)
  obtain ⟨exy, hI⟩ := s_back h hp1 hp2
  refine wpx_icmp_eq (tgt := 1130) hC dlaw_1102 (by decide) hx1 hy1 (fun _ => ?_) (fun c_1 => absurd exy c_1)
  refine wpx_more (cells2 := cells + 16) (slots2 := slots + 3004) (by omega) (by omega) ?_
  exact kk σ2 hI

set_option maxHeartbeats 4000000 in
set_option maxRecDepth 100000 in
theorem law_count {p : Program} {l : Launch} {e : Env} {s : State} {m : MethodId} {below : List Frame} {meth : Method} {c : Code} {A : Nat → Prop} {Q : State → Prop} {G : Gy} {Z : Ky} {cB : ClassId} {b L : Nat} {xs : Nat → Int32} {σ : St} {i : Int} {cells slots : Nat} (hG : Inj G) (hC : Cx p s m #[.ref b] meth c A s.heap 4 G code RL wsL_law) (hX : XKK G Z cB A s) (hS : va_X b L xs s s.heap) (hb : b < s.heap.size) (hA : ¬ A b) (hL : L ≤ 2560) (hi : 0 ≤ i ∧ i + 5 ≤ L) (hr : cells + 16 ≤ 600000 ∧ slots + 3004 ≤ 7302250) (h : INV σ) (kk : ∀ σ2, INV σ2 → wpx p l e room_1 s m #[.ref b] below meth c A s.heap 4 Q G [] (cells + 16) (slots + 3004) σ2 1130 [(0, .ref b), (1, .ref (G.2.2 82)), (2, .ref (G.2.2 0)), (3, .int (zI i))] []) : wpx p l e room_1 s m #[.ref b] below meth c A s.heap 4 Q G [] cells slots σ 1107 [(0, .ref b), (1, .ref (G.2.2 82)), (2, .ref (G.2.2 0)), (3, .int (zI i))] [] := by
  refine wpx_aload_n hC dlaw_1107 rfl ?_
  refine wpx_aload_n hC dlaw_1108 rfl ?_
  refine wpx_iload_n hC dlaw_1109 rfl ?_
  refine wpx_iconst hC dlaw_1110 ?_
  refine wpx_iadd hC dlaw_1111 ?_
  refine wpx_sld hC hS hb hA hL (by omega) dlaw_1112 ?_
  refine wpx_callVi (As := [_]) hC (c_X8_count hG σ (I_xo h) sv_iR (I_h6 h) (I_hzx h)) gL_law_X8_count rfl ⟨rfl, rfl⟩ ⟨by decide, by decide⟩ hyVX8_count rfl (by decide) rfl rfl (Nat.le_of_ble_eq_true rfl) ⟨by show cells + 0 ≤ 600000; omega, by show slots + 0 ≤ 7302250; omega⟩ dlaw_1113 (fun x1 σ1 hx1 hp1 => ?_)
  have f : LQ σ1 σ := by
    rw [hp1.2]
    exact LQ_r
  refine wpx_aload_n hC dlaw_1116 rfl ?_
  refine wpx_aload_n hC dlaw_1117 rfl ?_
  refine wpx_iload_n hC dlaw_1118 rfl ?_
  refine wpx_iconst hC dlaw_1119 ?_
  refine wpx_iadd hC dlaw_1120 ?_
  refine wpx_sld hC hS hb hA hL (by omega) dlaw_1121 ?_
  refine wpx_callVi (As := [_]) hC (c_X9_count hG σ1 (F_ro h f) (F_hd2 h f) (F_hz h f) sv_iR) gL_law_X9_count rfl ⟨rfl, rfl⟩ ⟨by decide, by decide⟩ hyVX9_count rfl (by decide) rfl rfl (Nat.le_of_ble_eq_true rfl) ⟨by show cells + 0 ≤ 600000; omega, by show slots + 0 ≤ 7302250; omega⟩ dlaw_1122 (fun y1 σ2 hy1 hp2 => ?_)
  obtain ⟨exy, hI⟩ := s_count h hp1 hp2
  refine wpx_icmp_eq (tgt := 1130) hC dlaw_1125 (by decide) hx1 hy1 (fun _ => ?_) (fun c_1 => absurd exy c_1)
  refine wpx_more (cells2 := cells + 16) (slots2 := slots + 3004) (by omega) (by omega) ?_
  exact kk σ2 hI
