def P_L_law_712 (scL : Nat) (scx : Nat → Int32) (Q : Int32 → HS → Prop) (X23 : Nat → Nat → Nat → Int32 → Nat → Nat → HS → Prop) (v1 : Nat) (v2 : Nat) (v3 : Nat) (v4 : Int32) (kk : Nat) (nn : Nat) (S : HS) : Prop := ∀ x1 : Int32, x1 = v4 + (1 : Int32) → (vp_in x1 scL ∧ ∀ x3 : Int32, x3 = scx x1.toNatClampNeg → (∀ x4 : Int32, x4 = v4 + (2 : Int32) → (vp_in x4 scL ∧ ∀ x6 : Int32, x6 = scx x4.toNatClampNeg → (∀ x7 : Int32, x7 = v4 + (3 : Int32) → (vp_in x7 scL ∧ ∀ x9 : Int32, x9 = scx x7.toNatClampNeg → (ob S v1 9 ∧ (kk ≤ rm_L_law.cells ∧ nn ≤ rm_L_law.slots ∧ (P_X9_air v1 x3 x6 x9 (fun x12 S10 => Gr S S10 → (∀ x13 : Int32, x13 = v4 + (1 : Int32) → (vp_in x13 scL ∧ ∀ x15 : Int32, x15 = scx x13.toNatClampNeg → (∀ x16 : Int32, x16 = v4 + (2 : Int32) → (vp_in x16 scL ∧ ∀ x18 : Int32, x18 = scx x16.toNatClampNeg → (∀ x19 : Int32, x19 = v4 + (3 : Int32) → (vp_in x19 scL ∧ ∀ x21 : Int32, x21 = scx x19.toNatClampNeg → (ob S10 v2 11 ∧ (kk ≤ rm_L_law.cells ∧ nn ≤ rm_L_law.slots ∧ (P_X11_air v2 x15 x18 x21 (fun x24 S22 => Gr S10 S22 → (P_L_law_2341 scL scx Q X23 v1 v2 v3 v4 kk nn S22)) S10)))))))))) S))))))))
set_option maxRecDepth 20000 in
set_option maxHeartbeats 4000000 in
theorem T_L_law_712 {X : CX} {Q : Int32 → HS → Prop} {scb scL : Nat} {scx : Nat → Int32} (C : Cx X cL_law RL 7 rm_L_law) (E : LE X scb scL scx Q) (ht : LD X) (hn : True) {X23 : Nat → Nat → Nat → Int32 → Nat → Nat → HS → Prop} (hX23 : ∀ (v1 : Nat) (v2 : Nat) (v3 : Nat) (v4 : Int32) (kk : Nat) (nn : Nat) (S : HS), X23 v1 v2 v3 v4 kk nn S → WS X 7 kk nn 23 [(0, .ref scb), (1, .ref v1), (2, .ref v2), (3, .ref v3), (4, .int v4)] [] S) {v1 : Nat} {v2 : Nat} {v3 : Nat} {v4 : Int32} {kk : Nat} {nn : Nat} {S : HS} (h : P_L_law_712 scL scx Q X23 v1 v2 v3 v4 kk nn S) : WS X 7 kk nn 712 [(0, .ref scb), (1, .ref v1), (2, .ref v2), (3, .ref v3), (4, .int v4)] [] S := by
  refine r_aload_n (pc := 712) C dL_law_712 1 rfl ?_
  refine r_aload_n (pc := 713) C dL_law_713 0 rfl ?_
  refine r_iload (pc := 714) C dL_law_714 4 rfl ?_
  refine r_iconst (pc := 716) C (v := (1 : Int32)) dL_law_716 (by decide) ?_
  refine r_iadd (pc := 717) C dL_law_717 ?_
  refine r_topi (fun x1 ex1 => ?_)
  have h := h x1 ex1
  obtain ⟨i2, h⟩ := h
  refine r_scLd (pc := 718) C E i2 dL_law_718 ?_
  refine r_topi (fun x3 ex3 => ?_)
  have h := h x3 ex3
  refine r_aload_n (pc := 719) C dL_law_719 0 rfl ?_
  refine r_iload (pc := 720) C dL_law_720 4 rfl ?_
  refine r_iconst (pc := 722) C (v := (2 : Int32)) dL_law_722 (by decide) ?_
  refine r_iadd (pc := 723) C dL_law_723 ?_
  refine r_topi (fun x4 ex4 => ?_)
  have h := h x4 ex4
  obtain ⟨i5, h⟩ := h
  refine r_scLd (pc := 724) C E i5 dL_law_724 ?_
  refine r_topi (fun x6 ex6 => ?_)
  have h := h x6 ex6
  refine r_aload_n (pc := 725) C dL_law_725 0 rfl ?_
  refine r_iload (pc := 726) C dL_law_726 4 rfl ?_
  refine r_iconst (pc := 728) C (v := (3 : Int32)) dL_law_728 (by decide) ?_
  refine r_iadd (pc := 729) C dL_law_729 ?_
  refine r_topi (fun x7 ex7 => ?_)
  have h := h x7 ex7
  obtain ⟨i8, h⟩ := h
  refine r_scLd (pc := 730) C E i8 dL_law_730 ?_
  refine r_topi (fun x9 ex9 => ?_)
  have h := h x9 ex9
  obtain ⟨o_v1, h⟩ := h
  obtain ⟨hk, hk2, h⟩ := h
  refine r_callVi0 (pc := 731) C (rest := []) (a := v1) o_v1 [.int x3, .int x6, .int x9] yV_X9_air g_745 (c_X9_air h) dL_law_731 rfl rfl (Nat.le_of_ble_eq_true rfl) ⟨by decide, by decide⟩ ⟨hk, hk2⟩ ⟨rfl, rfl⟩ (fun x12 S10 h g11 => ?_)
  have h := h g11
  have o_v1 := gr_ob g11 o_v1
  refine r_pop (pc := 734) C dL_law_734 rfl ?_
  refine r_aload_n (pc := 735) C dL_law_735 2 rfl ?_
  refine r_aload_n (pc := 736) C dL_law_736 0 rfl ?_
  refine r_iload (pc := 737) C dL_law_737 4 rfl ?_
  refine r_iconst (pc := 739) C (v := (1 : Int32)) dL_law_739 (by decide) ?_
  refine r_iadd (pc := 740) C dL_law_740 ?_
  refine r_topi (fun x13 ex13 => ?_)
  have h := h x13 ex13
  obtain ⟨i14, h⟩ := h
  refine r_scLd (pc := 741) C E i14 dL_law_741 ?_
  refine r_topi (fun x15 ex15 => ?_)
  have h := h x15 ex15
  refine r_aload_n (pc := 742) C dL_law_742 0 rfl ?_
  refine r_iload (pc := 743) C dL_law_743 4 rfl ?_
  refine r_iconst (pc := 745) C (v := (2 : Int32)) dL_law_745 (by decide) ?_
  refine r_iadd (pc := 746) C dL_law_746 ?_
  refine r_topi (fun x16 ex16 => ?_)
  have h := h x16 ex16
  obtain ⟨i17, h⟩ := h
  refine r_scLd (pc := 747) C E i17 dL_law_747 ?_
  refine r_topi (fun x18 ex18 => ?_)
  have h := h x18 ex18
  refine r_aload_n (pc := 748) C dL_law_748 0 rfl ?_
  refine r_iload (pc := 749) C dL_law_749 4 rfl ?_
  refine r_iconst (pc := 751) C (v := (3 : Int32)) dL_law_751 (by decide) ?_
  refine r_iadd (pc := 752) C dL_law_752 ?_
  refine r_topi (fun x19 ex19 => ?_)
  have h := h x19 ex19
  obtain ⟨i20, h⟩ := h
  refine r_scLd (pc := 753) C E i20 dL_law_753 ?_
  refine r_topi (fun x21 ex21 => ?_)
  have h := h x21 ex21
  obtain ⟨o_v2, h⟩ := h
  obtain ⟨hk, hk2, h⟩ := h
  refine r_callVi0 (pc := 754) C (rest := []) (a := v2) o_v2 [.int x15, .int x18, .int x21] yV_X11_air g_1611 (c_X11_air h) dL_law_754 rfl rfl (Nat.le_of_ble_eq_true rfl) ⟨by decide, by decide⟩ ⟨hk, hk2⟩ ⟨rfl, rfl⟩ (fun x24 S22 h g23 => ?_)
  have h := h g23
  have o_v1 := gr_ob g23 o_v1
  have o_v2 := gr_ob g23 o_v2
  refine r_pop (pc := 757) C dL_law_757 rfl ?_
  refine r_goto (pc := 758) C (tgt := 2341) dL_law_758 (by decide) ?_
  exact r_sub [0, 1, 2, 3, 4] rfl (T_L_law_2341 C E ht hn hX23 h)
def P_L_law_761 (scL : Nat) (scx : Nat → Int32) (Q : Int32 → HS → Prop) (X23 : Nat → Nat → Nat → Int32 → Nat → Nat → HS → Prop) (v1 : Nat) (v2 : Nat) (v3 : Nat) (v4 : Int32) (kk : Nat) (nn : Nat) (S : HS) : Prop := ∀ x1 : Int32, x1 = v4 + (1 : Int32) → (vp_in x1 scL ∧ ∀ x3 : Int32, x3 = scx x1.toNatClampNeg → (∀ x4 : Int32, x4 = v4 + (2 : Int32) → (vp_in x4 scL ∧ ∀ x6 : Int32, x6 = scx x4.toNatClampNeg → (∀ x7 : Int32, x7 = v4 + (3 : Int32) → (vp_in x7 scL ∧ ∀ x9 : Int32, x9 = scx x7.toNatClampNeg → (∀ x10 : Int32, x10 = v4 + (4 : Int32) → (vp_in x10 scL ∧ ∀ x12 : Int32, x12 = scx x10.toNatClampNeg → (∀ x13 : Int32, x13 = v4 + (5 : Int32) → (vp_in x13 scL ∧ ∀ x15 : Int32, x15 = scx x13.toNatClampNeg → (ob S v1 9 ∧ (kk ≤ rm_L_law.cells ∧ nn ≤ rm_L_law.slots ∧ (P_X9_held v1 x3 x6 x9 x12 x15 (fun x18 S16 => Gr S S16 → (∀ x19 : Int32, x19 = v4 + (1 : Int32) → (vp_in x19 scL ∧ ∀ x21 : Int32, x21 = scx x19.toNatClampNeg → (∀ x22 : Int32, x22 = v4 + (2 : Int32) → (vp_in x22 scL ∧ ∀ x24 : Int32, x24 = scx x22.toNatClampNeg → (∀ x25 : Int32, x25 = v4 + (3 : Int32) → (vp_in x25 scL ∧ ∀ x27 : Int32, x27 = scx x25.toNatClampNeg → (∀ x28 : Int32, x28 = v4 + (4 : Int32) → (vp_in x28 scL ∧ ∀ x30 : Int32, x30 = scx x28.toNatClampNeg → (∀ x31 : Int32, x31 = v4 + (5 : Int32) → (vp_in x31 scL ∧ ∀ x33 : Int32, x33 = scx x31.toNatClampNeg → (ob S16 v2 11 ∧ (kk ≤ rm_L_law.cells ∧ nn ≤ rm_L_law.slots ∧ (P_X11_held v2 x21 x24 x27 x30 x33 (fun x36 S34 => Gr S16 S34 → (P_L_law_2341 scL scx Q X23 v1 v2 v3 v4 kk nn S34)) S16)))))))))))))) S))))))))))))
set_option maxRecDepth 20000 in
set_option maxHeartbeats 4000000 in
theorem T_L_law_761 {X : CX} {Q : Int32 → HS → Prop} {scb scL : Nat} {scx : Nat → Int32} (C : Cx X cL_law RL 7 rm_L_law) (E : LE X scb scL scx Q) (ht : LD X) (hn : True) {X23 : Nat → Nat → Nat → Int32 → Nat → Nat → HS → Prop} (hX23 : ∀ (v1 : Nat) (v2 : Nat) (v3 : Nat) (v4 : Int32) (kk : Nat) (nn : Nat) (S : HS), X23 v1 v2 v3 v4 kk nn S → WS X 7 kk nn 23 [(0, .ref scb), (1, .ref v1), (2, .ref v2), (3, .ref v3), (4, .int v4)] [] S) {v1 : Nat} {v2 : Nat} {v3 : Nat} {v4 : Int32} {kk : Nat} {nn : Nat} {S : HS} (h : P_L_law_761 scL scx Q X23 v1 v2 v3 v4 kk nn S) : WS X 7 kk nn 761 [(0, .ref scb), (1, .ref v1), (2, .ref v2), (3, .ref v3), (4, .int v4)] [] S := by
  refine r_aload_n (pc := 761) C dL_law_761 1 rfl ?_
  refine r_aload_n (pc := 762) C dL_law_762 0 rfl ?_
  refine r_iload (pc := 763) C dL_law_763 4 rfl ?_
  refine r_iconst (pc := 765) C (v := (1 : Int32)) dL_law_765 (by decide) ?_
  refine r_iadd (pc := 766) C dL_law_766 ?_
  refine r_topi (fun x1 ex1 => ?_)
  have h := h x1 ex1
  obtain ⟨i2, h⟩ := h
  refine r_scLd (pc := 767) C E i2 dL_law_767 ?_
  refine r_topi (fun x3 ex3 => ?_)
  have h := h x3 ex3
  refine r_aload_n (pc := 768) C dL_law_768 0 rfl ?_
  refine r_iload (pc := 769) C dL_law_769 4 rfl ?_
  refine r_iconst (pc := 771) C (v := (2 : Int32)) dL_law_771 (by decide) ?_
  refine r_iadd (pc := 772) C dL_law_772 ?_
  refine r_topi (fun x4 ex4 => ?_)
  have h := h x4 ex4
  obtain ⟨i5, h⟩ := h
  refine r_scLd (pc := 773) C E i5 dL_law_773 ?_
  refine r_topi (fun x6 ex6 => ?_)
  have h := h x6 ex6
  refine r_aload_n (pc := 774) C dL_law_774 0 rfl ?_
  refine r_iload (pc := 775) C dL_law_775 4 rfl ?_
  refine r_iconst (pc := 777) C (v := (3 : Int32)) dL_law_777 (by decide) ?_
  refine r_iadd (pc := 778) C dL_law_778 ?_
  refine r_topi (fun x7 ex7 => ?_)
  have h := h x7 ex7
  obtain ⟨i8, h⟩ := h
  refine r_scLd (pc := 779) C E i8 dL_law_779 ?_
  refine r_topi (fun x9 ex9 => ?_)
  have h := h x9 ex9
  refine r_aload_n (pc := 780) C dL_law_780 0 rfl ?_
  refine r_iload (pc := 781) C dL_law_781 4 rfl ?_
  refine r_iconst (pc := 783) C (v := (4 : Int32)) dL_law_783 (by decide) ?_
  refine r_iadd (pc := 784) C dL_law_784 ?_
  refine r_topi (fun x10 ex10 => ?_)
  have h := h x10 ex10
  obtain ⟨i11, h⟩ := h
  refine r_scLd (pc := 785) C E i11 dL_law_785 ?_
  refine r_topi (fun x12 ex12 => ?_)
  have h := h x12 ex12
  refine r_aload_n (pc := 786) C dL_law_786 0 rfl ?_
  refine r_iload (pc := 787) C dL_law_787 4 rfl ?_
  refine r_iconst (pc := 789) C (v := (5 : Int32)) dL_law_789 (by decide) ?_
  refine r_iadd (pc := 790) C dL_law_790 ?_
  refine r_topi (fun x13 ex13 => ?_)
  have h := h x13 ex13
  obtain ⟨i14, h⟩ := h
  refine r_scLd (pc := 791) C E i14 dL_law_791 ?_
  refine r_topi (fun x15 ex15 => ?_)
  have h := h x15 ex15
  obtain ⟨o_v1, h⟩ := h
  obtain ⟨hk, hk2, h⟩ := h
  refine r_callVi0 (pc := 792) C (rest := []) (a := v1) o_v1 [.int x3, .int x6, .int x9, .int x12, .int x15] yV_X9_held g_750 (c_X9_held h) dL_law_792 rfl rfl (Nat.le_of_ble_eq_true rfl) ⟨by decide, by decide⟩ ⟨hk, hk2⟩ ⟨rfl, rfl⟩ (fun x18 S16 h g17 => ?_)
  have h := h g17
  have o_v1 := gr_ob g17 o_v1
  refine r_pop (pc := 795) C dL_law_795 rfl ?_
  refine r_aload_n (pc := 796) C dL_law_796 2 rfl ?_
  refine r_aload_n (pc := 797) C dL_law_797 0 rfl ?_
  refine r_iload (pc := 798) C dL_law_798 4 rfl ?_
  refine r_iconst (pc := 800) C (v := (1 : Int32)) dL_law_800 (by decide) ?_
  refine r_iadd (pc := 801) C dL_law_801 ?_
  refine r_topi (fun x19 ex19 => ?_)
  have h := h x19 ex19
  obtain ⟨i20, h⟩ := h
  refine r_scLd (pc := 802) C E i20 dL_law_802 ?_
  refine r_topi (fun x21 ex21 => ?_)
  have h := h x21 ex21
  refine r_aload_n (pc := 803) C dL_law_803 0 rfl ?_
  refine r_iload (pc := 804) C dL_law_804 4 rfl ?_
  refine r_iconst (pc := 806) C (v := (2 : Int32)) dL_law_806 (by decide) ?_
  refine r_iadd (pc := 807) C dL_law_807 ?_
  refine r_topi (fun x22 ex22 => ?_)
  have h := h x22 ex22
  obtain ⟨i23, h⟩ := h
  refine r_scLd (pc := 808) C E i23 dL_law_808 ?_
  refine r_topi (fun x24 ex24 => ?_)
  have h := h x24 ex24
  refine r_aload_n (pc := 809) C dL_law_809 0 rfl ?_
  refine r_iload (pc := 810) C dL_law_810 4 rfl ?_
  refine r_iconst (pc := 812) C (v := (3 : Int32)) dL_law_812 (by decide) ?_
  refine r_iadd (pc := 813) C dL_law_813 ?_
  refine r_topi (fun x25 ex25 => ?_)
  have h := h x25 ex25
  obtain ⟨i26, h⟩ := h
  refine r_scLd (pc := 814) C E i26 dL_law_814 ?_
  refine r_topi (fun x27 ex27 => ?_)
  have h := h x27 ex27
  refine r_aload_n (pc := 815) C dL_law_815 0 rfl ?_
  refine r_iload (pc := 816) C dL_law_816 4 rfl ?_
  refine r_iconst (pc := 818) C (v := (4 : Int32)) dL_law_818 (by decide) ?_
  refine r_iadd (pc := 819) C dL_law_819 ?_
  refine r_topi (fun x28 ex28 => ?_)
  have h := h x28 ex28
  obtain ⟨i29, h⟩ := h
  refine r_scLd (pc := 820) C E i29 dL_law_820 ?_
  refine r_topi (fun x30 ex30 => ?_)
  have h := h x30 ex30
  refine r_aload_n (pc := 821) C dL_law_821 0 rfl ?_
  refine r_iload (pc := 822) C dL_law_822 4 rfl ?_
  refine r_iconst (pc := 824) C (v := (5 : Int32)) dL_law_824 (by decide) ?_
  refine r_iadd (pc := 825) C dL_law_825 ?_
  refine r_topi (fun x31 ex31 => ?_)
  have h := h x31 ex31
  obtain ⟨i32, h⟩ := h
  refine r_scLd (pc := 826) C E i32 dL_law_826 ?_
  refine r_topi (fun x33 ex33 => ?_)
  have h := h x33 ex33
  obtain ⟨o_v2, h⟩ := h
  obtain ⟨hk, hk2, h⟩ := h
  refine r_callVi0 (pc := 827) C (rest := []) (a := v2) o_v2 [.int x21, .int x24, .int x27, .int x30, .int x33] yV_X11_held g_1619 (c_X11_held h) dL_law_827 rfl rfl (Nat.le_of_ble_eq_true rfl) ⟨by decide, by decide⟩ ⟨hk, hk2⟩ ⟨rfl, rfl⟩ (fun x36 S34 h g35 => ?_)
  have h := h g35
  have o_v1 := gr_ob g35 o_v1
  have o_v2 := gr_ob g35 o_v2
  refine r_pop (pc := 830) C dL_law_830 rfl ?_
  refine r_goto (pc := 831) C (tgt := 2341) dL_law_831 (by decide) ?_
  exact r_sub [0, 1, 2, 3, 4] rfl (T_L_law_2341 C E ht hn hX23 h)
def P_L_law_834 (scL : Nat) (scx : Nat → Int32) (Q : Int32 → HS → Prop) (X23 : Nat → Nat → Nat → Int32 → Nat → Nat → HS → Prop) (v1 : Nat) (v2 : Nat) (v3 : Nat) (v4 : Int32) (kk : Nat) (nn : Nat) (S : HS) : Prop := ∀ x1 : Int32, x1 = v4 + (1 : Int32) → (vp_in x1 scL ∧ ∀ x3 : Int32, x3 = scx x1.toNatClampNeg → (∀ x4 : Int32, x4 = v4 + (2 : Int32) → (vp_in x4 scL ∧ ∀ x6 : Int32, x6 = scx x4.toNatClampNeg → (∀ x7 : Int32, x7 = v4 + (3 : Int32) → (vp_in x7 scL ∧ ∀ x9 : Int32, x9 = scx x7.toNatClampNeg → (∀ x10 : Int32, x10 = v4 + (4 : Int32) → (vp_in x10 scL ∧ ∀ x12 : Int32, x12 = scx x10.toNatClampNeg → (ob S v1 9 ∧ (kk ≤ rm_L_law.cells ∧ nn ≤ rm_L_law.slots ∧ (P_X9_best v1 x3 x6 x9 x12 (fun x15 S13 => Gr S S13 → (∀ x16 : Int32, x16 = v4 + (1 : Int32) → (vp_in x16 scL ∧ ∀ x18 : Int32, x18 = scx x16.toNatClampNeg → (∀ x19 : Int32, x19 = v4 + (2 : Int32) → (vp_in x19 scL ∧ ∀ x21 : Int32, x21 = scx x19.toNatClampNeg → (∀ x22 : Int32, x22 = v4 + (3 : Int32) → (vp_in x22 scL ∧ ∀ x24 : Int32, x24 = scx x22.toNatClampNeg → (∀ x25 : Int32, x25 = v4 + (4 : Int32) → (vp_in x25 scL ∧ ∀ x27 : Int32, x27 = scx x25.toNatClampNeg → (ob S13 v2 11 ∧ (kk ≤ rm_L_law.cells ∧ nn ≤ rm_L_law.slots ∧ (P_X11_best v2 x18 x21 x24 x27 (fun x30 S28 => Gr S13 S28 → (P_L_law_2341 scL scx Q X23 v1 v2 v3 v4 kk nn S28)) S13)))))))))))) S))))))))))
set_option maxRecDepth 20000 in
set_option maxHeartbeats 4000000 in
theorem T_L_law_834 {X : CX} {Q : Int32 → HS → Prop} {scb scL : Nat} {scx : Nat → Int32} (C : Cx X cL_law RL 7 rm_L_law) (E : LE X scb scL scx Q) (ht : LD X) (hn : True) {X23 : Nat → Nat → Nat → Int32 → Nat → Nat → HS → Prop} (hX23 : ∀ (v1 : Nat) (v2 : Nat) (v3 : Nat) (v4 : Int32) (kk : Nat) (nn : Nat) (S : HS), X23 v1 v2 v3 v4 kk nn S → WS X 7 kk nn 23 [(0, .ref scb), (1, .ref v1), (2, .ref v2), (3, .ref v3), (4, .int v4)] [] S) {v1 : Nat} {v2 : Nat} {v3 : Nat} {v4 : Int32} {kk : Nat} {nn : Nat} {S : HS} (h : P_L_law_834 scL scx Q X23 v1 v2 v3 v4 kk nn S) : WS X 7 kk nn 834 [(0, .ref scb), (1, .ref v1), (2, .ref v2), (3, .ref v3), (4, .int v4)] [] S := by
  refine r_aload_n (pc := 834) C dL_law_834 1 rfl ?_
  refine r_aload_n (pc := 835) C dL_law_835 0 rfl ?_
  refine r_iload (pc := 836) C dL_law_836 4 rfl ?_
  refine r_iconst (pc := 838) C (v := (1 : Int32)) dL_law_838 (by decide) ?_
  refine r_iadd (pc := 839) C dL_law_839 ?_
  refine r_topi (fun x1 ex1 => ?_)
  have h := h x1 ex1
  obtain ⟨i2, h⟩ := h
  refine r_scLd (pc := 840) C E i2 dL_law_840 ?_
  refine r_topi (fun x3 ex3 => ?_)
  have h := h x3 ex3
  refine r_aload_n (pc := 841) C dL_law_841 0 rfl ?_
  refine r_iload (pc := 842) C dL_law_842 4 rfl ?_
  refine r_iconst (pc := 844) C (v := (2 : Int32)) dL_law_844 (by decide) ?_
  refine r_iadd (pc := 845) C dL_law_845 ?_
  refine r_topi (fun x4 ex4 => ?_)
  have h := h x4 ex4
  obtain ⟨i5, h⟩ := h
  refine r_scLd (pc := 846) C E i5 dL_law_846 ?_
  refine r_topi (fun x6 ex6 => ?_)
  have h := h x6 ex6
  refine r_aload_n (pc := 847) C dL_law_847 0 rfl ?_
  refine r_iload (pc := 848) C dL_law_848 4 rfl ?_
  refine r_iconst (pc := 850) C (v := (3 : Int32)) dL_law_850 (by decide) ?_
  refine r_iadd (pc := 851) C dL_law_851 ?_
  refine r_topi (fun x7 ex7 => ?_)
  have h := h x7 ex7
  obtain ⟨i8, h⟩ := h
  refine r_scLd (pc := 852) C E i8 dL_law_852 ?_
  refine r_topi (fun x9 ex9 => ?_)
  have h := h x9 ex9
  refine r_aload_n (pc := 853) C dL_law_853 0 rfl ?_
  refine r_iload (pc := 854) C dL_law_854 4 rfl ?_
  refine r_iconst (pc := 856) C (v := (4 : Int32)) dL_law_856 (by decide) ?_
  refine r_iadd (pc := 857) C dL_law_857 ?_
  refine r_topi (fun x10 ex10 => ?_)
  have h := h x10 ex10
  obtain ⟨i11, h⟩ := h
  refine r_scLd (pc := 858) C E i11 dL_law_858 ?_
  refine r_topi (fun x12 ex12 => ?_)
  have h := h x12 ex12
  obtain ⟨o_v1, h⟩ := h
  obtain ⟨hk, hk2, h⟩ := h
  refine r_callVi0 (pc := 859) C (rest := []) (a := v1) o_v1 [.int x3, .int x6, .int x9, .int x12] yV_X9_best g_756 (c_X9_best h) dL_law_859 rfl rfl (Nat.le_of_ble_eq_true rfl) ⟨by decide, by decide⟩ ⟨hk, hk2⟩ ⟨rfl, rfl⟩ (fun x15 S13 h g14 => ?_)
  have h := h g14
  have o_v1 := gr_ob g14 o_v1
  refine r_pop (pc := 862) C dL_law_862 rfl ?_
  refine r_aload_n (pc := 863) C dL_law_863 2 rfl ?_
  refine r_aload_n (pc := 864) C dL_law_864 0 rfl ?_
  refine r_iload (pc := 865) C dL_law_865 4 rfl ?_
  refine r_iconst (pc := 867) C (v := (1 : Int32)) dL_law_867 (by decide) ?_
  refine r_iadd (pc := 868) C dL_law_868 ?_
  refine r_topi (fun x16 ex16 => ?_)
  have h := h x16 ex16
  obtain ⟨i17, h⟩ := h
  refine r_scLd (pc := 869) C E i17 dL_law_869 ?_
  refine r_topi (fun x18 ex18 => ?_)
  have h := h x18 ex18
  refine r_aload_n (pc := 870) C dL_law_870 0 rfl ?_
  refine r_iload (pc := 871) C dL_law_871 4 rfl ?_
  refine r_iconst (pc := 873) C (v := (2 : Int32)) dL_law_873 (by decide) ?_
  refine r_iadd (pc := 874) C dL_law_874 ?_
  refine r_topi (fun x19 ex19 => ?_)
  have h := h x19 ex19
  obtain ⟨i20, h⟩ := h
  refine r_scLd (pc := 875) C E i20 dL_law_875 ?_
  refine r_topi (fun x21 ex21 => ?_)
  have h := h x21 ex21
  refine r_aload_n (pc := 876) C dL_law_876 0 rfl ?_
  refine r_iload (pc := 877) C dL_law_877 4 rfl ?_
  refine r_iconst (pc := 879) C (v := (3 : Int32)) dL_law_879 (by decide) ?_
  refine r_iadd (pc := 880) C dL_law_880 ?_
  refine r_topi (fun x22 ex22 => ?_)
  have h := h x22 ex22
  obtain ⟨i23, h⟩ := h
  refine r_scLd (pc := 881) C E i23 dL_law_881 ?_
  refine r_topi (fun x24 ex24 => ?_)
  have h := h x24 ex24
  refine r_aload_n (pc := 882) C dL_law_882 0 rfl ?_
  refine r_iload (pc := 883) C dL_law_883 4 rfl ?_
  refine r_iconst (pc := 885) C (v := (4 : Int32)) dL_law_885 (by decide) ?_
  refine r_iadd (pc := 886) C dL_law_886 ?_
  refine r_topi (fun x25 ex25 => ?_)
  have h := h x25 ex25
  obtain ⟨i26, h⟩ := h
  refine r_scLd (pc := 887) C E i26 dL_law_887 ?_
  refine r_topi (fun x27 ex27 => ?_)
  have h := h x27 ex27
  obtain ⟨o_v2, h⟩ := h
  obtain ⟨hk, hk2, h⟩ := h
  refine r_callVi0 (pc := 888) C (rest := []) (a := v2) o_v2 [.int x18, .int x21, .int x24, .int x27] yV_X11_best g_1623 (c_X11_best h) dL_law_888 rfl rfl (Nat.le_of_ble_eq_true rfl) ⟨by decide, by decide⟩ ⟨hk, hk2⟩ ⟨rfl, rfl⟩ (fun x30 S28 h g29 => ?_)
  have h := h g29
  have o_v1 := gr_ob g29 o_v1
  have o_v2 := gr_ob g29 o_v2
  refine r_pop (pc := 891) C dL_law_891 rfl ?_
  refine r_goto (pc := 892) C (tgt := 2341) dL_law_892 (by decide) ?_
  exact r_sub [0, 1, 2, 3, 4] rfl (T_L_law_2341 C E ht hn hX23 h)
def P_L_law_977 (scL : Nat) (scx : Nat → Int32) (Q : Int32 → HS → Prop) (X23 : Nat → Nat → Nat → Int32 → Nat → Nat → HS → Prop) (v1 : Nat) (v2 : Nat) (v3 : Nat) (v4 : Int32) (s0 : Nat) (s1 : Int32) (s2 : Int32) (s3 : Int32) (s4 : Int32) (s5 : Int32) (kk : Nat) (nn : Nat) (S : HS) : Prop := ob S s0 11 ∧ (kk ≤ rm_L_law.cells ∧ nn ≤ rm_L_law.slots ∧ (P_X11_saves s0 s1 s2 s3 s4 s5 (fun x3 S1 => Gr S S1 → (P_L_law_2341 scL scx Q X23 v1 v2 v3 v4 kk nn S1)) S))
set_option maxRecDepth 20000 in
set_option maxHeartbeats 4000000 in
theorem T_L_law_977 {X : CX} {Q : Int32 → HS → Prop} {scb scL : Nat} {scx : Nat → Int32} (C : Cx X cL_law RL 7 rm_L_law) (E : LE X scb scL scx Q) (ht : LD X) (hn : True) {X23 : Nat → Nat → Nat → Int32 → Nat → Nat → HS → Prop} (hX23 : ∀ (v1 : Nat) (v2 : Nat) (v3 : Nat) (v4 : Int32) (kk : Nat) (nn : Nat) (S : HS), X23 v1 v2 v3 v4 kk nn S → WS X 7 kk nn 23 [(0, .ref scb), (1, .ref v1), (2, .ref v2), (3, .ref v3), (4, .int v4)] [] S) {v1 : Nat} {v2 : Nat} {v3 : Nat} {v4 : Int32} {s0 : Nat} {s1 : Int32} {s2 : Int32} {s3 : Int32} {s4 : Int32} {s5 : Int32} {kk : Nat} {nn : Nat} {S : HS} (h : P_L_law_977 scL scx Q X23 v1 v2 v3 v4 s0 s1 s2 s3 s4 s5 kk nn S) : WS X 7 kk nn 977 [(0, .ref scb), (1, .ref v1), (2, .ref v2), (3, .ref v3), (4, .int v4)] [.int s5, .int s4, .int s3, .int s2, .int s1, .ref s0] S := by
  obtain ⟨o_s0, h⟩ := h
  obtain ⟨hk, hk2, h⟩ := h
  refine r_callVl0 (pc := 977) C (rest := []) (a := s0) o_s0 [.int s1, .int s2, .int s3, .int s4, .int s5] yV_X11_saves g_1631 (c_X11_saves h) dL_law_977 rfl rfl (Nat.le_of_ble_eq_true rfl) ⟨by decide, by decide⟩ ⟨hk, hk2⟩ ⟨rfl, rfl⟩ (fun x3 S1 h g2 => ?_)
  have h := h g2
  have o_s0 := gr_ob g2 o_s0
  refine r_pop2 (pc := 980) C dL_law_980 rfl ?_
  refine r_goto (pc := 981) C (tgt := 2341) dL_law_981 (by decide) ?_
  exact r_sub [0, 1, 2, 3, 4] rfl (T_L_law_2341 C E ht hn hX23 h)
def P_L_law_934 (scL : Nat) (scx : Nat → Int32) (Q : Int32 → HS → Prop) (X23 : Nat → Nat → Nat → Int32 → Nat → Nat → HS → Prop) (v1 : Nat) (v2 : Nat) (v3 : Nat) (v4 : Int32) (s0 : Nat) (s1 : Int32) (s2 : Int32) (s3 : Int32) (s4 : Int32) (s5 : Int32) (kk : Nat) (nn : Nat) (S : HS) : Prop := ob S s0 9 ∧ (kk ≤ rm_L_law.cells ∧ nn ≤ rm_L_law.slots ∧ (P_X9_saves s0 s1 s2 s3 s4 s5 (fun x3 S1 => Gr S S1 → (∀ x4 : Int32, x4 = v4 + (1 : Int32) → (vp_in x4 scL ∧ ∀ x6 : Int32, x6 = scx x4.toNatClampNeg → (∀ x7 : Int32, x7 = v4 + (2 : Int32) → (vp_in x7 scL ∧ ∀ x9 : Int32, x9 = scx x7.toNatClampNeg → (∀ x10 : Int32, x10 = v4 + (3 : Int32) → (vp_in x10 scL ∧ ∀ x12 : Int32, x12 = scx x10.toNatClampNeg → (∀ x13 : Int32, x13 = v4 + (4 : Int32) → (vp_in x13 scL ∧ ∀ x15 : Int32, x15 = scx x13.toNatClampNeg → (∀ x16 : Int32, x16 = v4 + (5 : Int32) → (vp_in x16 scL ∧ ∀ x18 : Int32, x18 = scx x16.toNatClampNeg → (((x18 = 0) → (P_L_law_977 scL scx Q X23 v1 v2 v3 v4 v2 x6 x9 x12 x15 (0 : Int32) kk nn S1)) ∧ ((¬ x18 = 0) → (P_L_law_977 scL scx Q X23 v1 v2 v3 v4 v2 x6 x9 x12 x15 (1 : Int32) kk nn S1)))))))))))))) S))
set_option maxRecDepth 20000 in
set_option maxHeartbeats 4000000 in
theorem T_L_law_934 {X : CX} {Q : Int32 → HS → Prop} {scb scL : Nat} {scx : Nat → Int32} (C : Cx X cL_law RL 7 rm_L_law) (E : LE X scb scL scx Q) (ht : LD X) (hn : True) {X23 : Nat → Nat → Nat → Int32 → Nat → Nat → HS → Prop} (hX23 : ∀ (v1 : Nat) (v2 : Nat) (v3 : Nat) (v4 : Int32) (kk : Nat) (nn : Nat) (S : HS), X23 v1 v2 v3 v4 kk nn S → WS X 7 kk nn 23 [(0, .ref scb), (1, .ref v1), (2, .ref v2), (3, .ref v3), (4, .int v4)] [] S) {v1 : Nat} {v2 : Nat} {v3 : Nat} {v4 : Int32} {s0 : Nat} {s1 : Int32} {s2 : Int32} {s3 : Int32} {s4 : Int32} {s5 : Int32} {kk : Nat} {nn : Nat} {S : HS} (h : P_L_law_934 scL scx Q X23 v1 v2 v3 v4 s0 s1 s2 s3 s4 s5 kk nn S) : WS X 7 kk nn 934 [(0, .ref scb), (1, .ref v1), (2, .ref v2), (3, .ref v3), (4, .int v4)] [.int s5, .int s4, .int s3, .int s2, .int s1, .ref s0] S := by
  obtain ⟨o_s0, h⟩ := h
  obtain ⟨hk, hk2, h⟩ := h
  refine r_callVl0 (pc := 934) C (rest := []) (a := s0) o_s0 [.int s1, .int s2, .int s3, .int s4, .int s5] yV_X9_saves g_766 (c_X9_saves h) dL_law_934 rfl rfl (Nat.le_of_ble_eq_true rfl) ⟨by decide, by decide⟩ ⟨hk, hk2⟩ ⟨rfl, rfl⟩ (fun x3 S1 h g2 => ?_)
  have h := h g2
  have o_s0 := gr_ob g2 o_s0
  refine r_pop2 (pc := 937) C dL_law_937 rfl ?_
  refine r_aload_n (pc := 938) C dL_law_938 2 rfl ?_
  refine r_aload_n (pc := 939) C dL_law_939 0 rfl ?_
  refine r_iload (pc := 940) C dL_law_940 4 rfl ?_
  refine r_iconst (pc := 942) C (v := (1 : Int32)) dL_law_942 (by decide) ?_
  refine r_iadd (pc := 943) C dL_law_943 ?_
  refine r_topi (fun x4 ex4 => ?_)
  have h := h x4 ex4
  obtain ⟨i5, h⟩ := h
  refine r_scLd (pc := 944) C E i5 dL_law_944 ?_
  refine r_topi (fun x6 ex6 => ?_)
  have h := h x6 ex6
  refine r_aload_n (pc := 945) C dL_law_945 0 rfl ?_
  refine r_iload (pc := 946) C dL_law_946 4 rfl ?_
  refine r_iconst (pc := 948) C (v := (2 : Int32)) dL_law_948 (by decide) ?_
  refine r_iadd (pc := 949) C dL_law_949 ?_
  refine r_topi (fun x7 ex7 => ?_)
  have h := h x7 ex7
  obtain ⟨i8, h⟩ := h
  refine r_scLd (pc := 950) C E i8 dL_law_950 ?_
  refine r_topi (fun x9 ex9 => ?_)
  have h := h x9 ex9
  refine r_aload_n (pc := 951) C dL_law_951 0 rfl ?_
  refine r_iload (pc := 952) C dL_law_952 4 rfl ?_
  refine r_iconst (pc := 954) C (v := (3 : Int32)) dL_law_954 (by decide) ?_
  refine r_iadd (pc := 955) C dL_law_955 ?_
  refine r_topi (fun x10 ex10 => ?_)
  have h := h x10 ex10
  obtain ⟨i11, h⟩ := h
  refine r_scLd (pc := 956) C E i11 dL_law_956 ?_
  refine r_topi (fun x12 ex12 => ?_)
  have h := h x12 ex12
  refine r_aload_n (pc := 957) C dL_law_957 0 rfl ?_
  refine r_iload (pc := 958) C dL_law_958 4 rfl ?_
  refine r_iconst (pc := 960) C (v := (4 : Int32)) dL_law_960 (by decide) ?_
  refine r_iadd (pc := 961) C dL_law_961 ?_
  refine r_topi (fun x13 ex13 => ?_)
  have h := h x13 ex13
  obtain ⟨i14, h⟩ := h
  refine r_scLd (pc := 962) C E i14 dL_law_962 ?_
  refine r_topi (fun x15 ex15 => ?_)
  have h := h x15 ex15
  refine r_aload_n (pc := 963) C dL_law_963 0 rfl ?_
  refine r_iload (pc := 964) C dL_law_964 4 rfl ?_
  refine r_iconst (pc := 966) C (v := (5 : Int32)) dL_law_966 (by decide) ?_
  refine r_iadd (pc := 967) C dL_law_967 ?_
  refine r_topi (fun x16 ex16 => ?_)
  have h := h x16 ex16
  obtain ⟨i17, h⟩ := h
  refine r_scLd (pc := 968) C E i17 dL_law_968 ?_
  refine r_topi (fun x18 ex18 => ?_)
  have h := h x18 ex18
  refine r_if_eq (pc := 969) C (tgt := 976) dL_law_969 (by decide) (fun c19 => ?_) (fun c19 => ?_)
  · have h := h.1 c19
    refine r_iconst (pc := 976) C (v := (0 : Int32)) dL_law_976 (by decide) ?_
    exact r_sub [0, 1, 2, 3, 4] rfl (T_L_law_977 C E ht hn hX23 h)
  · have h := h.2 c19
    refine r_iconst (pc := 972) C (v := (1 : Int32)) dL_law_972 (by decide) ?_
    refine r_goto (pc := 973) C (tgt := 977) dL_law_973 (by decide) ?_
    exact r_sub [0, 1, 2, 3, 4] rfl (T_L_law_977 C E ht hn hX23 h)
def P_L_law_895 (scL : Nat) (scx : Nat → Int32) (Q : Int32 → HS → Prop) (X23 : Nat → Nat → Nat → Int32 → Nat → Nat → HS → Prop) (v1 : Nat) (v2 : Nat) (v3 : Nat) (v4 : Int32) (kk : Nat) (nn : Nat) (S : HS) : Prop := ∀ x1 : Int32, x1 = v4 + (1 : Int32) → (vp_in x1 scL ∧ ∀ x3 : Int32, x3 = scx x1.toNatClampNeg → (∀ x4 : Int32, x4 = v4 + (2 : Int32) → (vp_in x4 scL ∧ ∀ x6 : Int32, x6 = scx x4.toNatClampNeg → (∀ x7 : Int32, x7 = v4 + (3 : Int32) → (vp_in x7 scL ∧ ∀ x9 : Int32, x9 = scx x7.toNatClampNeg → (∀ x10 : Int32, x10 = v4 + (4 : Int32) → (vp_in x10 scL ∧ ∀ x12 : Int32, x12 = scx x10.toNatClampNeg → (∀ x13 : Int32, x13 = v4 + (5 : Int32) → (vp_in x13 scL ∧ ∀ x15 : Int32, x15 = scx x13.toNatClampNeg → (((x15 = 0) → (P_L_law_934 scL scx Q X23 v1 v2 v3 v4 v1 x3 x6 x9 x12 (0 : Int32) kk nn S)) ∧ ((¬ x15 = 0) → (P_L_law_934 scL scx Q X23 v1 v2 v3 v4 v1 x3 x6 x9 x12 (1 : Int32) kk nn S))))))))))))
set_option maxRecDepth 20000 in
set_option maxHeartbeats 4000000 in
theorem T_L_law_895 {X : CX} {Q : Int32 → HS → Prop} {scb scL : Nat} {scx : Nat → Int32} (C : Cx X cL_law RL 7 rm_L_law) (E : LE X scb scL scx Q) (ht : LD X) (hn : True) {X23 : Nat → Nat → Nat → Int32 → Nat → Nat → HS → Prop} (hX23 : ∀ (v1 : Nat) (v2 : Nat) (v3 : Nat) (v4 : Int32) (kk : Nat) (nn : Nat) (S : HS), X23 v1 v2 v3 v4 kk nn S → WS X 7 kk nn 23 [(0, .ref scb), (1, .ref v1), (2, .ref v2), (3, .ref v3), (4, .int v4)] [] S) {v1 : Nat} {v2 : Nat} {v3 : Nat} {v4 : Int32} {kk : Nat} {nn : Nat} {S : HS} (h : P_L_law_895 scL scx Q X23 v1 v2 v3 v4 kk nn S) : WS X 7 kk nn 895 [(0, .ref scb), (1, .ref v1), (2, .ref v2), (3, .ref v3), (4, .int v4)] [] S := by
  refine r_aload_n (pc := 895) C dL_law_895 1 rfl ?_
  refine r_aload_n (pc := 896) C dL_law_896 0 rfl ?_
  refine r_iload (pc := 897) C dL_law_897 4 rfl ?_
  refine r_iconst (pc := 899) C (v := (1 : Int32)) dL_law_899 (by decide) ?_
  refine r_iadd (pc := 900) C dL_law_900 ?_
  refine r_topi (fun x1 ex1 => ?_)
  have h := h x1 ex1
  obtain ⟨i2, h⟩ := h
  refine r_scLd (pc := 901) C E i2 dL_law_901 ?_
  refine r_topi (fun x3 ex3 => ?_)
  have h := h x3 ex3
  refine r_aload_n (pc := 902) C dL_law_902 0 rfl ?_
  refine r_iload (pc := 903) C dL_law_903 4 rfl ?_
  refine r_iconst (pc := 905) C (v := (2 : Int32)) dL_law_905 (by decide) ?_
  refine r_iadd (pc := 906) C dL_law_906 ?_
  refine r_topi (fun x4 ex4 => ?_)
  have h := h x4 ex4
  obtain ⟨i5, h⟩ := h
  refine r_scLd (pc := 907) C E i5 dL_law_907 ?_
  refine r_topi (fun x6 ex6 => ?_)
  have h := h x6 ex6
  refine r_aload_n (pc := 908) C dL_law_908 0 rfl ?_
  refine r_iload (pc := 909) C dL_law_909 4 rfl ?_
  refine r_iconst (pc := 911) C (v := (3 : Int32)) dL_law_911 (by decide) ?_
  refine r_iadd (pc := 912) C dL_law_912 ?_
  refine r_topi (fun x7 ex7 => ?_)
  have h := h x7 ex7
  obtain ⟨i8, h⟩ := h
  refine r_scLd (pc := 913) C E i8 dL_law_913 ?_
  refine r_topi (fun x9 ex9 => ?_)
  have h := h x9 ex9
  refine r_aload_n (pc := 914) C dL_law_914 0 rfl ?_
  refine r_iload (pc := 915) C dL_law_915 4 rfl ?_
  refine r_iconst (pc := 917) C (v := (4 : Int32)) dL_law_917 (by decide) ?_
  refine r_iadd (pc := 918) C dL_law_918 ?_
  refine r_topi (fun x10 ex10 => ?_)
  have h := h x10 ex10
  obtain ⟨i11, h⟩ := h
  refine r_scLd (pc := 919) C E i11 dL_law_919 ?_
  refine r_topi (fun x12 ex12 => ?_)
  have h := h x12 ex12
  refine r_aload_n (pc := 920) C dL_law_920 0 rfl ?_
  refine r_iload (pc := 921) C dL_law_921 4 rfl ?_
  refine r_iconst (pc := 923) C (v := (5 : Int32)) dL_law_923 (by decide) ?_
  refine r_iadd (pc := 924) C dL_law_924 ?_
  refine r_topi (fun x13 ex13 => ?_)
  have h := h x13 ex13
  obtain ⟨i14, h⟩ := h
  refine r_scLd (pc := 925) C E i14 dL_law_925 ?_
  refine r_topi (fun x15 ex15 => ?_)
  have h := h x15 ex15
  refine r_if_eq (pc := 926) C (tgt := 933) dL_law_926 (by decide) (fun c16 => ?_) (fun c16 => ?_)
  · have h := h.1 c16
    refine r_iconst (pc := 933) C (v := (0 : Int32)) dL_law_933 (by decide) ?_
    exact r_sub [0, 1, 2, 3, 4] rfl (T_L_law_934 C E ht hn hX23 h)
  · have h := h.2 c16
    refine r_iconst (pc := 929) C (v := (1 : Int32)) dL_law_929 (by decide) ?_
    refine r_goto (pc := 930) C (tgt := 934) dL_law_930 (by decide) ?_
    exact r_sub [0, 1, 2, 3, 4] rfl (T_L_law_934 C E ht hn hX23 h)
def P_L_law_984 (scL : Nat) (scx : Nat → Int32) (Q : Int32 → HS → Prop) (X23 : Nat → Nat → Nat → Int32 → Nat → Nat → HS → Prop) (v1 : Nat) (v2 : Nat) (v3 : Nat) (v4 : Int32) (kk : Nat) (nn : Nat) (S : HS) : Prop := ∀ x1 : Int32, x1 = v4 + (1 : Int32) → (vp_in x1 scL ∧ ∀ x3 : Int32, x3 = scx x1.toNatClampNeg → (∀ x4 : Int32, x4 = v4 + (2 : Int32) → (vp_in x4 scL ∧ ∀ x6 : Int32, x6 = scx x4.toNatClampNeg → (∀ x7 : Int32, x7 = v4 + (3 : Int32) → (vp_in x7 scL ∧ ∀ x9 : Int32, x9 = scx x7.toNatClampNeg → (∀ x10 : Int32, x10 = v4 + (4 : Int32) → (vp_in x10 scL ∧ ∀ x12 : Int32, x12 = scx x10.toNatClampNeg → (ob S v1 9 ∧ (kk ≤ rm_L_law.cells ∧ nn ≤ rm_L_law.slots ∧ (P_X9_worst v1 x3 x6 x9 x12 (fun x15 S13 => Gr S S13 → (∀ x16 : Int32, x16 = v4 + (1 : Int32) → (vp_in x16 scL ∧ ∀ x18 : Int32, x18 = scx x16.toNatClampNeg → (∀ x19 : Int32, x19 = v4 + (2 : Int32) → (vp_in x19 scL ∧ ∀ x21 : Int32, x21 = scx x19.toNatClampNeg → (∀ x22 : Int32, x22 = v4 + (3 : Int32) → (vp_in x22 scL ∧ ∀ x24 : Int32, x24 = scx x22.toNatClampNeg → (∀ x25 : Int32, x25 = v4 + (4 : Int32) → (vp_in x25 scL ∧ ∀ x27 : Int32, x27 = scx x25.toNatClampNeg → (ob S13 v2 11 ∧ (kk ≤ rm_L_law.cells ∧ nn ≤ rm_L_law.slots ∧ (P_X11_worst v2 x18 x21 x24 x27 (fun x30 S28 => Gr S13 S28 → (P_L_law_2341 scL scx Q X23 v1 v2 v3 v4 kk nn S28)) S13)))))))))))) S))))))))))
set_option maxRecDepth 20000 in
set_option maxHeartbeats 4000000 in
theorem T_L_law_984 {X : CX} {Q : Int32 → HS → Prop} {scb scL : Nat} {scx : Nat → Int32} (C : Cx X cL_law RL 7 rm_L_law) (E : LE X scb scL scx Q) (ht : LD X) (hn : True) {X23 : Nat → Nat → Nat → Int32 → Nat → Nat → HS → Prop} (hX23 : ∀ (v1 : Nat) (v2 : Nat) (v3 : Nat) (v4 : Int32) (kk : Nat) (nn : Nat) (S : HS), X23 v1 v2 v3 v4 kk nn S → WS X 7 kk nn 23 [(0, .ref scb), (1, .ref v1), (2, .ref v2), (3, .ref v3), (4, .int v4)] [] S) {v1 : Nat} {v2 : Nat} {v3 : Nat} {v4 : Int32} {kk : Nat} {nn : Nat} {S : HS} (h : P_L_law_984 scL scx Q X23 v1 v2 v3 v4 kk nn S) : WS X 7 kk nn 984 [(0, .ref scb), (1, .ref v1), (2, .ref v2), (3, .ref v3), (4, .int v4)] [] S := by
  refine r_aload_n (pc := 984) C dL_law_984 1 rfl ?_
  refine r_aload_n (pc := 985) C dL_law_985 0 rfl ?_
  refine r_iload (pc := 986) C dL_law_986 4 rfl ?_
  refine r_iconst (pc := 988) C (v := (1 : Int32)) dL_law_988 (by decide) ?_
  refine r_iadd (pc := 989) C dL_law_989 ?_
  refine r_topi (fun x1 ex1 => ?_)
  have h := h x1 ex1
  obtain ⟨i2, h⟩ := h
  refine r_scLd (pc := 990) C E i2 dL_law_990 ?_
  refine r_topi (fun x3 ex3 => ?_)
  have h := h x3 ex3
  refine r_aload_n (pc := 991) C dL_law_991 0 rfl ?_
  refine r_iload (pc := 992) C dL_law_992 4 rfl ?_
  refine r_iconst (pc := 994) C (v := (2 : Int32)) dL_law_994 (by decide) ?_
  refine r_iadd (pc := 995) C dL_law_995 ?_
  refine r_topi (fun x4 ex4 => ?_)
  have h := h x4 ex4
  obtain ⟨i5, h⟩ := h
  refine r_scLd (pc := 996) C E i5 dL_law_996 ?_
  refine r_topi (fun x6 ex6 => ?_)
  have h := h x6 ex6
  refine r_aload_n (pc := 997) C dL_law_997 0 rfl ?_
  refine r_iload (pc := 998) C dL_law_998 4 rfl ?_
  refine r_iconst (pc := 1000) C (v := (3 : Int32)) dL_law_1000 (by decide) ?_
  refine r_iadd (pc := 1001) C dL_law_1001 ?_
  refine r_topi (fun x7 ex7 => ?_)
  have h := h x7 ex7
  obtain ⟨i8, h⟩ := h
  refine r_scLd (pc := 1002) C E i8 dL_law_1002 ?_
  refine r_topi (fun x9 ex9 => ?_)
  have h := h x9 ex9
  refine r_aload_n (pc := 1003) C dL_law_1003 0 rfl ?_
  refine r_iload (pc := 1004) C dL_law_1004 4 rfl ?_
  refine r_iconst (pc := 1006) C (v := (4 : Int32)) dL_law_1006 (by decide) ?_
  refine r_iadd (pc := 1007) C dL_law_1007 ?_
  refine r_topi (fun x10 ex10 => ?_)
  have h := h x10 ex10
  obtain ⟨i11, h⟩ := h
  refine r_scLd (pc := 1008) C E i11 dL_law_1008 ?_
  refine r_topi (fun x12 ex12 => ?_)
  have h := h x12 ex12
  obtain ⟨o_v1, h⟩ := h
  obtain ⟨hk, hk2, h⟩ := h
  refine r_callVi0 (pc := 1009) C (rest := []) (a := v1) o_v1 [.int x3, .int x6, .int x9, .int x12] yV_X9_worst g_775 (c_X9_worst h) dL_law_1009 rfl rfl (Nat.le_of_ble_eq_true rfl) ⟨by decide, by decide⟩ ⟨hk, hk2⟩ ⟨rfl, rfl⟩ (fun x15 S13 h g14 => ?_)
  have h := h g14
  have o_v1 := gr_ob g14 o_v1
  refine r_pop (pc := 1012) C dL_law_1012 rfl ?_
  refine r_aload_n (pc := 1013) C dL_law_1013 2 rfl ?_
  refine r_aload_n (pc := 1014) C dL_law_1014 0 rfl ?_
  refine r_iload (pc := 1015) C dL_law_1015 4 rfl ?_
  refine r_iconst (pc := 1017) C (v := (1 : Int32)) dL_law_1017 (by decide) ?_
  refine r_iadd (pc := 1018) C dL_law_1018 ?_
  refine r_topi (fun x16 ex16 => ?_)
  have h := h x16 ex16
  obtain ⟨i17, h⟩ := h
  refine r_scLd (pc := 1019) C E i17 dL_law_1019 ?_
  refine r_topi (fun x18 ex18 => ?_)
  have h := h x18 ex18
  refine r_aload_n (pc := 1020) C dL_law_1020 0 rfl ?_
  refine r_iload (pc := 1021) C dL_law_1021 4 rfl ?_
  refine r_iconst (pc := 1023) C (v := (2 : Int32)) dL_law_1023 (by decide) ?_
  refine r_iadd (pc := 1024) C dL_law_1024 ?_
  refine r_topi (fun x19 ex19 => ?_)
  have h := h x19 ex19
  obtain ⟨i20, h⟩ := h
  refine r_scLd (pc := 1025) C E i20 dL_law_1025 ?_
  refine r_topi (fun x21 ex21 => ?_)
  have h := h x21 ex21
  refine r_aload_n (pc := 1026) C dL_law_1026 0 rfl ?_
  refine r_iload (pc := 1027) C dL_law_1027 4 rfl ?_
  refine r_iconst (pc := 1029) C (v := (3 : Int32)) dL_law_1029 (by decide) ?_
  refine r_iadd (pc := 1030) C dL_law_1030 ?_
  refine r_topi (fun x22 ex22 => ?_)
  have h := h x22 ex22
  obtain ⟨i23, h⟩ := h
  refine r_scLd (pc := 1031) C E i23 dL_law_1031 ?_
  refine r_topi (fun x24 ex24 => ?_)
  have h := h x24 ex24
  refine r_aload_n (pc := 1032) C dL_law_1032 0 rfl ?_
  refine r_iload (pc := 1033) C dL_law_1033 4 rfl ?_
  refine r_iconst (pc := 1035) C (v := (4 : Int32)) dL_law_1035 (by decide) ?_
  refine r_iadd (pc := 1036) C dL_law_1036 ?_
  refine r_topi (fun x25 ex25 => ?_)
  have h := h x25 ex25
  obtain ⟨i26, h⟩ := h
  refine r_scLd (pc := 1037) C E i26 dL_law_1037 ?_
  refine r_topi (fun x27 ex27 => ?_)
  have h := h x27 ex27
  obtain ⟨o_v2, h⟩ := h
  obtain ⟨hk, hk2, h⟩ := h
  refine r_callVi0 (pc := 1038) C (rest := []) (a := v2) o_v2 [.int x18, .int x21, .int x24, .int x27] yV_X11_worst g_1635 (c_X11_worst h) dL_law_1038 rfl rfl (Nat.le_of_ble_eq_true rfl) ⟨by decide, by decide⟩ ⟨hk, hk2⟩ ⟨rfl, rfl⟩ (fun x30 S28 h g29 => ?_)
  have h := h g29
  have o_v1 := gr_ob g29 o_v1
  have o_v2 := gr_ob g29 o_v2
  refine r_pop (pc := 1041) C dL_law_1041 rfl ?_
  refine r_goto (pc := 1042) C (tgt := 2341) dL_law_1042 (by decide) ?_
  exact r_sub [0, 1, 2, 3, 4] rfl (T_L_law_2341 C E ht hn hX23 h)
def P_L_law_1045 (scL : Nat) (scx : Nat → Int32) (Q : Int32 → HS → Prop) (X23 : Nat → Nat → Nat → Int32 → Nat → Nat → HS → Prop) (v1 : Nat) (v2 : Nat) (v3 : Nat) (v4 : Int32) (kk : Nat) (nn : Nat) (S : HS) : Prop := ∀ x1 : Int32, x1 = v4 + (1 : Int32) → (vp_in x1 scL ∧ ∀ x3 : Int32, x3 = scx x1.toNatClampNeg → (∀ x4 : Int32, x4 = v4 + (2 : Int32) → (vp_in x4 scL ∧ ∀ x6 : Int32, x6 = scx x4.toNatClampNeg → (∀ x7 : Int32, x7 = v4 + (3 : Int32) → (vp_in x7 scL ∧ ∀ x9 : Int32, x9 = scx x7.toNatClampNeg → (∀ x10 : Int32, x10 = v4 + (4 : Int32) → (vp_in x10 scL ∧ ∀ x12 : Int32, x12 = scx x10.toNatClampNeg → (ob S v1 9 ∧ (kk ≤ rm_L_law.cells ∧ nn ≤ rm_L_law.slots ∧ (P_X9_even v1 x3 x6 x9 x12 (fun x15 S13 => Gr S S13 → (∀ x16 : Int32, x16 = v4 + (1 : Int32) → (vp_in x16 scL ∧ ∀ x18 : Int32, x18 = scx x16.toNatClampNeg → (∀ x19 : Int32, x19 = v4 + (2 : Int32) → (vp_in x19 scL ∧ ∀ x21 : Int32, x21 = scx x19.toNatClampNeg → (∀ x22 : Int32, x22 = v4 + (3 : Int32) → (vp_in x22 scL ∧ ∀ x24 : Int32, x24 = scx x22.toNatClampNeg → (∀ x25 : Int32, x25 = v4 + (4 : Int32) → (vp_in x25 scL ∧ ∀ x27 : Int32, x27 = scx x25.toNatClampNeg → (ob S13 v2 11 ∧ (kk ≤ rm_L_law.cells ∧ nn ≤ rm_L_law.slots ∧ (P_X11_even v2 x18 x21 x24 x27 (fun x30 S28 => Gr S13 S28 → (P_L_law_2341 scL scx Q X23 v1 v2 v3 v4 kk nn S28)) S13)))))))))))) S))))))))))
set_option maxRecDepth 20000 in
set_option maxHeartbeats 4000000 in
theorem T_L_law_1045 {X : CX} {Q : Int32 → HS → Prop} {scb scL : Nat} {scx : Nat → Int32} (C : Cx X cL_law RL 7 rm_L_law) (E : LE X scb scL scx Q) (ht : LD X) (hn : True) {X23 : Nat → Nat → Nat → Int32 → Nat → Nat → HS → Prop} (hX23 : ∀ (v1 : Nat) (v2 : Nat) (v3 : Nat) (v4 : Int32) (kk : Nat) (nn : Nat) (S : HS), X23 v1 v2 v3 v4 kk nn S → WS X 7 kk nn 23 [(0, .ref scb), (1, .ref v1), (2, .ref v2), (3, .ref v3), (4, .int v4)] [] S) {v1 : Nat} {v2 : Nat} {v3 : Nat} {v4 : Int32} {kk : Nat} {nn : Nat} {S : HS} (h : P_L_law_1045 scL scx Q X23 v1 v2 v3 v4 kk nn S) : WS X 7 kk nn 1045 [(0, .ref scb), (1, .ref v1), (2, .ref v2), (3, .ref v3), (4, .int v4)] [] S := by
  refine r_aload_n (pc := 1045) C dL_law_1045 1 rfl ?_
  refine r_aload_n (pc := 1046) C dL_law_1046 0 rfl ?_
  refine r_iload (pc := 1047) C dL_law_1047 4 rfl ?_
  refine r_iconst (pc := 1049) C (v := (1 : Int32)) dL_law_1049 (by decide) ?_
  refine r_iadd (pc := 1050) C dL_law_1050 ?_
  refine r_topi (fun x1 ex1 => ?_)
  have h := h x1 ex1
  obtain ⟨i2, h⟩ := h
  refine r_scLd (pc := 1051) C E i2 dL_law_1051 ?_
  refine r_topi (fun x3 ex3 => ?_)
  have h := h x3 ex3
  refine r_aload_n (pc := 1052) C dL_law_1052 0 rfl ?_
  refine r_iload (pc := 1053) C dL_law_1053 4 rfl ?_
  refine r_iconst (pc := 1055) C (v := (2 : Int32)) dL_law_1055 (by decide) ?_
  refine r_iadd (pc := 1056) C dL_law_1056 ?_
  refine r_topi (fun x4 ex4 => ?_)
  have h := h x4 ex4
  obtain ⟨i5, h⟩ := h
  refine r_scLd (pc := 1057) C E i5 dL_law_1057 ?_
  refine r_topi (fun x6 ex6 => ?_)
  have h := h x6 ex6
  refine r_aload_n (pc := 1058) C dL_law_1058 0 rfl ?_
  refine r_iload (pc := 1059) C dL_law_1059 4 rfl ?_
  refine r_iconst (pc := 1061) C (v := (3 : Int32)) dL_law_1061 (by decide) ?_
  refine r_iadd (pc := 1062) C dL_law_1062 ?_
  refine r_topi (fun x7 ex7 => ?_)
  have h := h x7 ex7
  obtain ⟨i8, h⟩ := h
  refine r_scLd (pc := 1063) C E i8 dL_law_1063 ?_
  refine r_topi (fun x9 ex9 => ?_)
  have h := h x9 ex9
  refine r_aload_n (pc := 1064) C dL_law_1064 0 rfl ?_
  refine r_iload (pc := 1065) C dL_law_1065 4 rfl ?_
  refine r_iconst (pc := 1067) C (v := (4 : Int32)) dL_law_1067 (by decide) ?_
  refine r_iadd (pc := 1068) C dL_law_1068 ?_
  refine r_topi (fun x10 ex10 => ?_)
  have h := h x10 ex10
  obtain ⟨i11, h⟩ := h
  refine r_scLd (pc := 1069) C E i11 dL_law_1069 ?_
  refine r_topi (fun x12 ex12 => ?_)
  have h := h x12 ex12
  obtain ⟨o_v1, h⟩ := h
  obtain ⟨hk, hk2, h⟩ := h
  refine r_callVi0 (pc := 1070) C (rest := []) (a := v1) o_v1 [.int x3, .int x6, .int x9, .int x12] yV_X9_even g_784 (c_X9_even h) dL_law_1070 rfl rfl (Nat.le_of_ble_eq_true rfl) ⟨by decide, by decide⟩ ⟨hk, hk2⟩ ⟨rfl, rfl⟩ (fun x15 S13 h g14 => ?_)
  have h := h g14
  have o_v1 := gr_ob g14 o_v1
  refine r_pop (pc := 1073) C dL_law_1073 rfl ?_
  refine r_aload_n (pc := 1074) C dL_law_1074 2 rfl ?_
  refine r_aload_n (pc := 1075) C dL_law_1075 0 rfl ?_
  refine r_iload (pc := 1076) C dL_law_1076 4 rfl ?_
  refine r_iconst (pc := 1078) C (v := (1 : Int32)) dL_law_1078 (by decide) ?_
  refine r_iadd (pc := 1079) C dL_law_1079 ?_
  refine r_topi (fun x16 ex16 => ?_)
  have h := h x16 ex16
  obtain ⟨i17, h⟩ := h
  refine r_scLd (pc := 1080) C E i17 dL_law_1080 ?_
  refine r_topi (fun x18 ex18 => ?_)
  have h := h x18 ex18
  refine r_aload_n (pc := 1081) C dL_law_1081 0 rfl ?_
  refine r_iload (pc := 1082) C dL_law_1082 4 rfl ?_
  refine r_iconst (pc := 1084) C (v := (2 : Int32)) dL_law_1084 (by decide) ?_
  refine r_iadd (pc := 1085) C dL_law_1085 ?_
  refine r_topi (fun x19 ex19 => ?_)
  have h := h x19 ex19
  obtain ⟨i20, h⟩ := h
  refine r_scLd (pc := 1086) C E i20 dL_law_1086 ?_
  refine r_topi (fun x21 ex21 => ?_)
  have h := h x21 ex21
  refine r_aload_n (pc := 1087) C dL_law_1087 0 rfl ?_
  refine r_iload (pc := 1088) C dL_law_1088 4 rfl ?_
  refine r_iconst (pc := 1090) C (v := (3 : Int32)) dL_law_1090 (by decide) ?_
  refine r_iadd (pc := 1091) C dL_law_1091 ?_
  refine r_topi (fun x22 ex22 => ?_)
  have h := h x22 ex22
  obtain ⟨i23, h⟩ := h
  refine r_scLd (pc := 1092) C E i23 dL_law_1092 ?_
  refine r_topi (fun x24 ex24 => ?_)
  have h := h x24 ex24
  refine r_aload_n (pc := 1093) C dL_law_1093 0 rfl ?_
  refine r_iload (pc := 1094) C dL_law_1094 4 rfl ?_
  refine r_iconst (pc := 1096) C (v := (4 : Int32)) dL_law_1096 (by decide) ?_
  refine r_iadd (pc := 1097) C dL_law_1097 ?_
  refine r_topi (fun x25 ex25 => ?_)
  have h := h x25 ex25
  obtain ⟨i26, h⟩ := h
  refine r_scLd (pc := 1098) C E i26 dL_law_1098 ?_
  refine r_topi (fun x27 ex27 => ?_)
  have h := h x27 ex27
  obtain ⟨o_v2, h⟩ := h
  obtain ⟨hk, hk2, h⟩ := h
  refine r_callVi0 (pc := 1099) C (rest := []) (a := v2) o_v2 [.int x18, .int x21, .int x24, .int x27] yV_X11_even g_1639 (c_X11_even h) dL_law_1099 rfl rfl (Nat.le_of_ble_eq_true rfl) ⟨by decide, by decide⟩ ⟨hk, hk2⟩ ⟨rfl, rfl⟩ (fun x30 S28 h g29 => ?_)
  have h := h g29
  have o_v1 := gr_ob g29 o_v1
  have o_v2 := gr_ob g29 o_v2
  refine r_pop (pc := 1102) C dL_law_1102 rfl ?_
  refine r_goto (pc := 1103) C (tgt := 2341) dL_law_1103 (by decide) ?_
  exact r_sub [0, 1, 2, 3, 4] rfl (T_L_law_2341 C E ht hn hX23 h)
def P_L_law_1176 (scL : Nat) (scx : Nat → Int32) (Q : Int32 → HS → Prop) (X23 : Nat → Nat → Nat → Int32 → Nat → Nat → HS → Prop) (v1 : Nat) (v2 : Nat) (v3 : Nat) (v4 : Int32) (s0 : Nat) (s1 : Int32) (s2 : Int32) (s3 : Int32) (s4 : Int32) (kk : Nat) (nn : Nat) (S : HS) : Prop := ob S s0 11 ∧ (kk ≤ rm_L_law.cells ∧ nn ≤ rm_L_law.slots ∧ (P_X11_round s0 s1 s2 s3 s4 (fun x3 S1 => Gr S S1 → (P_L_law_2341 scL scx Q X23 v1 v2 v3 v4 kk nn S1)) S))
set_option maxRecDepth 20000 in
set_option maxHeartbeats 4000000 in
theorem T_L_law_1176 {X : CX} {Q : Int32 → HS → Prop} {scb scL : Nat} {scx : Nat → Int32} (C : Cx X cL_law RL 7 rm_L_law) (E : LE X scb scL scx Q) (ht : LD X) (hn : True) {X23 : Nat → Nat → Nat → Int32 → Nat → Nat → HS → Prop} (hX23 : ∀ (v1 : Nat) (v2 : Nat) (v3 : Nat) (v4 : Int32) (kk : Nat) (nn : Nat) (S : HS), X23 v1 v2 v3 v4 kk nn S → WS X 7 kk nn 23 [(0, .ref scb), (1, .ref v1), (2, .ref v2), (3, .ref v3), (4, .int v4)] [] S) {v1 : Nat} {v2 : Nat} {v3 : Nat} {v4 : Int32} {s0 : Nat} {s1 : Int32} {s2 : Int32} {s3 : Int32} {s4 : Int32} {kk : Nat} {nn : Nat} {S : HS} (h : P_L_law_1176 scL scx Q X23 v1 v2 v3 v4 s0 s1 s2 s3 s4 kk nn S) : WS X 7 kk nn 1176 [(0, .ref scb), (1, .ref v1), (2, .ref v2), (3, .ref v3), (4, .int v4)] [.int s4, .int s3, .int s2, .int s1, .ref s0] S := by
  obtain ⟨o_s0, h⟩ := h
  obtain ⟨hk, hk2, h⟩ := h
  refine r_callVl0 (pc := 1176) C (rest := []) (a := s0) o_s0 [.int s1, .int s2, .int s3, .int s4] yV_X11_round g_1643 (c_X11_round h) dL_law_1176 rfl rfl (Nat.le_of_ble_eq_true rfl) ⟨by decide, by decide⟩ ⟨hk, hk2⟩ ⟨rfl, rfl⟩ (fun x3 S1 h g2 => ?_)
  have h := h g2
  have o_s0 := gr_ob g2 o_s0
  refine r_pop2 (pc := 1179) C dL_law_1179 rfl ?_
  refine r_goto (pc := 1180) C (tgt := 2341) dL_law_1180 (by decide) ?_
  exact r_sub [0, 1, 2, 3, 4] rfl (T_L_law_2341 C E ht hn hX23 h)
def P_L_law_1139 (scL : Nat) (scx : Nat → Int32) (Q : Int32 → HS → Prop) (X23 : Nat → Nat → Nat → Int32 → Nat → Nat → HS → Prop) (v1 : Nat) (v2 : Nat) (v3 : Nat) (v4 : Int32) (s0 : Nat) (s1 : Int32) (s2 : Int32) (s3 : Int32) (s4 : Int32) (kk : Nat) (nn : Nat) (S : HS) : Prop := ob S s0 9 ∧ (kk ≤ rm_L_law.cells ∧ nn ≤ rm_L_law.slots ∧ (P_X9_round s0 s1 s2 s3 s4 (fun x3 S1 => Gr S S1 → (∀ x4 : Int32, x4 = v4 + (1 : Int32) → (vp_in x4 scL ∧ ∀ x6 : Int32, x6 = scx x4.toNatClampNeg → (∀ x7 : Int32, x7 = v4 + (2 : Int32) → (vp_in x7 scL ∧ ∀ x9 : Int32, x9 = scx x7.toNatClampNeg → (∀ x10 : Int32, x10 = v4 + (3 : Int32) → (vp_in x10 scL ∧ ∀ x12 : Int32, x12 = scx x10.toNatClampNeg → (∀ x13 : Int32, x13 = v4 + (4 : Int32) → (vp_in x13 scL ∧ ∀ x15 : Int32, x15 = scx x13.toNatClampNeg → (((x15 = 0) → (P_L_law_1176 scL scx Q X23 v1 v2 v3 v4 v2 x6 x9 x12 (0 : Int32) kk nn S1)) ∧ ((¬ x15 = 0) → (P_L_law_1176 scL scx Q X23 v1 v2 v3 v4 v2 x6 x9 x12 (1 : Int32) kk nn S1)))))))))))) S))
set_option maxRecDepth 20000 in
set_option maxHeartbeats 4000000 in
theorem T_L_law_1139 {X : CX} {Q : Int32 → HS → Prop} {scb scL : Nat} {scx : Nat → Int32} (C : Cx X cL_law RL 7 rm_L_law) (E : LE X scb scL scx Q) (ht : LD X) (hn : True) {X23 : Nat → Nat → Nat → Int32 → Nat → Nat → HS → Prop} (hX23 : ∀ (v1 : Nat) (v2 : Nat) (v3 : Nat) (v4 : Int32) (kk : Nat) (nn : Nat) (S : HS), X23 v1 v2 v3 v4 kk nn S → WS X 7 kk nn 23 [(0, .ref scb), (1, .ref v1), (2, .ref v2), (3, .ref v3), (4, .int v4)] [] S) {v1 : Nat} {v2 : Nat} {v3 : Nat} {v4 : Int32} {s0 : Nat} {s1 : Int32} {s2 : Int32} {s3 : Int32} {s4 : Int32} {kk : Nat} {nn : Nat} {S : HS} (h : P_L_law_1139 scL scx Q X23 v1 v2 v3 v4 s0 s1 s2 s3 s4 kk nn S) : WS X 7 kk nn 1139 [(0, .ref scb), (1, .ref v1), (2, .ref v2), (3, .ref v3), (4, .int v4)] [.int s4, .int s3, .int s2, .int s1, .ref s0] S := by
  obtain ⟨o_s0, h⟩ := h
  obtain ⟨hk, hk2, h⟩ := h
  refine r_callVl0 (pc := 1139) C (rest := []) (a := s0) o_s0 [.int s1, .int s2, .int s3, .int s4] yV_X9_round g_788 (c_X9_round h) dL_law_1139 rfl rfl (Nat.le_of_ble_eq_true rfl) ⟨by decide, by decide⟩ ⟨hk, hk2⟩ ⟨rfl, rfl⟩ (fun x3 S1 h g2 => ?_)
  have h := h g2
  have o_s0 := gr_ob g2 o_s0
  refine r_pop2 (pc := 1142) C dL_law_1142 rfl ?_
  refine r_aload_n (pc := 1143) C dL_law_1143 2 rfl ?_
  refine r_aload_n (pc := 1144) C dL_law_1144 0 rfl ?_
  refine r_iload (pc := 1145) C dL_law_1145 4 rfl ?_
  refine r_iconst (pc := 1147) C (v := (1 : Int32)) dL_law_1147 (by decide) ?_
  refine r_iadd (pc := 1148) C dL_law_1148 ?_
  refine r_topi (fun x4 ex4 => ?_)
  have h := h x4 ex4
  obtain ⟨i5, h⟩ := h
  refine r_scLd (pc := 1149) C E i5 dL_law_1149 ?_
  refine r_topi (fun x6 ex6 => ?_)
  have h := h x6 ex6
  refine r_aload_n (pc := 1150) C dL_law_1150 0 rfl ?_
  refine r_iload (pc := 1151) C dL_law_1151 4 rfl ?_
  refine r_iconst (pc := 1153) C (v := (2 : Int32)) dL_law_1153 (by decide) ?_
  refine r_iadd (pc := 1154) C dL_law_1154 ?_
  refine r_topi (fun x7 ex7 => ?_)
  have h := h x7 ex7
  obtain ⟨i8, h⟩ := h
  refine r_scLd (pc := 1155) C E i8 dL_law_1155 ?_
  refine r_topi (fun x9 ex9 => ?_)
  have h := h x9 ex9
  refine r_aload_n (pc := 1156) C dL_law_1156 0 rfl ?_
  refine r_iload (pc := 1157) C dL_law_1157 4 rfl ?_
  refine r_iconst (pc := 1159) C (v := (3 : Int32)) dL_law_1159 (by decide) ?_
  refine r_iadd (pc := 1160) C dL_law_1160 ?_
  refine r_topi (fun x10 ex10 => ?_)
  have h := h x10 ex10
  obtain ⟨i11, h⟩ := h
  refine r_scLd (pc := 1161) C E i11 dL_law_1161 ?_
  refine r_topi (fun x12 ex12 => ?_)
  have h := h x12 ex12
  refine r_aload_n (pc := 1162) C dL_law_1162 0 rfl ?_
  refine r_iload (pc := 1163) C dL_law_1163 4 rfl ?_
  refine r_iconst (pc := 1165) C (v := (4 : Int32)) dL_law_1165 (by decide) ?_
  refine r_iadd (pc := 1166) C dL_law_1166 ?_
  refine r_topi (fun x13 ex13 => ?_)
  have h := h x13 ex13
  obtain ⟨i14, h⟩ := h
  refine r_scLd (pc := 1167) C E i14 dL_law_1167 ?_
  refine r_topi (fun x15 ex15 => ?_)
  have h := h x15 ex15
  refine r_if_eq (pc := 1168) C (tgt := 1175) dL_law_1168 (by decide) (fun c16 => ?_) (fun c16 => ?_)
  · have h := h.1 c16
    refine r_iconst (pc := 1175) C (v := (0 : Int32)) dL_law_1175 (by decide) ?_
    exact r_sub [0, 1, 2, 3, 4] rfl (T_L_law_1176 C E ht hn hX23 h)
  · have h := h.2 c16
    refine r_iconst (pc := 1171) C (v := (1 : Int32)) dL_law_1171 (by decide) ?_
    refine r_goto (pc := 1172) C (tgt := 1176) dL_law_1172 (by decide) ?_
    exact r_sub [0, 1, 2, 3, 4] rfl (T_L_law_1176 C E ht hn hX23 h)
def P_L_law_1106 (scL : Nat) (scx : Nat → Int32) (Q : Int32 → HS → Prop) (X23 : Nat → Nat → Nat → Int32 → Nat → Nat → HS → Prop) (v1 : Nat) (v2 : Nat) (v3 : Nat) (v4 : Int32) (kk : Nat) (nn : Nat) (S : HS) : Prop := ∀ x1 : Int32, x1 = v4 + (1 : Int32) → (vp_in x1 scL ∧ ∀ x3 : Int32, x3 = scx x1.toNatClampNeg → (∀ x4 : Int32, x4 = v4 + (2 : Int32) → (vp_in x4 scL ∧ ∀ x6 : Int32, x6 = scx x4.toNatClampNeg → (∀ x7 : Int32, x7 = v4 + (3 : Int32) → (vp_in x7 scL ∧ ∀ x9 : Int32, x9 = scx x7.toNatClampNeg → (∀ x10 : Int32, x10 = v4 + (4 : Int32) → (vp_in x10 scL ∧ ∀ x12 : Int32, x12 = scx x10.toNatClampNeg → (((x12 = 0) → (P_L_law_1139 scL scx Q X23 v1 v2 v3 v4 v1 x3 x6 x9 (0 : Int32) kk nn S)) ∧ ((¬ x12 = 0) → (P_L_law_1139 scL scx Q X23 v1 v2 v3 v4 v1 x3 x6 x9 (1 : Int32) kk nn S))))))))))
set_option maxRecDepth 20000 in
set_option maxHeartbeats 4000000 in
theorem T_L_law_1106 {X : CX} {Q : Int32 → HS → Prop} {scb scL : Nat} {scx : Nat → Int32} (C : Cx X cL_law RL 7 rm_L_law) (E : LE X scb scL scx Q) (ht : LD X) (hn : True) {X23 : Nat → Nat → Nat → Int32 → Nat → Nat → HS → Prop} (hX23 : ∀ (v1 : Nat) (v2 : Nat) (v3 : Nat) (v4 : Int32) (kk : Nat) (nn : Nat) (S : HS), X23 v1 v2 v3 v4 kk nn S → WS X 7 kk nn 23 [(0, .ref scb), (1, .ref v1), (2, .ref v2), (3, .ref v3), (4, .int v4)] [] S) {v1 : Nat} {v2 : Nat} {v3 : Nat} {v4 : Int32} {kk : Nat} {nn : Nat} {S : HS} (h : P_L_law_1106 scL scx Q X23 v1 v2 v3 v4 kk nn S) : WS X 7 kk nn 1106 [(0, .ref scb), (1, .ref v1), (2, .ref v2), (3, .ref v3), (4, .int v4)] [] S := by
  refine r_aload_n (pc := 1106) C dL_law_1106 1 rfl ?_
  refine r_aload_n (pc := 1107) C dL_law_1107 0 rfl ?_
  refine r_iload (pc := 1108) C dL_law_1108 4 rfl ?_
  refine r_iconst (pc := 1110) C (v := (1 : Int32)) dL_law_1110 (by decide) ?_
  refine r_iadd (pc := 1111) C dL_law_1111 ?_
  refine r_topi (fun x1 ex1 => ?_)
  have h := h x1 ex1
  obtain ⟨i2, h⟩ := h
  refine r_scLd (pc := 1112) C E i2 dL_law_1112 ?_
  refine r_topi (fun x3 ex3 => ?_)
  have h := h x3 ex3
  refine r_aload_n (pc := 1113) C dL_law_1113 0 rfl ?_
  refine r_iload (pc := 1114) C dL_law_1114 4 rfl ?_
  refine r_iconst (pc := 1116) C (v := (2 : Int32)) dL_law_1116 (by decide) ?_
  refine r_iadd (pc := 1117) C dL_law_1117 ?_
  refine r_topi (fun x4 ex4 => ?_)
  have h := h x4 ex4
  obtain ⟨i5, h⟩ := h
  refine r_scLd (pc := 1118) C E i5 dL_law_1118 ?_
  refine r_topi (fun x6 ex6 => ?_)
  have h := h x6 ex6
  refine r_aload_n (pc := 1119) C dL_law_1119 0 rfl ?_
  refine r_iload (pc := 1120) C dL_law_1120 4 rfl ?_
  refine r_iconst (pc := 1122) C (v := (3 : Int32)) dL_law_1122 (by decide) ?_
  refine r_iadd (pc := 1123) C dL_law_1123 ?_
  refine r_topi (fun x7 ex7 => ?_)
  have h := h x7 ex7
  obtain ⟨i8, h⟩ := h
  refine r_scLd (pc := 1124) C E i8 dL_law_1124 ?_
  refine r_topi (fun x9 ex9 => ?_)
  have h := h x9 ex9
  refine r_aload_n (pc := 1125) C dL_law_1125 0 rfl ?_
  refine r_iload (pc := 1126) C dL_law_1126 4 rfl ?_
  refine r_iconst (pc := 1128) C (v := (4 : Int32)) dL_law_1128 (by decide) ?_
  refine r_iadd (pc := 1129) C dL_law_1129 ?_
  refine r_topi (fun x10 ex10 => ?_)
  have h := h x10 ex10
  obtain ⟨i11, h⟩ := h
  refine r_scLd (pc := 1130) C E i11 dL_law_1130 ?_
  refine r_topi (fun x12 ex12 => ?_)
  have h := h x12 ex12
  refine r_if_eq (pc := 1131) C (tgt := 1138) dL_law_1131 (by decide) (fun c13 => ?_) (fun c13 => ?_)
  · have h := h.1 c13
    refine r_iconst (pc := 1138) C (v := (0 : Int32)) dL_law_1138 (by decide) ?_
    exact r_sub [0, 1, 2, 3, 4] rfl (T_L_law_1139 C E ht hn hX23 h)
  · have h := h.2 c13
    refine r_iconst (pc := 1134) C (v := (1 : Int32)) dL_law_1134 (by decide) ?_
    refine r_goto (pc := 1135) C (tgt := 1139) dL_law_1135 (by decide) ?_
    exact r_sub [0, 1, 2, 3, 4] rfl (T_L_law_1139 C E ht hn hX23 h)
def P_L_law_1183 (scL : Nat) (scx : Nat → Int32) (Q : Int32 → HS → Prop) (X23 : Nat → Nat → Nat → Int32 → Nat → Nat → HS → Prop) (v1 : Nat) (v2 : Nat) (v3 : Nat) (v4 : Int32) (kk : Nat) (nn : Nat) (S : HS) : Prop := ∀ x1 : Int32, x1 = v4 + (1 : Int32) → (vp_in x1 scL ∧ ∀ x3 : Int32, x3 = scx x1.toNatClampNeg → (∀ x4 : Int32, x4 = v4 + (2 : Int32) → (vp_in x4 scL ∧ ∀ x6 : Int32, x6 = scx x4.toNatClampNeg → (∀ x7 : Int32, x7 = v4 + (3 : Int32) → (vp_in x7 scL ∧ ∀ x9 : Int32, x9 = scx x7.toNatClampNeg → (ob S v1 9 ∧ (kk ≤ rm_L_law.cells ∧ nn ≤ rm_L_law.slots ∧ (P_X9_driest v1 x3 x6 x9 (fun x12 S10 => Gr S S10 → (∀ x13 : Int32, x13 = v4 + (1 : Int32) → (vp_in x13 scL ∧ ∀ x15 : Int32, x15 = scx x13.toNatClampNeg → (∀ x16 : Int32, x16 = v4 + (2 : Int32) → (vp_in x16 scL ∧ ∀ x18 : Int32, x18 = scx x16.toNatClampNeg → (∀ x19 : Int32, x19 = v4 + (3 : Int32) → (vp_in x19 scL ∧ ∀ x21 : Int32, x21 = scx x19.toNatClampNeg → (ob S10 v2 11 ∧ (kk ≤ rm_L_law.cells ∧ nn ≤ rm_L_law.slots ∧ (P_X11_driest v2 x15 x18 x21 (fun x24 S22 => Gr S10 S22 → (P_L_law_2341 scL scx Q X23 v1 v2 v3 v4 kk nn S22)) S10)))))))))) S))))))))
set_option maxRecDepth 20000 in
set_option maxHeartbeats 4000000 in
theorem T_L_law_1183 {X : CX} {Q : Int32 → HS → Prop} {scb scL : Nat} {scx : Nat → Int32} (C : Cx X cL_law RL 7 rm_L_law) (E : LE X scb scL scx Q) (ht : LD X) (hn : True) {X23 : Nat → Nat → Nat → Int32 → Nat → Nat → HS → Prop} (hX23 : ∀ (v1 : Nat) (v2 : Nat) (v3 : Nat) (v4 : Int32) (kk : Nat) (nn : Nat) (S : HS), X23 v1 v2 v3 v4 kk nn S → WS X 7 kk nn 23 [(0, .ref scb), (1, .ref v1), (2, .ref v2), (3, .ref v3), (4, .int v4)] [] S) {v1 : Nat} {v2 : Nat} {v3 : Nat} {v4 : Int32} {kk : Nat} {nn : Nat} {S : HS} (h : P_L_law_1183 scL scx Q X23 v1 v2 v3 v4 kk nn S) : WS X 7 kk nn 1183 [(0, .ref scb), (1, .ref v1), (2, .ref v2), (3, .ref v3), (4, .int v4)] [] S := by
  refine r_aload_n (pc := 1183) C dL_law_1183 1 rfl ?_
  refine r_aload_n (pc := 1184) C dL_law_1184 0 rfl ?_
  refine r_iload (pc := 1185) C dL_law_1185 4 rfl ?_
  refine r_iconst (pc := 1187) C (v := (1 : Int32)) dL_law_1187 (by decide) ?_
  refine r_iadd (pc := 1188) C dL_law_1188 ?_
  refine r_topi (fun x1 ex1 => ?_)
  have h := h x1 ex1
  obtain ⟨i2, h⟩ := h
  refine r_scLd (pc := 1189) C E i2 dL_law_1189 ?_
  refine r_topi (fun x3 ex3 => ?_)
  have h := h x3 ex3
  refine r_aload_n (pc := 1190) C dL_law_1190 0 rfl ?_
  refine r_iload (pc := 1191) C dL_law_1191 4 rfl ?_
  refine r_iconst (pc := 1193) C (v := (2 : Int32)) dL_law_1193 (by decide) ?_
  refine r_iadd (pc := 1194) C dL_law_1194 ?_
  refine r_topi (fun x4 ex4 => ?_)
  have h := h x4 ex4
  obtain ⟨i5, h⟩ := h
  refine r_scLd (pc := 1195) C E i5 dL_law_1195 ?_
  refine r_topi (fun x6 ex6 => ?_)
  have h := h x6 ex6
  refine r_aload_n (pc := 1196) C dL_law_1196 0 rfl ?_
  refine r_iload (pc := 1197) C dL_law_1197 4 rfl ?_
  refine r_iconst (pc := 1199) C (v := (3 : Int32)) dL_law_1199 (by decide) ?_
  refine r_iadd (pc := 1200) C dL_law_1200 ?_
  refine r_topi (fun x7 ex7 => ?_)
  have h := h x7 ex7
  obtain ⟨i8, h⟩ := h
  refine r_scLd (pc := 1201) C E i8 dL_law_1201 ?_
  refine r_topi (fun x9 ex9 => ?_)
  have h := h x9 ex9
  obtain ⟨o_v1, h⟩ := h
  obtain ⟨hk, hk2, h⟩ := h
  refine r_callVi0 (pc := 1202) C (rest := []) (a := v1) o_v1 [.int x3, .int x6, .int x9] yV_X9_driest g_792 (c_X9_driest h) dL_law_1202 rfl rfl (Nat.le_of_ble_eq_true rfl) ⟨by decide, by decide⟩ ⟨hk, hk2⟩ ⟨rfl, rfl⟩ (fun x12 S10 h g11 => ?_)
  have h := h g11
  have o_v1 := gr_ob g11 o_v1
  refine r_pop (pc := 1205) C dL_law_1205 rfl ?_
  refine r_aload_n (pc := 1206) C dL_law_1206 2 rfl ?_
  refine r_aload_n (pc := 1207) C dL_law_1207 0 rfl ?_
  refine r_iload (pc := 1208) C dL_law_1208 4 rfl ?_
  refine r_iconst (pc := 1210) C (v := (1 : Int32)) dL_law_1210 (by decide) ?_
  refine r_iadd (pc := 1211) C dL_law_1211 ?_
  refine r_topi (fun x13 ex13 => ?_)
  have h := h x13 ex13
  obtain ⟨i14, h⟩ := h
  refine r_scLd (pc := 1212) C E i14 dL_law_1212 ?_
  refine r_topi (fun x15 ex15 => ?_)
  have h := h x15 ex15
  refine r_aload_n (pc := 1213) C dL_law_1213 0 rfl ?_
  refine r_iload (pc := 1214) C dL_law_1214 4 rfl ?_
  refine r_iconst (pc := 1216) C (v := (2 : Int32)) dL_law_1216 (by decide) ?_
  refine r_iadd (pc := 1217) C dL_law_1217 ?_
  refine r_topi (fun x16 ex16 => ?_)
  have h := h x16 ex16
  obtain ⟨i17, h⟩ := h
  refine r_scLd (pc := 1218) C E i17 dL_law_1218 ?_
  refine r_topi (fun x18 ex18 => ?_)
  have h := h x18 ex18
  refine r_aload_n (pc := 1219) C dL_law_1219 0 rfl ?_
  refine r_iload (pc := 1220) C dL_law_1220 4 rfl ?_
  refine r_iconst (pc := 1222) C (v := (3 : Int32)) dL_law_1222 (by decide) ?_
  refine r_iadd (pc := 1223) C dL_law_1223 ?_
  refine r_topi (fun x19 ex19 => ?_)
  have h := h x19 ex19
  obtain ⟨i20, h⟩ := h
  refine r_scLd (pc := 1224) C E i20 dL_law_1224 ?_
  refine r_topi (fun x21 ex21 => ?_)
  have h := h x21 ex21
  obtain ⟨o_v2, h⟩ := h
  obtain ⟨hk, hk2, h⟩ := h
  refine r_callVi0 (pc := 1225) C (rest := []) (a := v2) o_v2 [.int x15, .int x18, .int x21] yV_X11_driest g_1651 (c_X11_driest h) dL_law_1225 rfl rfl (Nat.le_of_ble_eq_true rfl) ⟨by decide, by decide⟩ ⟨hk, hk2⟩ ⟨rfl, rfl⟩ (fun x24 S22 h g23 => ?_)
  have h := h g23
  have o_v1 := gr_ob g23 o_v1
  have o_v2 := gr_ob g23 o_v2
  refine r_pop (pc := 1228) C dL_law_1228 rfl ?_
  refine r_goto (pc := 1229) C (tgt := 2341) dL_law_1229 (by decide) ?_
  exact r_sub [0, 1, 2, 3, 4] rfl (T_L_law_2341 C E ht hn hX23 h)
def P_L_law_1342 (scL : Nat) (scx : Nat → Int32) (Q : Int32 → HS → Prop) (X23 : Nat → Nat → Nat → Int32 → Nat → Nat → HS → Prop) (v1 : Nat) (v2 : Nat) (v3 : Nat) (v4 : Int32) (s0 : Nat) (s1 : Int32) (s2 : Int32) (s3 : Int32) (s4 : Int32) (s5 : Int32) (s6 : Int32) (s7 : Int32) (kk : Nat) (nn : Nat) (S : HS) : Prop := ob S s0 11 ∧ (kk ≤ rm_L_law.cells ∧ nn ≤ rm_L_law.slots ∧ (P_X11_lee s0 s1 s2 s3 s4 s5 s6 s7 (fun x3 S1 => Gr S S1 → (P_L_law_2341 scL scx Q X23 v1 v2 v3 v4 kk nn S1)) S))
set_option maxRecDepth 20000 in
set_option maxHeartbeats 4000000 in
theorem T_L_law_1342 {X : CX} {Q : Int32 → HS → Prop} {scb scL : Nat} {scx : Nat → Int32} (C : Cx X cL_law RL 7 rm_L_law) (E : LE X scb scL scx Q) (ht : LD X) (hn : True) {X23 : Nat → Nat → Nat → Int32 → Nat → Nat → HS → Prop} (hX23 : ∀ (v1 : Nat) (v2 : Nat) (v3 : Nat) (v4 : Int32) (kk : Nat) (nn : Nat) (S : HS), X23 v1 v2 v3 v4 kk nn S → WS X 7 kk nn 23 [(0, .ref scb), (1, .ref v1), (2, .ref v2), (3, .ref v3), (4, .int v4)] [] S) {v1 : Nat} {v2 : Nat} {v3 : Nat} {v4 : Int32} {s0 : Nat} {s1 : Int32} {s2 : Int32} {s3 : Int32} {s4 : Int32} {s5 : Int32} {s6 : Int32} {s7 : Int32} {kk : Nat} {nn : Nat} {S : HS} (h : P_L_law_1342 scL scx Q X23 v1 v2 v3 v4 s0 s1 s2 s3 s4 s5 s6 s7 kk nn S) : WS X 7 kk nn 1342 [(0, .ref scb), (1, .ref v1), (2, .ref v2), (3, .ref v3), (4, .int v4)] [.int s7, .int s6, .int s5, .int s4, .int s3, .int s2, .int s1, .ref s0] S := by
  obtain ⟨o_s0, h⟩ := h
  obtain ⟨hk, hk2, h⟩ := h
  refine r_callVl0 (pc := 1342) C (rest := []) (a := s0) o_s0 [.int s1, .int s2, .int s3, .int s4, .int s5, .int s6, .int s7] yV_X11_lee g_1655 (c_X11_lee h) dL_law_1342 rfl rfl (Nat.le_of_ble_eq_true rfl) ⟨by decide, by decide⟩ ⟨hk, hk2⟩ ⟨rfl, rfl⟩ (fun x3 S1 h g2 => ?_)
  have h := h g2
  have o_s0 := gr_ob g2 o_s0
  refine r_pop2 (pc := 1345) C dL_law_1345 rfl ?_
  refine r_goto (pc := 1346) C (tgt := 2341) dL_law_1346 (by decide) ?_
  exact r_sub [0, 1, 2, 3, 4] rfl (T_L_law_2341 C E ht hn hX23 h)
