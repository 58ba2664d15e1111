def rm_X9_first : Room := { frames := 4, cells := 0, slots := 0, locals := 99 }
def P_X9_first_0 (Q : Int32 → HS → Prop) (v0 : Nat) (v1 : Int32) (v2 : Int32) (v3 : Int32) (v4 : Int32) (v5 : Int32) (v6 : Int32) (S : HS) : Prop := ob S v0 9 ∧ (P_X9_leeTrouble v0 v1 v2 v3 v4 v5 v6 (fun x3 S1 => Gr S S1 → (P_X9_refusedBy v0 x3 (fun x6 S4 => Gr S1 S4 → bl x6 → (((x6 = 0) → (∃ a8 : Nat, fR S4 v0 4 = some a8 ∧ (∃ a9 : Nat, fR S4 v0 2 = some a9 ∧ (ob S4 a9 8 ∧ (∃ a10 : Nat, fR S4 a9 8 = some a10 ∧ (ob S4 a10 18 ∧ (vp_in v3 (hN S4 a10) ∧ ∃ a12 : Nat, fR S4 a10 v3.toNatClampNeg = some a12 ∧ (∃ a13 : Nat, fR S4 v0 2 = some a13 ∧ (ob S4 a13 8 ∧ (∃ a14 : Nat, fR S4 a13 6 = some a14 ∧ (ob S4 a14 17 ∧ (vp_in v5 (hN S4 a14) ∧ ∃ a16 : Nat, fR S4 a14 v5.toNatClampNeg = some a16 ∧ (ob S4 a8 1 ∧ (P_X1_lay a8 a12 v4 a16 v6 (fun S17 => Gr S4 S17 → (∃ a20 : Nat, fR S17 v0 4 = some a20 ∧ (∃ a21 : Nat, fR S17 v0 2 = some a21 ∧ (ob S17 a21 8 ∧ (∃ a22 : Nat, fR S17 a21 9 = some a22 ∧ (ob S17 a22 19 ∧ (vp_in v1 (hN S17 a22) ∧ ∃ a24 : Nat, fR S17 a22 v1.toNatClampNeg = some a24 ∧ (∃ a25 : Nat, fR S17 v0 2 = some a25 ∧ (ob S17 a25 8 ∧ (∃ a26 : Nat, fR S17 a25 9 = some a26 ∧ (ob S17 a26 19 ∧ (vp_in v2 (hN S17 a26) ∧ ∃ a28 : Nat, fR S17 a26 v2.toNatClampNeg = some a28 ∧ (ob S17 a20 1 ∧ (P_X1_wetInLee a20 a24 a28 (fun x31 S29 => Gr S17 S29 → (∃ a32 : Nat, fR S29 v0 4 = some a32 ∧ (∃ a33 : Nat, fR S29 v0 2 = some a33 ∧ (ob S29 a33 8 ∧ (∃ a34 : Nat, fR S29 a33 9 = some a34 ∧ (ob S29 a34 19 ∧ (vp_in v2 (hN S29 a34) ∧ ∃ a36 : Nat, fR S29 a34 v2.toNatClampNeg = some a36 ∧ (∃ a37 : Nat, fR S29 v0 2 = some a37 ∧ (ob S29 a37 8 ∧ (∃ a38 : Nat, fR S29 a37 9 = some a38 ∧ (ob S29 a38 19 ∧ (vp_in v1 (hN S29 a38) ∧ ∃ a40 : Nat, fR S29 a38 v1.toNatClampNeg = some a40 ∧ (ob S29 a32 1 ∧ (P_X1_wetInLee a32 a36 a40 (fun x43 S41 => Gr S29 S41 → (((¬ (lg_cmp x31 x43) = 0) → (((0 ≤ (lg_cmp x31 x43)) → (Q (1 : Int32) S41)) ∧ ((¬ 0 ≤ (lg_cmp x31 x43)) → (Q (0 : Int32) S41)))) ∧ (((lg_cmp x31 x43) = 0) → (Q (-2 : Int32) S41)))) S29)))))))))))))) S17)))))))))))))) S4)))))))))))))) ∧ ((¬ x6 = 0) → (Q (-1 : Int32) S4)))) S1)) S)
set_option maxRecDepth 20000 in
set_option maxHeartbeats 4000000 in
theorem T_X9_first_0 {X : CX} {Q : Int32 → HS → Prop} (C : Cx X cX9_first RX9 11 rm_X9_first) (E : ReI X rm_X9_first Q) (ht : (xh X).sig.returnType = (some .int)) (hn : (xh X).name = yX9_first.name) {v0 : Nat} {v1 : Int32} {v2 : Int32} {v3 : Int32} {v4 : Int32} {v5 : Int32} {v6 : Int32} {S : HS} (h : P_X9_first_0 Q v0 v1 v2 v3 v4 v5 v6 S) : WS X 11 0 0 0 [(0, .ref v0), (1, .int v1), (2, .int v2), (3, .int v3), (4, .int v4), (5, .int v5), (6, .int v6)] [] S := by
  refine r_aload_n (pc := 0) C dX9_first_0 0 rfl ?_
  refine r_aload_n (pc := 1) C dX9_first_1 0 rfl ?_
  refine r_iload_n (pc := 2) C dX9_first_2 1 rfl ?_
  refine r_iload_n (pc := 3) C dX9_first_3 2 rfl ?_
  refine r_iload_n (pc := 4) C dX9_first_4 3 rfl ?_
  refine r_iload (pc := 5) C dX9_first_5 4 rfl ?_
  refine r_iload (pc := 7) C dX9_first_7 5 rfl ?_
  refine r_iload (pc := 9) C dX9_first_9 6 rfl ?_
  obtain ⟨o_v0, h⟩ := h
  refine r_callVi0 (pc := 11) C (rest := [.ref v0]) (a := v0) o_v0 [.int v1, .int v2, .int v3, .int v4, .int v5, .int v6] yV_X9_leeTrouble g_801 (c_X9_leeTrouble h) dX9_first_11 rfl rfl (Nat.le_of_ble_eq_true rfl) ⟨by decide, by decide⟩ ⟨by decide, by decide⟩ ⟨rfl, rfl⟩ (fun x3 S1 h g2 => ?_)
  have h := h g2
  have o_v0 := gr_ob g2 o_v0
  refine r_callVi0 (pc := 14) C (rest := []) (a := v0) o_v0 [.int x3] yV_X9_refusedBy g_683 (c_X9_refusedBy h) dX9_first_14 rfl rfl (Nat.le_of_ble_eq_true rfl) ⟨by decide, by decide⟩ ⟨by decide, by decide⟩ ⟨rfl, rfl⟩ (fun x6 S4 h g5 => ?_)
  have bx6 := h.1
  have h := h.2 g5 bx6
  have o_v0 := gr_ob g5 o_v0
  refine r_if_eq (pc := 17) C (tgt := 22) dX9_first_17 (by decide) (fun c7 => ?_) (fun c7 => ?_)
  · have h := h.1 c7
    refine r_aload_n (pc := 22) C dX9_first_22 0 rfl ?_
    obtain ⟨a8, ea8, h⟩ := h
    refine r_getr (pc := 23) C fL_X9_30 dX9_first_23 o_v0 ea8 ?_
    refine r_aload_n (pc := 26) C dX9_first_26 0 rfl ?_
    obtain ⟨a9, ea9, h⟩ := h
    refine r_getr (pc := 27) C fL_X9_16 dX9_first_27 o_v0 ea9 ?_
    obtain ⟨o_a9, h⟩ := h
    obtain ⟨a10, ea10, h⟩ := h
    refine r_getr (pc := 30) C fL_X9_112 dX9_first_30 o_a9 ea10 ?_
    refine r_iload_n (pc := 33) C dX9_first_33 3 rfl ?_
    obtain ⟨o_a10, h⟩ := h
    obtain ⟨i11, a12, ea12, h⟩ := h
    refine r_aald18 (pc := 34) C dX9_first_34 o_a10 i11 ea12 ?_
    refine r_iload (pc := 35) C dX9_first_35 4 rfl ?_
    refine r_aload_n (pc := 37) C dX9_first_37 0 rfl ?_
    obtain ⟨a13, ea13, h⟩ := h
    refine r_getr (pc := 38) C fL_X9_16 dX9_first_38 o_v0 ea13 ?_
    obtain ⟨o_a13, h⟩ := h
    obtain ⟨a14, ea14, h⟩ := h
    refine r_getr (pc := 41) C fL_X9_116 dX9_first_41 o_a13 ea14 ?_
    refine r_iload (pc := 44) C dX9_first_44 5 rfl ?_
    obtain ⟨o_a14, h⟩ := h
    obtain ⟨i15, a16, ea16, h⟩ := h
    refine r_aald17 (pc := 46) C dX9_first_46 o_a14 i15 ea16 ?_
    refine r_iload (pc := 47) C dX9_first_47 6 rfl ?_
    obtain ⟨o_a8, h⟩ := h
    refine r_callVv0 (pc := 49) C (rest := []) (a := a8) o_a8 [.ref a12, .int v4, .ref a16, .int v6] yV_X1_lay g_754 (c_X1_lay h) dX9_first_49 rfl rfl (Nat.le_of_ble_eq_true rfl) ⟨by decide, by decide⟩ ⟨by decide, by decide⟩ ⟨rfl, rfl⟩ (fun S17 h g18 => ?_)
    have h := h g18
    have o_a10 := gr_ob g18 o_a10
    have o_a13 := gr_ob g18 o_a13
    have o_a14 := gr_ob g18 o_a14
    have o_a8 := gr_ob g18 o_a8
    have o_a9 := gr_ob g18 o_a9
    have o_v0 := gr_ob g18 o_v0
    refine r_aload_n (pc := 52) C dX9_first_52 0 rfl ?_
    obtain ⟨a20, ea20, h⟩ := h
    refine r_getr (pc := 53) C fL_X9_30 dX9_first_53 o_v0 ea20 ?_
    refine r_aload_n (pc := 56) C dX9_first_56 0 rfl ?_
    obtain ⟨a21, ea21, h⟩ := h
    refine r_getr (pc := 57) C fL_X9_16 dX9_first_57 o_v0 ea21 ?_
    obtain ⟨o_a21, h⟩ := h
    obtain ⟨a22, ea22, h⟩ := h
    refine r_getr (pc := 60) C fL_X9_108 dX9_first_60 o_a21 ea22 ?_
    refine r_iload_n (pc := 63) C dX9_first_63 1 rfl ?_
    obtain ⟨o_a22, h⟩ := h
    obtain ⟨i23, a24, ea24, h⟩ := h
    refine r_aald19 (pc := 64) C dX9_first_64 o_a22 i23 ea24 ?_
    refine r_aload_n (pc := 65) C dX9_first_65 0 rfl ?_
    obtain ⟨a25, ea25, h⟩ := h
    refine r_getr (pc := 66) C fL_X9_16 dX9_first_66 o_v0 ea25 ?_
    obtain ⟨o_a25, h⟩ := h
    obtain ⟨a26, ea26, h⟩ := h
    refine r_getr (pc := 69) C fL_X9_108 dX9_first_69 o_a25 ea26 ?_
    refine r_iload_n (pc := 72) C dX9_first_72 2 rfl ?_
    obtain ⟨o_a26, h⟩ := h
    obtain ⟨i27, a28, ea28, h⟩ := h
    refine r_aald19 (pc := 73) C dX9_first_73 o_a26 i27 ea28 ?_
    obtain ⟨o_a20, h⟩ := h
    refine r_callVl0 (pc := 74) C (rest := []) (a := a20) o_a20 [.ref a24, .ref a28] yV_X1_wetInLee g_805 (c_X1_wetInLee h) dX9_first_74 rfl rfl (Nat.le_of_ble_eq_true rfl) ⟨by decide, by decide⟩ ⟨by decide, by decide⟩ ⟨rfl, rfl⟩ (fun x31 S29 h g30 => ?_)
    have h := h g30
    have o_a10 := gr_ob g30 o_a10
    have o_a13 := gr_ob g30 o_a13
    have o_a14 := gr_ob g30 o_a14
    have o_a20 := gr_ob g30 o_a20
    have o_a21 := gr_ob g30 o_a21
    have o_a22 := gr_ob g30 o_a22
    have o_a25 := gr_ob g30 o_a25
    have o_a26 := gr_ob g30 o_a26
    have o_a8 := gr_ob g30 o_a8
    have o_a9 := gr_ob g30 o_a9
    have o_v0 := gr_ob g30 o_v0
    refine r_lstore (pc := 77) C dX9_first_77 (by decide) (lv' := [(7, .long x31), (0, .ref v0), (1, .int v1), (2, .int v2), (3, .int v3), (4, .int v4), (5, .int v5), (6, .int v6)]) rfl ?_
    refine r_aload_n (pc := 79) C dX9_first_79 1 rfl ?_
    obtain ⟨a32, ea32, h⟩ := h
    refine r_getr (pc := 80) C fL_X9_30 dX9_first_80 o_v0 ea32 ?_
    refine r_aload_n (pc := 83) C dX9_first_83 1 rfl ?_
    obtain ⟨a33, ea33, h⟩ := h
    refine r_getr (pc := 84) C fL_X9_16 dX9_first_84 o_v0 ea33 ?_
    obtain ⟨o_a33, h⟩ := h
    obtain ⟨a34, ea34, h⟩ := h
    refine r_getr (pc := 87) C fL_X9_108 dX9_first_87 o_a33 ea34 ?_
    refine r_iload_n (pc := 90) C dX9_first_90 3 rfl ?_
    obtain ⟨o_a34, h⟩ := h
    obtain ⟨i35, a36, ea36, h⟩ := h
    refine r_aald19 (pc := 91) C dX9_first_91 o_a34 i35 ea36 ?_
    refine r_aload_n (pc := 92) C dX9_first_92 1 rfl ?_
    obtain ⟨a37, ea37, h⟩ := h
    refine r_getr (pc := 93) C fL_X9_16 dX9_first_93 o_v0 ea37 ?_
    obtain ⟨o_a37, h⟩ := h
    obtain ⟨a38, ea38, h⟩ := h
    refine r_getr (pc := 96) C fL_X9_108 dX9_first_96 o_a37 ea38 ?_
    refine r_iload_n (pc := 99) C dX9_first_99 2 rfl ?_
    obtain ⟨o_a38, h⟩ := h
    obtain ⟨i39, a40, ea40, h⟩ := h
    refine r_aald19 (pc := 100) C dX9_first_100 o_a38 i39 ea40 ?_
    obtain ⟨o_a32, h⟩ := h
    refine r_callVl0 (pc := 101) C (rest := []) (a := a32) o_a32 [.ref a36, .ref a40] yV_X1_wetInLee g_805 (c_X1_wetInLee h) dX9_first_101 rfl rfl (Nat.le_of_ble_eq_true rfl) ⟨by decide, by decide⟩ ⟨by decide, by decide⟩ ⟨rfl, rfl⟩ (fun x43 S41 h g42 => ?_)
    have h := h g42
    have o_a10 := gr_ob g42 o_a10
    have o_a13 := gr_ob g42 o_a13
    have o_a14 := gr_ob g42 o_a14
    have o_a20 := gr_ob g42 o_a20
    have o_a21 := gr_ob g42 o_a21
    have o_a22 := gr_ob g42 o_a22
    have o_a25 := gr_ob g42 o_a25
    have o_a26 := gr_ob g42 o_a26
    have o_a32 := gr_ob g42 o_a32
    have o_a33 := gr_ob g42 o_a33
    have o_a34 := gr_ob g42 o_a34
    have o_a37 := gr_ob g42 o_a37
    have o_a38 := gr_ob g42 o_a38
    have o_a8 := gr_ob g42 o_a8
    have o_a9 := gr_ob g42 o_a9
    have o_v0 := gr_ob g42 o_v0
    refine r_lstore (pc := 104) C dX9_first_104 (by decide) (lv' := [(9, .long x43), (7, .long x31), (0, .ref v0), (1, .int v1), (2, .int v2), (3, .int v3), (4, .int v4), (5, .int v5), (6, .int v6)]) rfl ?_
    refine r_lload (pc := 106) C dX9_first_106 1 rfl ?_
    refine r_lload (pc := 108) C dX9_first_108 0 rfl ?_
    refine r_lcmp (pc := 110) C dX9_first_110 ?_
    refine r_if_ne (pc := 111) C (tgt := 117) dX9_first_111 (by decide) (fun c44 => ?_) (fun c44 => ?_)
    · have h := h.1 c44
      refine r_lload (pc := 117) C dX9_first_117 1 rfl ?_
      refine r_lload (pc := 119) C dX9_first_119 0 rfl ?_
      refine r_lcmp (pc := 121) C dX9_first_121 ?_
      refine r_if_ge (pc := 122) C (tgt := 129) dX9_first_122 (by decide) (fun c45 => ?_) (fun c45 => ?_)
      · have h := h.1 c45
        refine r_iconst (pc := 129) C (v := (1 : Int32)) dX9_first_129 (by decide) ?_
        exact r_iret (pc := 130) C E ht dX9_first_130 (by decide) (by decide) h
      · have h := h.2 c45
        refine r_iconst (pc := 125) C (v := (0 : Int32)) dX9_first_125 (by decide) ?_
        refine r_goto (pc := 126) C (tgt := 130) dX9_first_126 (by decide) ?_
        exact r_iret (pc := 130) C E ht dX9_first_130 (by decide) (by decide) h
    · have h := h.2 c44
      refine r_bipush (pc := 114) C (v := (-2 : Int32)) dX9_first_114 (by decide) ?_
      exact r_iret (pc := 116) C E ht dX9_first_116 (by decide) (by decide) h
  · have h := h.2 c7
    refine r_iconst (pc := 20) C (v := (-1 : Int32)) dX9_first_20 (by decide) ?_
    exact r_iret (pc := 21) C E ht dX9_first_21 (by decide) (by decide) h
def P_X9_first (v0 : Nat) (v1 : Int32) (v2 : Int32) (v3 : Int32) (v4 : Int32) (v5 : Int32) (v6 : Int32) (Q : Int32 → HS → Prop) (S : HS) : Prop := P_X9_first_0 Q v0 v1 v2 v3 v4 v5 v6 S
theorem c_X9_first {l : Launch} {Ee : EE} {S : HS} {v0 : Nat} {v1 : Int32} {v2 : Int32} {v3 : Int32} {v4 : Int32} {v5 : Int32} {v6 : Int32} {Q : Int32 → HS → Prop} (h : P_X9_first v0 v1 v2 v3 v4 v5 v6 Q S) : MI l yX9_first cX9_first 11 (some .int) rm_X9_first Ee S [.ref v0, .int v1, .int v2, .int v3, .int v4, .int v5, .int v6] Q :=
  openI (by decide) (Nat.le_of_ble_eq_true rfl) (fun X C E ht hn hE hl => by subst hE; exact r_sub [0, 1, 2, 3, 4, 5, 6] rfl (T_X9_first_0 C E ht hn h))
def rm_X9_fit : Room := { frames := 6, cells := 0, slots := 0, locals := 155 }
def P_X9_fit_15 (Q : Int32 → HS → Prop) (v0 : Nat) (S : HS) : Prop := ob S v0 9 ∧ (P_X9_refuse v0 (1 : Int32) (fun x3 S1 => Gr S S1 → (Q x3 S1)) S)
set_option maxRecDepth 20000 in
set_option maxHeartbeats 4000000 in
theorem T_X9_fit_15 {X : CX} {Q : Int32 → HS → Prop} (C : Cx X cX9_fit RX9 4 rm_X9_fit) (E : ReI X rm_X9_fit Q) (ht : (xh X).sig.returnType = (some .int)) (hn : (xh X).name = yX9_fit.name) {v0 : Nat} {S : HS} (h : P_X9_fit_15 Q v0 S) : WS X 4 0 0 15 [(0, .ref v0)] [] S := by
  refine r_aload_n (pc := 15) C dX9_fit_15 0 rfl ?_
  refine r_iconst (pc := 16) C (v := (1 : Int32)) dX9_fit_16 (by decide) ?_
  obtain ⟨o_v0, h⟩ := h
  refine r_callVi0 (pc := 17) C (rest := []) (a := v0) o_v0 [.int (1 : Int32)] yV_X9_refuse g_430 (c_X9_refuse h) dX9_fit_17 rfl rfl (Nat.le_of_ble_eq_true rfl) ⟨by decide, by decide⟩ ⟨by decide, by decide⟩ ⟨rfl, rfl⟩ (fun x3 S1 h g2 => ?_)
  have h := h g2
  have o_v0 := gr_ob g2 o_v0
  exact r_iret (pc := 20) C E ht dX9_fit_20 (by decide) (by decide) h
def P_X9_fit_0 (Q : Int32 → HS → Prop) (v0 : Nat) (v1 : Int32) (v2 : Int32) (S : HS) : Prop := ob S v0 9 ∧ (∃ a1 : Nat, fR S v0 2 = some a1 ∧ (ob S a1 8 ∧ (P_X8_hasSeen a1 v1 (fun x4 S2 => Gr S S2 → bl x4 → (((x4 = 0) → (P_X9_fit_15 Q v0 S2)) ∧ ((¬ x4 = 0) → (((0 ≤ v2) → (∃ a7 : Nat, fR S2 v0 4 = some a7 ∧ (∃ a8 : Nat, fR S2 v0 2 = some a8 ∧ (ob S2 a7 1 ∧ (P_X1_findFit a7 a8 v1 v2 (fun x11 S9 => Gr S2 S9 → (((¬ x11 = (-1 : Int32)) → (P_X9_grant v0 x11 (fun x15 S13 => Gr S9 S13 → (Q x15 S13)) S9)) ∧ ((x11 = (-1 : Int32)) → (P_X9_refuse v0 (1 : Int32) (fun x18 S16 => Gr S9 S16 → (Q x18 S16)) S9)))) S2))))) ∧ ((¬ 0 ≤ v2) → (P_X9_fit_15 Q v0 S2)))))) S)))
set_option maxRecDepth 20000 in
set_option maxHeartbeats 4000000 in
theorem T_X9_fit_0 {X : CX} {Q : Int32 → HS → Prop} (C : Cx X cX9_fit RX9 4 rm_X9_fit) (E : ReI X rm_X9_fit Q) (ht : (xh X).sig.returnType = (some .int)) (hn : (xh X).name = yX9_fit.name) {v0 : Nat} {v1 : Int32} {v2 : Int32} {S : HS} (h : P_X9_fit_0 Q v0 v1 v2 S) : WS X 4 0 0 0 [(0, .ref v0), (1, .int v1), (2, .int v2)] [] S := by
  refine r_aload_n (pc := 0) C dX9_fit_0 0 rfl ?_
  obtain ⟨o_v0, h⟩ := h
  obtain ⟨a1, ea1, h⟩ := h
  refine r_getr (pc := 1) C fL_X9_16 dX9_fit_1 o_v0 ea1 ?_
  refine r_iload_n (pc := 4) C dX9_fit_4 1 rfl ?_
  obtain ⟨o_a1, h⟩ := h
  refine r_callVi0 (pc := 5) C (rest := []) (a := a1) o_a1 [.int v1] yV_X8_hasSeen g_929 (c_X8_hasSeen h) dX9_fit_5 rfl rfl (Nat.le_of_ble_eq_true rfl) ⟨by decide, by decide⟩ ⟨by decide, by decide⟩ ⟨rfl, rfl⟩ (fun x4 S2 h g3 => ?_)
  have bx4 := h.1
  have h := h.2 g3 bx4
  have o_a1 := gr_ob g3 o_a1
  have o_v0 := gr_ob g3 o_v0
  refine r_if_eq (pc := 8) C (tgt := 15) dX9_fit_8 (by decide) (fun c5 => ?_) (fun c5 => ?_)
  · have h := h.1 c5
    exact r_sub [0] rfl (T_X9_fit_15 C E ht hn h)
  · have h := h.2 c5
    refine r_iload_n (pc := 11) C dX9_fit_11 2 rfl ?_
    refine r_if_ge (pc := 12) C (tgt := 21) dX9_fit_12 (by decide) (fun c6 => ?_) (fun c6 => ?_)
    · have h := h.1 c6
      refine r_aload_n (pc := 21) C dX9_fit_21 0 rfl ?_
      obtain ⟨a7, ea7, h⟩ := h
      refine r_getr (pc := 22) C fL_X9_30 dX9_fit_22 o_v0 ea7 ?_
      refine r_aload_n (pc := 25) C dX9_fit_25 0 rfl ?_
      obtain ⟨a8, ea8, h⟩ := h
      refine r_getr (pc := 26) C fL_X9_16 dX9_fit_26 o_v0 ea8 ?_
      refine r_iload_n (pc := 29) C dX9_fit_29 1 rfl ?_
      refine r_iload_n (pc := 30) C dX9_fit_30 2 rfl ?_
      obtain ⟨o_a7, h⟩ := h
      refine r_callVi0 (pc := 31) C (rest := []) (a := a7) o_a7 [.ref a8, .int v1, .int v2] yV_X1_findFit g_953 (c_X1_findFit h) dX9_fit_31 rfl rfl (Nat.le_of_ble_eq_true rfl) ⟨by decide, by decide⟩ ⟨by decide, by decide⟩ ⟨rfl, rfl⟩ (fun x11 S9 h g10 => ?_)
      have h := h g10
      have o_a1 := gr_ob g10 o_a1
      have o_a7 := gr_ob g10 o_a7
      have o_v0 := gr_ob g10 o_v0
      refine r_istore_n (pc := 34) C dX9_fit_34 rfl (by decide) (lv' := [(3, .int x11), (0, .ref v0), (1, .int v1), (2, .int v2)]) rfl ?_
      refine r_iload_n (pc := 35) C dX9_fit_35 0 rfl ?_
      refine r_iconst (pc := 36) C (v := (-1 : Int32)) dX9_fit_36 (by decide) ?_
      refine r_icmp_ne (pc := 37) C (tgt := 48) dX9_fit_37 (by decide) (fun c12 => ?_) (fun c12 => ?_)
      · have h := h.1 c12
        refine r_aload_n (pc := 48) C dX9_fit_48 1 rfl ?_
        refine r_iload_n (pc := 49) C dX9_fit_49 0 rfl ?_
        refine r_callVi0 (pc := 50) C (rest := []) (a := v0) o_v0 [.int x11] yV_X9_grant g_637 (c_X9_grant h) dX9_fit_50 rfl rfl (Nat.le_of_ble_eq_true rfl) ⟨by decide, by decide⟩ ⟨by decide, by decide⟩ ⟨rfl, rfl⟩ (fun x15 S13 h g14 => ?_)
        have h := h g14
        have o_a1 := gr_ob g14 o_a1
        have o_a7 := gr_ob g14 o_a7
        have o_v0 := gr_ob g14 o_v0
        exact r_iret (pc := 53) C E ht dX9_fit_53 (by decide) (by decide) h
      · have h := h.2 c12
        refine r_aload_n (pc := 40) C dX9_fit_40 1 rfl ?_
        refine r_iconst (pc := 41) C (v := (1 : Int32)) dX9_fit_41 (by decide) ?_
        refine r_callVi0 (pc := 42) C (rest := []) (a := v0) o_v0 [.int (1 : Int32)] yV_X9_refuse g_430 (c_X9_refuse h) dX9_fit_42 rfl rfl (Nat.le_of_ble_eq_true rfl) ⟨by decide, by decide⟩ ⟨by decide, by decide⟩ ⟨rfl, rfl⟩ (fun x18 S16 h g17 => ?_)
        have h := h g17
        have o_a1 := gr_ob g17 o_a1
        have o_a7 := gr_ob g17 o_a7
        have o_v0 := gr_ob g17 o_v0
        refine r_goto (pc := 45) C (tgt := 53) dX9_fit_45 (by decide) ?_
        exact r_iret (pc := 53) C E ht dX9_fit_53 (by decide) (by decide) h
    · have h := h.2 c6
      exact r_sub [0] rfl (T_X9_fit_15 C E ht hn h)
def P_X9_fit (v0 : Nat) (v1 : Int32) (v2 : Int32) (Q : Int32 → HS → Prop) (S : HS) : Prop := P_X9_fit_0 Q v0 v1 v2 S
theorem c_X9_fit {l : Launch} {Ee : EE} {S : HS} {v0 : Nat} {v1 : Int32} {v2 : Int32} {Q : Int32 → HS → Prop} (h : P_X9_fit v0 v1 v2 Q S) : MI l yX9_fit cX9_fit 4 (some .int) rm_X9_fit Ee S [.ref v0, .int v1, .int v2] Q :=
  openI (by decide) (Nat.le_of_ble_eq_true rfl) (fun X C E ht hn hE hl => by subst hE; exact r_sub [0, 1, 2] rfl (T_X9_fit_0 C E ht hn h))
def rm_X9_fits : Room := { frames := 6, cells := 0, slots := 0, locals := 153 }
def P_X9_fits_0 (Q : Int32 → HS → Prop) (v0 : Nat) (v1 : Int32) (S : HS) : Prop := ob S v0 9 ∧ (∃ a1 : Nat, fR S v0 2 = some a1 ∧ (ob S a1 8 ∧ (P_X8_hasSeen a1 v1 (fun x4 S2 => Gr S S2 → bl x4 → (((¬ x4 = 0) → (∃ a6 : Nat, fR S2 v0 4 = some a6 ∧ (∃ a7 : Nat, fR S2 v0 2 = some a7 ∧ (ob S2 a6 1 ∧ (P_X1_countFits a6 a7 v1 (fun x10 S8 => Gr S2 S8 → (P_X9_grant v0 x10 (fun x13 S11 => Gr S8 S11 → (Q x13 S11)) S8)) S2))))) ∧ ((x4 = 0) → (P_X9_refuse v0 (1 : Int32) (fun x16 S14 => Gr S2 S14 → (Q x16 S14)) S2)))) S)))
set_option maxRecDepth 20000 in
set_option maxHeartbeats 4000000 in
theorem T_X9_fits_0 {X : CX} {Q : Int32 → HS → Prop} (C : Cx X cX9_fits RX9 2 rm_X9_fits) (E : ReI X rm_X9_fits Q) (ht : (xh X).sig.returnType = (some .int)) (hn : (xh X).name = yX9_fits.name) {v0 : Nat} {v1 : Int32} {S : HS} (h : P_X9_fits_0 Q v0 v1 S) : WS X 2 0 0 0 [(0, .ref v0), (1, .int v1)] [] S := by
  refine r_aload_n (pc := 0) C dX9_fits_0 0 rfl ?_
  obtain ⟨o_v0, h⟩ := h
  obtain ⟨a1, ea1, h⟩ := h
  refine r_getr (pc := 1) C fL_X9_16 dX9_fits_1 o_v0 ea1 ?_
  refine r_iload_n (pc := 4) C dX9_fits_4 1 rfl ?_
  obtain ⟨o_a1, h⟩ := h
  refine r_callVi0 (pc := 5) C (rest := []) (a := a1) o_a1 [.int v1] yV_X8_hasSeen g_929 (c_X8_hasSeen h) dX9_fits_5 rfl rfl (Nat.le_of_ble_eq_true rfl) ⟨by decide, by decide⟩ ⟨by decide, by decide⟩ ⟨rfl, rfl⟩ (fun x4 S2 h g3 => ?_)
  have bx4 := h.1
  have h := h.2 g3 bx4
  have o_a1 := gr_ob g3 o_a1
  have o_v0 := gr_ob g3 o_v0
  refine r_if_ne (pc := 8) C (tgt := 17) dX9_fits_8 (by decide) (fun c5 => ?_) (fun c5 => ?_)
  · have h := h.1 c5
    refine r_aload_n (pc := 17) C dX9_fits_17 0 rfl ?_
    refine r_aload_n (pc := 18) C dX9_fits_18 0 rfl ?_
    obtain ⟨a6, ea6, h⟩ := h
    refine r_getr (pc := 19) C fL_X9_30 dX9_fits_19 o_v0 ea6 ?_
    refine r_aload_n (pc := 22) C dX9_fits_22 0 rfl ?_
    obtain ⟨a7, ea7, h⟩ := h
    refine r_getr (pc := 23) C fL_X9_16 dX9_fits_23 o_v0 ea7 ?_
    refine r_iload_n (pc := 26) C dX9_fits_26 1 rfl ?_
    obtain ⟨o_a6, h⟩ := h
    refine r_callVi0 (pc := 27) C (rest := [.ref v0]) (a := a6) o_a6 [.ref a7, .int v1] yV_X1_countFits g_933 (c_X1_countFits h) dX9_fits_27 rfl rfl (Nat.le_of_ble_eq_true rfl) ⟨by decide, by decide⟩ ⟨by decide, by decide⟩ ⟨rfl, rfl⟩ (fun x10 S8 h g9 => ?_)
    have h := h g9
    have o_a1 := gr_ob g9 o_a1
    have o_a6 := gr_ob g9 o_a6
    have o_v0 := gr_ob g9 o_v0
    refine r_callVi0 (pc := 30) C (rest := []) (a := v0) o_v0 [.int x10] yV_X9_grant g_637 (c_X9_grant h) dX9_fits_30 rfl rfl (Nat.le_of_ble_eq_true rfl) ⟨by decide, by decide⟩ ⟨by decide, by decide⟩ ⟨rfl, rfl⟩ (fun x13 S11 h g12 => ?_)
    have h := h g12
    have o_a1 := gr_ob g12 o_a1
    have o_a6 := gr_ob g12 o_a6
    have o_v0 := gr_ob g12 o_v0
    exact r_iret (pc := 33) C E ht dX9_fits_33 (by decide) (by decide) h
  · have h := h.2 c5
    refine r_aload_n (pc := 11) C dX9_fits_11 0 rfl ?_
    refine r_iconst (pc := 12) C (v := (1 : Int32)) dX9_fits_12 (by decide) ?_
    refine r_callVi0 (pc := 13) C (rest := []) (a := v0) o_v0 [.int (1 : Int32)] yV_X9_refuse g_430 (c_X9_refuse h) dX9_fits_13 rfl rfl (Nat.le_of_ble_eq_true rfl) ⟨by decide, by decide⟩ ⟨by decide, by decide⟩ ⟨rfl, rfl⟩ (fun x16 S14 h g15 => ?_)
    have h := h g15
    have o_a1 := gr_ob g15 o_a1
    have o_v0 := gr_ob g15 o_v0
    exact r_iret (pc := 16) C E ht dX9_fits_16 (by decide) (by decide) h
def P_X9_fits (v0 : Nat) (v1 : Int32) (Q : Int32 → HS → Prop) (S : HS) : Prop := P_X9_fits_0 Q v0 v1 S
theorem c_X9_fits {l : Launch} {Ee : EE} {S : HS} {v0 : Nat} {v1 : Int32} {Q : Int32 → HS → Prop} (h : P_X9_fits v0 v1 Q S) : MI l yX9_fits cX9_fits 2 (some .int) rm_X9_fits Ee S [.ref v0, .int v1] Q :=
  openI (by decide) (Nat.le_of_ble_eq_true rfl) (fun X C E ht hn hE hl => by subst hE; exact r_sub [0, 1] rfl (T_X9_fits_0 C E ht hn h))
def rm_X9_go : Room := { frames := 4, cells := 0, slots := 0, locals := 101 }
def P_X9_go_45 (Q : Int32 → HS → Prop) (v0 : Nat) (S : HS) : Prop := ob S v0 9 ∧ (P_X9_refuse v0 (1 : Int32) (fun x3 S1 => Gr S S1 → (Q x3 S1)) S)
set_option maxRecDepth 20000 in
set_option maxHeartbeats 4000000 in
theorem T_X9_go_45 {X : CX} {Q : Int32 → HS → Prop} (C : Cx X cX9_go RX9 8 rm_X9_go) (E : ReI X rm_X9_go Q) (ht : (xh X).sig.returnType = (some .int)) (hn : (xh X).name = yX9_go.name) {v0 : Nat} {S : HS} (h : P_X9_go_45 Q v0 S) : WS X 8 0 0 45 [(0, .ref v0)] [] S := by
  refine r_aload_n (pc := 45) C dX9_go_45 0 rfl ?_
  refine r_iconst (pc := 46) C (v := (1 : Int32)) dX9_go_46 (by decide) ?_
  obtain ⟨o_v0, h⟩ := h
  refine r_callVi0 (pc := 47) C (rest := []) (a := v0) o_v0 [.int (1 : Int32)] yV_X9_refuse g_430 (c_X9_refuse h) dX9_go_47 rfl rfl (Nat.le_of_ble_eq_true rfl) ⟨by decide, by decide⟩ ⟨by decide, by decide⟩ ⟨rfl, rfl⟩ (fun x3 S1 h g2 => ?_)
  have h := h g2
  have o_v0 := gr_ob g2 o_v0
  exact r_iret (pc := 50) C E ht dX9_go_50 (by decide) (by decide) h
def P_X9_go_243 (Q : Int32 → HS → Prop) (v0 : Nat) (v2 : Int32) (v5 : Nat) (v6 : Int32) (S : HS) : Prop := ob S v0 9 ∧ (∃ a1 : Nat, fR S v0 6 = some a1 ∧ (ob S a1 0 ∧ (∃ a2 : Nat, fR S a1 4 = some a2 ∧ (ob S v5 5 ∧ (P_X5_endOf v5 v2 (fun x5 S3 => Gr S S3 → (ob S3 a2 2 ∧ (∀ S6 : HS, S6 = sI S3 a2 0 x5 → (∃ a7 : Nat, fR S6 v0 6 = some a7 ∧ (ob S6 a7 0 ∧ (∃ a8 : Nat, fR S6 a7 4 = some a8 ∧ (ob S6 a8 2 ∧ (∀ S9 : HS, S9 = sI S6 a8 1 v6 → (P_X9_grant v0 v6 (fun x12 S10 => Gr S9 S10 → (Q x12 S10)) S9))))))))) S)))))
set_option maxRecDepth 20000 in
set_option maxHeartbeats 4000000 in
theorem T_X9_go_243 {X : CX} {Q : Int32 → HS → Prop} (C : Cx X cX9_go RX9 8 rm_X9_go) (E : ReI X rm_X9_go Q) (ht : (xh X).sig.returnType = (some .int)) (hn : (xh X).name = yX9_go.name) {v0 : Nat} {v2 : Int32} {v5 : Nat} {v6 : Int32} {S : HS} (h : P_X9_go_243 Q v0 v2 v5 v6 S) : WS X 8 0 0 243 [(0, .ref v0), (2, .int v2), (5, .ref v5), (6, .int v6)] [] S := by
  refine r_aload_n (pc := 243) C dX9_go_243 0 rfl ?_
  obtain ⟨o_v0, h⟩ := h
  obtain ⟨a1, ea1, h⟩ := h
  refine r_getr (pc := 244) C fL_X9_44 dX9_go_244 o_v0 ea1 ?_
  obtain ⟨o_a1, h⟩ := h
  obtain ⟨a2, ea2, h⟩ := h
  refine r_getr (pc := 247) C fL_X9_287 dX9_go_247 o_a1 ea2 ?_
  refine r_aload (pc := 250) C dX9_go_250 2 rfl ?_
  refine r_iload_n (pc := 252) C dX9_go_252 1 rfl ?_
  obtain ⟨o_v5, h⟩ := h
  refine r_callVi0 (pc := 253) C (rest := [.ref a2]) (a := v5) o_v5 [.int v2] yV_X5_endOf g_1003 (c_X5_endOf h) dX9_go_253 rfl rfl (Nat.le_of_ble_eq_true rfl) ⟨by decide, by decide⟩ ⟨by decide, by decide⟩ ⟨rfl, rfl⟩ (fun x5 S3 h g4 => ?_)
  have h := h g4
  have o_a1 := gr_ob g4 o_a1
  have o_v0 := gr_ob g4 o_v0
  have o_v5 := gr_ob g4 o_v5
  obtain ⟨o_a2, h⟩ := h
  refine r_puti (pc := 256) C pfL_X9_291 dX9_go_256 o_a2 ?_
  refine r_heap (fun S6 eS6 => ?_)
  have h := h S6 eS6
  have o_a1 := ob_I eS6 o_a1
  have o_a2 := ob_I eS6 o_a2
  have o_v0 := ob_I eS6 o_v0
  have o_v5 := ob_I eS6 o_v5
  refine r_aload_n (pc := 259) C dX9_go_259 0 rfl ?_
  obtain ⟨a7, ea7, h⟩ := h
  refine r_getr (pc := 260) C fL_X9_44 dX9_go_260 o_v0 ea7 ?_
  obtain ⟨o_a7, h⟩ := h
  obtain ⟨a8, ea8, h⟩ := h
  refine r_getr (pc := 263) C fL_X9_287 dX9_go_263 o_a7 ea8 ?_
  refine r_iload (pc := 266) C dX9_go_266 3 rfl ?_
  obtain ⟨o_a8, h⟩ := h
  refine r_puti (pc := 268) C pfL_X9_296 dX9_go_268 o_a8 ?_
  refine r_heap (fun S9 eS9 => ?_)
  have h := h S9 eS9
  have o_a1 := ob_I eS9 o_a1
  have o_a2 := ob_I eS9 o_a2
  have o_a7 := ob_I eS9 o_a7
  have o_a8 := ob_I eS9 o_a8
  have o_v0 := ob_I eS9 o_v0
  have o_v5 := ob_I eS9 o_v5
  refine r_aload_n (pc := 271) C dX9_go_271 0 rfl ?_
  refine r_iload (pc := 272) C dX9_go_272 3 rfl ?_
  refine r_callVi0 (pc := 274) C (rest := []) (a := v0) o_v0 [.int v6] yV_X9_grant g_637 (c_X9_grant h) dX9_go_274 rfl rfl (Nat.le_of_ble_eq_true rfl) ⟨by decide, by decide⟩ ⟨by decide, by decide⟩ ⟨rfl, rfl⟩ (fun x12 S10 h g11 => ?_)
  have h := h g11
  have o_a1 := gr_ob g11 o_a1
  have o_a2 := gr_ob g11 o_a2
  have o_a7 := gr_ob g11 o_a7
  have o_a8 := gr_ob g11 o_a8
  have o_v0 := gr_ob g11 o_v0
  have o_v5 := gr_ob g11 o_v5
  exact r_iret (pc := 277) C E ht dX9_go_277 (by decide) (by decide) h
def P_X9_go_0 (Q : Int32 → HS → Prop) (v0 : Nat) (v1 : Int32) (v2 : Int32) (v3 : Int32) (S : HS) : Prop := ob S v0 9 ∧ (∃ a1 : Nat, fR S v0 6 = some a1 ∧ (ob S a1 0 ∧ (P_X0_isOn a1 (fun x4 S2 => Gr S S2 → bl x4 → (((x4 = 0) → (P_X9_go_45 Q v0 S2)) ∧ ((¬ x4 = 0) → (∃ a6 : Nat, fR S2 v0 2 = some a6 ∧ (∃ a7 : Nat, fR S2 v0 6 = some a7 ∧ (ob S2 a7 0 ∧ (∀ x8 : Int32, x8 = fI S2 a7 0 → (ob S2 a6 8 ∧ (P_X8_hasWalker a6 x8 (fun x11 S9 => Gr S2 S9 → bl x11 → (((x11 = 0) → (P_X9_go_45 Q v0 S9)) ∧ ((¬ x11 = 0) → (∃ a13 : Nat, fR S9 v0 2 = some a13 ∧ (ob S9 a13 8 ∧ (P_X8_hasRoad a13 v1 (fun x16 S14 => Gr S9 S14 → bl x16 → (((x16 = 0) → (P_X9_go_45 Q v0 S14)) ∧ ((¬ x16 = 0) → (P_X9_isWay v2 (fun x20 S18 => Gr S14 S18 → bl x20 → (((¬ x20 = 0) → (∃ a22 : Nat, fR S18 v0 2 = some a22 ∧ (ob S18 a22 8 ∧ (∃ a23 : Nat, fR S18 a22 9 = some a23 ∧ (∃ a24 : Nat, fR S18 v0 6 = some a24 ∧ (ob S18 a24 0 ∧ (∀ x25 : Int32, x25 = fI S18 a24 0 → (ob S18 a23 19 ∧ (vp_in x25 (hN S18 a23) ∧ ∃ a27 : Nat, fR S18 a23 x25.toNatClampNeg = some a27 ∧ (∃ a28 : Nat, fR S18 v0 2 = some a28 ∧ (ob S18 a28 8 ∧ (∃ a29 : Nat, fR S18 a28 8 = some a29 ∧ (ob S18 a29 18 ∧ (vp_in v1 (hN S18 a29) ∧ ∃ a31 : Nat, fR S18 a29 v1.toNatClampNeg = some a31 ∧ (ob S18 a27 6 ∧ (P_X6_canGo a27 v3 (fun x34 S32 => Gr S18 S32 → bl x34 → (((¬ x34 = 0) → (ob S32 a31 5 ∧ (P_X5_startOf a31 v2 (fun x38 S36 => Gr S32 S36 → (∃ a39 : Nat, fR S36 v0 6 = some a39 ∧ (ob S36 a39 0 ∧ (∃ a40 : Nat, fR S36 a39 4 = some a40 ∧ (ob S36 a40 2 ∧ (∀ x41 : Int32, x41 = fI S36 a40 0 → (((x38 = x41) → (∃ a43 : Nat, fR S36 v0 6 = some a43 ∧ (ob S36 a43 0 ∧ (∃ a44 : Nat, fR S36 a43 4 = some a44 ∧ (ob S36 a44 2 ∧ (∀ x45 : Int32, x45 = fI S36 a44 1 → (P_X5_minutesAt a31 v3 (fun x48 S46 => Gr S36 S46 → (∀ x49 : Int32, x49 = x45 + x48 → (((x49 ≤ (999 : Int32)) → (∃ a51 : Nat, fR S46 v0 6 = some a51 ∧ (ob S46 a51 0 ∧ (P_X0_keepForUndo a51 (fun S52 => Gr S46 S52 → (∃ a55 : Nat, fR S52 v0 2 = some a55 ∧ (∃ a56 : Nat, fR S52 v0 6 = some a56 ∧ (ob S52 a56 0 ∧ (∃ a57 : Nat, fR S52 a56 4 = some a57 ∧ (ob S52 a57 2 ∧ (∀ x58 : Int32, x58 = fI S52 a57 1 → (ob S52 a55 8 ∧ (P_X8_hourOf a55 x58 (fun x61 S59 => Gr S52 S59 → (∃ a62 : Nat, fR S59 v0 2 = some a62 ∧ (ob S59 a62 8 ∧ (P_X8_hasHour a62 x61 (fun x65 S63 => Gr S59 S63 → bl x65 → (((x65 = 0) → (P_X9_go_243 Q v0 v2 a31 x49 S63)) ∧ ((¬ x65 = 0) → (∃ a67 : Nat, fR S63 v0 6 = some a67 ∧ (ob S63 a67 0 ∧ (P_X0_rainsIn a67 x61 (fun x70 S68 => Gr S63 S68 → bl x70 → (((x70 = 0) → (P_X9_go_243 Q v0 v2 a31 x49 S68)) ∧ ((¬ x70 = 0) → (∃ a72 : Nat, fR S68 v0 4 = some a72 ∧ (∃ a73 : Nat, fR S68 v0 2 = some a73 ∧ (ob S68 a73 8 ∧ (∃ a74 : Nat, fR S68 a73 6 = some a74 ∧ (ob S68 a74 17 ∧ (vp_in x61 (hN S68 a74) ∧ ∃ a76 : Nat, fR S68 a74 x61.toNatClampNeg = some a76 ∧ (ob S68 a72 1 ∧ (P_X1_wetOf a72 a27 a31 v2 a76 v3 (fun x79 S77 => Gr S68 S77 → (∃ a80 : Nat, fR S77 v0 6 = some a80 ∧ (ob S77 a80 0 ∧ (∃ a81 : Nat, fR S77 a80 4 = some a81 ∧ (∃ a82 : Nat, fR S77 v0 4 = some a82 ∧ (ob S77 a82 1 ∧ (∃ a83 : Nat, fR S77 a82 0 = some a83 ∧ (ob S77 a81 2 ∧ (P_X2_addFaces a81 a83 (fun S84 => Gr S77 S84 → (P_X9_go_243 Q v0 v2 a31 x49 S84)) S77))))))))) S68))))))))))) S63)))))) S59)))) S52))))))))) S46)))) ∧ ((¬ x49 ≤ (999 : Int32)) → (P_X9_refuse v0 (3 : Int32) (fun x89 S87 => Gr S46 S87 → (Q x89 S87)) S46))))) S36))))))) ∧ ((¬ x38 = x41) → (P_X9_refuse v0 (5 : Int32) (fun x92 S90 => Gr S36 S90 → (Q x92 S90)) S36))))))))) S32))) ∧ ((x34 = 0) → (P_X9_refuse v0 (2 : Int32) (fun x95 S93 => Gr S32 S93 → (Q x95 S93)) S32)))) S18)))))))))))))))) ∧ ((x20 = 0) → (P_X9_go_45 Q v0 S18)))) S14)))) S9)))))) S2))))))))) S)))
set_option maxRecDepth 20000 in
set_option maxHeartbeats 4000000 in
theorem T_X9_go_0 {X : CX} {Q : Int32 → HS → Prop} (C : Cx X cX9_go RX9 8 rm_X9_go) (E : ReI X rm_X9_go Q) (ht : (xh X).sig.returnType = (some .int)) (hn : (xh X).name = yX9_go.name) {v0 : Nat} {v1 : Int32} {v2 : Int32} {v3 : Int32} {S : HS} (h : P_X9_go_0 Q v0 v1 v2 v3 S) : WS X 8 0 0 0 [(0, .ref v0), (1, .int v1), (2, .int v2), (3, .int v3)] [] S := by
  refine r_aload_n (pc := 0) C dX9_go_0 0 rfl ?_
  obtain ⟨o_v0, h⟩ := h
  obtain ⟨a1, ea1, h⟩ := h
  refine r_getr (pc := 1) C fL_X9_44 dX9_go_1 o_v0 ea1 ?_
  obtain ⟨o_a1, h⟩ := h
  refine r_callVi0 (pc := 4) C (rest := []) (a := a1) o_a1 [] yV_X0_isOn g_981 (c_X0_isOn h) dX9_go_4 rfl rfl (Nat.le_of_ble_eq_true rfl) ⟨by decide, by decide⟩ ⟨by decide, by decide⟩ ⟨rfl, rfl⟩ (fun x4 S2 h g3 => ?_)
  have bx4 := h.1
  have h := h.2 g3 bx4
  have o_a1 := gr_ob g3 o_a1
  have o_v0 := gr_ob g3 o_v0
  refine r_if_eq (pc := 7) C (tgt := 45) dX9_go_7 (by decide) (fun c5 => ?_) (fun c5 => ?_)
  · have h := h.1 c5
    exact r_sub [0] rfl (T_X9_go_45 C E ht hn h)
  · have h := h.2 c5
    refine r_aload_n (pc := 10) C dX9_go_10 0 rfl ?_
    obtain ⟨a6, ea6, h⟩ := h
    refine r_getr (pc := 11) C fL_X9_16 dX9_go_11 o_v0 ea6 ?_
    refine r_aload_n (pc := 14) C dX9_go_14 0 rfl ?_
    obtain ⟨a7, ea7, h⟩ := h
    refine r_getr (pc := 15) C fL_X9_44 dX9_go_15 o_v0 ea7 ?_
    obtain ⟨o_a7, h⟩ := h
    refine r_geti (pc := 18) C fL_X9_282 dX9_go_18 o_a7 ?_
    refine r_topi (fun x8 ex8 => ?_)
    have h := h x8 ex8
    obtain ⟨o_a6, h⟩ := h
    refine r_callVi0 (pc := 21) C (rest := []) (a := a6) o_a6 [.int x8] yV_X8_hasWalker g_664 (c_X8_hasWalker h) dX9_go_21 rfl rfl (Nat.le_of_ble_eq_true rfl) ⟨by decide, by decide⟩ ⟨by decide, by decide⟩ ⟨rfl, rfl⟩ (fun x11 S9 h g10 => ?_)
    have bx11 := h.1
    have h := h.2 g10 bx11
    have o_a1 := gr_ob g10 o_a1
    have o_a6 := gr_ob g10 o_a6
    have o_a7 := gr_ob g10 o_a7
    have o_v0 := gr_ob g10 o_v0
    refine r_if_eq (pc := 24) C (tgt := 45) dX9_go_24 (by decide) (fun c12 => ?_) (fun c12 => ?_)
    · have h := h.1 c12
      exact r_sub [0] rfl (T_X9_go_45 C E ht hn h)
    · have h := h.2 c12
      refine r_aload_n (pc := 27) C dX9_go_27 0 rfl ?_
      obtain ⟨a13, ea13, h⟩ := h
      refine r_getr (pc := 28) C fL_X9_16 dX9_go_28 o_v0 ea13 ?_
      refine r_iload_n (pc := 31) C dX9_go_31 1 rfl ?_
      obtain ⟨o_a13, h⟩ := h
      refine r_callVi0 (pc := 32) C (rest := []) (a := a13) o_a13 [.int v1] yV_X8_hasRoad g_668 (c_X8_hasRoad h) dX9_go_32 rfl rfl (Nat.le_of_ble_eq_true rfl) ⟨by decide, by decide⟩ ⟨by decide, by decide⟩ ⟨rfl, rfl⟩ (fun x16 S14 h g15 => ?_)
      have bx16 := h.1
      have h := h.2 g15 bx16
      have o_a1 := gr_ob g15 o_a1
      have o_a13 := gr_ob g15 o_a13
      have o_a6 := gr_ob g15 o_a6
      have o_a7 := gr_ob g15 o_a7
      have o_v0 := gr_ob g15 o_v0
      refine r_if_eq (pc := 35) C (tgt := 45) dX9_go_35 (by decide) (fun c17 => ?_) (fun c17 => ?_)
      · have h := h.1 c17
        exact r_sub [0] rfl (T_X9_go_45 C E ht hn h)
      · have h := h.2 c17
        refine r_iload_n (pc := 38) C dX9_go_38 2 rfl ?_
        refine r_callSi0 (pc := 39) C (rest := []) rfl [.int v2] yS_X9_isWay g_672 (c_X9_isWay h) dX9_go_39 rfl rfl (Nat.le_of_ble_eq_true rfl) ⟨by decide, by decide⟩ ⟨by decide, by decide⟩ ⟨rfl, rfl⟩ (fun x20 S18 h g19 => ?_)
        have bx20 := h.1
        have h := h.2 g19 bx20
        have o_a1 := gr_ob g19 o_a1
        have o_a13 := gr_ob g19 o_a13
        have o_a6 := gr_ob g19 o_a6
        have o_a7 := gr_ob g19 o_a7
        have o_v0 := gr_ob g19 o_v0
        refine r_if_ne (pc := 42) C (tgt := 51) dX9_go_42 (by decide) (fun c21 => ?_) (fun c21 => ?_)
        · have h := h.1 c21
          refine r_aload_n (pc := 51) C dX9_go_51 0 rfl ?_
          obtain ⟨a22, ea22, h⟩ := h
          refine r_getr (pc := 52) C fL_X9_16 dX9_go_52 o_v0 ea22 ?_
          obtain ⟨o_a22, h⟩ := h
          obtain ⟨a23, ea23, h⟩ := h
          refine r_getr (pc := 55) C fL_X9_108 dX9_go_55 o_a22 ea23 ?_
          refine r_aload_n (pc := 58) C dX9_go_58 0 rfl ?_
          obtain ⟨a24, ea24, h⟩ := h
          refine r_getr (pc := 59) C fL_X9_44 dX9_go_59 o_v0 ea24 ?_
          obtain ⟨o_a24, h⟩ := h
          refine r_geti (pc := 62) C fL_X9_282 dX9_go_62 o_a24 ?_
          refine r_topi (fun x25 ex25 => ?_)
          have h := h x25 ex25
          obtain ⟨o_a23, h⟩ := h
          obtain ⟨i26, a27, ea27, h⟩ := h
          refine r_aald19 (pc := 65) C dX9_go_65 o_a23 i26 ea27 ?_
          refine r_astore (pc := 66) C dX9_go_66 (by decide) (lv' := [(4, .ref a27), (0, .ref v0), (1, .int v1), (2, .int v2), (3, .int v3)]) rfl ?_
          refine r_aload_n (pc := 68) C dX9_go_68 1 rfl ?_
          obtain ⟨a28, ea28, h⟩ := h
          refine r_getr (pc := 69) C fL_X9_16 dX9_go_69 o_v0 ea28 ?_
          obtain ⟨o_a28, h⟩ := h
          obtain ⟨a29, ea29, h⟩ := h
          refine r_getr (pc := 72) C fL_X9_112 dX9_go_72 o_a28 ea29 ?_
          refine r_iload_n (pc := 75) C dX9_go_75 2 rfl ?_
          obtain ⟨o_a29, h⟩ := h
          obtain ⟨i30, a31, ea31, h⟩ := h
          refine r_aald18 (pc := 76) C dX9_go_76 o_a29 i30 ea31 ?_
          refine r_astore (pc := 77) C dX9_go_77 (by decide) (lv' := [(5, .ref a31), (4, .ref a27), (0, .ref v0), (1, .int v1), (2, .int v2), (3, .int v3)]) rfl ?_
          refine r_aload (pc := 79) C dX9_go_79 1 rfl ?_
          refine r_iload_n (pc := 81) C dX9_go_81 5 rfl ?_
          obtain ⟨o_a27, h⟩ := h
          refine r_callVi0 (pc := 82) C (rest := []) (a := a27) o_a27 [.int v3] yV_X6_canGo g_679 (c_X6_canGo h) dX9_go_82 rfl rfl (Nat.le_of_ble_eq_true rfl) ⟨by decide, by decide⟩ ⟨by decide, by decide⟩ ⟨rfl, rfl⟩ (fun x34 S32 h g33 => ?_)
          have bx34 := h.1
          have h := h.2 g33 bx34
          have o_a1 := gr_ob g33 o_a1
          have o_a13 := gr_ob g33 o_a13
          have o_a22 := gr_ob g33 o_a22
          have o_a23 := gr_ob g33 o_a23
          have o_a24 := gr_ob g33 o_a24
          have o_a27 := gr_ob g33 o_a27
          have o_a28 := gr_ob g33 o_a28
          have o_a29 := gr_ob g33 o_a29
          have o_a6 := gr_ob g33 o_a6
          have o_a7 := gr_ob g33 o_a7
          have o_v0 := gr_ob g33 o_v0
          refine r_if_ne (pc := 85) C (tgt := 94) dX9_go_85 (by decide) (fun c35 => ?_) (fun c35 => ?_)
          · have h := h.1 c35
            refine r_aload (pc := 94) C dX9_go_94 0 rfl ?_
            refine r_iload_n (pc := 96) C dX9_go_96 4 rfl ?_
            obtain ⟨o_a31, h⟩ := h
            refine r_callVi0 (pc := 97) C (rest := []) (a := a31) o_a31 [.int v2] yV_X5_startOf g_985 (c_X5_startOf h) dX9_go_97 rfl rfl (Nat.le_of_ble_eq_true rfl) ⟨by decide, by decide⟩ ⟨by decide, by decide⟩ ⟨rfl, rfl⟩ (fun x38 S36 h g37 => ?_)
            have h := h g37
            have o_a1 := gr_ob g37 o_a1
            have o_a13 := gr_ob g37 o_a13
            have o_a22 := gr_ob g37 o_a22
            have o_a23 := gr_ob g37 o_a23
            have o_a24 := gr_ob g37 o_a24
            have o_a27 := gr_ob g37 o_a27
            have o_a28 := gr_ob g37 o_a28
            have o_a29 := gr_ob g37 o_a29
            have o_a31 := gr_ob g37 o_a31
            have o_a6 := gr_ob g37 o_a6
            have o_a7 := gr_ob g37 o_a7
            have o_v0 := gr_ob g37 o_v0
            refine r_aload_n (pc := 100) C dX9_go_100 2 rfl ?_
            obtain ⟨a39, ea39, h⟩ := h
            refine r_getr (pc := 101) C fL_X9_44 dX9_go_101 o_v0 ea39 ?_
            obtain ⟨o_a39, h⟩ := h
            obtain ⟨a40, ea40, h⟩ := h
            refine r_getr (pc := 104) C fL_X9_287 dX9_go_104 o_a39 ea40 ?_
            obtain ⟨o_a40, h⟩ := h
            refine r_geti (pc := 107) C fL_X9_291 dX9_go_107 o_a40 ?_
            refine r_topi (fun x41 ex41 => ?_)
            have h := h x41 ex41
            refine r_icmp_eq (pc := 110) C (tgt := 119) dX9_go_110 (by decide) (fun c42 => ?_) (fun c42 => ?_)
            · have h := h.1 c42
              refine r_aload_n (pc := 119) C dX9_go_119 2 rfl ?_
              obtain ⟨a43, ea43, h⟩ := h
              refine r_getr (pc := 120) C fL_X9_44 dX9_go_120 o_v0 ea43 ?_
              obtain ⟨o_a43, h⟩ := h
              obtain ⟨a44, ea44, h⟩ := h
              refine r_getr (pc := 123) C fL_X9_287 dX9_go_123 o_a43 ea44 ?_
              obtain ⟨o_a44, h⟩ := h
              refine r_geti (pc := 126) C fL_X9_296 dX9_go_126 o_a44 ?_
              refine r_topi (fun x45 ex45 => ?_)
              have h := h x45 ex45
              refine r_aload (pc := 129) C dX9_go_129 0 rfl ?_
              refine r_iload_n (pc := 131) C dX9_go_131 5 rfl ?_
              refine r_callVi0 (pc := 132) C (rest := [.int x45]) (a := a31) o_a31 [.int v3] yV_X5_minutesAt g_741 (c_X5_minutesAt h) dX9_go_132 rfl rfl (Nat.le_of_ble_eq_true rfl) ⟨by decide, by decide⟩ ⟨by decide, by decide⟩ ⟨rfl, rfl⟩ (fun x48 S46 h g47 => ?_)
              have h := h g47
              have o_a1 := gr_ob g47 o_a1
              have o_a13 := gr_ob g47 o_a13
              have o_a22 := gr_ob g47 o_a22
              have o_a23 := gr_ob g47 o_a23
              have o_a24 := gr_ob g47 o_a24
              have o_a27 := gr_ob g47 o_a27
              have o_a28 := gr_ob g47 o_a28
              have o_a29 := gr_ob g47 o_a29
              have o_a31 := gr_ob g47 o_a31
              have o_a39 := gr_ob g47 o_a39
              have o_a40 := gr_ob g47 o_a40
              have o_a43 := gr_ob g47 o_a43
              have o_a44 := gr_ob g47 o_a44
              have o_a6 := gr_ob g47 o_a6
              have o_a7 := gr_ob g47 o_a7
              have o_v0 := gr_ob g47 o_v0
              refine r_iadd (pc := 135) C dX9_go_135 ?_
              refine r_topi (fun x49 ex49 => ?_)
              have h := h x49 ex49
              refine r_istore (pc := 136) C dX9_go_136 (by decide) (lv' := [(6, .int x49), (5, .ref a31), (4, .ref a27), (0, .ref v0), (1, .int v1), (2, .int v2), (3, .int v3)]) rfl ?_
              refine r_iload (pc := 138) C dX9_go_138 0 rfl ?_
              refine r_sipush (pc := 140) C (v := (999 : Int32)) dX9_go_140 (by decide) ?_
              refine r_icmp_le (pc := 143) C (tgt := 152) dX9_go_143 (by decide) (fun c50 => ?_) (fun c50 => ?_)
              · have h := h.1 c50
                refine r_aload_n (pc := 152) C dX9_go_152 3 rfl ?_
                obtain ⟨a51, ea51, h⟩ := h
                refine r_getr (pc := 153) C fL_X9_44 dX9_go_153 o_v0 ea51 ?_
                obtain ⟨o_a51, h⟩ := h
                refine r_callVv0 (pc := 156) C (rest := []) (a := a51) o_a51 [] yV_X0_keepForUndo g_986 (c_X0_keepForUndo h) dX9_go_156 rfl rfl (Nat.le_of_ble_eq_true rfl) ⟨by decide, by decide⟩ ⟨by decide, by decide⟩ ⟨rfl, rfl⟩ (fun S52 h g53 => ?_)
                have h := h g53
                have o_a1 := gr_ob g53 o_a1
                have o_a13 := gr_ob g53 o_a13
                have o_a22 := gr_ob g53 o_a22
                have o_a23 := gr_ob g53 o_a23
                have o_a24 := gr_ob g53 o_a24
                have o_a27 := gr_ob g53 o_a27
                have o_a28 := gr_ob g53 o_a28
                have o_a29 := gr_ob g53 o_a29
                have o_a31 := gr_ob g53 o_a31
                have o_a39 := gr_ob g53 o_a39
                have o_a40 := gr_ob g53 o_a40
                have o_a43 := gr_ob g53 o_a43
                have o_a44 := gr_ob g53 o_a44
                have o_a51 := gr_ob g53 o_a51
                have o_a6 := gr_ob g53 o_a6
                have o_a7 := gr_ob g53 o_a7
                have o_v0 := gr_ob g53 o_v0
                refine r_aload_n (pc := 159) C dX9_go_159 3 rfl ?_
                obtain ⟨a55, ea55, h⟩ := h
                refine r_getr (pc := 160) C fL_X9_16 dX9_go_160 o_v0 ea55 ?_
                refine r_aload_n (pc := 163) C dX9_go_163 3 rfl ?_
                obtain ⟨a56, ea56, h⟩ := h
                refine r_getr (pc := 164) C fL_X9_44 dX9_go_164 o_v0 ea56 ?_
                obtain ⟨o_a56, h⟩ := h
                obtain ⟨a57, ea57, h⟩ := h
                refine r_getr (pc := 167) C fL_X9_287 dX9_go_167 o_a56 ea57 ?_
                obtain ⟨o_a57, h⟩ := h
                refine r_geti (pc := 170) C fL_X9_296 dX9_go_170 o_a57 ?_
                refine r_topi (fun x58 ex58 => ?_)
                have h := h x58 ex58
                obtain ⟨o_a55, h⟩ := h
                refine r_callVi0 (pc := 173) C (rest := []) (a := a55) o_a55 [.int x58] yV_X8_hourOf g_994 (c_X8_hourOf h) dX9_go_173 rfl rfl (Nat.le_of_ble_eq_true rfl) ⟨by decide, by decide⟩ ⟨by decide, by decide⟩ ⟨rfl, rfl⟩ (fun x61 S59 h g60 => ?_)
                have h := h g60
                have o_a1 := gr_ob g60 o_a1
                have o_a13 := gr_ob g60 o_a13
                have o_a22 := gr_ob g60 o_a22
                have o_a23 := gr_ob g60 o_a23
                have o_a24 := gr_ob g60 o_a24
                have o_a27 := gr_ob g60 o_a27
                have o_a28 := gr_ob g60 o_a28
                have o_a29 := gr_ob g60 o_a29
                have o_a31 := gr_ob g60 o_a31
                have o_a39 := gr_ob g60 o_a39
                have o_a40 := gr_ob g60 o_a40
                have o_a43 := gr_ob g60 o_a43
                have o_a44 := gr_ob g60 o_a44
                have o_a51 := gr_ob g60 o_a51
                have o_a55 := gr_ob g60 o_a55
                have o_a56 := gr_ob g60 o_a56
                have o_a57 := gr_ob g60 o_a57
                have o_a6 := gr_ob g60 o_a6
                have o_a7 := gr_ob g60 o_a7
                have o_v0 := gr_ob g60 o_v0
                refine r_istore (pc := 176) C dX9_go_176 (by decide) (lv' := [(7, .int x61), (6, .int x49), (5, .ref a31), (4, .ref a27), (0, .ref v0), (1, .int v1), (2, .int v2), (3, .int v3)]) rfl ?_
                refine r_aload_n (pc := 178) C dX9_go_178 4 rfl ?_
                obtain ⟨a62, ea62, h⟩ := h
                refine r_getr (pc := 179) C fL_X9_16 dX9_go_179 o_v0 ea62 ?_
                refine r_iload (pc := 182) C dX9_go_182 0 rfl ?_
                obtain ⟨o_a62, h⟩ := h
                refine r_callVi0 (pc := 184) C (rest := []) (a := a62) o_a62 [.int x61] yV_X8_hasHour g_675 (c_X8_hasHour h) dX9_go_184 rfl rfl (Nat.le_of_ble_eq_true rfl) ⟨by decide, by decide⟩ ⟨by decide, by decide⟩ ⟨rfl, rfl⟩ (fun x65 S63 h g64 => ?_)
                have bx65 := h.1
                have h := h.2 g64 bx65
                have o_a1 := gr_ob g64 o_a1
                have o_a13 := gr_ob g64 o_a13
                have o_a22 := gr_ob g64 o_a22
                have o_a23 := gr_ob g64 o_a23
                have o_a24 := gr_ob g64 o_a24
                have o_a27 := gr_ob g64 o_a27
                have o_a28 := gr_ob g64 o_a28
                have o_a29 := gr_ob g64 o_a29
                have o_a31 := gr_ob g64 o_a31
                have o_a39 := gr_ob g64 o_a39
                have o_a40 := gr_ob g64 o_a40
                have o_a43 := gr_ob g64 o_a43
                have o_a44 := gr_ob g64 o_a44
                have o_a51 := gr_ob g64 o_a51
                have o_a55 := gr_ob g64 o_a55
                have o_a56 := gr_ob g64 o_a56
                have o_a57 := gr_ob g64 o_a57
                have o_a6 := gr_ob g64 o_a6
                have o_a62 := gr_ob g64 o_a62
                have o_a7 := gr_ob g64 o_a7
                have o_v0 := gr_ob g64 o_v0
                refine r_if_eq (pc := 187) C (tgt := 243) dX9_go_187 (by decide) (fun c66 => ?_) (fun c66 => ?_)
                · have h := h.1 c66
                  exact r_sub [4, 6, 2, 1] rfl (T_X9_go_243 C E ht hn h)
                · have h := h.2 c66
                  refine r_aload_n (pc := 190) C dX9_go_190 4 rfl ?_
                  obtain ⟨a67, ea67, h⟩ := h
                  refine r_getr (pc := 191) C fL_X9_44 dX9_go_191 o_v0 ea67 ?_
                  refine r_iload (pc := 194) C dX9_go_194 0 rfl ?_
                  obtain ⟨o_a67, h⟩ := h
                  refine r_callVi0 (pc := 196) C (rest := []) (a := a67) o_a67 [.int x61] yV_X0_rainsIn g_995 (c_X0_rainsIn h) dX9_go_196 rfl rfl (Nat.le_of_ble_eq_true rfl) ⟨by decide, by decide⟩ ⟨by decide, by decide⟩ ⟨rfl, rfl⟩ (fun x70 S68 h g69 => ?_)
                  have bx70 := h.1
                  have h := h.2 g69 bx70
                  have o_a1 := gr_ob g69 o_a1
                  have o_a13 := gr_ob g69 o_a13
                  have o_a22 := gr_ob g69 o_a22
                  have o_a23 := gr_ob g69 o_a23
                  have o_a24 := gr_ob g69 o_a24
                  have o_a27 := gr_ob g69 o_a27
                  have o_a28 := gr_ob g69 o_a28
                  have o_a29 := gr_ob g69 o_a29
                  have o_a31 := gr_ob g69 o_a31
                  have o_a39 := gr_ob g69 o_a39
                  have o_a40 := gr_ob g69 o_a40
                  have o_a43 := gr_ob g69 o_a43
                  have o_a44 := gr_ob g69 o_a44
                  have o_a51 := gr_ob g69 o_a51
                  have o_a55 := gr_ob g69 o_a55
                  have o_a56 := gr_ob g69 o_a56
                  have o_a57 := gr_ob g69 o_a57
                  have o_a6 := gr_ob g69 o_a6
                  have o_a62 := gr_ob g69 o_a62
                  have o_a67 := gr_ob g69 o_a67
                  have o_a7 := gr_ob g69 o_a7
                  have o_v0 := gr_ob g69 o_v0
                  refine r_if_eq (pc := 199) C (tgt := 243) dX9_go_199 (by decide) (fun c71 => ?_) (fun c71 => ?_)
                  · have h := h.1 c71
                    exact r_sub [4, 6, 2, 1] rfl (T_X9_go_243 C E ht hn h)
                  · have h := h.2 c71
                    refine r_aload_n (pc := 202) C dX9_go_202 4 rfl ?_
                    obtain ⟨a72, ea72, h⟩ := h
                    refine r_getr (pc := 203) C fL_X9_30 dX9_go_203 o_v0 ea72 ?_
                    refine r_aload (pc := 206) C dX9_go_206 3 rfl ?_
                    refine r_aload (pc := 208) C dX9_go_208 2 rfl ?_
                    refine r_iload_n (pc := 210) C dX9_go_210 6 rfl ?_
                    refine r_aload_n (pc := 211) C dX9_go_211 4 rfl ?_
                    obtain ⟨a73, ea73, h⟩ := h
                    refine r_getr (pc := 212) C fL_X9_16 dX9_go_212 o_v0 ea73 ?_
                    obtain ⟨o_a73, h⟩ := h
                    obtain ⟨a74, ea74, h⟩ := h
                    refine r_getr (pc := 215) C fL_X9_116 dX9_go_215 o_a73 ea74 ?_
                    refine r_iload (pc := 218) C dX9_go_218 0 rfl ?_
                    obtain ⟨o_a74, h⟩ := h
                    obtain ⟨i75, a76, ea76, h⟩ := h
                    refine r_aald17 (pc := 220) C dX9_go_220 o_a74 i75 ea76 ?_
                    refine r_iload_n (pc := 221) C dX9_go_221 7 rfl ?_
                    obtain ⟨o_a72, h⟩ := h
                    refine r_callVl0 (pc := 222) C (rest := []) (a := a72) o_a72 [.ref a27, .ref a31, .int v2, .ref a76, .int v3] yV_X1_wetOf g_688 (c_X1_wetOf h) dX9_go_222 rfl rfl (Nat.le_of_ble_eq_true rfl) ⟨by decide, by decide⟩ ⟨by decide, by decide⟩ ⟨rfl, rfl⟩ (fun x79 S77 h g78 => ?_)
                    have h := h g78
                    have o_a1 := gr_ob g78 o_a1
                    have o_a13 := gr_ob g78 o_a13
                    have o_a22 := gr_ob g78 o_a22
                    have o_a23 := gr_ob g78 o_a23
                    have o_a24 := gr_ob g78 o_a24
                    have o_a27 := gr_ob g78 o_a27
                    have o_a28 := gr_ob g78 o_a28
                    have o_a29 := gr_ob g78 o_a29
                    have o_a31 := gr_ob g78 o_a31
                    have o_a39 := gr_ob g78 o_a39
                    have o_a40 := gr_ob g78 o_a40
                    have o_a43 := gr_ob g78 o_a43
                    have o_a44 := gr_ob g78 o_a44
                    have o_a51 := gr_ob g78 o_a51
                    have o_a55 := gr_ob g78 o_a55
                    have o_a56 := gr_ob g78 o_a56
                    have o_a57 := gr_ob g78 o_a57
                    have o_a6 := gr_ob g78 o_a6
                    have o_a62 := gr_ob g78 o_a62
                    have o_a67 := gr_ob g78 o_a67
                    have o_a7 := gr_ob g78 o_a7
                    have o_a72 := gr_ob g78 o_a72
                    have o_a73 := gr_ob g78 o_a73
                    have o_a74 := gr_ob g78 o_a74
                    have o_v0 := gr_ob g78 o_v0
                    refine r_pop2 (pc := 225) C dX9_go_225 rfl ?_
                    refine r_aload_n (pc := 226) C dX9_go_226 4 rfl ?_
                    obtain ⟨a80, ea80, h⟩ := h
                    refine r_getr (pc := 227) C fL_X9_44 dX9_go_227 o_v0 ea80 ?_
                    obtain ⟨o_a80, h⟩ := h
                    obtain ⟨a81, ea81, h⟩ := h
                    refine r_getr (pc := 230) C fL_X9_287 dX9_go_230 o_a80 ea81 ?_
                    refine r_aload_n (pc := 233) C dX9_go_233 4 rfl ?_
                    obtain ⟨a82, ea82, h⟩ := h
                    refine r_getr (pc := 234) C fL_X9_30 dX9_go_234 o_v0 ea82 ?_
                    obtain ⟨o_a82, h⟩ := h
                    obtain ⟨a83, ea83, h⟩ := h
                    refine r_getr (pc := 237) C fL_X9_124 dX9_go_237 o_a82 ea83 ?_
                    obtain ⟨o_a81, h⟩ := h
                    refine r_callVv0 (pc := 240) C (rest := []) (a := a81) o_a81 [.ref a83] yV_X2_addFaces g_999 (c_X2_addFaces h) dX9_go_240 rfl rfl (Nat.le_of_ble_eq_true rfl) ⟨by decide, by decide⟩ ⟨by decide, by decide⟩ ⟨rfl, rfl⟩ (fun S84 h g85 => ?_)
                    have h := h g85
                    have o_a1 := gr_ob g85 o_a1
                    have o_a13 := gr_ob g85 o_a13
                    have o_a22 := gr_ob g85 o_a22
                    have o_a23 := gr_ob g85 o_a23
                    have o_a24 := gr_ob g85 o_a24
                    have o_a27 := gr_ob g85 o_a27
                    have o_a28 := gr_ob g85 o_a28
                    have o_a29 := gr_ob g85 o_a29
                    have o_a31 := gr_ob g85 o_a31
                    have o_a39 := gr_ob g85 o_a39
                    have o_a40 := gr_ob g85 o_a40
                    have o_a43 := gr_ob g85 o_a43
                    have o_a44 := gr_ob g85 o_a44
                    have o_a51 := gr_ob g85 o_a51
                    have o_a55 := gr_ob g85 o_a55
                    have o_a56 := gr_ob g85 o_a56
                    have o_a57 := gr_ob g85 o_a57
                    have o_a6 := gr_ob g85 o_a6
                    have o_a62 := gr_ob g85 o_a62
                    have o_a67 := gr_ob g85 o_a67
                    have o_a7 := gr_ob g85 o_a7
                    have o_a72 := gr_ob g85 o_a72
                    have o_a73 := gr_ob g85 o_a73
                    have o_a74 := gr_ob g85 o_a74
                    have o_a80 := gr_ob g85 o_a80
                    have o_a81 := gr_ob g85 o_a81
                    have o_a82 := gr_ob g85 o_a82
                    have o_v0 := gr_ob g85 o_v0
                    exact r_sub [4, 6, 2, 1] rfl (T_X9_go_243 C E ht hn h)
              · have h := h.2 c50
                refine r_aload_n (pc := 146) C dX9_go_146 3 rfl ?_
                refine r_iconst (pc := 147) C (v := (3 : Int32)) dX9_go_147 (by decide) ?_
                refine r_callVi0 (pc := 148) C (rest := []) (a := v0) o_v0 [.int (3 : Int32)] yV_X9_refuse g_430 (c_X9_refuse h) dX9_go_148 rfl rfl (Nat.le_of_ble_eq_true rfl) ⟨by decide, by decide⟩ ⟨by decide, by decide⟩ ⟨rfl, rfl⟩ (fun x89 S87 h g88 => ?_)
                have h := h g88
                have o_a1 := gr_ob g88 o_a1
                have o_a13 := gr_ob g88 o_a13
                have o_a22 := gr_ob g88 o_a22
                have o_a23 := gr_ob g88 o_a23
                have o_a24 := gr_ob g88 o_a24
                have o_a27 := gr_ob g88 o_a27
                have o_a28 := gr_ob g88 o_a28
                have o_a29 := gr_ob g88 o_a29
                have o_a31 := gr_ob g88 o_a31
                have o_a39 := gr_ob g88 o_a39
                have o_a40 := gr_ob g88 o_a40
                have o_a43 := gr_ob g88 o_a43
                have o_a44 := gr_ob g88 o_a44
                have o_a6 := gr_ob g88 o_a6
                have o_a7 := gr_ob g88 o_a7
                have o_v0 := gr_ob g88 o_v0
                exact r_iret (pc := 151) C E ht dX9_go_151 (by decide) (by decide) h
            · have h := h.2 c42
              refine r_aload_n (pc := 113) C dX9_go_113 2 rfl ?_
              refine r_iconst (pc := 114) C (v := (5 : Int32)) dX9_go_114 (by decide) ?_
              refine r_callVi0 (pc := 115) C (rest := []) (a := v0) o_v0 [.int (5 : Int32)] yV_X9_refuse g_430 (c_X9_refuse h) dX9_go_115 rfl rfl (Nat.le_of_ble_eq_true rfl) ⟨by decide, by decide⟩ ⟨by decide, by decide⟩ ⟨rfl, rfl⟩ (fun x92 S90 h g91 => ?_)
              have h := h g91
              have o_a1 := gr_ob g91 o_a1
              have o_a13 := gr_ob g91 o_a13
              have o_a22 := gr_ob g91 o_a22
              have o_a23 := gr_ob g91 o_a23
              have o_a24 := gr_ob g91 o_a24
              have o_a27 := gr_ob g91 o_a27
              have o_a28 := gr_ob g91 o_a28
              have o_a29 := gr_ob g91 o_a29
              have o_a31 := gr_ob g91 o_a31
              have o_a39 := gr_ob g91 o_a39
              have o_a40 := gr_ob g91 o_a40
              have o_a6 := gr_ob g91 o_a6
              have o_a7 := gr_ob g91 o_a7
              have o_v0 := gr_ob g91 o_v0
              exact r_iret (pc := 118) C E ht dX9_go_118 (by decide) (by decide) h
          · have h := h.2 c35
            refine r_aload_n (pc := 88) C dX9_go_88 2 rfl ?_
            refine r_iconst (pc := 89) C (v := (2 : Int32)) dX9_go_89 (by decide) ?_
            refine r_callVi0 (pc := 90) C (rest := []) (a := v0) o_v0 [.int (2 : Int32)] yV_X9_refuse g_430 (c_X9_refuse h) dX9_go_90 rfl rfl (Nat.le_of_ble_eq_true rfl) ⟨by decide, by decide⟩ ⟨by decide, by decide⟩ ⟨rfl, rfl⟩ (fun x95 S93 h g94 => ?_)
            have h := h g94
            have o_a1 := gr_ob g94 o_a1
            have o_a13 := gr_ob g94 o_a13
            have o_a22 := gr_ob g94 o_a22
            have o_a23 := gr_ob g94 o_a23
            have o_a24 := gr_ob g94 o_a24
            have o_a27 := gr_ob g94 o_a27
            have o_a28 := gr_ob g94 o_a28
            have o_a29 := gr_ob g94 o_a29
            have o_a6 := gr_ob g94 o_a6
            have o_a7 := gr_ob g94 o_a7
            have o_v0 := gr_ob g94 o_v0
            exact r_iret (pc := 93) C E ht dX9_go_93 (by decide) (by decide) h
        · have h := h.2 c21
          exact r_sub [0] rfl (T_X9_go_45 C E ht hn h)
def P_X9_go (v0 : Nat) (v1 : Int32) (v2 : Int32) (v3 : Int32) (Q : Int32 → HS → Prop) (S : HS) : Prop := P_X9_go_0 Q v0 v1 v2 v3 S
theorem c_X9_go {l : Launch} {Ee : EE} {S : HS} {v0 : Nat} {v1 : Int32} {v2 : Int32} {v3 : Int32} {Q : Int32 → HS → Prop} (h : P_X9_go v0 v1 v2 v3 Q S) : MI l yX9_go cX9_go 8 (some .int) rm_X9_go Ee S [.ref v0, .int v1, .int v2, .int v3] Q :=
  openI (by decide) (Nat.le_of_ble_eq_true rfl) (fun X C E ht hn hE hl => by subst hE; exact r_sub [0, 1, 2, 3] rfl (T_X9_go_0 C E ht hn h))
def rm_X9_got : Room := { frames := 2, cells := 0, slots := 0, locals := 56 }
def P_X9_got_17 (Q : Int64 → HS → Prop) (v0 : Nat) (S : HS) : Prop := ob S v0 9 ∧ (P_X9_refuse v0 (1 : Int32) (fun x3 S1 => Gr S S1 → (Q x3.toInt64 S1)) S)
set_option maxRecDepth 20000 in
set_option maxHeartbeats 4000000 in
theorem T_X9_got_17 {X : CX} {Q : Int64 → HS → Prop} (C : Cx X cX9_got RX9 3 rm_X9_got) (E : ReJ X rm_X9_got Q) (ht : (xh X).sig.returnType = (some .long)) (hn : (xh X).name = yX9_got.name) {v0 : Nat} {S : HS} (h : P_X9_got_17 Q v0 S) : WS X 3 0 0 17 [(0, .ref v0)] [] S := by
  refine r_aload_n (pc := 17) C dX9_got_17 0 rfl ?_
  refine r_iconst (pc := 18) C (v := (1 : Int32)) dX9_got_18 (by decide) ?_
  obtain ⟨o_v0, h⟩ := h
  refine r_callVi0 (pc := 19) C (rest := []) (a := v0) o_v0 [.int (1 : Int32)] yV_X9_refuse g_430 (c_X9_refuse h) dX9_got_19 rfl rfl (Nat.le_of_ble_eq_true rfl) ⟨by decide, by decide⟩ ⟨by decide, by decide⟩ ⟨rfl, rfl⟩ (fun x3 S1 h g2 => ?_)
  have h := h g2
  have o_v0 := gr_ob g2 o_v0
  refine r_i2l (pc := 22) C dX9_got_22 ?_
  exact r_lret (pc := 23) C E ht dX9_got_23 (by decide) (by decide) h
def P_X9_got_0 (Q : Int64 → HS → Prop) (v0 : Nat) (v1 : Int32) (v2 : Int32) (S : HS) : Prop := ob S v0 9 ∧ (∃ a1 : Nat, fR S v0 6 = some a1 ∧ (ob S a1 0 ∧ (P_X0_isOn a1 (fun x4 S2 => Gr S S2 → bl x4 → (((x4 = 0) → (P_X9_got_17 Q v0 S2)) ∧ ((¬ x4 = 0) → (P_X9_isFace v1 (fun x8 S6 => Gr S2 S6 → bl x8 → (((¬ x8 = 0) → (∀ S10 : HS, S10 = sI S6 v0 9 (0 : Int32) → (∃ a11 : Nat, fR S10 v0 6 = some a11 ∧ (ob S10 a11 0 ∧ (∃ a12 : Nat, fR S10 a11 4 = some a12 ∧ (ob S10 a12 2 ∧ (∃ a13 : Nat, fR S10 a12 2 = some a13 ∧ (ob S10 a13 14 ∧ (vp_in v1 (hN S10 a13) ∧ ∀ x15 : Int64, x15 = fJ S10 a13 v1.toNatClampNeg → (P_X9_fraction x15 (2520 : Int64) v2 (fun x18 S16 => Gr S10 S16 → (Q x18 S16)) S10)))))))))) ∧ ((x8 = 0) → (P_X9_got_17 Q v0 S6)))) S2)))) S)))
set_option maxRecDepth 20000 in
set_option maxHeartbeats 4000000 in
theorem T_X9_got_0 {X : CX} {Q : Int64 → HS → Prop} (C : Cx X cX9_got RX9 3 rm_X9_got) (E : ReJ X rm_X9_got Q) (ht : (xh X).sig.returnType = (some .long)) (hn : (xh X).name = yX9_got.name) {v0 : Nat} {v1 : Int32} {v2 : Int32} {S : HS} (h : P_X9_got_0 Q v0 v1 v2 S) : WS X 3 0 0 0 [(0, .ref v0), (1, .int v1), (2, .int v2)] [] S := by
  refine r_aload_n (pc := 0) C dX9_got_0 0 rfl ?_
  obtain ⟨o_v0, h⟩ := h
  obtain ⟨a1, ea1, h⟩ := h
  refine r_getr (pc := 1) C fL_X9_44 dX9_got_1 o_v0 ea1 ?_
  obtain ⟨o_a1, h⟩ := h
  refine r_callVi0 (pc := 4) C (rest := []) (a := a1) o_a1 [] yV_X0_isOn g_981 (c_X0_isOn h) dX9_got_4 rfl rfl (Nat.le_of_ble_eq_true rfl) ⟨by decide, by decide⟩ ⟨by decide, by decide⟩ ⟨rfl, rfl⟩ (fun x4 S2 h g3 => ?_)
  have bx4 := h.1
  have h := h.2 g3 bx4
  have o_a1 := gr_ob g3 o_a1
  have o_v0 := gr_ob g3 o_v0
  refine r_if_eq (pc := 7) C (tgt := 17) dX9_got_7 (by decide) (fun c5 => ?_) (fun c5 => ?_)
  · have h := h.1 c5
    exact r_sub [0] rfl (T_X9_got_17 C E ht hn h)
  · have h := h.2 c5
    refine r_iload_n (pc := 10) C dX9_got_10 1 rfl ?_
    refine r_callSi0 (pc := 11) C (rest := []) rfl [.int v1] yS_X9_isFace g_653 (c_X9_isFace h) dX9_got_11 rfl rfl (Nat.le_of_ble_eq_true rfl) ⟨by decide, by decide⟩ ⟨by decide, by decide⟩ ⟨rfl, rfl⟩ (fun x8 S6 h g7 => ?_)
    have bx8 := h.1
    have h := h.2 g7 bx8
    have o_a1 := gr_ob g7 o_a1
    have o_v0 := gr_ob g7 o_v0
    refine r_if_ne (pc := 14) C (tgt := 24) dX9_got_14 (by decide) (fun c9 => ?_) (fun c9 => ?_)
    · have h := h.1 c9
      refine r_aload_n (pc := 24) C dX9_got_24 0 rfl ?_
      refine r_iconst (pc := 25) C (v := (0 : Int32)) dX9_got_25 (by decide) ?_
      refine r_puti (pc := 26) C pfL_X9_92 dX9_got_26 o_v0 ?_
      refine r_heap (fun S10 eS10 => ?_)
      have h := h S10 eS10
      have o_a1 := ob_I eS10 o_a1
      have o_v0 := ob_I eS10 o_v0
      refine r_aload_n (pc := 29) C dX9_got_29 0 rfl ?_
      obtain ⟨a11, ea11, h⟩ := h
      refine r_getr (pc := 30) C fL_X9_44 dX9_got_30 o_v0 ea11 ?_
      obtain ⟨o_a11, h⟩ := h
      obtain ⟨a12, ea12, h⟩ := h
      refine r_getr (pc := 33) C fL_X9_287 dX9_got_33 o_a11 ea12 ?_
      obtain ⟨o_a12, h⟩ := h
      obtain ⟨a13, ea13, h⟩ := h
      refine r_getr (pc := 36) C fL_X9_322 dX9_got_36 o_a12 ea13 ?_
      refine r_iload_n (pc := 39) C dX9_got_39 1 rfl ?_
      obtain ⟨o_a13, h⟩ := h
      obtain ⟨i14, h⟩ := h
      refine r_lald (pc := 40) C dX9_got_40 o_a13 i14 ?_
      refine r_topl (fun x15 ex15 => ?_)
      have h := h x15 ex15
      refine r_ldc2 (pc := 41) C (v := (2520 : Int64)) dX9_got_41 g_721 ?_
      refine r_iload_n (pc := 44) C dX9_got_44 2 rfl ?_
      refine r_callSl0 (pc := 45) C (rest := []) rfl [.long x15, .long (2520 : Int64), .int v2] yS_X9_fraction g_722 (c_X9_fraction h) dX9_got_45 rfl rfl (Nat.le_of_ble_eq_true rfl) ⟨by decide, by decide⟩ ⟨by decide, by decide⟩ ⟨rfl, rfl⟩ (fun x18 S16 h g17 => ?_)
      have h := h g17
      have o_a1 := gr_ob g17 o_a1
      have o_a11 := gr_ob g17 o_a11
      have o_a12 := gr_ob g17 o_a12
      have o_a13 := gr_ob g17 o_a13
      have o_v0 := gr_ob g17 o_v0
      exact r_lret (pc := 48) C E ht dX9_got_48 (by decide) (by decide) h
    · have h := h.2 c9
      exact r_sub [0] rfl (T_X9_got_17 C E ht hn h)
def P_X9_got (v0 : Nat) (v1 : Int32) (v2 : Int32) (Q : Int64 → HS → Prop) (S : HS) : Prop := P_X9_got_0 Q v0 v1 v2 S
theorem c_X9_got {l : Launch} {Ee : EE} {S : HS} {v0 : Nat} {v1 : Int32} {v2 : Int32} {Q : Int64 → HS → Prop} (h : P_X9_got v0 v1 v2 Q S) : MJ l yX9_got cX9_got 3 (some .long) rm_X9_got Ee S [.ref v0, .int v1, .int v2] Q :=
  openJ (by decide) (Nat.le_of_ble_eq_true rfl) (fun X C E ht hn hE hl => by subst hE; exact r_sub [0, 1, 2] rfl (T_X9_got_0 C E ht hn h))
def rm_X9_held : Room := { frames := 3, cells := 0, slots := 0, locals := 76 }
def P_X9_held_0 (Q : Int32 → HS → Prop) (v0 : Nat) (v1 : Int32) (v2 : Int32) (v3 : Int32) (v4 : Int32) (v5 : Int32) (S : HS) : Prop := ob S v0 9 ∧ (P_X9_legTrouble v0 v1 v2 v3 v4 v5 (fun x3 S1 => Gr S S1 → (P_X9_refusedBy v0 x3 (fun x6 S4 => Gr S1 S4 → bl x6 → (((x6 = 0) → (∃ a8 : Nat, fR S4 v0 2 = some a8 ∧ (ob S4 a8 8 ∧ (∃ a9 : Nat, fR S4 a8 9 = some a9 ∧ (ob S4 a9 19 ∧ (vp_in v1 (hN S4 a9) ∧ ∃ a11 : Nat, fR S4 a9 v1.toNatClampNeg = some a11 ∧ (ob S4 a11 6 ∧ (∀ x12 : Int32, x12 = fI S4 a11 0 → (((x12 = (3 : Int32)) → (∃ a14 : Nat, fR S4 v0 4 = some a14 ∧ (∃ a15 : Nat, fR S4 v0 2 = some a15 ∧ (ob S4 a15 8 ∧ (∃ a16 : Nat, fR S4 a15 8 = some a16 ∧ (ob S4 a16 18 ∧ (vp_in v2 (hN S4 a16) ∧ ∃ a18 : Nat, fR S4 a16 v2.toNatClampNeg = some a18 ∧ (∃ a19 : Nat, fR S4 v0 2 = some a19 ∧ (ob S4 a19 8 ∧ (∃ a20 : Nat, fR S4 a19 6 = some a20 ∧ (ob S4 a20 17 ∧ (vp_in v4 (hN S4 a20) ∧ ∃ a22 : Nat, fR S4 a20 v4.toNatClampNeg = some a22 ∧ (ob S4 a14 1 ∧ (P_X1_lay a14 a18 v3 a22 v5 (fun S23 => Gr S4 S23 → (∃ a26 : Nat, fR S23 v0 4 = some a26 ∧ (∃ a27 : Nat, fR S23 v0 2 = some a27 ∧ (ob S23 a27 8 ∧ (∃ a28 : Nat, fR S23 a27 9 = some a28 ∧ (ob S23 a28 19 ∧ (vp_in v1 (hN S23 a28) ∧ ∃ a30 : Nat, fR S23 a28 v1.toNatClampNeg = some a30 ∧ (ob S23 a26 1 ∧ (P_X1_isForward a26 a30 (fun x33 S31 => Gr S23 S31 → bl x33 → (((x33 = 0) → (Q (0 : Int32) S31)) ∧ ((¬ x33 = 0) → (Q (1 : Int32) S31)))) S23))))))))) S4)))))))))))))) ∧ ((¬ x12 = (3 : Int32)) → (Q (-2 : Int32) S4))))))))))) ∧ ((¬ x6 = 0) → (Q (-1 : Int32) S4)))) S1)) S)
set_option maxRecDepth 20000 in
set_option maxHeartbeats 4000000 in
theorem T_X9_held_0 {X : CX} {Q : Int32 → HS → Prop} (C : Cx X cX9_held RX9 6 rm_X9_held) (E : ReI X rm_X9_held Q) (ht : (xh X).sig.returnType = (some .int)) (hn : (xh X).name = yX9_held.name) {v0 : Nat} {v1 : Int32} {v2 : Int32} {v3 : Int32} {v4 : Int32} {v5 : Int32} {S : HS} (h : P_X9_held_0 Q v0 v1 v2 v3 v4 v5 S) : WS X 6 0 0 0 [(0, .ref v0), (1, .int v1), (2, .int v2), (3, .int v3), (4, .int v4), (5, .int v5)] [] S := by
  refine r_aload_n (pc := 0) C dX9_held_0 0 rfl ?_
  refine r_aload_n (pc := 1) C dX9_held_1 0 rfl ?_
  refine r_iload_n (pc := 2) C dX9_held_2 1 rfl ?_
  refine r_iload_n (pc := 3) C dX9_held_3 2 rfl ?_
  refine r_iload_n (pc := 4) C dX9_held_4 3 rfl ?_
  refine r_iload (pc := 5) C dX9_held_5 4 rfl ?_
  refine r_iload (pc := 7) C dX9_held_7 5 rfl ?_
  obtain ⟨o_v0, h⟩ := h
  refine r_callVi0 (pc := 9) C (rest := [.ref v0]) (a := v0) o_v0 [.int v1, .int v2, .int v3, .int v4, .int v5] yV_X9_legTrouble g_656 (c_X9_legTrouble h) dX9_held_9 rfl rfl (Nat.le_of_ble_eq_true rfl) ⟨by decide, by decide⟩ ⟨by decide, by decide⟩ ⟨rfl, rfl⟩ (fun x3 S1 h g2 => ?_)
  have h := h g2
  have o_v0 := gr_ob g2 o_v0
  refine r_callVi0 (pc := 12) C (rest := []) (a := v0) o_v0 [.int x3] yV_X9_refusedBy g_683 (c_X9_refusedBy h) dX9_held_12 rfl rfl (Nat.le_of_ble_eq_true rfl) ⟨by decide, by decide⟩ ⟨by decide, by decide⟩ ⟨rfl, rfl⟩ (fun x6 S4 h g5 => ?_)
  have bx6 := h.1
  have h := h.2 g5 bx6
  have o_v0 := gr_ob g5 o_v0
  refine r_if_eq (pc := 15) C (tgt := 20) dX9_held_15 (by decide) (fun c7 => ?_) (fun c7 => ?_)
  · have h := h.1 c7
    refine r_aload_n (pc := 20) C dX9_held_20 0 rfl ?_
    obtain ⟨a8, ea8, h⟩ := h
    refine r_getr (pc := 21) C fL_X9_16 dX9_held_21 o_v0 ea8 ?_
    obtain ⟨o_a8, h⟩ := h
    obtain ⟨a9, ea9, h⟩ := h
    refine r_getr (pc := 24) C fL_X9_108 dX9_held_24 o_a8 ea9 ?_
    refine r_iload_n (pc := 27) C dX9_held_27 1 rfl ?_
    obtain ⟨o_a9, h⟩ := h
    obtain ⟨i10, a11, ea11, h⟩ := h
    refine r_aald19 (pc := 28) C dX9_held_28 o_a9 i10 ea11 ?_
    obtain ⟨o_a11, h⟩ := h
    refine r_geti (pc := 29) C fL_X9_167 dX9_held_29 o_a11 ?_
    refine r_topi (fun x12 ex12 => ?_)
    have h := h x12 ex12
    refine r_iconst (pc := 32) C (v := (3 : Int32)) dX9_held_32 (by decide) ?_
    refine r_icmp_eq (pc := 33) C (tgt := 39) dX9_held_33 (by decide) (fun c13 => ?_) (fun c13 => ?_)
    · have h := h.1 c13
      refine r_aload_n (pc := 39) C dX9_held_39 0 rfl ?_
      obtain ⟨a14, ea14, h⟩ := h
      refine r_getr (pc := 40) C fL_X9_30 dX9_held_40 o_v0 ea14 ?_
      refine r_aload_n (pc := 43) C dX9_held_43 0 rfl ?_
      obtain ⟨a15, ea15, h⟩ := h
      refine r_getr (pc := 44) C fL_X9_16 dX9_held_44 o_v0 ea15 ?_
      obtain ⟨o_a15, h⟩ := h
      obtain ⟨a16, ea16, h⟩ := h
      refine r_getr (pc := 47) C fL_X9_112 dX9_held_47 o_a15 ea16 ?_
      refine r_iload_n (pc := 50) C dX9_held_50 2 rfl ?_
      obtain ⟨o_a16, h⟩ := h
      obtain ⟨i17, a18, ea18, h⟩ := h
      refine r_aald18 (pc := 51) C dX9_held_51 o_a16 i17 ea18 ?_
      refine r_iload_n (pc := 52) C dX9_held_52 3 rfl ?_
      refine r_aload_n (pc := 53) C dX9_held_53 0 rfl ?_
      obtain ⟨a19, ea19, h⟩ := h
      refine r_getr (pc := 54) C fL_X9_16 dX9_held_54 o_v0 ea19 ?_
      obtain ⟨o_a19, h⟩ := h
      obtain ⟨a20, ea20, h⟩ := h
      refine r_getr (pc := 57) C fL_X9_116 dX9_held_57 o_a19 ea20 ?_
      refine r_iload (pc := 60) C dX9_held_60 4 rfl ?_
      obtain ⟨o_a20, h⟩ := h
      obtain ⟨i21, a22, ea22, h⟩ := h
      refine r_aald17 (pc := 62) C dX9_held_62 o_a20 i21 ea22 ?_
      refine r_iload (pc := 63) C dX9_held_63 5 rfl ?_
      obtain ⟨o_a14, h⟩ := h
      refine r_callVv0 (pc := 65) C (rest := []) (a := a14) o_a14 [.ref a18, .int v3, .ref a22, .int v5] yV_X1_lay g_754 (c_X1_lay h) dX9_held_65 rfl rfl (Nat.le_of_ble_eq_true rfl) ⟨by decide, by decide⟩ ⟨by decide, by decide⟩ ⟨rfl, rfl⟩ (fun S23 h g24 => ?_)
      have h := h g24
      have o_a11 := gr_ob g24 o_a11
      have o_a14 := gr_ob g24 o_a14
      have o_a15 := gr_ob g24 o_a15
      have o_a16 := gr_ob g24 o_a16
      have o_a19 := gr_ob g24 o_a19
      have o_a20 := gr_ob g24 o_a20
      have o_a8 := gr_ob g24 o_a8
      have o_a9 := gr_ob g24 o_a9
      have o_v0 := gr_ob g24 o_v0
      refine r_aload_n (pc := 68) C dX9_held_68 0 rfl ?_
      obtain ⟨a26, ea26, h⟩ := h
      refine r_getr (pc := 69) C fL_X9_30 dX9_held_69 o_v0 ea26 ?_
      refine r_aload_n (pc := 72) C dX9_held_72 0 rfl ?_
      obtain ⟨a27, ea27, h⟩ := h
      refine r_getr (pc := 73) C fL_X9_16 dX9_held_73 o_v0 ea27 ?_
      obtain ⟨o_a27, h⟩ := h
      obtain ⟨a28, ea28, h⟩ := h
      refine r_getr (pc := 76) C fL_X9_108 dX9_held_76 o_a27 ea28 ?_
      refine r_iload_n (pc := 79) C dX9_held_79 1 rfl ?_
      obtain ⟨o_a28, h⟩ := h
      obtain ⟨i29, a30, ea30, h⟩ := h
      refine r_aald19 (pc := 80) C dX9_held_80 o_a28 i29 ea30 ?_
      obtain ⟨o_a26, h⟩ := h
      refine r_callVi0 (pc := 81) C (rest := []) (a := a26) o_a26 [.ref a30] yV_X1_isForward g_755 (c_X1_isForward h) dX9_held_81 rfl rfl (Nat.le_of_ble_eq_true rfl) ⟨by decide, by decide⟩ ⟨by decide, by decide⟩ ⟨rfl, rfl⟩ (fun x33 S31 h g32 => ?_)
      have bx33 := h.1
      have h := h.2 g32 bx33
      have o_a11 := gr_ob g32 o_a11
      have o_a14 := gr_ob g32 o_a14
      have o_a15 := gr_ob g32 o_a15
      have o_a16 := gr_ob g32 o_a16
      have o_a19 := gr_ob g32 o_a19
      have o_a20 := gr_ob g32 o_a20
      have o_a26 := gr_ob g32 o_a26
      have o_a27 := gr_ob g32 o_a27
      have o_a28 := gr_ob g32 o_a28
      have o_a8 := gr_ob g32 o_a8
      have o_a9 := gr_ob g32 o_a9
      have o_v0 := gr_ob g32 o_v0
      refine r_if_eq (pc := 84) C (tgt := 91) dX9_held_84 (by decide) (fun c34 => ?_) (fun c34 => ?_)
      · have h := h.1 c34
        refine r_iconst (pc := 91) C (v := (0 : Int32)) dX9_held_91 (by decide) ?_
        exact r_iret (pc := 92) C E ht dX9_held_92 (by decide) (by decide) h
      · have h := h.2 c34
        refine r_iconst (pc := 87) C (v := (1 : Int32)) dX9_held_87 (by decide) ?_
        refine r_goto (pc := 88) C (tgt := 92) dX9_held_88 (by decide) ?_
        exact r_iret (pc := 92) C E ht dX9_held_92 (by decide) (by decide) h
    · have h := h.2 c13
      refine r_bipush (pc := 36) C (v := (-2 : Int32)) dX9_held_36 (by decide) ?_
      exact r_iret (pc := 38) C E ht dX9_held_38 (by decide) (by decide) h
  · have h := h.2 c7
    refine r_iconst (pc := 18) C (v := (-1 : Int32)) dX9_held_18 (by decide) ?_
    exact r_iret (pc := 19) C E ht dX9_held_19 (by decide) (by decide) h
def P_X9_held (v0 : Nat) (v1 : Int32) (v2 : Int32) (v3 : Int32) (v4 : Int32) (v5 : Int32) (Q : Int32 → HS → Prop) (S : HS) : Prop := P_X9_held_0 Q v0 v1 v2 v3 v4 v5 S
theorem c_X9_held {l : Launch} {Ee : EE} {S : HS} {v0 : Nat} {v1 : Int32} {v2 : Int32} {v3 : Int32} {v4 : Int32} {v5 : Int32} {Q : Int32 → HS → Prop} (h : P_X9_held v0 v1 v2 v3 v4 v5 Q S) : MI l yX9_held cX9_held 6 (some .int) rm_X9_held Ee S [.ref v0, .int v1, .int v2, .int v3, .int v4, .int v5] Q :=
  openI (by decide) (Nat.le_of_ble_eq_true rfl) (fun X C E ht hn hE hl => by subst hE; exact r_sub [0, 1, 2, 3, 4, 5] rfl (T_X9_held_0 C E ht hn h))
def rm_X9_init : Room := { frames := 4, cells := 118, slots := 1517, locals := 81 }
def P_X9_init_0 (Q : HS → Prop) (v0 : Nat) (S : HS) : Prop := ∀ a1 : Nat, a1 ∉ hL S → ∀ S2 : HS, S2 = nW S a1 12 900 → (ob S2 v0 9 ∧ (∀ S3 : HS, S3 = sR S2 v0 0 (some a1) → (∀ a4 : Nat, a4 ∉ hL S3 → ∀ S5 : HS, S5 = nW S3 a4 8 0 → (P_X8_init a4 (fun S6 => Gr S5 S6 → (∀ S9 : HS, S9 = sR S6 v0 2 (some a4) → (∀ a10 : Nat, a10 ∉ hL S9 → ∀ S11 : HS, S11 = nW S9 a10 4 0 → (P_X4_init a10 (fun S12 => Gr S11 S12 → (∀ S15 : HS, S15 = sR S12 v0 3 (some a10) → (∀ a16 : Nat, a16 ∉ hL S15 → ∀ S17 : HS, S17 = nW S15 a16 1 0 → (P_X1_init a16 (fun S18 => Gr S17 S18 → (∀ S21 : HS, S21 = sR S18 v0 4 (some a16) → (∀ a22 : Nat, a22 ∉ hL S21 → ∀ S23 : HS, S23 = nW S21 a22 7 0 → (P_X7_init a22 (fun S24 => Gr S23 S24 → (∀ S27 : HS, S27 = sR S24 v0 5 (some a22) → (∀ a28 : Nat, a28 ∉ hL S27 → ∀ S29 : HS, S29 = nW S27 a28 0 0 → (P_X0_init a28 (fun S30 => Gr S29 S30 → (∀ S33 : HS, S33 = sR S30 v0 6 (some a28) → (Q S33))) S29)))) S23)))) S17)))) S11)))) S5))))
set_option maxRecDepth 20000 in
set_option maxHeartbeats 4000000 in
theorem T_X9_init_0 {X : CX} {Q : HS → Prop} (C : Cx X cX9_init RX9 1 rm_X9_init) (E : ReV X rm_X9_init Q) (ht : (xh X).sig.returnType = none) (hn : (xh X).name = yX9_init.name) {v0 : Nat} {S : HS} (h : P_X9_init_0 Q v0 S) : WS X 1 0 0 0 [(0, .ref v0)] [] S := by
  refine r_aload_n (pc := 0) C dX9_init_0 0 rfl ?_
  refine r_objinit (pc := 1) C g_27 dX9_init_1 (by decide) (Nat.le_of_ble_eq_true rfl) ?_
  refine r_aload_n (pc := 4) C dX9_init_4 0 rfl ?_
  refine r_sipush (pc := 5) C (v := (900 : Int32)) dX9_init_5 (by decide) ?_
  refine r_newa12 (pc := 8) C (N := 900) g_71 dX9_init_8 (by decide) (by decide) (by decide) (by decide) (by decide) (fun a1 q44 => ?_)
  refine r_heap (fun S2 eS2 => ?_)
  have h := h a1 q44 S2 eS2
  have g45 := gr_of_new eS2 q44
  have o_a1 := ob_of_new eS2
  obtain ⟨o_v0, h⟩ := h
  refine r_putFr (pc := 10) C pfL_X9_9 hn dX9_init_10 o_v0 ?_
  refine r_heap (fun S3 eS3 => ?_)
  have h := h S3 eS3
  have o_a1 := ob_R eS3 o_a1
  have o_v0 := ob_R eS3 o_v0
  refine r_aload_n (pc := 13) C dX9_init_13 0 rfl ?_
  refine r_new (pc := 14) C nc_X9_13 dX9_init_14 (by decide) (by decide) (fun a4 q42 => ?_)
  refine r_heap (fun S5 eS5 => ?_)
  have h := h a4 q42 S5 eS5
  have g43 := gr_of_new eS5 q42
  have o_a4 := ob_of_new eS5
  have o_a1 := gr_ob g43 o_a1
  have o_v0 := gr_ob g43 o_v0
  refine r_dup (pc := 17) C dX9_init_17 rfl ?_
  refine r_callIv (pc := 18) C (rest := [.ref a4, .ref v0]) (a := a4) [] yI_X8_init g_32 (c_X8_init h) dX9_init_18 rfl rfl (Nat.le_of_ble_eq_true rfl) ⟨by decide, by decide⟩ ⟨by decide, by decide⟩ (fun S6 h g7 => ?_)
  have h := h g7
  have o_a1 := gr_ob g7 o_a1
  have o_a4 := gr_ob g7 o_a4
  have o_v0 := gr_ob g7 o_v0
  refine r_putr (pc := 21) C pfL_X9_16 dX9_init_21 o_v0 ?_
  refine r_heap (fun S9 eS9 => ?_)
  have h := h S9 eS9
  have o_a1 := ob_R eS9 o_a1
  have o_a4 := ob_R eS9 o_a4
  have o_v0 := ob_R eS9 o_v0
  refine r_aload_n (pc := 24) C dX9_init_24 0 rfl ?_
  refine r_new (pc := 25) C nc_X9_20 dX9_init_25 (by decide) (by decide) (fun a10 q40 => ?_)
  refine r_heap (fun S11 eS11 => ?_)
  have h := h a10 q40 S11 eS11
  have g41 := gr_of_new eS11 q40
  have o_a10 := ob_of_new eS11
  have o_a1 := gr_ob g41 o_a1
  have o_a4 := gr_ob g41 o_a4
  have o_v0 := gr_ob g41 o_v0
  refine r_dup (pc := 28) C dX9_init_28 rfl ?_
  refine r_callNv (pc := 29) C (rest := [.ref a10, .ref v0]) (a := a10) [] yI_X4_init (List.mem_of_getElem? (i := 3) rfl) (c_X4_init h) dX9_init_29 rfl rfl (Nat.le_of_ble_eq_true rfl) ⟨by decide, by decide⟩ ⟨by decide, by decide⟩ (fun S12 h g13 => ?_)
  have h := h g13
  have o_a1 := gr_ob g13 o_a1
  have o_a10 := gr_ob g13 o_a10
  have o_a4 := gr_ob g13 o_a4
  have o_v0 := gr_ob g13 o_v0
  refine r_putFr (pc := 32) C pfL_X9_23 hn dX9_init_32 o_v0 ?_
  refine r_heap (fun S15 eS15 => ?_)
  have h := h S15 eS15
  have o_a1 := ob_R eS15 o_a1
  have o_a10 := ob_R eS15 o_a10
  have o_a4 := ob_R eS15 o_a4
  have o_v0 := ob_R eS15 o_v0
  refine r_aload_n (pc := 35) C dX9_init_35 0 rfl ?_
  refine r_new (pc := 36) C nc_X9_27 dX9_init_36 (by decide) (by decide) (fun a16 q38 => ?_)
  refine r_heap (fun S17 eS17 => ?_)
  have h := h a16 q38 S17 eS17
  have g39 := gr_of_new eS17 q38
  have o_a16 := ob_of_new eS17
  have o_a1 := gr_ob g39 o_a1
  have o_a10 := gr_ob g39 o_a10
  have o_a4 := gr_ob g39 o_a4
  have o_v0 := gr_ob g39 o_v0
  refine r_dup (pc := 39) C dX9_init_39 rfl ?_
  refine r_callNv (pc := 40) C (rest := [.ref a16, .ref v0]) (a := a16) [] yI_X1_init (List.mem_of_getElem? (i := 4) rfl) (c_X1_init h) dX9_init_40 rfl rfl (Nat.le_of_ble_eq_true rfl) ⟨by decide, by decide⟩ ⟨by decide, by decide⟩ (fun S18 h g19 => ?_)
  have h := h g19
  have o_a1 := gr_ob g19 o_a1
  have o_a10 := gr_ob g19 o_a10
  have o_a16 := gr_ob g19 o_a16
  have o_a4 := gr_ob g19 o_a4
  have o_v0 := gr_ob g19 o_v0
  refine r_putFr (pc := 43) C pfL_X9_30 hn dX9_init_43 o_v0 ?_
  refine r_heap (fun S21 eS21 => ?_)
  have h := h S21 eS21
  have o_a1 := ob_R eS21 o_a1
  have o_a10 := ob_R eS21 o_a10
  have o_a16 := ob_R eS21 o_a16
  have o_a4 := ob_R eS21 o_a4
  have o_v0 := ob_R eS21 o_v0
  refine r_aload_n (pc := 46) C dX9_init_46 0 rfl ?_
  refine r_new (pc := 47) C nc_X9_34 dX9_init_47 (by decide) (by decide) (fun a22 q36 => ?_)
  refine r_heap (fun S23 eS23 => ?_)
  have h := h a22 q36 S23 eS23
  have g37 := gr_of_new eS23 q36
  have o_a22 := ob_of_new eS23
  have o_a1 := gr_ob g37 o_a1
  have o_a10 := gr_ob g37 o_a10
  have o_a16 := gr_ob g37 o_a16
  have o_a4 := gr_ob g37 o_a4
  have o_v0 := gr_ob g37 o_v0
  refine r_dup (pc := 50) C dX9_init_50 rfl ?_
  refine r_callNv (pc := 51) C (rest := [.ref a22, .ref v0]) (a := a22) [] yI_X7_init (List.mem_of_getElem? (i := 5) rfl) (c_X7_init h) dX9_init_51 rfl rfl (Nat.le_of_ble_eq_true rfl) ⟨by decide, by decide⟩ ⟨by decide, by decide⟩ (fun S24 h g25 => ?_)
  have h := h g25
  have o_a1 := gr_ob g25 o_a1
  have o_a10 := gr_ob g25 o_a10
  have o_a16 := gr_ob g25 o_a16
  have o_a22 := gr_ob g25 o_a22
  have o_a4 := gr_ob g25 o_a4
  have o_v0 := gr_ob g25 o_v0
  refine r_putFr (pc := 54) C pfL_X9_37 hn dX9_init_54 o_v0 ?_
  refine r_heap (fun S27 eS27 => ?_)
  have h := h S27 eS27
  have o_a1 := ob_R eS27 o_a1
  have o_a10 := ob_R eS27 o_a10
  have o_a16 := ob_R eS27 o_a16
  have o_a22 := ob_R eS27 o_a22
  have o_a4 := ob_R eS27 o_a4
  have o_v0 := ob_R eS27 o_v0
  refine r_aload_n (pc := 57) C dX9_init_57 0 rfl ?_
  refine r_new (pc := 58) C nc_X9_41 dX9_init_58 (by decide) (by decide) (fun a28 q34 => ?_)
  refine r_heap (fun S29 eS29 => ?_)
  have h := h a28 q34 S29 eS29
  have g35 := gr_of_new eS29 q34
  have o_a28 := ob_of_new eS29
  have o_a1 := gr_ob g35 o_a1
  have o_a10 := gr_ob g35 o_a10
  have o_a16 := gr_ob g35 o_a16
  have o_a22 := gr_ob g35 o_a22
  have o_a4 := gr_ob g35 o_a4
  have o_v0 := gr_ob g35 o_v0
  refine r_dup (pc := 61) C dX9_init_61 rfl ?_
  refine r_callIv (pc := 62) C (rest := [.ref a28, .ref v0]) (a := a28) [] yI_X0_init g_333 (c_X0_init h) dX9_init_62 rfl rfl (Nat.le_of_ble_eq_true rfl) ⟨by decide, by decide⟩ ⟨by decide, by decide⟩ (fun S30 h g31 => ?_)
  have h := h g31
  have o_a1 := gr_ob g31 o_a1
  have o_a10 := gr_ob g31 o_a10
  have o_a16 := gr_ob g31 o_a16
  have o_a22 := gr_ob g31 o_a22
  have o_a28 := gr_ob g31 o_a28
  have o_a4 := gr_ob g31 o_a4
  have o_v0 := gr_ob g31 o_v0
  refine r_putFr (pc := 65) C pfL_X9_44 hn dX9_init_65 o_v0 ?_
  refine r_heap (fun S33 eS33 => ?_)
  have h := h S33 eS33
  have o_a1 := ob_R eS33 o_a1
  have o_a10 := ob_R eS33 o_a10
  have o_a16 := ob_R eS33 o_a16
  have o_a22 := ob_R eS33 o_a22
  have o_a28 := ob_R eS33 o_a28
  have o_a4 := ob_R eS33 o_a4
  have o_v0 := ob_R eS33 o_v0
  exact r_vret (pc := 68) C E ht dX9_init_68 (by decide) (by decide) h
def P_X9_init (v0 : Nat) (Q : HS → Prop) (S : HS) : Prop := P_X9_init_0 Q v0 S
theorem c_X9_init {l : Launch} {Ee : EE} {S : HS} {v0 : Nat} {Q : HS → Prop} (h : P_X9_init v0 Q S) : MV l yX9_init cX9_init 1 none rm_X9_init Ee S [.ref v0] Q :=
  openV (by decide) (Nat.le_of_ble_eq_true rfl) (fun X C E ht hn hE hl => by subst hE; exact r_sub [0] rfl (T_X9_init_0 C E ht hn h))
def rm_X9_isTill : Room := { frames := 0, cells := 0, slots := 0, locals := 0 }
def P_X9_isTill_0 (Q : Int32 → HS → Prop) (v0 : Int32) (S : HS) : Prop := ((v0 < 0) → (Q (0 : Int32) S)) ∧ ((¬ v0 < 0) → ((((400 : Int32) < v0) → (Q (0 : Int32) S)) ∧ ((¬ (400 : Int32) < v0) → (Q (1 : Int32) S))))
set_option maxRecDepth 20000 in
set_option maxHeartbeats 4000000 in
theorem T_X9_isTill_0 {X : CX} {Q : Int32 → HS → Prop} (C : Cx X cX9_isTill RX9 1 rm_X9_isTill) (E : ReI X rm_X9_isTill (fun r S => bl r ∧ Q r S)) (ht : (xh X).sig.returnType = (some .boolean)) (hn : (xh X).name = yX9_isTill.name) {v0 : Int32} {S : HS} (h : P_X9_isTill_0 Q v0 S) : WS X 1 0 0 0 [(0, .int v0)] [] S := by
  refine r_iload_n (pc := 0) C dX9_isTill_0 0 rfl ?_
  refine r_if_lt (pc := 1) C (tgt := 15) dX9_isTill_1 (by decide) (fun c1 => ?_) (fun c1 => ?_)
  · have h := h.1 c1
    refine r_iconst (pc := 15) C (v := (0 : Int32)) dX9_isTill_15 (by decide) ?_
    exact r_zret (pc := 16) C E ht dX9_isTill_16 (by decide) (by decide) (Or.inl rfl) h
  · have h := h.2 c1
    refine r_iload_n (pc := 4) C dX9_isTill_4 0 rfl ?_
    refine r_sipush (pc := 5) C (v := (400 : Int32)) dX9_isTill_5 (by decide) ?_
    refine r_icmp_gt (pc := 8) C (tgt := 15) dX9_isTill_8 (by decide) (fun c2 => ?_) (fun c2 => ?_)
    · have h := h.1 c2
      refine r_iconst (pc := 15) C (v := (0 : Int32)) dX9_isTill_15 (by decide) ?_
      exact r_zret (pc := 16) C E ht dX9_isTill_16 (by decide) (by decide) (Or.inl rfl) h
    · have h := h.2 c2
      refine r_iconst (pc := 11) C (v := (1 : Int32)) dX9_isTill_11 (by decide) ?_
      refine r_goto (pc := 12) C (tgt := 16) dX9_isTill_12 (by decide) ?_
      exact r_zret (pc := 16) C E ht dX9_isTill_16 (by decide) (by decide) (Or.inr rfl) h
def P_X9_isTill (v0 : Int32) (Q : Int32 → HS → Prop) (S : HS) : Prop := P_X9_isTill_0 Q v0 S
theorem c_X9_isTill {l : Launch} {Ee : EE} {S : HS} {v0 : Int32} {Q : Int32 → HS → Prop} (h : P_X9_isTill v0 Q S) : MI l yX9_isTill cX9_isTill 1 (some .boolean) rm_X9_isTill Ee S [.int v0] (fun r S => bl r ∧ Q r S) :=
  openI (by decide) (Nat.le_of_ble_eq_true rfl) (fun X C E ht hn hE hl => by subst hE; exact r_sub [0] rfl (T_X9_isTill_0 C E ht hn h))
def rm_X9_placesTrouble : Room := { frames := 1, cells := 0, slots := 0, locals := 21 }
def P_X9_placesTrouble_38 (Q : Int32 → HS → Prop) (s0 : Int32) (S : HS) : Prop := ((s0 = 0) → (Q (1 : Int32) S)) ∧ ((¬ s0 = 0) → (Q (0 : Int32) S))
set_option maxRecDepth 20000 in
set_option maxHeartbeats 4000000 in
theorem T_X9_placesTrouble_38 {X : CX} {Q : Int32 → HS → Prop} (C : Cx X cX9_placesTrouble RX9 5 rm_X9_placesTrouble) (E : ReI X rm_X9_placesTrouble Q) (ht : (xh X).sig.returnType = (some .int)) (hn : (xh X).name = yX9_placesTrouble.name) {s0 : Int32} {S : HS} (h : P_X9_placesTrouble_38 Q s0 S) : WS X 5 0 0 38 [] [.int s0] S := by
  refine r_istore (pc := 38) C dX9_placesTrouble_38 (by decide) (lv' := [(4, .int s0)]) rfl ?_
  refine r_iload (pc := 40) C dX9_placesTrouble_40 0 rfl ?_
  refine r_if_eq (pc := 42) C (tgt := 49) dX9_placesTrouble_42 (by decide) (fun c1 => ?_) (fun c1 => ?_)
  · have h := h.1 c1
    refine r_iconst (pc := 49) C (v := (1 : Int32)) dX9_placesTrouble_49 (by decide) ?_
    exact r_iret (pc := 50) C E ht dX9_placesTrouble_50 (by decide) (by decide) h
  · have h := h.2 c1
    refine r_iconst (pc := 45) C (v := (0 : Int32)) dX9_placesTrouble_45 (by decide) ?_
    refine r_goto (pc := 46) C (tgt := 50) dX9_placesTrouble_46 (by decide) ?_
    exact r_iret (pc := 50) C E ht dX9_placesTrouble_50 (by decide) (by decide) h
def P_X9_placesTrouble_37 (Q : Int32 → HS → Prop)  (S : HS) : Prop := P_X9_placesTrouble_38 Q (0 : Int32) S
set_option maxRecDepth 20000 in
set_option maxHeartbeats 4000000 in
theorem T_X9_placesTrouble_37 {X : CX} {Q : Int32 → HS → Prop} (C : Cx X cX9_placesTrouble RX9 5 rm_X9_placesTrouble) (E : ReI X rm_X9_placesTrouble Q) (ht : (xh X).sig.returnType = (some .int)) (hn : (xh X).name = yX9_placesTrouble.name)  {S : HS} (h : P_X9_placesTrouble_37 Q S) : WS X 5 0 0 37 [] [] S := by
  refine r_iconst (pc := 37) C (v := (0 : Int32)) dX9_placesTrouble_37 (by decide) ?_
  exact r_sub [] rfl (T_X9_placesTrouble_38 C E ht hn h)
def P_X9_placesTrouble_0 (Q : Int32 → HS → Prop) (v0 : Nat) (v1 : Int32) (v2 : Int32) (v3 : Int32) (S : HS) : Prop := ob S v0 9 ∧ (∃ a1 : Nat, fR S v0 2 = some a1 ∧ (ob S a1 8 ∧ (P_X8_hasWalker a1 v1 (fun x4 S2 => Gr S S2 → bl x4 → (((x4 = 0) → (P_X9_placesTrouble_37 Q S2)) ∧ ((¬ x4 = 0) → (∃ a6 : Nat, fR S2 v0 2 = some a6 ∧ (ob S2 a6 8 ∧ (P_X8_hasPlace a6 v2 (fun x9 S7 => Gr S2 S7 → bl x9 → (((x9 = 0) → (P_X9_placesTrouble_37 Q S7)) ∧ ((¬ x9 = 0) → (∃ a11 : Nat, fR S7 v0 2 = some a11 ∧ (ob S7 a11 8 ∧ (P_X8_hasPlace a11 v3 (fun x14 S12 => Gr S7 S12 → bl x14 → (((x14 = 0) → (P_X9_placesTrouble_37 Q S12)) ∧ ((¬ x14 = 0) → (P_X9_placesTrouble_38 Q (1 : Int32) S12)))) S7)))))) S2)))))) S)))
set_option maxRecDepth 20000 in
set_option maxHeartbeats 4000000 in
theorem T_X9_placesTrouble_0 {X : CX} {Q : Int32 → HS → Prop} (C : Cx X cX9_placesTrouble RX9 5 rm_X9_placesTrouble) (E : ReI X rm_X9_placesTrouble Q) (ht : (xh X).sig.returnType = (some .int)) (hn : (xh X).name = yX9_placesTrouble.name) {v0 : Nat} {v1 : Int32} {v2 : Int32} {v3 : Int32} {S : HS} (h : P_X9_placesTrouble_0 Q v0 v1 v2 v3 S) : WS X 5 0 0 0 [(0, .ref v0), (1, .int v1), (2, .int v2), (3, .int v3)] [] S := by
  refine r_aload_n (pc := 0) C dX9_placesTrouble_0 0 rfl ?_
  obtain ⟨o_v0, h⟩ := h
  obtain ⟨a1, ea1, h⟩ := h
  refine r_getr (pc := 1) C fL_X9_16 dX9_placesTrouble_1 o_v0 ea1 ?_
  refine r_iload_n (pc := 4) C dX9_placesTrouble_4 1 rfl ?_
  obtain ⟨o_a1, h⟩ := h
  refine r_callVi0 (pc := 5) C (rest := []) (a := a1) o_a1 [.int v1] yV_X8_hasWalker g_664 (c_X8_hasWalker h) dX9_placesTrouble_5 rfl rfl (Nat.le_of_ble_eq_true rfl) ⟨by decide, by decide⟩ ⟨by decide, by decide⟩ ⟨rfl, rfl⟩ (fun x4 S2 h g3 => ?_)
  have bx4 := h.1
  have h := h.2 g3 bx4
  have o_a1 := gr_ob g3 o_a1
  have o_v0 := gr_ob g3 o_v0
  refine r_if_eq (pc := 8) C (tgt := 37) dX9_placesTrouble_8 (by decide) (fun c5 => ?_) (fun c5 => ?_)
  · have h := h.1 c5
    exact r_sub [] rfl (T_X9_placesTrouble_37 C E ht hn h)
  · have h := h.2 c5
    refine r_aload_n (pc := 11) C dX9_placesTrouble_11 0 rfl ?_
    obtain ⟨a6, ea6, h⟩ := h
    refine r_getr (pc := 12) C fL_X9_16 dX9_placesTrouble_12 o_v0 ea6 ?_
    refine r_iload_n (pc := 15) C dX9_placesTrouble_15 2 rfl ?_
    obtain ⟨o_a6, h⟩ := h
    refine r_callVi0 (pc := 16) C (rest := []) (a := a6) o_a6 [.int v2] yV_X8_hasPlace g_825 (c_X8_hasPlace h) dX9_placesTrouble_16 rfl rfl (Nat.le_of_ble_eq_true rfl) ⟨by decide, by decide⟩ ⟨by decide, by decide⟩ ⟨rfl, rfl⟩ (fun x9 S7 h g8 => ?_)
    have bx9 := h.1
    have h := h.2 g8 bx9
    have o_a1 := gr_ob g8 o_a1
    have o_a6 := gr_ob g8 o_a6
    have o_v0 := gr_ob g8 o_v0
    refine r_if_eq (pc := 19) C (tgt := 37) dX9_placesTrouble_19 (by decide) (fun c10 => ?_) (fun c10 => ?_)
    · have h := h.1 c10
      exact r_sub [] rfl (T_X9_placesTrouble_37 C E ht hn h)
    · have h := h.2 c10
      refine r_aload_n (pc := 22) C dX9_placesTrouble_22 0 rfl ?_
      obtain ⟨a11, ea11, h⟩ := h
      refine r_getr (pc := 23) C fL_X9_16 dX9_placesTrouble_23 o_v0 ea11 ?_
      refine r_iload_n (pc := 26) C dX9_placesTrouble_26 3 rfl ?_
      obtain ⟨o_a11, h⟩ := h
      refine r_callVi0 (pc := 27) C (rest := []) (a := a11) o_a11 [.int v3] yV_X8_hasPlace g_825 (c_X8_hasPlace h) dX9_placesTrouble_27 rfl rfl (Nat.le_of_ble_eq_true rfl) ⟨by decide, by decide⟩ ⟨by decide, by decide⟩ ⟨rfl, rfl⟩ (fun x14 S12 h g13 => ?_)
      have bx14 := h.1
      have h := h.2 g13 bx14
      have o_a1 := gr_ob g13 o_a1
      have o_a11 := gr_ob g13 o_a11
      have o_a6 := gr_ob g13 o_a6
      have o_v0 := gr_ob g13 o_v0
      refine r_if_eq (pc := 30) C (tgt := 37) dX9_placesTrouble_30 (by decide) (fun c15 => ?_) (fun c15 => ?_)
      · have h := h.1 c15
        exact r_sub [] rfl (T_X9_placesTrouble_37 C E ht hn h)
      · have h := h.2 c15
        refine r_iconst (pc := 33) C (v := (1 : Int32)) dX9_placesTrouble_33 (by decide) ?_
        refine r_goto (pc := 34) C (tgt := 38) dX9_placesTrouble_34 (by decide) ?_
        exact r_sub [] rfl (T_X9_placesTrouble_38 C E ht hn h)
def P_X9_placesTrouble (v0 : Nat) (v1 : Int32) (v2 : Int32) (v3 : Int32) (Q : Int32 → HS → Prop) (S : HS) : Prop := P_X9_placesTrouble_0 Q v0 v1 v2 v3 S
theorem c_X9_placesTrouble {l : Launch} {Ee : EE} {S : HS} {v0 : Nat} {v1 : Int32} {v2 : Int32} {v3 : Int32} {Q : Int32 → HS → Prop} (h : P_X9_placesTrouble v0 v1 v2 v3 Q S) : MI l yX9_placesTrouble cX9_placesTrouble 5 (some .int) rm_X9_placesTrouble Ee S [.ref v0, .int v1, .int v2, .int v3] Q :=
  openI (by decide) (Nat.le_of_ble_eq_true rfl) (fun X C E ht hn hE hl => by subst hE; exact r_sub [0, 1, 2, 3] rfl (T_X9_placesTrouble_0 C E ht hn h))
def rm_X9_wayTrouble : Room := { frames := 6, cells := 8, slots := 7937, locals := 160 }
def P_X9_wayTrouble_0 (Q : Int32 → HS → Prop) (v0 : Nat) (v1 : Int32) (v2 : Int32) (v3 : Int32) (v4 : Int32) (v5 : Int32) (S : HS) : Prop := ob S v0 9 ∧ (P_X9_placesTrouble v0 v1 v2 v3 (fun x3 S1 => Gr S S1 → (((x3 = 0) → (P_X9_isTill v5 (fun x7 S5 => Gr S1 S5 → bl x7 → (((x7 = 0) → (Q (2 : Int32) S5)) ∧ ((¬ x7 = 0) → (((v4 < 0) → (Q (2 : Int32) S5)) ∧ ((¬ v4 < 0) → (((v4 ≤ v5) → (∃ a11 : Nat, fR S5 v0 5 = some a11 ∧ (∃ a12 : Nat, fR S5 v0 2 = some a12 ∧ (∃ a13 : Nat, fR S5 v0 4 = some a13 ∧ (ob S5 a11 7 ∧ (P_X7_reckon a11 a12 a13 v1 v3 v5 v4 (fun S14 => Gr S5 S14 → (∃ a17 : Nat, fR S14 v0 5 = some a17 ∧ (ob S14 a17 7 ∧ (P_X7_isOpen a17 v2 v4 (fun x20 S18 => Gr S14 S18 → bl x20 → (((x20 = 0) → (Q (6 : Int32) S18)) ∧ ((¬ x20 = 0) → (Q (0 : Int32) S18)))) S14)))) S5)))))) ∧ ((¬ v4 ≤ v5) → (Q (2 : Int32) S5)))))))) S1)) ∧ ((¬ x3 = 0) → (Q x3 S1)))) S)
set_option maxRecDepth 20000 in
set_option maxHeartbeats 4000000 in
theorem T_X9_wayTrouble_0 {X : CX} {Q : Int32 → HS → Prop} (C : Cx X cX9_wayTrouble RX9 7 rm_X9_wayTrouble) (E : ReI X rm_X9_wayTrouble Q) (ht : (xh X).sig.returnType = (some .int)) (hn : (xh X).name = yX9_wayTrouble.name) {v0 : Nat} {v1 : Int32} {v2 : Int32} {v3 : Int32} {v4 : Int32} {v5 : Int32} {S : HS} (h : P_X9_wayTrouble_0 Q v0 v1 v2 v3 v4 v5 S) : WS X 7 0 0 0 [(0, .ref v0), (1, .int v1), (2, .int v2), (3, .int v3), (4, .int v4), (5, .int v5)] [] S := by
  refine r_aload_n (pc := 0) C dX9_wayTrouble_0 0 rfl ?_
  refine r_iload_n (pc := 1) C dX9_wayTrouble_1 1 rfl ?_
  refine r_iload_n (pc := 2) C dX9_wayTrouble_2 2 rfl ?_
  refine r_iload_n (pc := 3) C dX9_wayTrouble_3 3 rfl ?_
  obtain ⟨o_v0, h⟩ := h
  refine r_callVi0 (pc := 4) C (rest := []) (a := v0) o_v0 [.int v1, .int v2, .int v3] yV_X9_placesTrouble g_821 (c_X9_placesTrouble h) dX9_wayTrouble_4 rfl rfl (Nat.le_of_ble_eq_true rfl) ⟨by decide, by decide⟩ ⟨by decide, by decide⟩ ⟨rfl, rfl⟩ (fun x3 S1 h g2 => ?_)
  have h := h g2
  have o_v0 := gr_ob g2 o_v0
  refine r_istore (pc := 7) C dX9_wayTrouble_7 (by decide) (lv' := [(6, .int x3), (0, .ref v0), (1, .int v1), (2, .int v2), (3, .int v3), (4, .int v4), (5, .int v5)]) rfl ?_
  refine r_iload (pc := 9) C dX9_wayTrouble_9 0 rfl ?_
  refine r_if_eq (pc := 11) C (tgt := 17) dX9_wayTrouble_11 (by decide) (fun c4 => ?_) (fun c4 => ?_)
  · have h := h.1 c4
    refine r_iload (pc := 17) C dX9_wayTrouble_17 6 rfl ?_
    refine r_callSi0 (pc := 19) C (rest := []) rfl [.int v5] yS_X9_isTill g_829 (c_X9_isTill h) dX9_wayTrouble_19 rfl rfl (Nat.le_of_ble_eq_true rfl) ⟨by decide, by decide⟩ ⟨by decide, by decide⟩ ⟨rfl, rfl⟩ (fun x7 S5 h g6 => ?_)
    have bx7 := h.1
    have h := h.2 g6 bx7
    have o_v0 := gr_ob g6 o_v0
    refine r_if_eq (pc := 22) C (tgt := 37) dX9_wayTrouble_22 (by decide) (fun c8 => ?_) (fun c8 => ?_)
    · have h := h.1 c8
      refine r_iconst (pc := 37) C (v := (2 : Int32)) dX9_wayTrouble_37 (by decide) ?_
      exact r_iret (pc := 38) C E ht dX9_wayTrouble_38 (by decide) (by decide) h
    · have h := h.2 c8
      refine r_iload (pc := 25) C dX9_wayTrouble_25 5 rfl ?_
      refine r_if_lt (pc := 27) C (tgt := 37) dX9_wayTrouble_27 (by decide) (fun c9 => ?_) (fun c9 => ?_)
      · have h := h.1 c9
        refine r_iconst (pc := 37) C (v := (2 : Int32)) dX9_wayTrouble_37 (by decide) ?_
        exact r_iret (pc := 38) C E ht dX9_wayTrouble_38 (by decide) (by decide) h
      · have h := h.2 c9
        refine r_iload (pc := 30) C dX9_wayTrouble_30 5 rfl ?_
        refine r_iload (pc := 32) C dX9_wayTrouble_32 6 rfl ?_
        refine r_icmp_le (pc := 34) C (tgt := 39) dX9_wayTrouble_34 (by decide) (fun c10 => ?_) (fun c10 => ?_)
        · have h := h.1 c10
          refine r_aload_n (pc := 39) C dX9_wayTrouble_39 1 rfl ?_
          obtain ⟨a11, ea11, h⟩ := h
          refine r_getr (pc := 40) C fL_X9_37 dX9_wayTrouble_40 o_v0 ea11 ?_
          refine r_aload_n (pc := 43) C dX9_wayTrouble_43 1 rfl ?_
          obtain ⟨a12, ea12, h⟩ := h
          refine r_getr (pc := 44) C fL_X9_16 dX9_wayTrouble_44 o_v0 ea12 ?_
          refine r_aload_n (pc := 47) C dX9_wayTrouble_47 1 rfl ?_
          obtain ⟨a13, ea13, h⟩ := h
          refine r_getr (pc := 48) C fL_X9_30 dX9_wayTrouble_48 o_v0 ea13 ?_
          refine r_iload_n (pc := 51) C dX9_wayTrouble_51 2 rfl ?_
          refine r_iload_n (pc := 52) C dX9_wayTrouble_52 4 rfl ?_
          refine r_iload (pc := 53) C dX9_wayTrouble_53 6 rfl ?_
          refine r_iload (pc := 55) C dX9_wayTrouble_55 5 rfl ?_
          obtain ⟨o_a11, h⟩ := h
          refine r_callVv (pc := 57) C (rest := []) (a := a11) o_a11 [.ref a12, .ref a13, .int v1, .int v3, .int v5, .int v4] yV_X7_reckon g_832 (c_X7_reckon h) dX9_wayTrouble_57 rfl rfl (Nat.le_of_ble_eq_true rfl) ⟨by decide, by decide⟩ ⟨by decide, by decide⟩ (fun S14 h g15 => ?_)
          have h := h g15
          have o_a11 := gr_ob g15 o_a11
          have o_v0 := gr_ob g15 o_v0
          refine r_aload_n (pc := 60) C dX9_wayTrouble_60 1 rfl ?_
          obtain ⟨a17, ea17, h⟩ := h
          refine r_getr (pc := 61) C fL_X9_37 dX9_wayTrouble_61 o_v0 ea17 ?_
          refine r_iload_n (pc := 64) C dX9_wayTrouble_64 3 rfl ?_
          refine r_iload (pc := 65) C dX9_wayTrouble_65 5 rfl ?_
          obtain ⟨o_a17, h⟩ := h
          refine r_callVi0 (pc := 67) C (rest := []) (a := a17) o_a17 [.int v2, .int v4] yV_X7_isOpen g_888 (c_X7_isOpen h) dX9_wayTrouble_67 rfl rfl (Nat.le_of_ble_eq_true rfl) ⟨by decide, by decide⟩ ⟨by decide, by decide⟩ ⟨rfl, rfl⟩ (fun x20 S18 h g19 => ?_)
          have bx20 := h.1
          have h := h.2 g19 bx20
          have o_a11 := gr_ob g19 o_a11
          have o_a17 := gr_ob g19 o_a17
          have o_v0 := gr_ob g19 o_v0
          refine r_if_eq (pc := 70) C (tgt := 77) dX9_wayTrouble_70 (by decide) (fun c21 => ?_) (fun c21 => ?_)
          · have h := h.1 c21
            refine r_bipush (pc := 77) C (v := (6 : Int32)) dX9_wayTrouble_77 (by decide) ?_
            exact r_iret (pc := 79) C E ht dX9_wayTrouble_79 (by decide) (by decide) h
          · have h := h.2 c21
            refine r_iconst (pc := 73) C (v := (0 : Int32)) dX9_wayTrouble_73 (by decide) ?_
            refine r_goto (pc := 74) C (tgt := 79) dX9_wayTrouble_74 (by decide) ?_
            exact r_iret (pc := 79) C E ht dX9_wayTrouble_79 (by decide) (by decide) h
        · have h := h.2 c10
          refine r_iconst (pc := 37) C (v := (2 : Int32)) dX9_wayTrouble_37 (by decide) ?_
          exact r_iret (pc := 38) C E ht dX9_wayTrouble_38 (by decide) (by decide) h
  · have h := h.2 c4
    refine r_iload (pc := 14) C dX9_wayTrouble_14 0 rfl ?_
    exact r_iret (pc := 16) C E ht dX9_wayTrouble_16 (by decide) (by decide) h
def P_X9_wayTrouble (v0 : Nat) (v1 : Int32) (v2 : Int32) (v3 : Int32) (v4 : Int32) (v5 : Int32) (Q : Int32 → HS → Prop) (S : HS) : Prop := P_X9_wayTrouble_0 Q v0 v1 v2 v3 v4 v5 S
theorem c_X9_wayTrouble {l : Launch} {Ee : EE} {S : HS} {v0 : Nat} {v1 : Int32} {v2 : Int32} {v3 : Int32} {v4 : Int32} {v5 : Int32} {Q : Int32 → HS → Prop} (h : P_X9_wayTrouble v0 v1 v2 v3 v4 v5 Q S) : MI l yX9_wayTrouble cX9_wayTrouble 7 (some .int) rm_X9_wayTrouble Ee S [.ref v0, .int v1, .int v2, .int v3, .int v4, .int v5] Q :=
  openI (by decide) (Nat.le_of_ble_eq_true rfl) (fun X C E ht hn hE hl => by subst hE; exact r_sub [0, 1, 2, 3, 4, 5] rfl (T_X9_wayTrouble_0 C E ht hn h))
def rm_X9_least : Room := { frames := 7, cells := 8, slots := 7937, locals := 186 }
def P_X9_least_0 (Q : Int64 → HS → Prop) (v0 : Nat) (v1 : Int32) (v2 : Int32) (v3 : Int32) (v4 : Int32) (v5 : Int32) (v6 : Int32) (S : HS) : Prop := ob S v0 9 ∧ (P_X9_wayTrouble v0 v1 v2 v3 v4 v5 (fun x3 S1 => Gr S S1 → (P_X9_refusedBy v0 x3 (fun x6 S4 => Gr S1 S4 → bl x6 → (((x6 = 0) → (∃ a8 : Nat, fR S4 v0 5 = some a8 ∧ (ob S4 a8 7 ∧ (P_X7_meanFrom a8 v2 v4 (fun x11 S9 => Gr S4 S9 → (P_X9_fraction x11 (252000 : Int64) v6 (fun x14 S12 => Gr S9 S12 → (Q x14 S12)) S9)) S4)))) ∧ ((¬ x6 = 0) → (Q (-1 : Int64) S4)))) S1)) S)
set_option maxRecDepth 20000 in
set_option maxHeartbeats 4000000 in
theorem T_X9_least_0 {X : CX} {Q : Int64 → HS → Prop} (C : Cx X cX9_least RX9 7 rm_X9_least) (E : ReJ X rm_X9_least Q) (ht : (xh X).sig.returnType = (some .long)) (hn : (xh X).name = yX9_least.name) {v0 : Nat} {v1 : Int32} {v2 : Int32} {v3 : Int32} {v4 : Int32} {v5 : Int32} {v6 : Int32} {S : HS} (h : P_X9_least_0 Q v0 v1 v2 v3 v4 v5 v6 S) : WS X 7 0 0 0 [(0, .ref v0), (1, .int v1), (2, .int v2), (3, .int v3), (4, .int v4), (5, .int v5), (6, .int v6)] [] S := by
  refine r_aload_n (pc := 0) C dX9_least_0 0 rfl ?_
  refine r_aload_n (pc := 1) C dX9_least_1 0 rfl ?_
  refine r_iload_n (pc := 2) C dX9_least_2 1 rfl ?_
  refine r_iload_n (pc := 3) C dX9_least_3 2 rfl ?_
  refine r_iload_n (pc := 4) C dX9_least_4 3 rfl ?_
  refine r_iload (pc := 5) C dX9_least_5 4 rfl ?_
  refine r_iload (pc := 7) C dX9_least_7 5 rfl ?_
  obtain ⟨o_v0, h⟩ := h
  refine r_callVi (pc := 9) C (rest := [.ref v0]) (a := v0) o_v0 [.int v1, .int v2, .int v3, .int v4, .int v5] yV_X9_wayTrouble g_817 (c_X9_wayTrouble h) dX9_least_9 rfl rfl (Nat.le_of_ble_eq_true rfl) ⟨by decide, by decide⟩ ⟨by decide, by decide⟩ (fun x3 S1 h g2 => ?_)
  have h := h g2
  have o_v0 := gr_ob g2 o_v0
  refine r_callVi0 (pc := 12) C (rest := []) (a := v0) o_v0 [.int x3] yV_X9_refusedBy g_683 (c_X9_refusedBy h) dX9_least_12 rfl rfl (Nat.le_of_ble_eq_true rfl) ⟨by decide, by decide⟩ ⟨by decide, by decide⟩ ⟨rfl, rfl⟩ (fun x6 S4 h g5 => ?_)
  have bx6 := h.1
  have h := h.2 g5 bx6
  have o_v0 := gr_ob g5 o_v0
  refine r_if_eq (pc := 15) C (tgt := 22) dX9_least_15 (by decide) (fun c7 => ?_) (fun c7 => ?_)
  · have h := h.1 c7
    refine r_aload_n (pc := 22) C dX9_least_22 0 rfl ?_
    obtain ⟨a8, ea8, h⟩ := h
    refine r_getr (pc := 23) C fL_X9_37 dX9_least_23 o_v0 ea8 ?_
    refine r_iload_n (pc := 26) C dX9_least_26 2 rfl ?_
    refine r_iload (pc := 27) C dX9_least_27 4 rfl ?_
    obtain ⟨o_a8, h⟩ := h
    refine r_callVl0 (pc := 29) C (rest := []) (a := a8) o_a8 [.int v2, .int v4] yV_X7_meanFrom g_896 (c_X7_meanFrom h) dX9_least_29 rfl rfl (Nat.le_of_ble_eq_true rfl) ⟨by decide, by decide⟩ ⟨by decide, by decide⟩ ⟨rfl, rfl⟩ (fun x11 S9 h g10 => ?_)
    have h := h g10
    have o_a8 := gr_ob g10 o_a8
    have o_v0 := gr_ob g10 o_v0
    refine r_ldc2 (pc := 32) C (v := (252000 : Int64)) dX9_least_32 g_736 ?_
    refine r_iload (pc := 35) C dX9_least_35 6 rfl ?_
    refine r_callSl0 (pc := 37) C (rest := []) rfl [.long x11, .long (252000 : Int64), .int v6] yS_X9_fraction g_722 (c_X9_fraction h) dX9_least_37 rfl rfl (Nat.le_of_ble_eq_true rfl) ⟨by decide, by decide⟩ ⟨by decide, by decide⟩ ⟨rfl, rfl⟩ (fun x14 S12 h g13 => ?_)
    have h := h g13
    have o_a8 := gr_ob g13 o_a8
    have o_v0 := gr_ob g13 o_v0
    exact r_lret (pc := 40) C E ht dX9_least_40 (by decide) (by decide) h
  · have h := h.2 c7
    refine r_ldc2 (pc := 18) C (v := (-1 : Int64)) dX9_least_18 g_687 ?_
    exact r_lret (pc := 21) C E ht dX9_least_21 (by decide) (by decide) h
def P_X9_least (v0 : Nat) (v1 : Int32) (v2 : Int32) (v3 : Int32) (v4 : Int32) (v5 : Int32) (v6 : Int32) (Q : Int64 → HS → Prop) (S : HS) : Prop := P_X9_least_0 Q v0 v1 v2 v3 v4 v5 v6 S
theorem c_X9_least {l : Launch} {Ee : EE} {S : HS} {v0 : Nat} {v1 : Int32} {v2 : Int32} {v3 : Int32} {v4 : Int32} {v5 : Int32} {v6 : Int32} {Q : Int64 → HS → Prop} (h : P_X9_least v0 v1 v2 v3 v4 v5 v6 Q S) : MJ l yX9_least cX9_least 7 (some .long) rm_X9_least Ee S [.ref v0, .int v1, .int v2, .int v3, .int v4, .int v5, .int v6] Q :=
  openJ (by decide) (Nat.le_of_ble_eq_true rfl) (fun X C E ht hn hE hl => by subst hE; exact r_sub [0, 1, 2, 3, 4, 5, 6] rfl (T_X9_least_0 C E ht hn h))
def rm_X9_lee : Room := { frames := 4, cells := 0, slots := 0, locals := 99 }
def P_X9_lee_0 (Q : Int64 → HS → Prop) (v0 : Nat) (v1 : Int32) (v2 : Int32) (v3 : Int32) (v4 : Int32) (v5 : Int32) (v6 : Int32) (v7 : Int32) (S : HS) : Prop := ob S v0 9 ∧ (P_X9_leeTrouble v0 v1 v2 v3 v4 v5 v6 (fun x3 S1 => Gr S S1 → (P_X9_refusedBy v0 x3 (fun x6 S4 => Gr S1 S4 → bl x6 → (((x6 = 0) → (∃ a8 : Nat, fR S4 v0 4 = some a8 ∧ (∃ a9 : Nat, fR S4 v0 2 = some a9 ∧ (ob S4 a9 8 ∧ (∃ a10 : Nat, fR S4 a9 8 = some a10 ∧ (ob S4 a10 18 ∧ (vp_in v3 (hN S4 a10) ∧ ∃ a12 : Nat, fR S4 a10 v3.toNatClampNeg = some a12 ∧ (∃ a13 : Nat, fR S4 v0 2 = some a13 ∧ (ob S4 a13 8 ∧ (∃ a14 : Nat, fR S4 a13 6 = some a14 ∧ (ob S4 a14 17 ∧ (vp_in v5 (hN S4 a14) ∧ ∃ a16 : Nat, fR S4 a14 v5.toNatClampNeg = some a16 ∧ (ob S4 a8 1 ∧ (P_X1_lay a8 a12 v4 a16 v6 (fun S17 => Gr S4 S17 → (∃ a20 : Nat, fR S17 v0 4 = some a20 ∧ (∃ a21 : Nat, fR S17 v0 2 = some a21 ∧ (ob S17 a21 8 ∧ (∃ a22 : Nat, fR S17 a21 9 = some a22 ∧ (ob S17 a22 19 ∧ (vp_in v1 (hN S17 a22) ∧ ∃ a24 : Nat, fR S17 a22 v1.toNatClampNeg = some a24 ∧ (∃ a25 : Nat, fR S17 v0 2 = some a25 ∧ (ob S17 a25 8 ∧ (∃ a26 : Nat, fR S17 a25 9 = some a26 ∧ (ob S17 a26 19 ∧ (vp_in v2 (hN S17 a26) ∧ ∃ a28 : Nat, fR S17 a26 v2.toNatClampNeg = some a28 ∧ (ob S17 a20 1 ∧ (P_X1_wetInLee a20 a24 a28 (fun x31 S29 => Gr S17 S29 → (P_X9_fraction x31 (2520 : Int64) v7 (fun x34 S32 => Gr S29 S32 → (Q x34 S32)) S29)) S17)))))))))))))) S4)))))))))))))) ∧ ((¬ x6 = 0) → (Q (-1 : Int64) S4)))) S1)) S)
set_option maxRecDepth 20000 in
set_option maxHeartbeats 4000000 in
theorem T_X9_lee_0 {X : CX} {Q : Int64 → HS → Prop} (C : Cx X cX9_lee RX9 8 rm_X9_lee) (E : ReJ X rm_X9_lee Q) (ht : (xh X).sig.returnType = (some .long)) (hn : (xh X).name = yX9_lee.name) {v0 : Nat} {v1 : Int32} {v2 : Int32} {v3 : Int32} {v4 : Int32} {v5 : Int32} {v6 : Int32} {v7 : Int32} {S : HS} (h : P_X9_lee_0 Q v0 v1 v2 v3 v4 v5 v6 v7 S) : WS X 8 0 0 0 [(0, .ref v0), (1, .int v1), (2, .int v2), (3, .int v3), (4, .int v4), (5, .int v5), (6, .int v6), (7, .int v7)] [] S := by
  refine r_aload_n (pc := 0) C dX9_lee_0 0 rfl ?_
  refine r_aload_n (pc := 1) C dX9_lee_1 0 rfl ?_
  refine r_iload_n (pc := 2) C dX9_lee_2 1 rfl ?_
  refine r_iload_n (pc := 3) C dX9_lee_3 2 rfl ?_
  refine r_iload_n (pc := 4) C dX9_lee_4 3 rfl ?_
  refine r_iload (pc := 5) C dX9_lee_5 4 rfl ?_
  refine r_iload (pc := 7) C dX9_lee_7 5 rfl ?_
  refine r_iload (pc := 9) C dX9_lee_9 6 rfl ?_
  obtain ⟨o_v0, h⟩ := h
  refine r_callVi0 (pc := 11) C (rest := [.ref v0]) (a := v0) o_v0 [.int v1, .int v2, .int v3, .int v4, .int v5, .int v6] yV_X9_leeTrouble g_801 (c_X9_leeTrouble h) dX9_lee_11 rfl rfl (Nat.le_of_ble_eq_true rfl) ⟨by decide, by decide⟩ ⟨by decide, by decide⟩ ⟨rfl, rfl⟩ (fun x3 S1 h g2 => ?_)
  have h := h g2
  have o_v0 := gr_ob g2 o_v0
  refine r_callVi0 (pc := 14) C (rest := []) (a := v0) o_v0 [.int x3] yV_X9_refusedBy g_683 (c_X9_refusedBy h) dX9_lee_14 rfl rfl (Nat.le_of_ble_eq_true rfl) ⟨by decide, by decide⟩ ⟨by decide, by decide⟩ ⟨rfl, rfl⟩ (fun x6 S4 h g5 => ?_)
  have bx6 := h.1
  have h := h.2 g5 bx6
  have o_v0 := gr_ob g5 o_v0
  refine r_if_eq (pc := 17) C (tgt := 24) dX9_lee_17 (by decide) (fun c7 => ?_) (fun c7 => ?_)
  · have h := h.1 c7
    refine r_aload_n (pc := 24) C dX9_lee_24 0 rfl ?_
    obtain ⟨a8, ea8, h⟩ := h
    refine r_getr (pc := 25) C fL_X9_30 dX9_lee_25 o_v0 ea8 ?_
    refine r_aload_n (pc := 28) C dX9_lee_28 0 rfl ?_
    obtain ⟨a9, ea9, h⟩ := h
    refine r_getr (pc := 29) C fL_X9_16 dX9_lee_29 o_v0 ea9 ?_
    obtain ⟨o_a9, h⟩ := h
    obtain ⟨a10, ea10, h⟩ := h
    refine r_getr (pc := 32) C fL_X9_112 dX9_lee_32 o_a9 ea10 ?_
    refine r_iload_n (pc := 35) C dX9_lee_35 3 rfl ?_
    obtain ⟨o_a10, h⟩ := h
    obtain ⟨i11, a12, ea12, h⟩ := h
    refine r_aald18 (pc := 36) C dX9_lee_36 o_a10 i11 ea12 ?_
    refine r_iload (pc := 37) C dX9_lee_37 4 rfl ?_
    refine r_aload_n (pc := 39) C dX9_lee_39 0 rfl ?_
    obtain ⟨a13, ea13, h⟩ := h
    refine r_getr (pc := 40) C fL_X9_16 dX9_lee_40 o_v0 ea13 ?_
    obtain ⟨o_a13, h⟩ := h
    obtain ⟨a14, ea14, h⟩ := h
    refine r_getr (pc := 43) C fL_X9_116 dX9_lee_43 o_a13 ea14 ?_
    refine r_iload (pc := 46) C dX9_lee_46 5 rfl ?_
    obtain ⟨o_a14, h⟩ := h
    obtain ⟨i15, a16, ea16, h⟩ := h
    refine r_aald17 (pc := 48) C dX9_lee_48 o_a14 i15 ea16 ?_
    refine r_iload (pc := 49) C dX9_lee_49 6 rfl ?_
    obtain ⟨o_a8, h⟩ := h
    refine r_callVv0 (pc := 51) C (rest := []) (a := a8) o_a8 [.ref a12, .int v4, .ref a16, .int v6] yV_X1_lay g_754 (c_X1_lay h) dX9_lee_51 rfl rfl (Nat.le_of_ble_eq_true rfl) ⟨by decide, by decide⟩ ⟨by decide, by decide⟩ ⟨rfl, rfl⟩ (fun S17 h g18 => ?_)
    have h := h g18
    have o_a10 := gr_ob g18 o_a10
    have o_a13 := gr_ob g18 o_a13
    have o_a14 := gr_ob g18 o_a14
    have o_a8 := gr_ob g18 o_a8
    have o_a9 := gr_ob g18 o_a9
    have o_v0 := gr_ob g18 o_v0
    refine r_aload_n (pc := 54) C dX9_lee_54 0 rfl ?_
    obtain ⟨a20, ea20, h⟩ := h
    refine r_getr (pc := 55) C fL_X9_30 dX9_lee_55 o_v0 ea20 ?_
    refine r_aload_n (pc := 58) C dX9_lee_58 0 rfl ?_
    obtain ⟨a21, ea21, h⟩ := h
    refine r_getr (pc := 59) C fL_X9_16 dX9_lee_59 o_v0 ea21 ?_
    obtain ⟨o_a21, h⟩ := h
    obtain ⟨a22, ea22, h⟩ := h
    refine r_getr (pc := 62) C fL_X9_108 dX9_lee_62 o_a21 ea22 ?_
    refine r_iload_n (pc := 65) C dX9_lee_65 1 rfl ?_
    obtain ⟨o_a22, h⟩ := h
    obtain ⟨i23, a24, ea24, h⟩ := h
    refine r_aald19 (pc := 66) C dX9_lee_66 o_a22 i23 ea24 ?_
    refine r_aload_n (pc := 67) C dX9_lee_67 0 rfl ?_
    obtain ⟨a25, ea25, h⟩ := h
    refine r_getr (pc := 68) C fL_X9_16 dX9_lee_68 o_v0 ea25 ?_
    obtain ⟨o_a25, h⟩ := h
    obtain ⟨a26, ea26, h⟩ := h
    refine r_getr (pc := 71) C fL_X9_108 dX9_lee_71 o_a25 ea26 ?_
    refine r_iload_n (pc := 74) C dX9_lee_74 2 rfl ?_
    obtain ⟨o_a26, h⟩ := h
    obtain ⟨i27, a28, ea28, h⟩ := h
    refine r_aald19 (pc := 75) C dX9_lee_75 o_a26 i27 ea28 ?_
    obtain ⟨o_a20, h⟩ := h
    refine r_callVl0 (pc := 76) C (rest := []) (a := a20) o_a20 [.ref a24, .ref a28] yV_X1_wetInLee g_805 (c_X1_wetInLee h) dX9_lee_76 rfl rfl (Nat.le_of_ble_eq_true rfl) ⟨by decide, by decide⟩ ⟨by decide, by decide⟩ ⟨rfl, rfl⟩ (fun x31 S29 h g30 => ?_)
    have h := h g30
    have o_a10 := gr_ob g30 o_a10
    have o_a13 := gr_ob g30 o_a13
    have o_a14 := gr_ob g30 o_a14
    have o_a20 := gr_ob g30 o_a20
    have o_a21 := gr_ob g30 o_a21
    have o_a22 := gr_ob g30 o_a22
    have o_a25 := gr_ob g30 o_a25
    have o_a26 := gr_ob g30 o_a26
    have o_a8 := gr_ob g30 o_a8
    have o_a9 := gr_ob g30 o_a9
    have o_v0 := gr_ob g30 o_v0
    refine r_ldc2 (pc := 79) C (v := (2520 : Int64)) dX9_lee_79 g_721 ?_
    refine r_iload (pc := 82) C dX9_lee_82 7 rfl ?_
    refine r_callSl0 (pc := 84) C (rest := []) rfl [.long x31, .long (2520 : Int64), .int v7] yS_X9_fraction g_722 (c_X9_fraction h) dX9_lee_84 rfl rfl (Nat.le_of_ble_eq_true rfl) ⟨by decide, by decide⟩ ⟨by decide, by decide⟩ ⟨rfl, rfl⟩ (fun x34 S32 h g33 => ?_)
    have h := h g33
    have o_a10 := gr_ob g33 o_a10
    have o_a13 := gr_ob g33 o_a13
    have o_a14 := gr_ob g33 o_a14
    have o_a20 := gr_ob g33 o_a20
    have o_a21 := gr_ob g33 o_a21
    have o_a22 := gr_ob g33 o_a22
    have o_a25 := gr_ob g33 o_a25
    have o_a26 := gr_ob g33 o_a26
    have o_a8 := gr_ob g33 o_a8
    have o_a9 := gr_ob g33 o_a9
    have o_v0 := gr_ob g33 o_v0
    exact r_lret (pc := 87) C E ht dX9_lee_87 (by decide) (by decide) h
  · have h := h.2 c7
    refine r_ldc2 (pc := 20) C (v := (-1 : Int64)) dX9_lee_20 g_687 ?_
    exact r_lret (pc := 23) C E ht dX9_lee_23 (by decide) (by decide) h
def P_X9_lee (v0 : Nat) (v1 : Int32) (v2 : Int32) (v3 : Int32) (v4 : Int32) (v5 : Int32) (v6 : Int32) (v7 : Int32) (Q : Int64 → HS → Prop) (S : HS) : Prop := P_X9_lee_0 Q v0 v1 v2 v3 v4 v5 v6 v7 S
theorem c_X9_lee {l : Launch} {Ee : EE} {S : HS} {v0 : Nat} {v1 : Int32} {v2 : Int32} {v3 : Int32} {v4 : Int32} {v5 : Int32} {v6 : Int32} {v7 : Int32} {Q : Int64 → HS → Prop} (h : P_X9_lee v0 v1 v2 v3 v4 v5 v6 v7 Q S) : MJ l yX9_lee cX9_lee 8 (some .long) rm_X9_lee Ee S [.ref v0, .int v1, .int v2, .int v3, .int v4, .int v5, .int v6, .int v7] Q :=
  openJ (by decide) (Nat.le_of_ble_eq_true rfl) (fun X C E ht hn hE hl => by subst hE; exact r_sub [0, 1, 2, 3, 4, 5, 6, 7] rfl (T_X9_lee_0 C E ht hn h))
def rm_X9_lies : Room := { frames := 6, cells := 0, slots := 0, locals := 155 }
def P_X9_lies_54 (Q : Int32 → HS → Prop) (X20 : Nat → Int32 → Int32 → HS → Prop) (v0 : Nat) (v1 : Int32) (v2 : Int32) (S : HS) : Prop := ∀ x1 : Int32, x1 = v2 + (1 : Int32) → (X20 v0 v1 x1 S)
set_option maxRecDepth 20000 in
set_option maxHeartbeats 4000000 in
theorem T_X9_lies_54 {X : CX} {Q : Int32 → HS → Prop} (C : Cx X cX9_lies RX9 3 rm_X9_lies) (E : ReI X rm_X9_lies Q) (ht : (xh X).sig.returnType = (some .int)) (hn : (xh X).name = yX9_lies.name) {X20 : Nat → Int32 → Int32 → HS → Prop} (hX20 : ∀ (v0 : Nat) (v1 : Int32) (v2 : Int32) (S : HS), X20 v0 v1 v2 S → WS X 3 0 0 20 [(0, .ref v0), (1, .int v1), (2, .int v2)] [] S) {v0 : Nat} {v1 : Int32} {v2 : Int32} {S : HS} (h : P_X9_lies_54 Q X20 v0 v1 v2 S) : WS X 3 0 0 54 [(0, .ref v0), (1, .int v1), (2, .int v2)] [] S := by
  obtain ⟨x1, ex1⟩ : ∃ z : Int32, z = v2 + (1 : Int32) := ⟨_, rfl⟩
  have h := h x1 ex1
  refine r_iinc (pc := 54) C (v := x1) (lv' := [(2, .int x1), (0, .ref v0), (1, .int v1)]) dX9_lies_54 2 rfl ex1.symm (by decide) rfl ?_
  refine r_goto (pc := 57) C (tgt := 20) dX9_lies_57 (by decide) ?_
  exact r_sub [1, 2, 0] rfl (hX20 v0 v1 x1 S h)
def B_X9_lies_20 (Q : Int32 → HS → Prop) (X20 : Nat → Int32 → Int32 → HS → Prop) (v0 : Nat) (v1 : Int32) (v2 : Int32) (S : HS) : Prop := ob S v0 9 ∧ (∃ a1 : Nat, fR S v0 2 = some a1 ∧ (ob S a1 8 ∧ (∀ x2 : Int32, x2 = fI S a1 5 → (((x2 ≤ v2) → (P_X9_grant v0 v1 (fun x6 S4 => Gr S S4 → (Q x6 S4)) S)) ∧ ((¬ x2 ≤ v2) → (∃ a7 : Nat, fR S v0 4 = some a7 ∧ (∃ a8 : Nat, fR S v0 2 = some a8 ∧ (ob S a7 1 ∧ (P_X1_findFit a7 a8 v2 (0 : Int32) (fun x11 S9 => Gr S S9 → (((¬ x11 = (-1 : Int32)) → (P_X9_lies_54 Q X20 v0 v1 v2 S9)) ∧ ((x11 = (-1 : Int32)) → (∀ x13 : Int32, x13 = v1 ||| ((1 : Int32) <<< (v2 &&& 31)) → (P_X9_lies_54 Q X20 v0 x13 v2 S9))))) S)))))))))
def P_X9_lies_20 (Q : Int32 → HS → Prop) (v0 : Nat) (v1 : Int32) (v2 : Int32) (S : HS) : Prop := ∀ X20 : Nat → Int32 → Int32 → HS → Prop, (∀ (v0 : Nat) (v1 : Int32) (v2 : Int32) (S : HS), B_X9_lies_20 Q X20 v0 v1 v2 S → X20 v0 v1 v2 S) → X20 v0 v1 v2 S
set_option maxRecDepth 20000 in
set_option maxHeartbeats 4000000 in
theorem TB_X9_lies_20 {X : CX} {Q : Int32 → HS → Prop} (C : Cx X cX9_lies RX9 3 rm_X9_lies) (E : ReI X rm_X9_lies Q) (ht : (xh X).sig.returnType = (some .int)) (hn : (xh X).name = yX9_lies.name) {X20 : Nat → Int32 → Int32 → HS → Prop} (hX20 : ∀ (v0 : Nat) (v1 : Int32) (v2 : Int32) (S : HS), X20 v0 v1 v2 S → WS X 3 0 0 20 [(0, .ref v0), (1, .int v1), (2, .int v2)] [] S) {v0 : Nat} {v1 : Int32} {v2 : Int32} {S : HS} (h : B_X9_lies_20 Q X20 v0 v1 v2 S) : WS X 3 0 0 20 [(0, .ref v0), (1, .int v1), (2, .int v2)] [] S := by
  refine r_iload_n (pc := 20) C dX9_lies_20 2 rfl ?_
  refine r_aload_n (pc := 21) C dX9_lies_21 0 rfl ?_
  obtain ⟨o_v0, h⟩ := h
  obtain ⟨a1, ea1, h⟩ := h
  refine r_getr (pc := 22) C fL_X9_16 dX9_lies_22 o_v0 ea1 ?_
  obtain ⟨o_a1, h⟩ := h
  refine r_geti (pc := 25) C fL_X9_264 dX9_lies_25 o_a1 ?_
  refine r_topi (fun x2 ex2 => ?_)
  have h := h x2 ex2
  refine r_icmp_ge (pc := 28) C (tgt := 60) dX9_lies_28 (by decide) (fun c3 => ?_) (fun c3 => ?_)
  · have h := h.1 c3
    refine r_aload_n (pc := 60) C dX9_lies_60 0 rfl ?_
    refine r_iload_n (pc := 61) C dX9_lies_61 1 rfl ?_
    refine r_callVi0 (pc := 62) C (rest := []) (a := v0) o_v0 [.int v1] yV_X9_grant g_637 (c_X9_grant h) dX9_lies_62 rfl rfl (Nat.le_of_ble_eq_true rfl) ⟨by decide, by decide⟩ ⟨by decide, by decide⟩ ⟨rfl, rfl⟩ (fun x6 S4 h g5 => ?_)
    have h := h g5
    have o_a1 := gr_ob g5 o_a1
    have o_v0 := gr_ob g5 o_v0
    exact r_iret (pc := 65) C E ht dX9_lies_65 (by decide) (by decide) h
  · have h := h.2 c3
    refine r_aload_n (pc := 31) C dX9_lies_31 0 rfl ?_
    obtain ⟨a7, ea7, h⟩ := h
    refine r_getr (pc := 32) C fL_X9_30 dX9_lies_32 o_v0 ea7 ?_
    refine r_aload_n (pc := 35) C dX9_lies_35 0 rfl ?_
    obtain ⟨a8, ea8, h⟩ := h
    refine r_getr (pc := 36) C fL_X9_16 dX9_lies_36 o_v0 ea8 ?_
    refine r_iload_n (pc := 39) C dX9_lies_39 2 rfl ?_
    refine r_iconst (pc := 40) C (v := (0 : Int32)) dX9_lies_40 (by decide) ?_
    obtain ⟨o_a7, h⟩ := h
    refine r_callVi0 (pc := 41) C (rest := []) (a := a7) o_a7 [.ref a8, .int v2, .int (0 : Int32)] yV_X1_findFit g_953 (c_X1_findFit h) dX9_lies_41 rfl rfl (Nat.le_of_ble_eq_true rfl) ⟨by decide, by decide⟩ ⟨by decide, by decide⟩ ⟨rfl, rfl⟩ (fun x11 S9 h g10 => ?_)
    have h := h g10
    have o_a1 := gr_ob g10 o_a1
    have o_a7 := gr_ob g10 o_a7
    have o_v0 := gr_ob g10 o_v0
    refine r_iconst (pc := 44) C (v := (-1 : Int32)) dX9_lies_44 (by decide) ?_
    refine r_icmp_ne (pc := 45) C (tgt := 54) dX9_lies_45 (by decide) (fun c12 => ?_) (fun c12 => ?_)
    · have h := h.1 c12
      exact r_sub [0, 1, 2] rfl (T_X9_lies_54 C E ht hn hX20 h)
    · have h := h.2 c12
      refine r_iload_n (pc := 48) C dX9_lies_48 1 rfl ?_
      refine r_iconst (pc := 49) C (v := (1 : Int32)) dX9_lies_49 (by decide) ?_
      refine r_iload_n (pc := 50) C dX9_lies_50 2 rfl ?_
      refine r_ishl (pc := 51) C dX9_lies_51 ?_
      refine r_ior (pc := 52) C dX9_lies_52 ?_
      refine r_topi (fun x13 ex13 => ?_)
      have h := h x13 ex13
      refine r_istore_n (pc := 53) C dX9_lies_53 rfl (by decide) (lv' := [(1, .int x13), (0, .ref v0), (2, .int v2)]) rfl ?_
      exact r_sub [1, 0, 2] rfl (T_X9_lies_54 C E ht hn hX20 h)
theorem T_X9_lies_20 {X : CX} {Q : Int32 → HS → Prop} (C : Cx X cX9_lies RX9 3 rm_X9_lies) (E : ReI X rm_X9_lies Q) (ht : (xh X).sig.returnType = (some .int)) (hn : (xh X).name = yX9_lies.name) {v0 : Nat} {v1 : Int32} {v2 : Int32} {S : HS} (h : P_X9_lies_20 Q v0 v1 v2 S) : WS X 3 0 0 20 [(0, .ref v0), (1, .int v1), (2, .int v2)] [] S :=
  h (fun v0 v1 v2 S => WS X 3 0 0 20 [(0, .ref v0), (1, .int v1), (2, .int v2)] [] S) (fun v0 v1 v2 S hh => TB_X9_lies_20 C E ht hn (fun v0 v1 v2 S z => z) hh)
def P_X9_lies_0 (Q : Int32 → HS → Prop) (v0 : Nat) (S : HS) : Prop := ob S v0 9 ∧ (∃ a1 : Nat, fR S v0 2 = some a1 ∧ (ob S a1 8 ∧ (P_X8_isTold a1 (fun x4 S2 => Gr S S2 → bl x4 → (((¬ x4 = 0) → (P_X9_lies_20 Q v0 (0 : Int32) (0 : Int32) S2)) ∧ ((x4 = 0) → (P_X9_refuse v0 (1 : Int32) (fun x8 S6 => Gr S2 S6 → (Q x8 S6)) S2)))) S)))
set_option maxRecDepth 20000 in
set_option maxHeartbeats 4000000 in
theorem T_X9_lies_0 {X : CX} {Q : Int32 → HS → Prop} (C : Cx X cX9_lies RX9 3 rm_X9_lies) (E : ReI X rm_X9_lies Q) (ht : (xh X).sig.returnType = (some .int)) (hn : (xh X).name = yX9_lies.name) {v0 : Nat} {S : HS} (h : P_X9_lies_0 Q v0 S) : WS X 3 0 0 0 [(0, .ref v0)] [] S := by
  refine r_aload_n (pc := 0) C dX9_lies_0 0 rfl ?_
  obtain ⟨o_v0, h⟩ := h
  obtain ⟨a1, ea1, h⟩ := h
  refine r_getr (pc := 1) C fL_X9_16 dX9_lies_1 o_v0 ea1 ?_
  obtain ⟨o_a1, h⟩ := h
  refine r_callVi0 (pc := 4) C (rest := []) (a := a1) o_a1 [] yV_X8_isTold g_961 (c_X8_isTold h) dX9_lies_4 rfl rfl (Nat.le_of_ble_eq_true rfl) ⟨by decide, by decide⟩ ⟨by decide, by decide⟩ ⟨rfl, rfl⟩ (fun x4 S2 h g3 => ?_)
  have bx4 := h.1
  have h := h.2 g3 bx4
  have o_a1 := gr_ob g3 o_a1
  have o_v0 := gr_ob g3 o_v0
  refine r_if_ne (pc := 7) C (tgt := 16) dX9_lies_7 (by decide) (fun c5 => ?_) (fun c5 => ?_)
  · have h := h.1 c5
    refine r_iconst (pc := 16) C (v := (0 : Int32)) dX9_lies_16 (by decide) ?_
    refine r_istore_n (pc := 17) C dX9_lies_17 rfl (by decide) (lv' := [(1, .int (0 : Int32)), (0, .ref v0)]) rfl ?_
    refine r_iconst (pc := 18) C (v := (0 : Int32)) dX9_lies_18 (by decide) ?_
    refine r_istore_n (pc := 19) C dX9_lies_19 rfl (by decide) (lv' := [(2, .int (0 : Int32)), (1, .int (0 : Int32)), (0, .ref v0)]) rfl ?_
    exact r_sub [2, 1, 0] rfl (T_X9_lies_20 C E ht hn h)
  · have h := h.2 c5
    refine r_aload_n (pc := 10) C dX9_lies_10 0 rfl ?_
    refine r_iconst (pc := 11) C (v := (1 : Int32)) dX9_lies_11 (by decide) ?_
    refine r_callVi0 (pc := 12) C (rest := []) (a := v0) o_v0 [.int (1 : Int32)] yV_X9_refuse g_430 (c_X9_refuse h) dX9_lies_12 rfl rfl (Nat.le_of_ble_eq_true rfl) ⟨by decide, by decide⟩ ⟨by decide, by decide⟩ ⟨rfl, rfl⟩ (fun x8 S6 h g7 => ?_)
    have h := h g7
    have o_a1 := gr_ob g7 o_a1
    have o_v0 := gr_ob g7 o_v0
    exact r_iret (pc := 15) C E ht dX9_lies_15 (by decide) (by decide) h
def P_X9_lies (v0 : Nat) (Q : Int32 → HS → Prop) (S : HS) : Prop := P_X9_lies_0 Q v0 S
theorem c_X9_lies {l : Launch} {Ee : EE} {S : HS} {v0 : Nat} {Q : Int32 → HS → Prop} (h : P_X9_lies v0 Q S) : MI l yX9_lies cX9_lies 3 (some .int) rm_X9_lies Ee S [.ref v0] Q :=
  openI (by decide) (Nat.le_of_ble_eq_true rfl) (fun X C E ht hn hE hl => by subst hE; exact r_sub [0] rfl (T_X9_lies_0 C E ht hn h))
def rm_X9_mark : Room := { frames := 2, cells := 0, slots := 0, locals := 42 }
def P_X9_mark_0 (Q : Int32 → HS → Prop) (v0 : Nat) (S : HS) : Prop := ob S v0 9 ∧ (∃ a1 : Nat, fR S v0 6 = some a1 ∧ (ob S a1 0 ∧ (P_X0_isOn a1 (fun x4 S2 => Gr S S2 → bl x4 → (((¬ x4 = 0) → (∃ a6 : Nat, fR S2 v0 6 = some a6 ∧ (ob S2 a6 0 ∧ (P_X0_setMark a6 (fun x9 S7 => Gr S2 S7 → (((¬ x9 = (-1 : Int32)) → (P_X9_grant v0 x9 (fun x13 S11 => Gr S7 S11 → (Q x13 S11)) S7)) ∧ ((x9 = (-1 : Int32)) → (P_X9_refuse v0 (3 : Int32) (fun x16 S14 => Gr S7 S14 → (Q x16 S14)) S7)))) S2)))) ∧ ((x4 = 0) → (P_X9_refuse v0 (1 : Int32) (fun x19 S17 => Gr S2 S17 → (Q x19 S17)) S2)))) S)))
set_option maxRecDepth 20000 in
set_option maxHeartbeats 4000000 in
theorem T_X9_mark_0 {X : CX} {Q : Int32 → HS → Prop} (C : Cx X cX9_mark RX9 2 rm_X9_mark) (E : ReI X rm_X9_mark Q) (ht : (xh X).sig.returnType = (some .int)) (hn : (xh X).name = yX9_mark.name) {v0 : Nat} {S : HS} (h : P_X9_mark_0 Q v0 S) : WS X 2 0 0 0 [(0, .ref v0)] [] S := by
  refine r_aload_n (pc := 0) C dX9_mark_0 0 rfl ?_
  obtain ⟨o_v0, h⟩ := h
  obtain ⟨a1, ea1, h⟩ := h
  refine r_getr (pc := 1) C fL_X9_44 dX9_mark_1 o_v0 ea1 ?_
  obtain ⟨o_a1, h⟩ := h
  refine r_callVi0 (pc := 4) C (rest := []) (a := a1) o_a1 [] yV_X0_isOn g_981 (c_X0_isOn h) dX9_mark_4 rfl rfl (Nat.le_of_ble_eq_true rfl) ⟨by decide, by decide⟩ ⟨by decide, by decide⟩ ⟨rfl, rfl⟩ (fun x4 S2 h g3 => ?_)
  have bx4 := h.1
  have h := h.2 g3 bx4
  have o_a1 := gr_ob g3 o_a1
  have o_v0 := gr_ob g3 o_v0
  refine r_if_ne (pc := 7) C (tgt := 16) dX9_mark_7 (by decide) (fun c5 => ?_) (fun c5 => ?_)
  · have h := h.1 c5
    refine r_aload_n (pc := 16) C dX9_mark_16 0 rfl ?_
    obtain ⟨a6, ea6, h⟩ := h
    refine r_getr (pc := 17) C fL_X9_44 dX9_mark_17 o_v0 ea6 ?_
    obtain ⟨o_a6, h⟩ := h
    refine r_callVi0 (pc := 20) C (rest := []) (a := a6) o_a6 [] yV_X0_setMark g_1048 (c_X0_setMark h) dX9_mark_20 rfl rfl (Nat.le_of_ble_eq_true rfl) ⟨by decide, by decide⟩ ⟨by decide, by decide⟩ ⟨rfl, rfl⟩ (fun x9 S7 h g8 => ?_)
    have h := h g8
    have o_a1 := gr_ob g8 o_a1
    have o_a6 := gr_ob g8 o_a6
    have o_v0 := gr_ob g8 o_v0
    refine r_istore_n (pc := 23) C dX9_mark_23 rfl (by decide) (lv' := [(1, .int x9), (0, .ref v0)]) rfl ?_
    refine r_iload_n (pc := 24) C dX9_mark_24 0 rfl ?_
    refine r_iconst (pc := 25) C (v := (-1 : Int32)) dX9_mark_25 (by decide) ?_
    refine r_icmp_ne (pc := 26) C (tgt := 37) dX9_mark_26 (by decide) (fun c10 => ?_) (fun c10 => ?_)
    · have h := h.1 c10
      refine r_aload_n (pc := 37) C dX9_mark_37 1 rfl ?_
      refine r_iload_n (pc := 38) C dX9_mark_38 0 rfl ?_
      refine r_callVi0 (pc := 39) C (rest := []) (a := v0) o_v0 [.int x9] yV_X9_grant g_637 (c_X9_grant h) dX9_mark_39 rfl rfl (Nat.le_of_ble_eq_true rfl) ⟨by decide, by decide⟩ ⟨by decide, by decide⟩ ⟨rfl, rfl⟩ (fun x13 S11 h g12 => ?_)
      have h := h g12
      have o_a1 := gr_ob g12 o_a1
      have o_a6 := gr_ob g12 o_a6
      have o_v0 := gr_ob g12 o_v0
      exact r_iret (pc := 42) C E ht dX9_mark_42 (by decide) (by decide) h
    · have h := h.2 c10
      refine r_aload_n (pc := 29) C dX9_mark_29 1 rfl ?_
      refine r_iconst (pc := 30) C (v := (3 : Int32)) dX9_mark_30 (by decide) ?_
      refine r_callVi0 (pc := 31) C (rest := []) (a := v0) o_v0 [.int (3 : Int32)] yV_X9_refuse g_430 (c_X9_refuse h) dX9_mark_31 rfl rfl (Nat.le_of_ble_eq_true rfl) ⟨by decide, by decide⟩ ⟨by decide, by decide⟩ ⟨rfl, rfl⟩ (fun x16 S14 h g15 => ?_)
      have h := h g15
      have o_a1 := gr_ob g15 o_a1
      have o_a6 := gr_ob g15 o_a6
      have o_v0 := gr_ob g15 o_v0
      refine r_goto (pc := 34) C (tgt := 42) dX9_mark_34 (by decide) ?_
      exact r_iret (pc := 42) C E ht dX9_mark_42 (by decide) (by decide) h
  · have h := h.2 c5
    refine r_aload_n (pc := 10) C dX9_mark_10 0 rfl ?_
    refine r_iconst (pc := 11) C (v := (1 : Int32)) dX9_mark_11 (by decide) ?_
    refine r_callVi0 (pc := 12) C (rest := []) (a := v0) o_v0 [.int (1 : Int32)] yV_X9_refuse g_430 (c_X9_refuse h) dX9_mark_12 rfl rfl (Nat.le_of_ble_eq_true rfl) ⟨by decide, by decide⟩ ⟨by decide, by decide⟩ ⟨rfl, rfl⟩ (fun x19 S17 h g18 => ?_)
    have h := h g18
    have o_a1 := gr_ob g18 o_a1
    have o_v0 := gr_ob g18 o_v0
    exact r_iret (pc := 15) C E ht dX9_mark_15 (by decide) (by decide) h
def P_X9_mark (v0 : Nat) (Q : Int32 → HS → Prop) (S : HS) : Prop := P_X9_mark_0 Q v0 S
theorem c_X9_mark {l : Launch} {Ee : EE} {S : HS} {v0 : Nat} {Q : Int32 → HS → Prop} (h : P_X9_mark v0 Q S) : MI l yX9_mark cX9_mark 2 (some .int) rm_X9_mark Ee S [.ref v0] Q :=
  openI (by decide) (Nat.le_of_ble_eq_true rfl) (fun X C E ht hn hE hl => by subst hE; exact r_sub [0] rfl (T_X9_mark_0 C E ht hn h))
