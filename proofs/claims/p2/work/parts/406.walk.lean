def rm_X11_readRoad : Room := { frames := 9, cells := 0, slots := 0, locals := 206 }
def P_X11_readRoad_85 (Q : HS → Prop) (v0 : Nat) (v1 : Int32) (v2 : Int32) (v3 : Int32) (v4 : Int32) (s0 : Int32) (S : HS) : Prop := ob S v0 11 ∧ (∀ x1 : Int32, x1 = fI S v0 9 → (((¬ x1 = (5 : Int32)) → (∃ a3 : Nat, fR S v0 4 = some a3 ∧ (ob S a3 10 ∧ (∀ x4 : Int32, x4 = fI S a3 3 → (∃ a5 : Nat, fR S v0 4 = some a5 ∧ (ob S a5 10 ∧ (∃ a6 : Nat, fR S a5 13 = some a6 ∧ (ob S a6 13 ∧ (vp_in x4 (hN S a6) ∧ (∃ a8 : Nat, fR (sI S a6 x4.toNatClampNeg v1) v0 4 = some a8 ∧ (ob (sI S a6 x4.toNatClampNeg v1) a8 10 ∧ (∃ a9 : Nat, fR (sI S a6 x4.toNatClampNeg v1) a8 14 = some a9 ∧ (ob (sI S a6 x4.toNatClampNeg v1) a9 13 ∧ (vp_in x4 (hN (sI S a6 x4.toNatClampNeg v1) a9) ∧ (∃ a11 : Nat, fR (sI (sI S a6 x4.toNatClampNeg v1) a9 x4.toNatClampNeg v4) v0 4 = some a11 ∧ (ob (sI (sI S a6 x4.toNatClampNeg v1) a9 x4.toNatClampNeg v4) a11 10 ∧ (∃ a12 : Nat, fR (sI (sI S a6 x4.toNatClampNeg v1) a9 x4.toNatClampNeg v4) a11 15 = some a12 ∧ (ob (sI (sI S a6 x4.toNatClampNeg v1) a9 x4.toNatClampNeg v4) a12 13 ∧ (vp_in x4 (hN (sI (sI S a6 x4.toNatClampNeg v1) a9 x4.toNatClampNeg v4) a12) ∧ (∃ a14 : Nat, fR (sI (sI (sI S a6 x4.toNatClampNeg v1) a9 x4.toNatClampNeg v4) a12 x4.toNatClampNeg v2) v0 4 = some a14 ∧ (ob (sI (sI (sI S a6 x4.toNatClampNeg v1) a9 x4.toNatClampNeg v4) a12 x4.toNatClampNeg v2) a14 10 ∧ (∃ a15 : Nat, fR (sI (sI (sI S a6 x4.toNatClampNeg v1) a9 x4.toNatClampNeg v4) a12 x4.toNatClampNeg v2) a14 16 = some a15 ∧ (ob (sI (sI (sI S a6 x4.toNatClampNeg v1) a9 x4.toNatClampNeg v4) a12 x4.toNatClampNeg v2) a15 13 ∧ (vp_in x4 (hN (sI (sI (sI S a6 x4.toNatClampNeg v1) a9 x4.toNatClampNeg v4) a12 x4.toNatClampNeg v2) a15) ∧ (∃ a17 : Nat, fR (sI (sI (sI (sI S a6 x4.toNatClampNeg v1) a9 x4.toNatClampNeg v4) a12 x4.toNatClampNeg v2) a15 x4.toNatClampNeg v3) v0 4 = some a17 ∧ (ob (sI (sI (sI (sI S a6 x4.toNatClampNeg v1) a9 x4.toNatClampNeg v4) a12 x4.toNatClampNeg v2) a15 x4.toNatClampNeg v3) a17 10 ∧ (∃ a18 : Nat, fR (sI (sI (sI (sI S a6 x4.toNatClampNeg v1) a9 x4.toNatClampNeg v4) a12 x4.toNatClampNeg v2) a15 x4.toNatClampNeg v3) a17 17 = some a18 ∧ (ob (sI (sI (sI (sI S a6 x4.toNatClampNeg v1) a9 x4.toNatClampNeg v4) a12 x4.toNatClampNeg v2) a15 x4.toNatClampNeg v3) a18 13 ∧ (vp_in x4 (hN (sI (sI (sI (sI S a6 x4.toNatClampNeg v1) a9 x4.toNatClampNeg v4) a12 x4.toNatClampNeg v2) a15 x4.toNatClampNeg v3) a18) ∧ (∃ a20 : Nat, fR (sI (sI (sI (sI (sI S a6 x4.toNatClampNeg v1) a9 x4.toNatClampNeg v4) a12 x4.toNatClampNeg v2) a15 x4.toNatClampNeg v3) a18 x4.toNatClampNeg s0) v0 4 = some a20 ∧ (ob (sI (sI (sI (sI (sI S a6 x4.toNatClampNeg v1) a9 x4.toNatClampNeg v4) a12 x4.toNatClampNeg v2) a15 x4.toNatClampNeg v3) a18 x4.toNatClampNeg s0) a20 10 ∧ (∀ x21 : Int32, x21 = fI (sI (sI (sI (sI (sI S a6 x4.toNatClampNeg v1) a9 x4.toNatClampNeg v4) a12 x4.toNatClampNeg v2) a15 x4.toNatClampNeg v3) a18 x4.toNatClampNeg s0) a20 3 → (∀ x22 : Int32, x22 = x21 + (1 : Int32) → (Q (sI (sI (sI (sI (sI (sI S a6 x4.toNatClampNeg v1) a9 x4.toNatClampNeg v4) a12 x4.toNatClampNeg v2) a15 x4.toNatClampNeg v3) a18 x4.toNatClampNeg s0) a20 3 x22))))))))))))))))))))))))))))))))))) ∧ ((x1 = (5 : Int32)) → (Q S))))
set_option maxRecDepth 20000 in
set_option maxHeartbeats 4000000 in
theorem T_X11_readRoad_85 {X : CX} {Q : HS → Prop} (C : Cx X cX11_readRoad RX11 7 rm_X11_readRoad) (E : ReV X rm_X11_readRoad Q) (ht : (xh X).sig.returnType = none) (hn : (xh X).name = yX11_readRoad.name) {v0 : Nat} {v1 : Int32} {v2 : Int32} {v3 : Int32} {v4 : Int32} {s0 : Int32} {S : HS} (h : P_X11_readRoad_85 Q v0 v1 v2 v3 v4 s0 S) : WS X 7 0 0 85 [(0, .ref v0), (1, .int v1), (2, .int v2), (3, .int v3), (4, .int v4)] [.int s0] S := by
  refine r_istore (pc := 85) C dX11_readRoad_85 (by decide) (lv' := [(5, .int s0), (0, .ref v0), (1, .int v1), (2, .int v2), (3, .int v3), (4, .int v4)]) rfl ?_
  refine r_aload_n (pc := 87) C dX11_readRoad_87 1 rfl ?_
  obtain ⟨o_v0, h⟩ := h
  refine r_geti (pc := 88) C fL_X11_68 dX11_readRoad_88 o_v0 ?_
  refine r_topi (fun x1 ex1 => ?_)
  have h := h x1 ex1
  refine r_iconst (pc := 91) C (v := (5 : Int32)) dX11_readRoad_91 (by decide) ?_
  refine r_icmp_ne (pc := 92) C (tgt := 96) dX11_readRoad_92 (by decide) (fun c2 => ?_) (fun c2 => ?_)
  · have h := h.1 c2
    refine r_aload_n (pc := 96) C dX11_readRoad_96 1 rfl ?_
    obtain ⟨a3, ea3, h⟩ := h
    refine r_getr (pc := 97) C fL_X11_147 dX11_readRoad_97 o_v0 ea3 ?_
    obtain ⟨o_a3, h⟩ := h
    refine r_getNi (pc := 100) C fN_X11_264 dX11_readRoad_100 o_a3 ?_
    refine r_topi (fun x4 ex4 => ?_)
    have h := h x4 ex4
    refine r_istore (pc := 103) C dX11_readRoad_103 (by decide) (lv' := [(6, .int x4), (5, .int s0), (0, .ref v0), (1, .int v1), (2, .int v2), (3, .int v3), (4, .int v4)]) rfl ?_
    refine r_aload_n (pc := 105) C dX11_readRoad_105 2 rfl ?_
    obtain ⟨a5, ea5, h⟩ := h
    refine r_getr (pc := 106) C fL_X11_147 dX11_readRoad_106 o_v0 ea5 ?_
    obtain ⟨o_a5, h⟩ := h
    obtain ⟨a6, ea6, h⟩ := h
    refine r_getNr (pc := 109) C fN_X11_270 dX11_readRoad_109 o_a5 ea6 ?_
    refine r_iload (pc := 112) C dX11_readRoad_112 0 rfl ?_
    refine r_iload_n (pc := 114) C dX11_readRoad_114 3 rfl ?_
    obtain ⟨o_a6, h⟩ := h
    obtain ⟨i7, h⟩ := h
    refine r_iast (pc := 115) C dX11_readRoad_115 o_a6 i7 ?_
    refine r_aload_n (pc := 116) C dX11_readRoad_116 2 rfl ?_
    obtain ⟨a8, ea8, h⟩ := h
    refine r_getr (pc := 117) C fL_X11_147 dX11_readRoad_117 o_v0 ea8 ?_
    obtain ⟨o_a8, h⟩ := h
    obtain ⟨a9, ea9, h⟩ := h
    refine r_getNr (pc := 120) C fN_X11_273 dX11_readRoad_120 o_a8 ea9 ?_
    refine r_iload (pc := 123) C dX11_readRoad_123 0 rfl ?_
    refine r_iload (pc := 125) C dX11_readRoad_125 6 rfl ?_
    obtain ⟨o_a9, h⟩ := h
    obtain ⟨i10, h⟩ := h
    refine r_iast (pc := 127) C dX11_readRoad_127 o_a9 i10 ?_
    refine r_aload_n (pc := 128) C dX11_readRoad_128 2 rfl ?_
    obtain ⟨a11, ea11, h⟩ := h
    refine r_getr (pc := 129) C fL_X11_147 dX11_readRoad_129 o_v0 ea11 ?_
    obtain ⟨o_a11, h⟩ := h
    obtain ⟨a12, ea12, h⟩ := h
    refine r_getNr (pc := 132) C fN_X11_276 dX11_readRoad_132 o_a11 ea12 ?_
    refine r_iload (pc := 135) C dX11_readRoad_135 0 rfl ?_
    refine r_iload_n (pc := 137) C dX11_readRoad_137 4 rfl ?_
    obtain ⟨o_a12, h⟩ := h
    obtain ⟨i13, h⟩ := h
    refine r_iast (pc := 138) C dX11_readRoad_138 o_a12 i13 ?_
    refine r_aload_n (pc := 139) C dX11_readRoad_139 2 rfl ?_
    obtain ⟨a14, ea14, h⟩ := h
    refine r_getr (pc := 140) C fL_X11_147 dX11_readRoad_140 o_v0 ea14 ?_
    obtain ⟨o_a14, h⟩ := h
    obtain ⟨a15, ea15, h⟩ := h
    refine r_getNr (pc := 143) C fN_X11_279 dX11_readRoad_143 o_a14 ea15 ?_
    refine r_iload (pc := 146) C dX11_readRoad_146 0 rfl ?_
    refine r_iload_n (pc := 148) C dX11_readRoad_148 5 rfl ?_
    obtain ⟨o_a15, h⟩ := h
    obtain ⟨i16, h⟩ := h
    refine r_iast (pc := 149) C dX11_readRoad_149 o_a15 i16 ?_
    refine r_aload_n (pc := 150) C dX11_readRoad_150 2 rfl ?_
    obtain ⟨a17, ea17, h⟩ := h
    refine r_getr (pc := 151) C fL_X11_147 dX11_readRoad_151 o_v0 ea17 ?_
    obtain ⟨o_a17, h⟩ := h
    obtain ⟨a18, ea18, h⟩ := h
    refine r_getNr (pc := 154) C fN_X11_282 dX11_readRoad_154 o_a17 ea18 ?_
    refine r_iload (pc := 157) C dX11_readRoad_157 0 rfl ?_
    refine r_iload (pc := 159) C dX11_readRoad_159 1 rfl ?_
    obtain ⟨o_a18, h⟩ := h
    obtain ⟨i19, h⟩ := h
    refine r_iast (pc := 161) C dX11_readRoad_161 o_a18 i19 ?_
    refine r_aload_n (pc := 162) C dX11_readRoad_162 2 rfl ?_
    obtain ⟨a20, ea20, h⟩ := h
    refine r_getr (pc := 163) C fL_X11_147 dX11_readRoad_163 o_v0 ea20 ?_
    refine r_dup (pc := 166) C dX11_readRoad_166 rfl ?_
    obtain ⟨o_a20, h⟩ := h
    refine r_getNi (pc := 167) C fN_X11_264 dX11_readRoad_167 o_a20 ?_
    refine r_topi (fun x21 ex21 => ?_)
    have h := h x21 ex21
    refine r_iconst (pc := 170) C (v := (1 : Int32)) dX11_readRoad_170 (by decide) ?_
    refine r_iadd (pc := 171) C dX11_readRoad_171 ?_
    refine r_topi (fun x22 ex22 => ?_)
    have h := h x22 ex22
    refine r_putNi (pc := 172) C pfN_X11_264 dX11_readRoad_172 o_a20 ?_
    exact r_vret (pc := 175) C E ht dX11_readRoad_175 (by decide) (by decide) h
  · have h := h.2 c2
    exact r_vret (pc := 95) C E ht dX11_readRoad_95 (by decide) (by decide) h
def P_X11_readRoad_62 (Q : HS → Prop) (v0 : Nat) (v1 : Int32) (v2 : Int32) (v3 : Int32) (v4 : Int32) (S : HS) : Prop := ob S v0 11 ∧ (P_X11_goesOn v0 (fun S1 => Gr S S1 → (P_X11_eatsWord v0 44 (fun x6 S4 => Gr S1 S4 → bl x6 → (((x6 = 0) → (P_X11_readRoad_85 Q v0 v1 v2 v3 v4 (0 : Int32) S4)) ∧ ((¬ x6 = 0) → (P_X11_readWhole v0 (0 : Int32) v3 (fun x10 S8 => Gr S4 S8 → (P_X11_readRoad_85 Q v0 v1 v2 v3 v4 x10 S8)) S4)))) S1)) S)
set_option maxRecDepth 20000 in
set_option maxHeartbeats 4000000 in
theorem T_X11_readRoad_62 {X : CX} {Q : HS → Prop} (C : Cx X cX11_readRoad RX11 7 rm_X11_readRoad) (E : ReV X rm_X11_readRoad Q) (ht : (xh X).sig.returnType = none) (hn : (xh X).name = yX11_readRoad.name) {v0 : Nat} {v1 : Int32} {v2 : Int32} {v3 : Int32} {v4 : Int32} {S : HS} (h : P_X11_readRoad_62 Q v0 v1 v2 v3 v4 S) : WS X 7 0 0 62 [(0, .ref v0), (1, .int v1), (2, .int v2), (3, .int v3), (4, .int v4)] [] S := by
  refine r_aload_n (pc := 62) C dX11_readRoad_62 0 rfl ?_
  obtain ⟨o_v0, h⟩ := h
  refine r_callVv0 (pc := 63) C (rest := []) (a := v0) o_v0 [] yV_X11_goesOn g_1380 (c_X11_goesOn h) dX11_readRoad_63 rfl rfl (Nat.le_of_ble_eq_true rfl) ⟨by decide, by decide⟩ ⟨by decide, by decide⟩ ⟨rfl, rfl⟩ (fun S1 h g2 => ?_)
  have h := h g2
  have o_v0 := gr_ob g2 o_v0
  refine r_aload_n (pc := 66) C dX11_readRoad_66 0 rfl ?_
  refine r_lds (pc := 67) C 44 rfl dX11_readRoad_67 ?_
  refine r_callVi0 (pc := 69) C (rest := []) (a := v0) o_v0 [.ref (eK (xE X) 44)] yV_X11_eatsWord g_1481 (c_X11_eatsWord h) dX11_readRoad_69 rfl rfl (Nat.le_of_ble_eq_true rfl) ⟨by decide, by decide⟩ ⟨by decide, by decide⟩ ⟨rfl, rfl⟩ (fun x6 S4 h g5 => ?_)
  have bx6 := h.1
  have h := h.2 g5 bx6
  have o_v0 := gr_ob g5 o_v0
  refine r_if_eq (pc := 72) C (tgt := 84) dX11_readRoad_72 (by decide) (fun c7 => ?_) (fun c7 => ?_)
  · have h := h.1 c7
    refine r_iconst (pc := 84) C (v := (0 : Int32)) dX11_readRoad_84 (by decide) ?_
    exact r_sub [0, 1, 2, 3, 4] rfl (T_X11_readRoad_85 C E ht hn h)
  · have h := h.2 c7
    refine r_aload_n (pc := 75) C dX11_readRoad_75 0 rfl ?_
    refine r_iconst (pc := 76) C (v := (0 : Int32)) dX11_readRoad_76 (by decide) ?_
    refine r_iload_n (pc := 77) C dX11_readRoad_77 3 rfl ?_
    refine r_callVi0 (pc := 78) C (rest := []) (a := v0) o_v0 [.int (0 : Int32), .int v3] yV_X11_readWhole g_1430 (c_X11_readWhole h) dX11_readRoad_78 rfl rfl (Nat.le_of_ble_eq_true rfl) ⟨by decide, by decide⟩ ⟨by decide, by decide⟩ ⟨rfl, rfl⟩ (fun x10 S8 h g9 => ?_)
    have h := h g9
    have o_v0 := gr_ob g9 o_v0
    refine r_goto (pc := 81) C (tgt := 85) dX11_readRoad_81 (by decide) ?_
    exact r_sub [0, 1, 2, 3, 4] rfl (T_X11_readRoad_85 C E ht hn h)
def P_X11_readRoad_0 (Q : HS → Prop) (v0 : Nat) (S : HS) : Prop := ob S v0 11 ∧ (∃ a1 : Nat, fR S v0 4 = some a1 ∧ (ob S a1 10 ∧ (∀ x2 : Int32, x2 = fI S a1 3 → (P_X11_begins v0 x2 (12 : Int32) (fun S3 => Gr S S3 → (P_X11_known v0 (0 : Int32) (fun x8 S6 => Gr S3 S6 → (P_X11_goesOn v0 (fun S9 => Gr S6 S9 → (P_X11_readSide v0 (fun x14 S12 => Gr S9 S12 → (P_X11_readWhole v0 (1 : Int32) (60 : Int32) (fun x17 S15 => Gr S12 S15 → (P_X11_known v0 (0 : Int32) (fun x20 S18 => Gr S15 S18 → (∀ x21 : Int32, x21 = fI S18 v0 9 → (((x21 = (5 : Int32)) → (P_X11_readRoad_62 Q v0 x8 x14 x17 x20 S18)) ∧ ((¬ x21 = (5 : Int32)) → (((¬ x20 = x8) → (P_X11_readRoad_62 Q v0 x8 x14 x17 x20 S18)) ∧ ((x20 = x8) → (P_X11_flaw v0 (3 : Int32) (fun S24 => Gr S18 S24 → (P_X11_readRoad_62 Q v0 x8 x14 x17 x20 S24)) S18))))))) S15)) S12)) S9)) S6)) S3)) S))))
set_option maxRecDepth 20000 in
set_option maxHeartbeats 4000000 in
theorem T_X11_readRoad_0 {X : CX} {Q : HS → Prop} (C : Cx X cX11_readRoad RX11 7 rm_X11_readRoad) (E : ReV X rm_X11_readRoad Q) (ht : (xh X).sig.returnType = none) (hn : (xh X).name = yX11_readRoad.name) {v0 : Nat} {S : HS} (h : P_X11_readRoad_0 Q v0 S) : WS X 7 0 0 0 [(0, .ref v0)] [] S := by
  refine r_aload_n (pc := 0) C dX11_readRoad_0 0 rfl ?_
  refine r_aload_n (pc := 1) C dX11_readRoad_1 0 rfl ?_
  obtain ⟨o_v0, h⟩ := h
  obtain ⟨a1, ea1, h⟩ := h
  refine r_getr (pc := 2) C fL_X11_147 dX11_readRoad_2 o_v0 ea1 ?_
  obtain ⟨o_a1, h⟩ := h
  refine r_getNi (pc := 5) C fN_X11_264 dX11_readRoad_5 o_a1 ?_
  refine r_topi (fun x2 ex2 => ?_)
  have h := h x2 ex2
  refine r_bipush (pc := 8) C (v := (12 : Int32)) dX11_readRoad_8 (by decide) ?_
  refine r_callVv0 (pc := 10) C (rest := []) (a := v0) o_v0 [.int x2, .int (12 : Int32)] yV_X11_begins g_1442 (c_X11_begins h) dX11_readRoad_10 rfl rfl (Nat.le_of_ble_eq_true rfl) ⟨by decide, by decide⟩ ⟨by decide, by decide⟩ ⟨rfl, rfl⟩ (fun S3 h g4 => ?_)
  have h := h g4
  have o_a1 := gr_ob g4 o_a1
  have o_v0 := gr_ob g4 o_v0
  refine r_aload_n (pc := 13) C dX11_readRoad_13 0 rfl ?_
  refine r_iconst (pc := 14) C (v := (0 : Int32)) dX11_readRoad_14 (by decide) ?_
  refine r_callVi0 (pc := 15) C (rest := []) (a := v0) o_v0 [.int (0 : Int32)] yV_X11_known g_1493 (c_X11_known h) dX11_readRoad_15 rfl rfl (Nat.le_of_ble_eq_true rfl) ⟨by decide, by decide⟩ ⟨by decide, by decide⟩ ⟨rfl, rfl⟩ (fun x8 S6 h g7 => ?_)
  have h := h g7
  have o_a1 := gr_ob g7 o_a1
  have o_v0 := gr_ob g7 o_v0
  refine r_istore_n (pc := 18) C dX11_readRoad_18 rfl (by decide) (lv' := [(1, .int x8), (0, .ref v0)]) rfl ?_
  refine r_aload_n (pc := 19) C dX11_readRoad_19 1 rfl ?_
  refine r_callVv0 (pc := 20) C (rest := []) (a := v0) o_v0 [] yV_X11_goesOn g_1380 (c_X11_goesOn h) dX11_readRoad_20 rfl rfl (Nat.le_of_ble_eq_true rfl) ⟨by decide, by decide⟩ ⟨by decide, by decide⟩ ⟨rfl, rfl⟩ (fun S9 h g10 => ?_)
  have h := h g10
  have o_a1 := gr_ob g10 o_a1
  have o_v0 := gr_ob g10 o_v0
  refine r_aload_n (pc := 23) C dX11_readRoad_23 1 rfl ?_
  refine r_callVi0 (pc := 24) C (rest := []) (a := v0) o_v0 [] yV_X11_readSide g_1449 (c_X11_readSide h) dX11_readRoad_24 rfl rfl (Nat.le_of_ble_eq_true rfl) ⟨by decide, by decide⟩ ⟨by decide, by decide⟩ ⟨rfl, rfl⟩ (fun x14 S12 h g13 => ?_)
  have h := h g13
  have o_a1 := gr_ob g13 o_a1
  have o_v0 := gr_ob g13 o_v0
  refine r_istore_n (pc := 27) C dX11_readRoad_27 rfl (by decide) (lv' := [(2, .int x14), (1, .int x8), (0, .ref v0)]) rfl ?_
  refine r_aload_n (pc := 28) C dX11_readRoad_28 2 rfl ?_
  refine r_iconst (pc := 29) C (v := (1 : Int32)) dX11_readRoad_29 (by decide) ?_
  refine r_bipush (pc := 30) C (v := (60 : Int32)) dX11_readRoad_30 (by decide) ?_
  refine r_callVi0 (pc := 32) C (rest := []) (a := v0) o_v0 [.int (1 : Int32), .int (60 : Int32)] yV_X11_readWhole g_1430 (c_X11_readWhole h) dX11_readRoad_32 rfl rfl (Nat.le_of_ble_eq_true rfl) ⟨by decide, by decide⟩ ⟨by decide, by decide⟩ ⟨rfl, rfl⟩ (fun x17 S15 h g16 => ?_)
  have h := h g16
  have o_a1 := gr_ob g16 o_a1
  have o_v0 := gr_ob g16 o_v0
  refine r_istore_n (pc := 35) C dX11_readRoad_35 rfl (by decide) (lv' := [(3, .int x17), (2, .int x14), (1, .int x8), (0, .ref v0)]) rfl ?_
  refine r_aload_n (pc := 36) C dX11_readRoad_36 3 rfl ?_
  refine r_iconst (pc := 37) C (v := (0 : Int32)) dX11_readRoad_37 (by decide) ?_
  refine r_callVi0 (pc := 38) C (rest := []) (a := v0) o_v0 [.int (0 : Int32)] yV_X11_known g_1493 (c_X11_known h) dX11_readRoad_38 rfl rfl (Nat.le_of_ble_eq_true rfl) ⟨by decide, by decide⟩ ⟨by decide, by decide⟩ ⟨rfl, rfl⟩ (fun x20 S18 h g19 => ?_)
  have h := h g19
  have o_a1 := gr_ob g19 o_a1
  have o_v0 := gr_ob g19 o_v0
  refine r_istore (pc := 41) C dX11_readRoad_41 (by decide) (lv' := [(4, .int x20), (3, .int x17), (2, .int x14), (1, .int x8), (0, .ref v0)]) rfl ?_
  refine r_aload_n (pc := 43) C dX11_readRoad_43 4 rfl ?_
  refine r_geti (pc := 44) C fL_X11_68 dX11_readRoad_44 o_v0 ?_
  refine r_topi (fun x21 ex21 => ?_)
  have h := h x21 ex21
  refine r_iconst (pc := 47) C (v := (5 : Int32)) dX11_readRoad_47 (by decide) ?_
  refine r_icmp_eq (pc := 48) C (tgt := 62) dX11_readRoad_48 (by decide) (fun c22 => ?_) (fun c22 => ?_)
  · have h := h.1 c22
    exact r_sub [4, 3, 2, 1, 0] rfl (T_X11_readRoad_62 C E ht hn h)
  · have h := h.2 c22
    refine r_iload (pc := 51) C dX11_readRoad_51 0 rfl ?_
    refine r_iload_n (pc := 53) C dX11_readRoad_53 3 rfl ?_
    refine r_icmp_ne (pc := 54) C (tgt := 62) dX11_readRoad_54 (by decide) (fun c23 => ?_) (fun c23 => ?_)
    · have h := h.1 c23
      exact r_sub [4, 3, 2, 1, 0] rfl (T_X11_readRoad_62 C E ht hn h)
    · have h := h.2 c23
      refine r_aload_n (pc := 57) C dX11_readRoad_57 4 rfl ?_
      refine r_iconst (pc := 58) C (v := (3 : Int32)) dX11_readRoad_58 (by decide) ?_
      refine r_callVv0 (pc := 59) C (rest := []) (a := v0) o_v0 [.int (3 : Int32)] yV_X11_flaw g_1417 (c_X11_flaw h) dX11_readRoad_59 rfl rfl (Nat.le_of_ble_eq_true rfl) ⟨by decide, by decide⟩ ⟨by decide, by decide⟩ ⟨rfl, rfl⟩ (fun S24 h g25 => ?_)
      have h := h g25
      have o_a1 := gr_ob g25 o_a1
      have o_v0 := gr_ob g25 o_v0
      exact r_sub [4, 3, 2, 1, 0] rfl (T_X11_readRoad_62 C E ht hn h)
def P_X11_readRoad (v0 : Nat) (Q : HS → Prop) (S : HS) : Prop := P_X11_readRoad_0 Q v0 S
theorem c_X11_readRoad {l : Launch} {Ee : EE} {S : HS} {v0 : Nat} {Q : HS → Prop} (h : P_X11_readRoad v0 Q S) : MV l yX11_readRoad cX11_readRoad 7 none rm_X11_readRoad Ee S [.ref v0] Q :=
  openV (by decide) (Nat.le_of_ble_eq_true rfl) (fun X C E ht hn hE hl => by subst hE; exact r_sub [0] rfl (T_X11_readRoad_0 C E ht hn h))
def rm_X11_readSeen : Room := { frames := 9, cells := 0, slots := 0, locals := 206 }
def P_X11_readSeen_47 (Q : HS → Prop) (X24 : Nat → Int32 → Int32 → HS → Prop) (v0 : Nat) (v1 : Int32) (v2 : Int32) (S : HS) : Prop := ob S v0 11 ∧ (P_X11_readWhole v0 (0 : Int32) (999 : Int32) (fun x3 S1 => Gr S S1 → (∀ x4 : Int32, x4 = fI S1 v0 9 → (((¬ x4 = (5 : Int32)) → (∃ a6 : Nat, fR S1 v0 4 = some a6 ∧ (ob S1 a6 10 ∧ (∃ a7 : Nat, fR S1 a6 27 = some a7 ∧ (∃ a8 : Nat, fR S1 v0 4 = some a8 ∧ (ob S1 a8 10 ∧ (∀ x9 : Int32, x9 = fI S1 a8 5 → (ob S1 a7 13 ∧ (vp_in (((5 : Int32) * x9) + v2) (hN S1 a7) ∧ (∀ x11 : Int32, x11 = v2 + (1 : Int32) → (X24 v0 v1 x11 (sI S1 a7 (((5 : Int32) * x9) + v2).toNatClampNeg x3)))))))))))) ∧ ((x4 = (5 : Int32)) → (Q S1))))) S)
set_option maxRecDepth 20000 in
set_option maxHeartbeats 4000000 in
theorem T_X11_readSeen_47 {X : CX} {Q : HS → Prop} (C : Cx X cX11_readSeen RX11 4 rm_X11_readSeen) (E : ReV X rm_X11_readSeen Q) (ht : (xh X).sig.returnType = none) (hn : (xh X).name = yX11_readSeen.name) {X24 : Nat → Int32 → Int32 → HS → Prop} (hX24 : ∀ (v0 : Nat) (v1 : Int32) (v2 : Int32) (S : HS), X24 v0 v1 v2 S → WS X 4 0 0 24 [(0, .ref v0), (1, .int v1), (2, .int v2)] [] S) {v0 : Nat} {v1 : Int32} {v2 : Int32} {S : HS} (h : P_X11_readSeen_47 Q X24 v0 v1 v2 S) : WS X 4 0 0 47 [(0, .ref v0), (1, .int v1), (2, .int v2)] [] S := by
  refine r_aload_n (pc := 47) C dX11_readSeen_47 0 rfl ?_
  refine r_iconst (pc := 48) C (v := (0 : Int32)) dX11_readSeen_48 (by decide) ?_
  refine r_sipush (pc := 49) C (v := (999 : Int32)) dX11_readSeen_49 (by decide) ?_
  obtain ⟨o_v0, h⟩ := h
  refine r_callVi0 (pc := 52) C (rest := []) (a := v0) o_v0 [.int (0 : Int32), .int (999 : Int32)] yV_X11_readWhole g_1430 (c_X11_readWhole h) dX11_readSeen_52 rfl rfl (Nat.le_of_ble_eq_true rfl) ⟨by decide, by decide⟩ ⟨by decide, by decide⟩ ⟨rfl, rfl⟩ (fun x3 S1 h g2 => ?_)
  have h := h g2
  have o_v0 := gr_ob g2 o_v0
  refine r_istore_n (pc := 55) C dX11_readSeen_55 rfl (by decide) (lv' := [(3, .int x3), (0, .ref v0), (1, .int v1), (2, .int v2)]) rfl ?_
  refine r_aload_n (pc := 56) C dX11_readSeen_56 1 rfl ?_
  refine r_geti (pc := 57) C fL_X11_68 dX11_readSeen_57 o_v0 ?_
  refine r_topi (fun x4 ex4 => ?_)
  have h := h x4 ex4
  refine r_iconst (pc := 60) C (v := (5 : Int32)) dX11_readSeen_60 (by decide) ?_
  refine r_icmp_ne (pc := 61) C (tgt := 65) dX11_readSeen_61 (by decide) (fun c5 => ?_) (fun c5 => ?_)
  · have h := h.1 c5
    refine r_aload_n (pc := 65) C dX11_readSeen_65 1 rfl ?_
    obtain ⟨a6, ea6, h⟩ := h
    refine r_getr (pc := 66) C fL_X11_147 dX11_readSeen_66 o_v0 ea6 ?_
    obtain ⟨o_a6, h⟩ := h
    obtain ⟨a7, ea7, h⟩ := h
    refine r_getNr (pc := 69) C fN_X11_326 dX11_readSeen_69 o_a6 ea7 ?_
    refine r_iconst (pc := 72) C (v := (5 : Int32)) dX11_readSeen_72 (by decide) ?_
    refine r_aload_n (pc := 73) C dX11_readSeen_73 1 rfl ?_
    obtain ⟨a8, ea8, h⟩ := h
    refine r_getr (pc := 74) C fL_X11_147 dX11_readSeen_74 o_v0 ea8 ?_
    obtain ⟨o_a8, h⟩ := h
    refine r_getNi (pc := 77) C fN_X11_323 dX11_readSeen_77 o_a8 ?_
    refine r_topi (fun x9 ex9 => ?_)
    have h := h x9 ex9
    refine r_imul (pc := 80) C dX11_readSeen_80 ?_
    refine r_iload_n (pc := 81) C dX11_readSeen_81 3 rfl ?_
    refine r_iadd (pc := 82) C dX11_readSeen_82 ?_
    refine r_iload_n (pc := 83) C dX11_readSeen_83 0 rfl ?_
    obtain ⟨o_a7, h⟩ := h
    obtain ⟨i10, h⟩ := h
    refine r_iast (pc := 84) C dX11_readSeen_84 o_a7 i10 ?_
    obtain ⟨x11, ex11⟩ : ∃ z : Int32, z = v2 + (1 : Int32) := ⟨_, rfl⟩
    have h := h x11 ex11
    refine r_iinc (pc := 85) C (v := x11) (lv' := [(2, .int x11), (3, .int x3), (0, .ref v0), (1, .int v1)]) dX11_readSeen_85 3 rfl ex11.symm (by decide) rfl ?_
    refine r_goto (pc := 88) C (tgt := 24) dX11_readSeen_88 (by decide) ?_
    exact r_sub [2, 3, 0] rfl (hX24 v0 v1 x11 (sI S1 a7 (((5 : Int32) * x9) + v2).toNatClampNeg x3) h)
  · have h := h.2 c5
    exact r_vret (pc := 64) C E ht dX11_readSeen_64 (by decide) (by decide) h
def B_X11_readSeen_24 (Q : HS → Prop) (X24 : Nat → Int32 → Int32 → HS → Prop) (v0 : Nat) (v1 : Int32) (v2 : Int32) (S : HS) : Prop := (((5 : Int32) ≤ v2) → (ob S v0 11 ∧ (∃ a2 : Nat, fR S v0 4 = some a2 ∧ (ob S a2 10 ∧ (∃ a3 : Nat, fR S a2 26 = some a3 ∧ (∃ a4 : Nat, fR S v0 4 = some a4 ∧ (ob S a4 10 ∧ (∀ x5 : Int32, x5 = fI S a4 5 → (ob S a3 13 ∧ (vp_in x5 (hN S a3) ∧ (∃ a7 : Nat, fR (sI S a3 x5.toNatClampNeg v1) v0 4 = some a7 ∧ (ob (sI S a3 x5.toNatClampNeg v1) a7 10 ∧ (∀ x8 : Int32, x8 = fI (sI S a3 x5.toNatClampNeg v1) a7 5 → (∀ x9 : Int32, x9 = x8 + (1 : Int32) → (Q (sI (sI S a3 x5.toNatClampNeg v1) a7 5 x9)))))))))))))))) ∧ ((¬ (5 : Int32) ≤ v2) → (((v2 ≤ 0) → (P_X11_readSeen_47 Q X24 v0 v1 v2 S)) ∧ ((¬ v2 ≤ 0) → (ob S v0 11 ∧ (P_X11_eatsSign v0 (44 : Int32) (fun x13 S11 => Gr S S11 → bl x13 → (((¬ x13 = 0) → (P_X11_readSeen_47 Q X24 v0 v1 v2 S11)) ∧ ((x13 = 0) → (P_X11_flaw v0 (1 : Int32) (fun S15 => Gr S11 S15 → (P_X11_readSeen_47 Q X24 v0 v1 v2 S15)) S11)))) S)))))
def P_X11_readSeen_24 (Q : HS → Prop) (v0 : Nat) (v1 : Int32) (v2 : Int32) (S : HS) : Prop := ∀ X24 : Nat → Int32 → Int32 → HS → Prop, (∀ (v0 : Nat) (v1 : Int32) (v2 : Int32) (S : HS), B_X11_readSeen_24 Q X24 v0 v1 v2 S → X24 v0 v1 v2 S) → X24 v0 v1 v2 S
set_option maxRecDepth 20000 in
set_option maxHeartbeats 4000000 in
theorem TB_X11_readSeen_24 {X : CX} {Q : HS → Prop} (C : Cx X cX11_readSeen RX11 4 rm_X11_readSeen) (E : ReV X rm_X11_readSeen Q) (ht : (xh X).sig.returnType = none) (hn : (xh X).name = yX11_readSeen.name) {X24 : Nat → Int32 → Int32 → HS → Prop} (hX24 : ∀ (v0 : Nat) (v1 : Int32) (v2 : Int32) (S : HS), X24 v0 v1 v2 S → WS X 4 0 0 24 [(0, .ref v0), (1, .int v1), (2, .int v2)] [] S) {v0 : Nat} {v1 : Int32} {v2 : Int32} {S : HS} (h : B_X11_readSeen_24 Q X24 v0 v1 v2 S) : WS X 4 0 0 24 [(0, .ref v0), (1, .int v1), (2, .int v2)] [] S := by
  refine r_iload_n (pc := 24) C dX11_readSeen_24 2 rfl ?_
  refine r_iconst (pc := 25) C (v := (5 : Int32)) dX11_readSeen_25 (by decide) ?_
  refine r_icmp_ge (pc := 26) C (tgt := 91) dX11_readSeen_26 (by decide) (fun c1 => ?_) (fun c1 => ?_)
  · have h := h.1 c1
    refine r_aload_n (pc := 91) C dX11_readSeen_91 0 rfl ?_
    obtain ⟨o_v0, h⟩ := h
    obtain ⟨a2, ea2, h⟩ := h
    refine r_getr (pc := 92) C fL_X11_147 dX11_readSeen_92 o_v0 ea2 ?_
    obtain ⟨o_a2, h⟩ := h
    obtain ⟨a3, ea3, h⟩ := h
    refine r_getNr (pc := 95) C fN_X11_328 dX11_readSeen_95 o_a2 ea3 ?_
    refine r_aload_n (pc := 98) C dX11_readSeen_98 0 rfl ?_
    obtain ⟨a4, ea4, h⟩ := h
    refine r_getr (pc := 99) C fL_X11_147 dX11_readSeen_99 o_v0 ea4 ?_
    obtain ⟨o_a4, h⟩ := h
    refine r_getNi (pc := 102) C fN_X11_323 dX11_readSeen_102 o_a4 ?_
    refine r_topi (fun x5 ex5 => ?_)
    have h := h x5 ex5
    refine r_iload_n (pc := 105) C dX11_readSeen_105 1 rfl ?_
    obtain ⟨o_a3, h⟩ := h
    obtain ⟨i6, h⟩ := h
    refine r_iast (pc := 106) C dX11_readSeen_106 o_a3 i6 ?_
    refine r_aload_n (pc := 107) C dX11_readSeen_107 0 rfl ?_
    obtain ⟨a7, ea7, h⟩ := h
    refine r_getr (pc := 108) C fL_X11_147 dX11_readSeen_108 o_v0 ea7 ?_
    refine r_dup (pc := 111) C dX11_readSeen_111 rfl ?_
    obtain ⟨o_a7, h⟩ := h
    refine r_getNi (pc := 112) C fN_X11_323 dX11_readSeen_112 o_a7 ?_
    refine r_topi (fun x8 ex8 => ?_)
    have h := h x8 ex8
    refine r_iconst (pc := 115) C (v := (1 : Int32)) dX11_readSeen_115 (by decide) ?_
    refine r_iadd (pc := 116) C dX11_readSeen_116 ?_
    refine r_topi (fun x9 ex9 => ?_)
    have h := h x9 ex9
    refine r_putNi (pc := 117) C pfN_X11_323 dX11_readSeen_117 o_a7 ?_
    exact r_vret (pc := 120) C E ht dX11_readSeen_120 (by decide) (by decide) h
  · have h := h.2 c1
    refine r_iload_n (pc := 29) C dX11_readSeen_29 2 rfl ?_
    refine r_if_le (pc := 30) C (tgt := 47) dX11_readSeen_30 (by decide) (fun c10 => ?_) (fun c10 => ?_)
    · have h := h.1 c10
      exact r_sub [0, 1, 2] rfl (T_X11_readSeen_47 C E ht hn hX24 h)
    · have h := h.2 c10
      refine r_aload_n (pc := 33) C dX11_readSeen_33 0 rfl ?_
      refine r_bipush (pc := 34) C (v := (44 : Int32)) dX11_readSeen_34 (by decide) ?_
      obtain ⟨o_v0, h⟩ := h
      refine r_callVi0 (pc := 36) C (rest := []) (a := v0) o_v0 [.int (44 : Int32)] yV_X11_eatsSign g_1514 (c_X11_eatsSign h) dX11_readSeen_36 rfl rfl (Nat.le_of_ble_eq_true rfl) ⟨by decide, by decide⟩ ⟨by decide, by decide⟩ ⟨rfl, rfl⟩ (fun x13 S11 h g12 => ?_)
      have bx13 := h.1
      have h := h.2 g12 bx13
      have o_v0 := gr_ob g12 o_v0
      refine r_if_ne (pc := 39) C (tgt := 47) dX11_readSeen_39 (by decide) (fun c14 => ?_) (fun c14 => ?_)
      · have h := h.1 c14
        exact r_sub [0, 1, 2] rfl (T_X11_readSeen_47 C E ht hn hX24 h)
      · have h := h.2 c14
        refine r_aload_n (pc := 42) C dX11_readSeen_42 0 rfl ?_
        refine r_iconst (pc := 43) C (v := (1 : Int32)) dX11_readSeen_43 (by decide) ?_
        refine r_callVv0 (pc := 44) C (rest := []) (a := v0) o_v0 [.int (1 : Int32)] yV_X11_flaw g_1417 (c_X11_flaw h) dX11_readSeen_44 rfl rfl (Nat.le_of_ble_eq_true rfl) ⟨by decide, by decide⟩ ⟨by decide, by decide⟩ ⟨rfl, rfl⟩ (fun S15 h g16 => ?_)
        have h := h g16
        have o_v0 := gr_ob g16 o_v0
        exact r_sub [0, 1, 2] rfl (T_X11_readSeen_47 C E ht hn hX24 h)
theorem T_X11_readSeen_24 {X : CX} {Q : HS → Prop} (C : Cx X cX11_readSeen RX11 4 rm_X11_readSeen) (E : ReV X rm_X11_readSeen Q) (ht : (xh X).sig.returnType = none) (hn : (xh X).name = yX11_readSeen.name) {v0 : Nat} {v1 : Int32} {v2 : Int32} {S : HS} (h : P_X11_readSeen_24 Q v0 v1 v2 S) : WS X 4 0 0 24 [(0, .ref v0), (1, .int v1), (2, .int v2)] [] S :=
  h (fun v0 v1 v2 S => WS X 4 0 0 24 [(0, .ref v0), (1, .int v1), (2, .int v2)] [] S) (fun v0 v1 v2 S hh => TB_X11_readSeen_24 C E ht hn (fun v0 v1 v2 S z => z) hh)
def P_X11_readSeen_0 (Q : HS → Prop) (v0 : Nat) (S : HS) : Prop := ob S v0 11 ∧ (∃ a1 : Nat, fR S v0 4 = some a1 ∧ (ob S a1 10 ∧ (∀ x2 : Int32, x2 = fI S a1 5 → (P_X11_begins v0 x2 (4 : Int32) (fun S3 => Gr S S3 → (P_X11_known v0 (1 : Int32) (fun x8 S6 => Gr S3 S6 → (P_X11_goesOn v0 (fun S9 => Gr S6 S9 → (P_X11_readSeen_24 Q v0 x8 (0 : Int32) S9)) S6)) S3)) S))))
set_option maxRecDepth 20000 in
set_option maxHeartbeats 4000000 in
theorem T_X11_readSeen_0 {X : CX} {Q : HS → Prop} (C : Cx X cX11_readSeen RX11 4 rm_X11_readSeen) (E : ReV X rm_X11_readSeen Q) (ht : (xh X).sig.returnType = none) (hn : (xh X).name = yX11_readSeen.name) {v0 : Nat} {S : HS} (h : P_X11_readSeen_0 Q v0 S) : WS X 4 0 0 0 [(0, .ref v0)] [] S := by
  refine r_aload_n (pc := 0) C dX11_readSeen_0 0 rfl ?_
  refine r_aload_n (pc := 1) C dX11_readSeen_1 0 rfl ?_
  obtain ⟨o_v0, h⟩ := h
  obtain ⟨a1, ea1, h⟩ := h
  refine r_getr (pc := 2) C fL_X11_147 dX11_readSeen_2 o_v0 ea1 ?_
  obtain ⟨o_a1, h⟩ := h
  refine r_getNi (pc := 5) C fN_X11_323 dX11_readSeen_5 o_a1 ?_
  refine r_topi (fun x2 ex2 => ?_)
  have h := h x2 ex2
  refine r_iconst (pc := 8) C (v := (4 : Int32)) dX11_readSeen_8 (by decide) ?_
  refine r_callVv0 (pc := 9) C (rest := []) (a := v0) o_v0 [.int x2, .int (4 : Int32)] yV_X11_begins g_1442 (c_X11_begins h) dX11_readSeen_9 rfl rfl (Nat.le_of_ble_eq_true rfl) ⟨by decide, by decide⟩ ⟨by decide, by decide⟩ ⟨rfl, rfl⟩ (fun S3 h g4 => ?_)
  have h := h g4
  have o_a1 := gr_ob g4 o_a1
  have o_v0 := gr_ob g4 o_v0
  refine r_aload_n (pc := 12) C dX11_readSeen_12 0 rfl ?_
  refine r_iconst (pc := 13) C (v := (1 : Int32)) dX11_readSeen_13 (by decide) ?_
  refine r_callVi0 (pc := 14) C (rest := []) (a := v0) o_v0 [.int (1 : Int32)] yV_X11_known g_1493 (c_X11_known h) dX11_readSeen_14 rfl rfl (Nat.le_of_ble_eq_true rfl) ⟨by decide, by decide⟩ ⟨by decide, by decide⟩ ⟨rfl, rfl⟩ (fun x8 S6 h g7 => ?_)
  have h := h g7
  have o_a1 := gr_ob g7 o_a1
  have o_v0 := gr_ob g7 o_v0
  refine r_istore_n (pc := 17) C dX11_readSeen_17 rfl (by decide) (lv' := [(1, .int x8), (0, .ref v0)]) rfl ?_
  refine r_aload_n (pc := 18) C dX11_readSeen_18 1 rfl ?_
  refine r_callVv0 (pc := 19) C (rest := []) (a := v0) o_v0 [] yV_X11_goesOn g_1380 (c_X11_goesOn h) dX11_readSeen_19 rfl rfl (Nat.le_of_ble_eq_true rfl) ⟨by decide, by decide⟩ ⟨by decide, by decide⟩ ⟨rfl, rfl⟩ (fun S9 h g10 => ?_)
  have h := h g10
  have o_a1 := gr_ob g10 o_a1
  have o_v0 := gr_ob g10 o_v0
  refine r_iconst (pc := 22) C (v := (0 : Int32)) dX11_readSeen_22 (by decide) ?_
  refine r_istore_n (pc := 23) C dX11_readSeen_23 rfl (by decide) (lv' := [(2, .int (0 : Int32)), (1, .int x8), (0, .ref v0)]) rfl ?_
  exact r_sub [2, 1, 0] rfl (T_X11_readSeen_24 C E ht hn h)
def P_X11_readSeen (v0 : Nat) (Q : HS → Prop) (S : HS) : Prop := P_X11_readSeen_0 Q v0 S
theorem c_X11_readSeen {l : Launch} {Ee : EE} {S : HS} {v0 : Nat} {Q : HS → Prop} (h : P_X11_readSeen v0 Q S) : MV l yX11_readSeen cX11_readSeen 4 none rm_X11_readSeen Ee S [.ref v0] Q :=
  openV (by decide) (Nat.le_of_ble_eq_true rfl) (fun X C E ht hn hE hl => by subst hE; exact r_sub [0] rfl (T_X11_readSeen_0 C E ht hn h))
def rm_X11_readWalker : Room := { frames := 9, cells := 0, slots := 0, locals := 208 }
def P_X11_readWalker_149 (Q : HS → Prop) (v0 : Nat) (v1 : Int64) (v3 : Int32) (v4 : Int32) (s0 : Int32) (S : HS) : Prop := ob S v0 11 ∧ (P_X11_readPart v0 49 (1 : Int32) (9 : Int32) (fun x3 S1 => Gr S S1 → (P_X11_readPart v0 50 (1 : Int32) (9 : Int32) (fun x6 S4 => Gr S1 S4 → (P_X11_readPart v0 51 (s0 + (1 : Int32)) (9 : Int32) (fun x9 S7 => Gr S4 S7 → (P_X11_readPart v0 52 (1 : Int32) (9 : Int32) (fun x12 S10 => Gr S7 S10 → (P_X11_readPart v0 53 x12 (9 : Int32) (fun x15 S13 => Gr S10 S13 → (∀ x16 : Int32, x16 = fI S13 v0 9 → (((¬ x16 = (5 : Int32)) → (∃ a18 : Nat, fR S13 v0 4 = some a18 ∧ (ob S13 a18 10 ∧ (∀ x19 : Int32, x19 = fI S13 a18 4 → (P_X11_names v0 v1 (1 : Int32) x19 (fun S20 => Gr S13 S20 → (∃ a23 : Nat, fR S20 v0 4 = some a23 ∧ (ob S20 a23 10 ∧ (∃ a24 : Nat, fR S20 a23 19 = some a24 ∧ (ob S20 a24 13 ∧ (vp_in x19 (hN S20 a24) ∧ (∃ a26 : Nat, fR (sI S20 a24 x19.toNatClampNeg v3) v0 4 = some a26 ∧ (ob (sI S20 a24 x19.toNatClampNeg v3) a26 10 ∧ (∃ a27 : Nat, fR (sI S20 a24 x19.toNatClampNeg v3) a26 20 = some a27 ∧ (ob (sI S20 a24 x19.toNatClampNeg v3) a27 13 ∧ (vp_in x19 (hN (sI S20 a24 x19.toNatClampNeg v3) a27) ∧ (∃ a29 : Nat, fR (sI (sI S20 a24 x19.toNatClampNeg v3) a27 x19.toNatClampNeg v4) v0 4 = some a29 ∧ (ob (sI (sI S20 a24 x19.toNatClampNeg v3) a27 x19.toNatClampNeg v4) a29 10 ∧ (∃ a30 : Nat, fR (sI (sI S20 a24 x19.toNatClampNeg v3) a27 x19.toNatClampNeg v4) a29 21 = some a30 ∧ (ob (sI (sI S20 a24 x19.toNatClampNeg v3) a27 x19.toNatClampNeg v4) a30 13 ∧ (∀ x32 : Int32, x32 = x3 * (x6 + s0) → (vp_in x19 (hN (sI (sI S20 a24 x19.toNatClampNeg v3) a27 x19.toNatClampNeg v4) a30) ∧ (∃ a33 : Nat, fR (sI (sI (sI S20 a24 x19.toNatClampNeg v3) a27 x19.toNatClampNeg v4) a30 x19.toNatClampNeg x32) v0 4 = some a33 ∧ (ob (sI (sI (sI S20 a24 x19.toNatClampNeg v3) a27 x19.toNatClampNeg v4) a30 x19.toNatClampNeg x32) a33 10 ∧ (∃ a34 : Nat, fR (sI (sI (sI S20 a24 x19.toNatClampNeg v3) a27 x19.toNatClampNeg v4) a30 x19.toNatClampNeg x32) a33 22 = some a34 ∧ (ob (sI (sI (sI S20 a24 x19.toNatClampNeg v3) a27 x19.toNatClampNeg v4) a30 x19.toNatClampNeg x32) a34 13 ∧ (∀ x36 : Int32, x36 = x3 * (x9 - s0) → (vp_in x19 (hN (sI (sI (sI S20 a24 x19.toNatClampNeg v3) a27 x19.toNatClampNeg v4) a30 x19.toNatClampNeg x32) a34) ∧ (∃ a37 : Nat, fR (sI (sI (sI (sI S20 a24 x19.toNatClampNeg v3) a27 x19.toNatClampNeg v4) a30 x19.toNatClampNeg x32) a34 x19.toNatClampNeg x36) v0 4 = some a37 ∧ (ob (sI (sI (sI (sI S20 a24 x19.toNatClampNeg v3) a27 x19.toNatClampNeg v4) a30 x19.toNatClampNeg x32) a34 x19.toNatClampNeg x36) a37 10 ∧ (∃ a38 : Nat, fR (sI (sI (sI (sI S20 a24 x19.toNatClampNeg v3) a27 x19.toNatClampNeg v4) a30 x19.toNatClampNeg x32) a34 x19.toNatClampNeg x36) a37 23 = some a38 ∧ (ob (sI (sI (sI (sI S20 a24 x19.toNatClampNeg v3) a27 x19.toNatClampNeg v4) a30 x19.toNatClampNeg x32) a34 x19.toNatClampNeg x36) a38 13 ∧ (∀ x40 : Int32, x40 = (x6 + s0) * (x9 - s0) → (vp_in x19 (hN (sI (sI (sI (sI S20 a24 x19.toNatClampNeg v3) a27 x19.toNatClampNeg v4) a30 x19.toNatClampNeg x32) a34 x19.toNatClampNeg x36) a38) ∧ (∃ a41 : Nat, fR (sI (sI (sI (sI (sI S20 a24 x19.toNatClampNeg v3) a27 x19.toNatClampNeg v4) a30 x19.toNatClampNeg x32) a34 x19.toNatClampNeg x36) a38 x19.toNatClampNeg x40) v0 4 = some a41 ∧ (ob (sI (sI (sI (sI (sI S20 a24 x19.toNatClampNeg v3) a27 x19.toNatClampNeg v4) a30 x19.toNatClampNeg x32) a34 x19.toNatClampNeg x36) a38 x19.toNatClampNeg x40) a41 10 ∧ (∃ a42 : Nat, fR (sI (sI (sI (sI (sI S20 a24 x19.toNatClampNeg v3) a27 x19.toNatClampNeg v4) a30 x19.toNatClampNeg x32) a34 x19.toNatClampNeg x36) a38 x19.toNatClampNeg x40) a41 24 = some a42 ∧ (ob (sI (sI (sI (sI (sI S20 a24 x19.toNatClampNeg v3) a27 x19.toNatClampNeg v4) a30 x19.toNatClampNeg x32) a34 x19.toNatClampNeg x36) a38 x19.toNatClampNeg x40) a42 13 ∧ (vp_in x19 (hN (sI (sI (sI (sI (sI S20 a24 x19.toNatClampNeg v3) a27 x19.toNatClampNeg v4) a30 x19.toNatClampNeg x32) a34 x19.toNatClampNeg x36) a38 x19.toNatClampNeg x40) a42) ∧ (∃ a44 : Nat, fR (sI (sI (sI (sI (sI (sI S20 a24 x19.toNatClampNeg v3) a27 x19.toNatClampNeg v4) a30 x19.toNatClampNeg x32) a34 x19.toNatClampNeg x36) a38 x19.toNatClampNeg x40) a42 x19.toNatClampNeg x12) v0 4 = some a44 ∧ (ob (sI (sI (sI (sI (sI (sI S20 a24 x19.toNatClampNeg v3) a27 x19.toNatClampNeg v4) a30 x19.toNatClampNeg x32) a34 x19.toNatClampNeg x36) a38 x19.toNatClampNeg x40) a42 x19.toNatClampNeg x12) a44 10 ∧ (∃ a45 : Nat, fR (sI (sI (sI (sI (sI (sI S20 a24 x19.toNatClampNeg v3) a27 x19.toNatClampNeg v4) a30 x19.toNatClampNeg x32) a34 x19.toNatClampNeg x36) a38 x19.toNatClampNeg x40) a42 x19.toNatClampNeg x12) a44 25 = some a45 ∧ (ob (sI (sI (sI (sI (sI (sI S20 a24 x19.toNatClampNeg v3) a27 x19.toNatClampNeg v4) a30 x19.toNatClampNeg x32) a34 x19.toNatClampNeg x36) a38 x19.toNatClampNeg x40) a42 x19.toNatClampNeg x12) a45 13 ∧ (vp_in x19 (hN (sI (sI (sI (sI (sI (sI S20 a24 x19.toNatClampNeg v3) a27 x19.toNatClampNeg v4) a30 x19.toNatClampNeg x32) a34 x19.toNatClampNeg x36) a38 x19.toNatClampNeg x40) a42 x19.toNatClampNeg x12) a45) ∧ (∃ a47 : Nat, fR (sI (sI (sI (sI (sI (sI (sI S20 a24 x19.toNatClampNeg v3) a27 x19.toNatClampNeg v4) a30 x19.toNatClampNeg x32) a34 x19.toNatClampNeg x36) a38 x19.toNatClampNeg x40) a42 x19.toNatClampNeg x12) a45 x19.toNatClampNeg x15) v0 4 = some a47 ∧ (ob (sI (sI (sI (sI (sI (sI (sI S20 a24 x19.toNatClampNeg v3) a27 x19.toNatClampNeg v4) a30 x19.toNatClampNeg x32) a34 x19.toNatClampNeg x36) a38 x19.toNatClampNeg x40) a42 x19.toNatClampNeg x12) a45 x19.toNatClampNeg x15) a47 10 ∧ (∀ x48 : Int32, x48 = fI (sI (sI (sI (sI (sI (sI (sI S20 a24 x19.toNatClampNeg v3) a27 x19.toNatClampNeg v4) a30 x19.toNatClampNeg x32) a34 x19.toNatClampNeg x36) a38 x19.toNatClampNeg x40) a42 x19.toNatClampNeg x12) a45 x19.toNatClampNeg x15) a47 4 → (∀ x49 : Int32, x49 = x48 + (1 : Int32) → (Q (sI (sI (sI (sI (sI (sI (sI (sI S20 a24 x19.toNatClampNeg v3) a27 x19.toNatClampNeg v4) a30 x19.toNatClampNeg x32) a34 x19.toNatClampNeg x36) a38 x19.toNatClampNeg x40) a42 x19.toNatClampNeg x12) a45 x19.toNatClampNeg x15) a47 4 x49))))))))))))))))))))))))))))))))))))))))))))) S13))))) ∧ ((x16 = (5 : Int32)) → (Q S13))))) S10)) S7)) S4)) S1)) S)
set_option maxRecDepth 20000 in
set_option maxHeartbeats 4000000 in
theorem T_X11_readWalker_149 {X : CX} {Q : HS → Prop} (C : Cx X cX11_readWalker RX11 12 rm_X11_readWalker) (E : ReV X rm_X11_readWalker Q) (ht : (xh X).sig.returnType = none) (hn : (xh X).name = yX11_readWalker.name) {v0 : Nat} {v1 : Int64} {v3 : Int32} {v4 : Int32} {s0 : Int32} {S : HS} (h : P_X11_readWalker_149 Q v0 v1 v3 v4 s0 S) : WS X 12 0 0 149 [(0, .ref v0), (1, .long v1), (3, .int v3), (4, .int v4)] [.int s0] S := by
  refine r_istore (pc := 149) C dX11_readWalker_149 (by decide) (lv' := [(5, .int s0), (0, .ref v0), (1, .long v1), (3, .int v3), (4, .int v4)]) rfl ?_
  refine r_aload_n (pc := 151) C dX11_readWalker_151 1 rfl ?_
  refine r_ldsw (pc := 152) C 49 rfl dX11_readWalker_152 ?_
  refine r_iconst (pc := 155) C (v := (1 : Int32)) dX11_readWalker_155 (by decide) ?_
  refine r_bipush (pc := 156) C (v := (9 : Int32)) dX11_readWalker_156 (by decide) ?_
  obtain ⟨o_v0, h⟩ := h
  refine r_callVi0 (pc := 158) C (rest := []) (a := v0) o_v0 [.ref (eK (xE X) 49), .int (1 : Int32), .int (9 : Int32)] yV_X11_readPart g_1422 (c_X11_readPart h) dX11_readWalker_158 rfl rfl (Nat.le_of_ble_eq_true rfl) ⟨by decide, by decide⟩ ⟨by decide, by decide⟩ ⟨rfl, rfl⟩ (fun x3 S1 h g2 => ?_)
  have h := h g2
  have o_v0 := gr_ob g2 o_v0
  refine r_istore (pc := 161) C dX11_readWalker_161 (by decide) (lv' := [(6, .int x3), (5, .int s0), (0, .ref v0), (1, .long v1), (3, .int v3), (4, .int v4)]) rfl ?_
  refine r_aload_n (pc := 163) C dX11_readWalker_163 2 rfl ?_
  refine r_ldsw (pc := 164) C 50 rfl dX11_readWalker_164 ?_
  refine r_iconst (pc := 167) C (v := (1 : Int32)) dX11_readWalker_167 (by decide) ?_
  refine r_bipush (pc := 168) C (v := (9 : Int32)) dX11_readWalker_168 (by decide) ?_
  refine r_callVi0 (pc := 170) C (rest := []) (a := v0) o_v0 [.ref (eK (xE X) 50), .int (1 : Int32), .int (9 : Int32)] yV_X11_readPart g_1422 (c_X11_readPart h) dX11_readWalker_170 rfl rfl (Nat.le_of_ble_eq_true rfl) ⟨by decide, by decide⟩ ⟨by decide, by decide⟩ ⟨rfl, rfl⟩ (fun x6 S4 h g5 => ?_)
  have h := h g5
  have o_v0 := gr_ob g5 o_v0
  refine r_istore (pc := 173) C dX11_readWalker_173 (by decide) (lv' := [(7, .int x6), (6, .int x3), (5, .int s0), (0, .ref v0), (1, .long v1), (3, .int v3), (4, .int v4)]) rfl ?_
  refine r_aload_n (pc := 175) C dX11_readWalker_175 3 rfl ?_
  refine r_ldsw (pc := 176) C 51 rfl dX11_readWalker_176 ?_
  refine r_iload (pc := 179) C dX11_readWalker_179 2 rfl ?_
  refine r_iconst (pc := 181) C (v := (1 : Int32)) dX11_readWalker_181 (by decide) ?_
  refine r_iadd (pc := 182) C dX11_readWalker_182 ?_
  refine r_bipush (pc := 183) C (v := (9 : Int32)) dX11_readWalker_183 (by decide) ?_
  refine r_callVi0 (pc := 185) C (rest := []) (a := v0) o_v0 [.ref (eK (xE X) 51), .int (s0 + (1 : Int32)), .int (9 : Int32)] yV_X11_readPart g_1422 (c_X11_readPart h) dX11_readWalker_185 rfl rfl (Nat.le_of_ble_eq_true rfl) ⟨by decide, by decide⟩ ⟨by decide, by decide⟩ ⟨rfl, rfl⟩ (fun x9 S7 h g8 => ?_)
  have h := h g8
  have o_v0 := gr_ob g8 o_v0
  refine r_istore (pc := 188) C dX11_readWalker_188 (by decide) (lv' := [(8, .int x9), (7, .int x6), (6, .int x3), (5, .int s0), (0, .ref v0), (1, .long v1), (3, .int v3), (4, .int v4)]) rfl ?_
  refine r_aload_n (pc := 190) C dX11_readWalker_190 4 rfl ?_
  refine r_ldsw (pc := 191) C 52 rfl dX11_readWalker_191 ?_
  refine r_iconst (pc := 194) C (v := (1 : Int32)) dX11_readWalker_194 (by decide) ?_
  refine r_bipush (pc := 195) C (v := (9 : Int32)) dX11_readWalker_195 (by decide) ?_
  refine r_callVi0 (pc := 197) C (rest := []) (a := v0) o_v0 [.ref (eK (xE X) 52), .int (1 : Int32), .int (9 : Int32)] yV_X11_readPart g_1422 (c_X11_readPart h) dX11_readWalker_197 rfl rfl (Nat.le_of_ble_eq_true rfl) ⟨by decide, by decide⟩ ⟨by decide, by decide⟩ ⟨rfl, rfl⟩ (fun x12 S10 h g11 => ?_)
  have h := h g11
  have o_v0 := gr_ob g11 o_v0
  refine r_istore (pc := 200) C dX11_readWalker_200 (by decide) (lv' := [(9, .int x12), (8, .int x9), (7, .int x6), (6, .int x3), (5, .int s0), (0, .ref v0), (1, .long v1), (3, .int v3), (4, .int v4)]) rfl ?_
  refine r_aload_n (pc := 202) C dX11_readWalker_202 5 rfl ?_
  refine r_ldsw (pc := 203) C 53 rfl dX11_readWalker_203 ?_
  refine r_iload (pc := 206) C dX11_readWalker_206 0 rfl ?_
  refine r_bipush (pc := 208) C (v := (9 : Int32)) dX11_readWalker_208 (by decide) ?_
  refine r_callVi0 (pc := 210) C (rest := []) (a := v0) o_v0 [.ref (eK (xE X) 53), .int x12, .int (9 : Int32)] yV_X11_readPart g_1422 (c_X11_readPart h) dX11_readWalker_210 rfl rfl (Nat.le_of_ble_eq_true rfl) ⟨by decide, by decide⟩ ⟨by decide, by decide⟩ ⟨rfl, rfl⟩ (fun x15 S13 h g14 => ?_)
  have h := h g14
  have o_v0 := gr_ob g14 o_v0
  refine r_istore (pc := 213) C dX11_readWalker_213 (by decide) (lv' := [(10, .int x15), (9, .int x12), (8, .int x9), (7, .int x6), (6, .int x3), (5, .int s0), (0, .ref v0), (1, .long v1), (3, .int v3), (4, .int v4)]) rfl ?_
  refine r_aload_n (pc := 215) C dX11_readWalker_215 6 rfl ?_
  refine r_geti (pc := 216) C fL_X11_68 dX11_readWalker_216 o_v0 ?_
  refine r_topi (fun x16 ex16 => ?_)
  have h := h x16 ex16
  refine r_iconst (pc := 219) C (v := (5 : Int32)) dX11_readWalker_219 (by decide) ?_
  refine r_icmp_ne (pc := 220) C (tgt := 224) dX11_readWalker_220 (by decide) (fun c17 => ?_) (fun c17 => ?_)
  · have h := h.1 c17
    refine r_aload_n (pc := 224) C dX11_readWalker_224 6 rfl ?_
    obtain ⟨a18, ea18, h⟩ := h
    refine r_getr (pc := 225) C fL_X11_147 dX11_readWalker_225 o_v0 ea18 ?_
    obtain ⟨o_a18, h⟩ := h
    refine r_getNi (pc := 228) C fN_X11_193 dX11_readWalker_228 o_a18 ?_
    refine r_topi (fun x19 ex19 => ?_)
    have h := h x19 ex19
    refine r_istore (pc := 231) C dX11_readWalker_231 (by decide) (lv' := [(11, .int x19), (10, .int x15), (9, .int x12), (8, .int x9), (7, .int x6), (6, .int x3), (5, .int s0), (0, .ref v0), (1, .long v1), (3, .int v3), (4, .int v4)]) rfl ?_
    refine r_aload_n (pc := 233) C dX11_readWalker_233 7 rfl ?_
    refine r_lload_n (pc := 234) C dX11_readWalker_234 8 rfl ?_
    refine r_iconst (pc := 235) C (v := (1 : Int32)) dX11_readWalker_235 (by decide) ?_
    refine r_iload (pc := 236) C dX11_readWalker_236 0 rfl ?_
    refine r_callVv0 (pc := 238) C (rest := []) (a := v0) o_v0 [.long v1, .int (1 : Int32), .int x19] yV_X11_names g_1485 (c_X11_names h) dX11_readWalker_238 rfl rfl (Nat.le_of_ble_eq_true rfl) ⟨by decide, by decide⟩ ⟨by decide, by decide⟩ ⟨rfl, rfl⟩ (fun S20 h g21 => ?_)
    have h := h g21
    have o_a18 := gr_ob g21 o_a18
    have o_v0 := gr_ob g21 o_v0
    refine r_aload_n (pc := 241) C dX11_readWalker_241 7 rfl ?_
    obtain ⟨a23, ea23, h⟩ := h
    refine r_getr (pc := 242) C fL_X11_147 dX11_readWalker_242 o_v0 ea23 ?_
    obtain ⟨o_a23, h⟩ := h
    obtain ⟨a24, ea24, h⟩ := h
    refine r_getNr (pc := 245) C fN_X11_302 dX11_readWalker_245 o_a23 ea24 ?_
    refine r_iload (pc := 248) C dX11_readWalker_248 0 rfl ?_
    refine r_iload_n (pc := 250) C dX11_readWalker_250 9 rfl ?_
    obtain ⟨o_a24, h⟩ := h
    obtain ⟨i25, h⟩ := h
    refine r_iast (pc := 251) C dX11_readWalker_251 o_a24 i25 ?_
    refine r_aload_n (pc := 252) C dX11_readWalker_252 7 rfl ?_
    obtain ⟨a26, ea26, h⟩ := h
    refine r_getr (pc := 253) C fL_X11_147 dX11_readWalker_253 o_v0 ea26 ?_
    obtain ⟨o_a26, h⟩ := h
    obtain ⟨a27, ea27, h⟩ := h
    refine r_getNr (pc := 256) C fN_X11_305 dX11_readWalker_256 o_a26 ea27 ?_
    refine r_iload (pc := 259) C dX11_readWalker_259 0 rfl ?_
    refine r_iload (pc := 261) C dX11_readWalker_261 10 rfl ?_
    obtain ⟨o_a27, h⟩ := h
    obtain ⟨i28, h⟩ := h
    refine r_iast (pc := 263) C dX11_readWalker_263 o_a27 i28 ?_
    refine r_aload_n (pc := 264) C dX11_readWalker_264 7 rfl ?_
    obtain ⟨a29, ea29, h⟩ := h
    refine r_getr (pc := 265) C fL_X11_147 dX11_readWalker_265 o_v0 ea29 ?_
    obtain ⟨o_a29, h⟩ := h
    obtain ⟨a30, ea30, h⟩ := h
    refine r_getNr (pc := 268) C fN_X11_308 dX11_readWalker_268 o_a29 ea30 ?_
    refine r_iload (pc := 271) C dX11_readWalker_271 0 rfl ?_
    refine r_iload (pc := 273) C dX11_readWalker_273 5 rfl ?_
    refine r_iload (pc := 275) C dX11_readWalker_275 4 rfl ?_
    refine r_iload (pc := 277) C dX11_readWalker_277 6 rfl ?_
    refine r_iadd (pc := 279) C dX11_readWalker_279 ?_
    refine r_imul (pc := 280) C dX11_readWalker_280 ?_
    obtain ⟨o_a30, h⟩ := h
    refine r_topi (fun x32 ex32 => ?_)
    have h := h x32 ex32
    obtain ⟨i31, h⟩ := h
    refine r_iast (pc := 281) C dX11_readWalker_281 o_a30 i31 ?_
    refine r_aload_n (pc := 282) C dX11_readWalker_282 7 rfl ?_
    obtain ⟨a33, ea33, h⟩ := h
    refine r_getr (pc := 283) C fL_X11_147 dX11_readWalker_283 o_v0 ea33 ?_
    obtain ⟨o_a33, h⟩ := h
    obtain ⟨a34, ea34, h⟩ := h
    refine r_getNr (pc := 286) C fN_X11_311 dX11_readWalker_286 o_a33 ea34 ?_
    refine r_iload (pc := 289) C dX11_readWalker_289 0 rfl ?_
    refine r_iload (pc := 291) C dX11_readWalker_291 5 rfl ?_
    refine r_iload (pc := 293) C dX11_readWalker_293 3 rfl ?_
    refine r_iload (pc := 295) C dX11_readWalker_295 6 rfl ?_
    refine r_isub (pc := 297) C dX11_readWalker_297 ?_
    refine r_imul (pc := 298) C dX11_readWalker_298 ?_
    obtain ⟨o_a34, h⟩ := h
    refine r_topi (fun x36 ex36 => ?_)
    have h := h x36 ex36
    obtain ⟨i35, h⟩ := h
    refine r_iast (pc := 299) C dX11_readWalker_299 o_a34 i35 ?_
    refine r_aload_n (pc := 300) C dX11_readWalker_300 7 rfl ?_
    obtain ⟨a37, ea37, h⟩ := h
    refine r_getr (pc := 301) C fL_X11_147 dX11_readWalker_301 o_v0 ea37 ?_
    obtain ⟨o_a37, h⟩ := h
    obtain ⟨a38, ea38, h⟩ := h
    refine r_getNr (pc := 304) C fN_X11_314 dX11_readWalker_304 o_a37 ea38 ?_
    refine r_iload (pc := 307) C dX11_readWalker_307 0 rfl ?_
    refine r_iload (pc := 309) C dX11_readWalker_309 4 rfl ?_
    refine r_iload (pc := 311) C dX11_readWalker_311 6 rfl ?_
    refine r_iadd (pc := 313) C dX11_readWalker_313 ?_
    refine r_iload (pc := 314) C dX11_readWalker_314 3 rfl ?_
    refine r_iload (pc := 316) C dX11_readWalker_316 6 rfl ?_
    refine r_isub (pc := 318) C dX11_readWalker_318 ?_
    refine r_imul (pc := 319) C dX11_readWalker_319 ?_
    obtain ⟨o_a38, h⟩ := h
    refine r_topi (fun x40 ex40 => ?_)
    have h := h x40 ex40
    obtain ⟨i39, h⟩ := h
    refine r_iast (pc := 320) C dX11_readWalker_320 o_a38 i39 ?_
    refine r_aload_n (pc := 321) C dX11_readWalker_321 7 rfl ?_
    obtain ⟨a41, ea41, h⟩ := h
    refine r_getr (pc := 322) C fL_X11_147 dX11_readWalker_322 o_v0 ea41 ?_
    obtain ⟨o_a41, h⟩ := h
    obtain ⟨a42, ea42, h⟩ := h
    refine r_getNr (pc := 325) C fN_X11_317 dX11_readWalker_325 o_a41 ea42 ?_
    refine r_iload (pc := 328) C dX11_readWalker_328 0 rfl ?_
    refine r_iload (pc := 330) C dX11_readWalker_330 2 rfl ?_
    obtain ⟨o_a42, h⟩ := h
    obtain ⟨i43, h⟩ := h
    refine r_iast (pc := 332) C dX11_readWalker_332 o_a42 i43 ?_
    refine r_aload_n (pc := 333) C dX11_readWalker_333 7 rfl ?_
    obtain ⟨a44, ea44, h⟩ := h
    refine r_getr (pc := 334) C fL_X11_147 dX11_readWalker_334 o_v0 ea44 ?_
    obtain ⟨o_a44, h⟩ := h
    obtain ⟨a45, ea45, h⟩ := h
    refine r_getNr (pc := 337) C fN_X11_320 dX11_readWalker_337 o_a44 ea45 ?_
    refine r_iload (pc := 340) C dX11_readWalker_340 0 rfl ?_
    refine r_iload (pc := 342) C dX11_readWalker_342 1 rfl ?_
    obtain ⟨o_a45, h⟩ := h
    obtain ⟨i46, h⟩ := h
    refine r_iast (pc := 344) C dX11_readWalker_344 o_a45 i46 ?_
    refine r_aload_n (pc := 345) C dX11_readWalker_345 7 rfl ?_
    obtain ⟨a47, ea47, h⟩ := h
    refine r_getr (pc := 346) C fL_X11_147 dX11_readWalker_346 o_v0 ea47 ?_
    refine r_dup (pc := 349) C dX11_readWalker_349 rfl ?_
    obtain ⟨o_a47, h⟩ := h
    refine r_getNi (pc := 350) C fN_X11_193 dX11_readWalker_350 o_a47 ?_
    refine r_topi (fun x48 ex48 => ?_)
    have h := h x48 ex48
    refine r_iconst (pc := 353) C (v := (1 : Int32)) dX11_readWalker_353 (by decide) ?_
    refine r_iadd (pc := 354) C dX11_readWalker_354 ?_
    refine r_topi (fun x49 ex49 => ?_)
    have h := h x49 ex49
    refine r_putNi (pc := 355) C pfN_X11_193 dX11_readWalker_355 o_a47 ?_
    exact r_vret (pc := 358) C E ht dX11_readWalker_358 (by decide) (by decide) h
  · have h := h.2 c17
    exact r_vret (pc := 223) C E ht dX11_readWalker_223 (by decide) (by decide) h
def P_X11_readWalker_136 (Q : HS → Prop) (v0 : Nat) (v1 : Int64) (v3 : Int32) (s0 : Int32) (S : HS) : Prop := ((¬ v3 = (1 : Int32)) → (P_X11_readWalker_149 Q v0 v1 v3 s0 (0 : Int32) S)) ∧ ((v3 = (1 : Int32)) → (P_X11_readWalker_149 Q v0 v1 v3 s0 s0 S))
set_option maxRecDepth 20000 in
set_option maxHeartbeats 4000000 in
theorem T_X11_readWalker_136 {X : CX} {Q : HS → Prop} (C : Cx X cX11_readWalker RX11 12 rm_X11_readWalker) (E : ReV X rm_X11_readWalker Q) (ht : (xh X).sig.returnType = none) (hn : (xh X).name = yX11_readWalker.name) {v0 : Nat} {v1 : Int64} {v3 : Int32} {s0 : Int32} {S : HS} (h : P_X11_readWalker_136 Q v0 v1 v3 s0 S) : WS X 12 0 0 136 [(0, .ref v0), (1, .long v1), (3, .int v3)] [.int s0] S := by
  refine r_istore (pc := 136) C dX11_readWalker_136 (by decide) (lv' := [(4, .int s0), (0, .ref v0), (1, .long v1), (3, .int v3)]) rfl ?_
  refine r_iload_n (pc := 138) C dX11_readWalker_138 3 rfl ?_
  refine r_iconst (pc := 139) C (v := (1 : Int32)) dX11_readWalker_139 (by decide) ?_
  refine r_icmp_ne (pc := 140) C (tgt := 148) dX11_readWalker_140 (by decide) (fun c1 => ?_) (fun c1 => ?_)
  · have h := h.1 c1
    refine r_iconst (pc := 148) C (v := (0 : Int32)) dX11_readWalker_148 (by decide) ?_
    exact r_sub [1, 2, 3, 0] rfl (T_X11_readWalker_149 C E ht hn h)
  · have h := h.2 c1
    refine r_iload (pc := 143) C dX11_readWalker_143 0 rfl ?_
    refine r_goto (pc := 145) C (tgt := 149) dX11_readWalker_145 (by decide) ?_
    exact r_sub [1, 2, 3, 0] rfl (T_X11_readWalker_149 C E ht hn h)
def P_X11_readWalker_85 (Q : HS → Prop) (v0 : Nat) (v1 : Int64) (v3 : Int32) (S : HS) : Prop := ob S v0 11 ∧ (P_X11_goesOn v0 (fun S1 => Gr S S1 → (((¬ v3 = (1 : Int32)) → (((¬ v3 = (2 : Int32)) → (((¬ v3 = (3 : Int32)) → (P_X11_readWalker_136 Q v0 v1 v3 (0 : Int32) S1)) ∧ ((v3 = (3 : Int32)) → (P_X11_readWhole v0 (1 : Int32) (99 : Int32) (fun x9 S7 => Gr S1 S7 → (P_X11_readWalker_136 Q v0 v1 v3 x9 S7)) S1)))) ∧ ((v3 = (2 : Int32)) → (P_X11_readWhole v0 (0 : Int32) (999 : Int32) (fun x12 S10 => Gr S1 S10 → (P_X11_readWalker_136 Q v0 v1 v3 x12 S10)) S1)))) ∧ ((v3 = (1 : Int32)) → (P_X11_readWhole v0 (1 : Int32) (8 : Int32) (fun x15 S13 => Gr S1 S13 → (P_X11_readWalker_136 Q v0 v1 v3 x15 S13)) S1)))) S)
set_option maxRecDepth 20000 in
set_option maxHeartbeats 4000000 in
theorem T_X11_readWalker_85 {X : CX} {Q : HS → Prop} (C : Cx X cX11_readWalker RX11 12 rm_X11_readWalker) (E : ReV X rm_X11_readWalker Q) (ht : (xh X).sig.returnType = none) (hn : (xh X).name = yX11_readWalker.name) {v0 : Nat} {v1 : Int64} {v3 : Int32} {S : HS} (h : P_X11_readWalker_85 Q v0 v1 v3 S) : WS X 12 0 0 85 [(0, .ref v0), (1, .long v1), (3, .int v3)] [] S := by
  refine r_aload_n (pc := 85) C dX11_readWalker_85 0 rfl ?_
  obtain ⟨o_v0, h⟩ := h
  refine r_callVv0 (pc := 86) C (rest := []) (a := v0) o_v0 [] yV_X11_goesOn g_1380 (c_X11_goesOn h) dX11_readWalker_86 rfl rfl (Nat.le_of_ble_eq_true rfl) ⟨by decide, by decide⟩ ⟨by decide, by decide⟩ ⟨rfl, rfl⟩ (fun S1 h g2 => ?_)
  have h := h g2
  have o_v0 := gr_ob g2 o_v0
  refine r_iload_n (pc := 89) C dX11_readWalker_89 2 rfl ?_
  refine r_iconst (pc := 90) C (v := (1 : Int32)) dX11_readWalker_90 (by decide) ?_
  refine r_icmp_ne (pc := 91) C (tgt := 104) dX11_readWalker_91 (by decide) (fun c4 => ?_) (fun c4 => ?_)
  · have h := h.1 c4
    refine r_iload_n (pc := 104) C dX11_readWalker_104 2 rfl ?_
    refine r_iconst (pc := 105) C (v := (2 : Int32)) dX11_readWalker_105 (by decide) ?_
    refine r_icmp_ne (pc := 106) C (tgt := 120) dX11_readWalker_106 (by decide) (fun c5 => ?_) (fun c5 => ?_)
    · have h := h.1 c5
      refine r_iload_n (pc := 120) C dX11_readWalker_120 2 rfl ?_
      refine r_iconst (pc := 121) C (v := (3 : Int32)) dX11_readWalker_121 (by decide) ?_
      refine r_icmp_ne (pc := 122) C (tgt := 135) dX11_readWalker_122 (by decide) (fun c6 => ?_) (fun c6 => ?_)
      · have h := h.1 c6
        refine r_iconst (pc := 135) C (v := (0 : Int32)) dX11_readWalker_135 (by decide) ?_
        exact r_sub [0, 1, 2] rfl (T_X11_readWalker_136 C E ht hn h)
      · have h := h.2 c6
        refine r_aload_n (pc := 125) C dX11_readWalker_125 0 rfl ?_
        refine r_iconst (pc := 126) C (v := (1 : Int32)) dX11_readWalker_126 (by decide) ?_
        refine r_bipush (pc := 127) C (v := (99 : Int32)) dX11_readWalker_127 (by decide) ?_
        refine r_callVi0 (pc := 129) C (rest := []) (a := v0) o_v0 [.int (1 : Int32), .int (99 : Int32)] yV_X11_readWhole g_1430 (c_X11_readWhole h) dX11_readWalker_129 rfl rfl (Nat.le_of_ble_eq_true rfl) ⟨by decide, by decide⟩ ⟨by decide, by decide⟩ ⟨rfl, rfl⟩ (fun x9 S7 h g8 => ?_)
        have h := h g8
        have o_v0 := gr_ob g8 o_v0
        refine r_goto (pc := 132) C (tgt := 136) dX11_readWalker_132 (by decide) ?_
        exact r_sub [0, 1, 2] rfl (T_X11_readWalker_136 C E ht hn h)
    · have h := h.2 c5
      refine r_aload_n (pc := 109) C dX11_readWalker_109 0 rfl ?_
      refine r_iconst (pc := 110) C (v := (0 : Int32)) dX11_readWalker_110 (by decide) ?_
      refine r_sipush (pc := 111) C (v := (999 : Int32)) dX11_readWalker_111 (by decide) ?_
      refine r_callVi0 (pc := 114) C (rest := []) (a := v0) o_v0 [.int (0 : Int32), .int (999 : Int32)] yV_X11_readWhole g_1430 (c_X11_readWhole h) dX11_readWalker_114 rfl rfl (Nat.le_of_ble_eq_true rfl) ⟨by decide, by decide⟩ ⟨by decide, by decide⟩ ⟨rfl, rfl⟩ (fun x12 S10 h g11 => ?_)
      have h := h g11
      have o_v0 := gr_ob g11 o_v0
      refine r_goto (pc := 117) C (tgt := 136) dX11_readWalker_117 (by decide) ?_
      exact r_sub [0, 1, 2] rfl (T_X11_readWalker_136 C E ht hn h)
  · have h := h.2 c4
    refine r_aload_n (pc := 94) C dX11_readWalker_94 0 rfl ?_
    refine r_iconst (pc := 95) C (v := (1 : Int32)) dX11_readWalker_95 (by decide) ?_
    refine r_bipush (pc := 96) C (v := (8 : Int32)) dX11_readWalker_96 (by decide) ?_
    refine r_callVi0 (pc := 98) C (rest := []) (a := v0) o_v0 [.int (1 : Int32), .int (8 : Int32)] yV_X11_readWhole g_1430 (c_X11_readWhole h) dX11_readWalker_98 rfl rfl (Nat.le_of_ble_eq_true rfl) ⟨by decide, by decide⟩ ⟨by decide, by decide⟩ ⟨rfl, rfl⟩ (fun x15 S13 h g14 => ?_)
    have h := h g14
    have o_v0 := gr_ob g14 o_v0
    refine r_goto (pc := 101) C (tgt := 136) dX11_readWalker_101 (by decide) ?_
    exact r_sub [0, 1, 2] rfl (T_X11_readWalker_136 C E ht hn h)
def P_X11_readWalker_74 (Q : HS → Prop) (v0 : Nat) (v1 : Int64) (s0 : Int32) (S : HS) : Prop := ((¬ s0 = (-1 : Int32)) → (P_X11_readWalker_85 Q v0 v1 s0 S)) ∧ ((s0 = (-1 : Int32)) → (ob S v0 11 ∧ (P_X11_flaw v0 (1 : Int32) (fun S2 => Gr S S2 → (P_X11_readWalker_85 Q v0 v1 s0 S2)) S)))
set_option maxRecDepth 20000 in
set_option maxHeartbeats 4000000 in
theorem T_X11_readWalker_74 {X : CX} {Q : HS → Prop} (C : Cx X cX11_readWalker RX11 12 rm_X11_readWalker) (E : ReV X rm_X11_readWalker Q) (ht : (xh X).sig.returnType = none) (hn : (xh X).name = yX11_readWalker.name) {v0 : Nat} {v1 : Int64} {s0 : Int32} {S : HS} (h : P_X11_readWalker_74 Q v0 v1 s0 S) : WS X 12 0 0 74 [(0, .ref v0), (1, .long v1)] [.int s0] S := by
  refine r_istore_n (pc := 74) C dX11_readWalker_74 rfl (by decide) (lv' := [(3, .int s0), (0, .ref v0), (1, .long v1)]) rfl ?_
  refine r_iload_n (pc := 75) C dX11_readWalker_75 0 rfl ?_
  refine r_iconst (pc := 76) C (v := (-1 : Int32)) dX11_readWalker_76 (by decide) ?_
  refine r_icmp_ne (pc := 77) C (tgt := 85) dX11_readWalker_77 (by decide) (fun c1 => ?_) (fun c1 => ?_)
  · have h := h.1 c1
    exact r_sub [1, 2, 0] rfl (T_X11_readWalker_85 C E ht hn h)
  · have h := h.2 c1
    refine r_aload_n (pc := 80) C dX11_readWalker_80 1 rfl ?_
    refine r_iconst (pc := 81) C (v := (1 : Int32)) dX11_readWalker_81 (by decide) ?_
    obtain ⟨o_v0, h⟩ := h
    refine r_callVv0 (pc := 82) C (rest := []) (a := v0) o_v0 [.int (1 : Int32)] yV_X11_flaw g_1417 (c_X11_flaw h) dX11_readWalker_82 rfl rfl (Nat.le_of_ble_eq_true rfl) ⟨by decide, by decide⟩ ⟨by decide, by decide⟩ ⟨rfl, rfl⟩ (fun S2 h g3 => ?_)
    have h := h g3
    have o_v0 := gr_ob g3 o_v0
    exact r_sub [1, 2, 0] rfl (T_X11_readWalker_85 C E ht hn h)
def P_X11_readWalker_0 (Q : HS → Prop) (v0 : Nat) (S : HS) : Prop := ob S v0 11 ∧ (∃ a1 : Nat, fR S v0 4 = some a1 ∧ (ob S a1 10 ∧ (∀ x2 : Int32, x2 = fI S a1 4 → (P_X11_begins v0 x2 (4 : Int32) (fun S3 => Gr S S3 → (P_X11_readFresh v0 (fun x8 S6 => Gr S3 S6 → (P_X11_isWord v0 45 (fun x11 S9 => Gr S6 S9 → bl x11 → (((x11 = 0) → (P_X11_isWord v0 46 (fun x15 S13 => Gr S9 S13 → bl x15 → (((x15 = 0) → (P_X11_isWord v0 47 (fun x19 S17 => Gr S13 S17 → bl x19 → (((x19 = 0) → (P_X11_isWord v0 48 (fun x23 S21 => Gr S17 S21 → bl x23 → (((x23 = 0) → (P_X11_readWalker_74 Q v0 x8 (-1 : Int32) S21)) ∧ ((¬ x23 = 0) → (P_X11_readWalker_74 Q v0 x8 (3 : Int32) S21)))) S17)) ∧ ((¬ x19 = 0) → (P_X11_readWalker_74 Q v0 x8 (2 : Int32) S17)))) S13)) ∧ ((¬ x15 = 0) → (P_X11_readWalker_74 Q v0 x8 (1 : Int32) S13)))) S9)) ∧ ((¬ x11 = 0) → (P_X11_readWalker_74 Q v0 x8 (0 : Int32) S9)))) S6)) S3)) S))))
set_option maxRecDepth 20000 in
set_option maxHeartbeats 4000000 in
theorem T_X11_readWalker_0 {X : CX} {Q : HS → Prop} (C : Cx X cX11_readWalker RX11 12 rm_X11_readWalker) (E : ReV X rm_X11_readWalker Q) (ht : (xh X).sig.returnType = none) (hn : (xh X).name = yX11_readWalker.name) {v0 : Nat} {S : HS} (h : P_X11_readWalker_0 Q v0 S) : WS X 12 0 0 0 [(0, .ref v0)] [] S := by
  refine r_aload_n (pc := 0) C dX11_readWalker_0 0 rfl ?_
  refine r_aload_n (pc := 1) C dX11_readWalker_1 0 rfl ?_
  obtain ⟨o_v0, h⟩ := h
  obtain ⟨a1, ea1, h⟩ := h
  refine r_getr (pc := 2) C fL_X11_147 dX11_readWalker_2 o_v0 ea1 ?_
  obtain ⟨o_a1, h⟩ := h
  refine r_getNi (pc := 5) C fN_X11_193 dX11_readWalker_5 o_a1 ?_
  refine r_topi (fun x2 ex2 => ?_)
  have h := h x2 ex2
  refine r_iconst (pc := 8) C (v := (4 : Int32)) dX11_readWalker_8 (by decide) ?_
  refine r_callVv0 (pc := 9) C (rest := []) (a := v0) o_v0 [.int x2, .int (4 : Int32)] yV_X11_begins g_1442 (c_X11_begins h) dX11_readWalker_9 rfl rfl (Nat.le_of_ble_eq_true rfl) ⟨by decide, by decide⟩ ⟨by decide, by decide⟩ ⟨rfl, rfl⟩ (fun S3 h g4 => ?_)
  have h := h g4
  have o_a1 := gr_ob g4 o_a1
  have o_v0 := gr_ob g4 o_v0
  refine r_aload_n (pc := 12) C dX11_readWalker_12 0 rfl ?_
  refine r_callVl0 (pc := 13) C (rest := []) (a := v0) o_v0 [] yV_X11_readFresh g_1463 (c_X11_readFresh h) dX11_readWalker_13 rfl rfl (Nat.le_of_ble_eq_true rfl) ⟨by decide, by decide⟩ ⟨by decide, by decide⟩ ⟨rfl, rfl⟩ (fun x8 S6 h g7 => ?_)
  have h := h g7
  have o_a1 := gr_ob g7 o_a1
  have o_v0 := gr_ob g7 o_v0
  refine r_lstore_n (pc := 16) C dX11_readWalker_16 rfl (by decide) (lv' := [(1, .long x8), (0, .ref v0)]) rfl ?_
  refine r_aload_n (pc := 17) C dX11_readWalker_17 1 rfl ?_
  refine r_ldsw (pc := 18) C 45 rfl dX11_readWalker_18 ?_
  refine r_callVi0 (pc := 21) C (rest := []) (a := v0) o_v0 [.ref (eK (xE X) 45)] yV_X11_isWord g_1404 (c_X11_isWord h) dX11_readWalker_21 rfl rfl (Nat.le_of_ble_eq_true rfl) ⟨by decide, by decide⟩ ⟨by decide, by decide⟩ ⟨rfl, rfl⟩ (fun x11 S9 h g10 => ?_)
  have bx11 := h.1
  have h := h.2 g10 bx11
  have o_a1 := gr_ob g10 o_a1
  have o_v0 := gr_ob g10 o_v0
  refine r_if_eq (pc := 24) C (tgt := 31) dX11_readWalker_24 (by decide) (fun c12 => ?_) (fun c12 => ?_)
  · have h := h.1 c12
    refine r_aload_n (pc := 31) C dX11_readWalker_31 1 rfl ?_
    refine r_ldsw (pc := 32) C 46 rfl dX11_readWalker_32 ?_
    refine r_callVi0 (pc := 35) C (rest := []) (a := v0) o_v0 [.ref (eK (xE X) 46)] yV_X11_isWord g_1404 (c_X11_isWord h) dX11_readWalker_35 rfl rfl (Nat.le_of_ble_eq_true rfl) ⟨by decide, by decide⟩ ⟨by decide, by decide⟩ ⟨rfl, rfl⟩ (fun x15 S13 h g14 => ?_)
    have bx15 := h.1
    have h := h.2 g14 bx15
    have o_a1 := gr_ob g14 o_a1
    have o_v0 := gr_ob g14 o_v0
    refine r_if_eq (pc := 38) C (tgt := 45) dX11_readWalker_38 (by decide) (fun c16 => ?_) (fun c16 => ?_)
    · have h := h.1 c16
      refine r_aload_n (pc := 45) C dX11_readWalker_45 1 rfl ?_
      refine r_ldsw (pc := 46) C 47 rfl dX11_readWalker_46 ?_
      refine r_callVi0 (pc := 49) C (rest := []) (a := v0) o_v0 [.ref (eK (xE X) 47)] yV_X11_isWord g_1404 (c_X11_isWord h) dX11_readWalker_49 rfl rfl (Nat.le_of_ble_eq_true rfl) ⟨by decide, by decide⟩ ⟨by decide, by decide⟩ ⟨rfl, rfl⟩ (fun x19 S17 h g18 => ?_)
      have bx19 := h.1
      have h := h.2 g18 bx19
      have o_a1 := gr_ob g18 o_a1
      have o_v0 := gr_ob g18 o_v0
      refine r_if_eq (pc := 52) C (tgt := 59) dX11_readWalker_52 (by decide) (fun c20 => ?_) (fun c20 => ?_)
      · have h := h.1 c20
        refine r_aload_n (pc := 59) C dX11_readWalker_59 1 rfl ?_
        refine r_ldsw (pc := 60) C 48 rfl dX11_readWalker_60 ?_
        refine r_callVi0 (pc := 63) C (rest := []) (a := v0) o_v0 [.ref (eK (xE X) 48)] yV_X11_isWord g_1404 (c_X11_isWord h) dX11_readWalker_63 rfl rfl (Nat.le_of_ble_eq_true rfl) ⟨by decide, by decide⟩ ⟨by decide, by decide⟩ ⟨rfl, rfl⟩ (fun x23 S21 h g22 => ?_)
        have bx23 := h.1
        have h := h.2 g22 bx23
        have o_a1 := gr_ob g22 o_a1
        have o_v0 := gr_ob g22 o_v0
        refine r_if_eq (pc := 66) C (tgt := 73) dX11_readWalker_66 (by decide) (fun c24 => ?_) (fun c24 => ?_)
        · have h := h.1 c24
          refine r_iconst (pc := 73) C (v := (-1 : Int32)) dX11_readWalker_73 (by decide) ?_
          exact r_sub [1, 0] rfl (T_X11_readWalker_74 C E ht hn h)
        · have h := h.2 c24
          refine r_iconst (pc := 69) C (v := (3 : Int32)) dX11_readWalker_69 (by decide) ?_
          refine r_goto (pc := 70) C (tgt := 74) dX11_readWalker_70 (by decide) ?_
          exact r_sub [1, 0] rfl (T_X11_readWalker_74 C E ht hn h)
      · have h := h.2 c20
        refine r_iconst (pc := 55) C (v := (2 : Int32)) dX11_readWalker_55 (by decide) ?_
        refine r_goto (pc := 56) C (tgt := 74) dX11_readWalker_56 (by decide) ?_
        exact r_sub [1, 0] rfl (T_X11_readWalker_74 C E ht hn h)
    · have h := h.2 c16
      refine r_iconst (pc := 41) C (v := (1 : Int32)) dX11_readWalker_41 (by decide) ?_
      refine r_goto (pc := 42) C (tgt := 74) dX11_readWalker_42 (by decide) ?_
      exact r_sub [1, 0] rfl (T_X11_readWalker_74 C E ht hn h)
  · have h := h.2 c12
    refine r_iconst (pc := 27) C (v := (0 : Int32)) dX11_readWalker_27 (by decide) ?_
    refine r_goto (pc := 28) C (tgt := 74) dX11_readWalker_28 (by decide) ?_
    exact r_sub [1, 0] rfl (T_X11_readWalker_74 C E ht hn h)
def P_X11_readWalker (v0 : Nat) (Q : HS → Prop) (S : HS) : Prop := P_X11_readWalker_0 Q v0 S
theorem c_X11_readWalker {l : Launch} {Ee : EE} {S : HS} {v0 : Nat} {Q : HS → Prop} (h : P_X11_readWalker v0 Q S) : MV l yX11_readWalker cX11_readWalker 12 none rm_X11_readWalker Ee S [.ref v0] Q :=
  openV (by decide) (Nat.le_of_ble_eq_true rfl) (fun X C E ht hn hE hl => by subst hE; exact r_sub [0] rfl (T_X11_readWalker_0 C E ht hn h))
def rm_X11_readWorld : Room := { frames := 9, cells := 0, slots := 0, locals := 208 }
def P_X11_readWorld_15 (Q : HS → Prop) (v0 : Nat) (S : HS) : Prop := ob S v0 11 ∧ (P_X11_goesOn v0 (fun S1 => Gr S S1 → (P_X11_readPart v0 28 (5 : Int32) (60 : Int32) (fun x6 S4 => Gr S1 S4 → (∀ x7 : Int32, x7 = fI S4 v0 9 → (((x7 = (5 : Int32)) → (Q S4)) ∧ ((¬ x7 = (5 : Int32)) → (∃ a9 : Nat, fR S4 v0 4 = some a9 ∧ (ob S4 a9 10 ∧ (Q (sI S4 a9 0 x6)))))))) S1)) S)
set_option maxRecDepth 20000 in
set_option maxHeartbeats 4000000 in
theorem T_X11_readWorld_15 {X : CX} {Q : HS → Prop} (C : Cx X cX11_readWorld RX11 2 rm_X11_readWorld) (E : ReV X rm_X11_readWorld Q) (ht : (xh X).sig.returnType = none) (hn : (xh X).name = yX11_readWorld.name) {v0 : Nat} {S : HS} (h : P_X11_readWorld_15 Q v0 S) : WS X 2 0 0 15 [(0, .ref v0)] [] S := by
  refine r_aload_n (pc := 15) C dX11_readWorld_15 0 rfl ?_
  obtain ⟨o_v0, h⟩ := h
  refine r_callVv0 (pc := 16) C (rest := []) (a := v0) o_v0 [] yV_X11_goesOn g_1380 (c_X11_goesOn h) dX11_readWorld_16 rfl rfl (Nat.le_of_ble_eq_true rfl) ⟨by decide, by decide⟩ ⟨by decide, by decide⟩ ⟨rfl, rfl⟩ (fun S1 h g2 => ?_)
  have h := h g2
  have o_v0 := gr_ob g2 o_v0
  refine r_aload_n (pc := 19) C dX11_readWorld_19 0 rfl ?_
  refine r_lds (pc := 20) C 28 rfl dX11_readWorld_20 ?_
  refine r_iconst (pc := 22) C (v := (5 : Int32)) dX11_readWorld_22 (by decide) ?_
  refine r_bipush (pc := 23) C (v := (60 : Int32)) dX11_readWorld_23 (by decide) ?_
  refine r_callVi0 (pc := 25) C (rest := []) (a := v0) o_v0 [.ref (eK (xE X) 28), .int (5 : Int32), .int (60 : Int32)] yV_X11_readPart g_1422 (c_X11_readPart h) dX11_readWorld_25 rfl rfl (Nat.le_of_ble_eq_true rfl) ⟨by decide, by decide⟩ ⟨by decide, by decide⟩ ⟨rfl, rfl⟩ (fun x6 S4 h g5 => ?_)
  have h := h g5
  have o_v0 := gr_ob g5 o_v0
  refine r_istore_n (pc := 28) C dX11_readWorld_28 rfl (by decide) (lv' := [(1, .int x6), (0, .ref v0)]) rfl ?_
  refine r_aload_n (pc := 29) C dX11_readWorld_29 1 rfl ?_
  refine r_geti (pc := 30) C fL_X11_68 dX11_readWorld_30 o_v0 ?_
  refine r_topi (fun x7 ex7 => ?_)
  have h := h x7 ex7
  refine r_iconst (pc := 33) C (v := (5 : Int32)) dX11_readWorld_33 (by decide) ?_
  refine r_icmp_eq (pc := 34) C (tgt := 45) dX11_readWorld_34 (by decide) (fun c8 => ?_) (fun c8 => ?_)
  · have h := h.1 c8
    exact r_vret (pc := 45) C E ht dX11_readWorld_45 (by decide) (by decide) h
  · have h := h.2 c8
    refine r_aload_n (pc := 37) C dX11_readWorld_37 1 rfl ?_
    obtain ⟨a9, ea9, h⟩ := h
    refine r_getr (pc := 38) C fL_X11_147 dX11_readWorld_38 o_v0 ea9 ?_
    refine r_iload_n (pc := 41) C dX11_readWorld_41 0 rfl ?_
    obtain ⟨o_a9, h⟩ := h
    refine r_putNi (pc := 42) C pfN_X11_151 dX11_readWorld_42 o_a9 ?_
    exact r_vret (pc := 45) C E ht dX11_readWorld_45 (by decide) (by decide) h
def P_X11_readWorld_0 (Q : HS → Prop) (v0 : Nat) (S : HS) : Prop := ob S v0 11 ∧ (∃ a1 : Nat, fR S v0 4 = some a1 ∧ (ob S a1 10 ∧ (∀ x2 : Int32, x2 = fI S a1 0 → (((x2 ≤ 0) → (P_X11_readWorld_15 Q v0 S)) ∧ ((¬ x2 ≤ 0) → (P_X11_flaw v0 (3 : Int32) (fun S4 => Gr S S4 → (P_X11_readWorld_15 Q v0 S4)) S))))))
set_option maxRecDepth 20000 in
set_option maxHeartbeats 4000000 in
theorem T_X11_readWorld_0 {X : CX} {Q : HS → Prop} (C : Cx X cX11_readWorld RX11 2 rm_X11_readWorld) (E : ReV X rm_X11_readWorld Q) (ht : (xh X).sig.returnType = none) (hn : (xh X).name = yX11_readWorld.name) {v0 : Nat} {S : HS} (h : P_X11_readWorld_0 Q v0 S) : WS X 2 0 0 0 [(0, .ref v0)] [] S := by
  refine r_aload_n (pc := 0) C dX11_readWorld_0 0 rfl ?_
  obtain ⟨o_v0, h⟩ := h
  obtain ⟨a1, ea1, h⟩ := h
  refine r_getr (pc := 1) C fL_X11_147 dX11_readWorld_1 o_v0 ea1 ?_
  obtain ⟨o_a1, h⟩ := h
  refine r_getNi (pc := 4) C fN_X11_151 dX11_readWorld_4 o_a1 ?_
  refine r_topi (fun x2 ex2 => ?_)
  have h := h x2 ex2
  refine r_if_le (pc := 7) C (tgt := 15) dX11_readWorld_7 (by decide) (fun c3 => ?_) (fun c3 => ?_)
  · have h := h.1 c3
    exact r_sub [0] rfl (T_X11_readWorld_15 C E ht hn h)
  · have h := h.2 c3
    refine r_aload_n (pc := 10) C dX11_readWorld_10 0 rfl ?_
    refine r_iconst (pc := 11) C (v := (3 : Int32)) dX11_readWorld_11 (by decide) ?_
    refine r_callVv0 (pc := 12) C (rest := []) (a := v0) o_v0 [.int (3 : Int32)] yV_X11_flaw g_1417 (c_X11_flaw h) dX11_readWorld_12 rfl rfl (Nat.le_of_ble_eq_true rfl) ⟨by decide, by decide⟩ ⟨by decide, by decide⟩ ⟨rfl, rfl⟩ (fun S4 h g5 => ?_)
    have h := h g5
    have o_a1 := gr_ob g5 o_a1
    have o_v0 := gr_ob g5 o_v0
    exact r_sub [0] rfl (T_X11_readWorld_15 C E ht hn h)
def P_X11_readWorld (v0 : Nat) (Q : HS → Prop) (S : HS) : Prop := P_X11_readWorld_0 Q v0 S
theorem c_X11_readWorld {l : Launch} {Ee : EE} {S : HS} {v0 : Nat} {Q : HS → Prop} (h : P_X11_readWorld v0 Q S) : MV l yX11_readWorld cX11_readWorld 2 none rm_X11_readWorld Ee S [.ref v0] Q :=
  openV (by decide) (Nat.le_of_ble_eq_true rfl) (fun X C E ht hn hE hl => by subst hE; exact r_sub [0] rfl (T_X11_readWorld_0 C E ht hn h))
def rm_X11_readLine : Room := { frames := 10, cells := 0, slots := 0, locals := 239 }
def P_X11_readLine_0 (Q : HS → Prop) (v0 : Nat) (S : HS) : Prop := ob S v0 11 ∧ (P_X11_isWord v0 27 (fun x3 S1 => Gr S S1 → bl x3 → (((x3 = 0) → (P_X11_isWord v0 29 (fun x7 S5 => Gr S1 S5 → bl x7 → (((x7 = 0) → (P_X11_isWord v0 38 (fun x11 S9 => Gr S5 S9 → bl x11 → (((x11 = 0) → (P_X11_isWord v0 39 (fun x15 S13 => Gr S9 S13 → bl x15 → (((x15 = 0) → (P_X11_isWord v0 40 (fun x19 S17 => Gr S13 S17 → bl x19 → (((x19 = 0) → (P_X11_isWord v0 41 (fun x23 S21 => Gr S17 S21 → bl x23 → (((x23 = 0) → (P_X11_flaw v0 (1 : Int32) (fun S25 => Gr S21 S25 → (Q S25)) S21)) ∧ ((¬ x23 = 0) → (P_X11_readSeen v0 (fun S28 => Gr S21 S28 → (Q S28)) S21)))) S17)) ∧ ((¬ x19 = 0) → (P_X11_readWalker v0 (fun S31 => Gr S17 S31 → (Q S31)) S17)))) S13)) ∧ ((¬ x15 = 0) → (P_X11_readRoad v0 (fun S34 => Gr S13 S34 → (Q S34)) S13)))) S9)) ∧ ((¬ x11 = 0) → (P_X11_readPlace v0 (fun S37 => Gr S9 S37 → (Q S37)) S9)))) S5)) ∧ ((¬ x7 = 0) → (P_X11_readRain v0 (fun S40 => Gr S5 S40 → (Q S40)) S5)))) S1)) ∧ ((¬ x3 = 0) → (P_X11_readWorld v0 (fun S43 => Gr S1 S43 → (Q S43)) S1)))) S)
set_option maxRecDepth 20000 in
set_option maxHeartbeats 4000000 in
theorem T_X11_readLine_0 {X : CX} {Q : HS → Prop} (C : Cx X cX11_readLine RX11 1 rm_X11_readLine) (E : ReV X rm_X11_readLine Q) (ht : (xh X).sig.returnType = none) (hn : (xh X).name = yX11_readLine.name) {v0 : Nat} {S : HS} (h : P_X11_readLine_0 Q v0 S) : WS X 1 0 0 0 [(0, .ref v0)] [] S := by
  refine r_aload_n (pc := 0) C dX11_readLine_0 0 rfl ?_
  refine r_lds (pc := 1) C 27 rfl dX11_readLine_1 ?_
  obtain ⟨o_v0, h⟩ := h
  refine r_callVi0 (pc := 3) C (rest := []) (a := v0) o_v0 [.ref (eK (xE X) 27)] yV_X11_isWord g_1404 (c_X11_isWord h) dX11_readLine_3 rfl rfl (Nat.le_of_ble_eq_true rfl) ⟨by decide, by decide⟩ ⟨by decide, by decide⟩ ⟨rfl, rfl⟩ (fun x3 S1 h g2 => ?_)
  have bx3 := h.1
  have h := h.2 g2 bx3
  have o_v0 := gr_ob g2 o_v0
  refine r_if_eq (pc := 6) C (tgt := 16) dX11_readLine_6 (by decide) (fun c4 => ?_) (fun c4 => ?_)
  · have h := h.1 c4
    refine r_aload_n (pc := 16) C dX11_readLine_16 0 rfl ?_
    refine r_lds (pc := 17) C 29 rfl dX11_readLine_17 ?_
    refine r_callVi0 (pc := 19) C (rest := []) (a := v0) o_v0 [.ref (eK (xE X) 29)] yV_X11_isWord g_1404 (c_X11_isWord h) dX11_readLine_19 rfl rfl (Nat.le_of_ble_eq_true rfl) ⟨by decide, by decide⟩ ⟨by decide, by decide⟩ ⟨rfl, rfl⟩ (fun x7 S5 h g6 => ?_)
    have bx7 := h.1
    have h := h.2 g6 bx7
    have o_v0 := gr_ob g6 o_v0
    refine r_if_eq (pc := 22) C (tgt := 32) dX11_readLine_22 (by decide) (fun c8 => ?_) (fun c8 => ?_)
    · have h := h.1 c8
      refine r_aload_n (pc := 32) C dX11_readLine_32 0 rfl ?_
      refine r_lds (pc := 33) C 38 rfl dX11_readLine_33 ?_
      refine r_callVi0 (pc := 35) C (rest := []) (a := v0) o_v0 [.ref (eK (xE X) 38)] yV_X11_isWord g_1404 (c_X11_isWord h) dX11_readLine_35 rfl rfl (Nat.le_of_ble_eq_true rfl) ⟨by decide, by decide⟩ ⟨by decide, by decide⟩ ⟨rfl, rfl⟩ (fun x11 S9 h g10 => ?_)
      have bx11 := h.1
      have h := h.2 g10 bx11
      have o_v0 := gr_ob g10 o_v0
      refine r_if_eq (pc := 38) C (tgt := 48) dX11_readLine_38 (by decide) (fun c12 => ?_) (fun c12 => ?_)
      · have h := h.1 c12
        refine r_aload_n (pc := 48) C dX11_readLine_48 0 rfl ?_
        refine r_lds (pc := 49) C 39 rfl dX11_readLine_49 ?_
        refine r_callVi0 (pc := 51) C (rest := []) (a := v0) o_v0 [.ref (eK (xE X) 39)] yV_X11_isWord g_1404 (c_X11_isWord h) dX11_readLine_51 rfl rfl (Nat.le_of_ble_eq_true rfl) ⟨by decide, by decide⟩ ⟨by decide, by decide⟩ ⟨rfl, rfl⟩ (fun x15 S13 h g14 => ?_)
        have bx15 := h.1
        have h := h.2 g14 bx15
        have o_v0 := gr_ob g14 o_v0
        refine r_if_eq (pc := 54) C (tgt := 64) dX11_readLine_54 (by decide) (fun c16 => ?_) (fun c16 => ?_)
        · have h := h.1 c16
          refine r_aload_n (pc := 64) C dX11_readLine_64 0 rfl ?_
          refine r_lds (pc := 65) C 40 rfl dX11_readLine_65 ?_
          refine r_callVi0 (pc := 67) C (rest := []) (a := v0) o_v0 [.ref (eK (xE X) 40)] yV_X11_isWord g_1404 (c_X11_isWord h) dX11_readLine_67 rfl rfl (Nat.le_of_ble_eq_true rfl) ⟨by decide, by decide⟩ ⟨by decide, by decide⟩ ⟨rfl, rfl⟩ (fun x19 S17 h g18 => ?_)
          have bx19 := h.1
          have h := h.2 g18 bx19
          have o_v0 := gr_ob g18 o_v0
          refine r_if_eq (pc := 70) C (tgt := 80) dX11_readLine_70 (by decide) (fun c20 => ?_) (fun c20 => ?_)
          · have h := h.1 c20
            refine r_aload_n (pc := 80) C dX11_readLine_80 0 rfl ?_
            refine r_lds (pc := 81) C 41 rfl dX11_readLine_81 ?_
            refine r_callVi0 (pc := 83) C (rest := []) (a := v0) o_v0 [.ref (eK (xE X) 41)] yV_X11_isWord g_1404 (c_X11_isWord h) dX11_readLine_83 rfl rfl (Nat.le_of_ble_eq_true rfl) ⟨by decide, by decide⟩ ⟨by decide, by decide⟩ ⟨rfl, rfl⟩ (fun x23 S21 h g22 => ?_)
            have bx23 := h.1
            have h := h.2 g22 bx23
            have o_v0 := gr_ob g22 o_v0
            refine r_if_eq (pc := 86) C (tgt := 96) dX11_readLine_86 (by decide) (fun c24 => ?_) (fun c24 => ?_)
            · have h := h.1 c24
              refine r_aload_n (pc := 96) C dX11_readLine_96 0 rfl ?_
              refine r_iconst (pc := 97) C (v := (1 : Int32)) dX11_readLine_97 (by decide) ?_
              refine r_callVv0 (pc := 98) C (rest := []) (a := v0) o_v0 [.int (1 : Int32)] yV_X11_flaw g_1417 (c_X11_flaw h) dX11_readLine_98 rfl rfl (Nat.le_of_ble_eq_true rfl) ⟨by decide, by decide⟩ ⟨by decide, by decide⟩ ⟨rfl, rfl⟩ (fun S25 h g26 => ?_)
              have h := h g26
              have o_v0 := gr_ob g26 o_v0
              exact r_vret (pc := 101) C E ht dX11_readLine_101 (by decide) (by decide) h
            · have h := h.2 c24
              refine r_aload_n (pc := 89) C dX11_readLine_89 0 rfl ?_
              refine r_callVv0 (pc := 90) C (rest := []) (a := v0) o_v0 [] yV_X11_readSeen g_1510 (c_X11_readSeen h) dX11_readLine_90 rfl rfl (Nat.le_of_ble_eq_true rfl) ⟨by decide, by decide⟩ ⟨by decide, by decide⟩ ⟨rfl, rfl⟩ (fun S28 h g29 => ?_)
              have h := h g29
              have o_v0 := gr_ob g29 o_v0
              refine r_goto (pc := 93) C (tgt := 101) dX11_readLine_93 (by decide) ?_
              exact r_vret (pc := 101) C E ht dX11_readLine_101 (by decide) (by decide) h
          · have h := h.2 c20
            refine r_aload_n (pc := 73) C dX11_readLine_73 0 rfl ?_
            refine r_callVv0 (pc := 74) C (rest := []) (a := v0) o_v0 [] yV_X11_readWalker g_1497 (c_X11_readWalker h) dX11_readLine_74 rfl rfl (Nat.le_of_ble_eq_true rfl) ⟨by decide, by decide⟩ ⟨by decide, by decide⟩ ⟨rfl, rfl⟩ (fun S31 h g32 => ?_)
            have h := h g32
            have o_v0 := gr_ob g32 o_v0
            refine r_goto (pc := 77) C (tgt := 101) dX11_readLine_77 (by decide) ?_
            exact r_vret (pc := 101) C E ht dX11_readLine_101 (by decide) (by decide) h
        · have h := h.2 c16
          refine r_aload_n (pc := 57) C dX11_readLine_57 0 rfl ?_
          refine r_callVv0 (pc := 58) C (rest := []) (a := v0) o_v0 [] yV_X11_readRoad g_1489 (c_X11_readRoad h) dX11_readLine_58 rfl rfl (Nat.le_of_ble_eq_true rfl) ⟨by decide, by decide⟩ ⟨by decide, by decide⟩ ⟨rfl, rfl⟩ (fun S34 h g35 => ?_)
          have h := h g35
          have o_v0 := gr_ob g35 o_v0
          refine r_goto (pc := 61) C (tgt := 101) dX11_readLine_61 (by decide) ?_
          exact r_vret (pc := 101) C E ht dX11_readLine_101 (by decide) (by decide) h
      · have h := h.2 c12
        refine r_aload_n (pc := 41) C dX11_readLine_41 0 rfl ?_
        refine r_callVv0 (pc := 42) C (rest := []) (a := v0) o_v0 [] yV_X11_readPlace g_1459 (c_X11_readPlace h) dX11_readLine_42 rfl rfl (Nat.le_of_ble_eq_true rfl) ⟨by decide, by decide⟩ ⟨by decide, by decide⟩ ⟨rfl, rfl⟩ (fun S37 h g38 => ?_)
        have h := h g38
        have o_v0 := gr_ob g38 o_v0
        refine r_goto (pc := 45) C (tgt := 101) dX11_readLine_45 (by decide) ?_
        exact r_vret (pc := 101) C E ht dX11_readLine_101 (by decide) (by decide) h
    · have h := h.2 c8
      refine r_aload_n (pc := 25) C dX11_readLine_25 0 rfl ?_
      refine r_callVv0 (pc := 26) C (rest := []) (a := v0) o_v0 [] yV_X11_readRain g_1438 (c_X11_readRain h) dX11_readLine_26 rfl rfl (Nat.le_of_ble_eq_true rfl) ⟨by decide, by decide⟩ ⟨by decide, by decide⟩ ⟨rfl, rfl⟩ (fun S40 h g41 => ?_)
      have h := h g41
      have o_v0 := gr_ob g41 o_v0
      refine r_goto (pc := 29) C (tgt := 101) dX11_readLine_29 (by decide) ?_
      exact r_vret (pc := 101) C E ht dX11_readLine_101 (by decide) (by decide) h
  · have h := h.2 c4
    refine r_aload_n (pc := 9) C dX11_readLine_9 0 rfl ?_
    refine r_callVv0 (pc := 10) C (rest := []) (a := v0) o_v0 [] yV_X11_readWorld g_1413 (c_X11_readWorld h) dX11_readLine_10 rfl rfl (Nat.le_of_ble_eq_true rfl) ⟨by decide, by decide⟩ ⟨by decide, by decide⟩ ⟨rfl, rfl⟩ (fun S43 h g44 => ?_)
    have h := h g44
    have o_v0 := gr_ob g44 o_v0
    refine r_goto (pc := 13) C (tgt := 101) dX11_readLine_13 (by decide) ?_
    exact r_vret (pc := 101) C E ht dX11_readLine_101 (by decide) (by decide) h
def P_X11_readLine (v0 : Nat) (Q : HS → Prop) (S : HS) : Prop := P_X11_readLine_0 Q v0 S
theorem c_X11_readLine {l : Launch} {Ee : EE} {S : HS} {v0 : Nat} {Q : HS → Prop} (h : P_X11_readLine v0 Q S) : MV l yX11_readLine cX11_readLine 1 none rm_X11_readLine Ee S [.ref v0] Q :=
  openV (by decide) (Nat.le_of_ble_eq_true rfl) (fun X C E ht hn hE hl => by subst hE; exact r_sub [0] rfl (T_X11_readLine_0 C E ht hn h))
def rm_X11_readAll : Room := { frames := 11, cells := 0, slots := 0, locals := 259 }
def P_X11_readAll_63 (Q : HS → Prop) (v0 : Nat) (S : HS) : Prop := ob S v0 11 ∧ (P_X11_flaw v0 (6 : Int32) (fun S1 => Gr S S1 → (Q S1)) S)
set_option maxRecDepth 20000 in
set_option maxHeartbeats 4000000 in
theorem T_X11_readAll_63 {X : CX} {Q : HS → Prop} (C : Cx X cX11_readAll RX11 2 rm_X11_readAll) (E : ReV X rm_X11_readAll Q) (ht : (xh X).sig.returnType = none) (hn : (xh X).name = yX11_readAll.name) {v0 : Nat} {S : HS} (h : P_X11_readAll_63 Q v0 S) : WS X 2 0 0 63 [(0, .ref v0)] [] S := by
  refine r_aload_n (pc := 63) C dX11_readAll_63 0 rfl ?_
  refine r_bipush (pc := 64) C (v := (6 : Int32)) dX11_readAll_64 (by decide) ?_
  obtain ⟨o_v0, h⟩ := h
  refine r_callVv0 (pc := 66) C (rest := []) (a := v0) o_v0 [.int (6 : Int32)] yV_X11_flaw g_1417 (c_X11_flaw h) dX11_readAll_66 rfl rfl (Nat.le_of_ble_eq_true rfl) ⟨by decide, by decide⟩ ⟨by decide, by decide⟩ ⟨rfl, rfl⟩ (fun S1 h g2 => ?_)
  have h := h g2
  have o_v0 := gr_ob g2 o_v0
  exact r_vret (pc := 69) C E ht dX11_readAll_69 (by decide) (by decide) h
def P_X11_readAll_33 (Q : HS → Prop) (v0 : Nat) (S : HS) : Prop := ob S v0 11 ∧ (∃ a1 : Nat, fR S v0 4 = some a1 ∧ (ob S a1 10 ∧ (∀ x2 : Int32, x2 = fI S a1 0 → (((x2 = 0) → (P_X11_readAll_63 Q v0 S)) ∧ ((¬ x2 = 0) → (∃ a4 : Nat, fR S v0 4 = some a4 ∧ (ob S a4 10 ∧ (∀ x5 : Int32, x5 = fI S a4 2 → (((x5 = 0) → (P_X11_readAll_63 Q v0 S)) ∧ ((¬ x5 = 0) → (∃ a7 : Nat, fR S v0 4 = some a7 ∧ (ob S a7 10 ∧ (∀ x8 : Int32, x8 = fI S a7 4 → (((¬ x8 = 0) → (Q S)) ∧ ((x8 = 0) → (P_X11_readAll_63 Q v0 S))))))))))))))))
set_option maxRecDepth 20000 in
set_option maxHeartbeats 4000000 in
theorem T_X11_readAll_33 {X : CX} {Q : HS → Prop} (C : Cx X cX11_readAll RX11 2 rm_X11_readAll) (E : ReV X rm_X11_readAll Q) (ht : (xh X).sig.returnType = none) (hn : (xh X).name = yX11_readAll.name) {v0 : Nat} {S : HS} (h : P_X11_readAll_33 Q v0 S) : WS X 2 0 0 33 [(0, .ref v0)] [] S := by
  refine r_aload_n (pc := 33) C dX11_readAll_33 0 rfl ?_
  obtain ⟨o_v0, h⟩ := h
  obtain ⟨a1, ea1, h⟩ := h
  refine r_getr (pc := 34) C fL_X11_147 dX11_readAll_34 o_v0 ea1 ?_
  obtain ⟨o_a1, h⟩ := h
  refine r_getNi (pc := 37) C fN_X11_151 dX11_readAll_37 o_a1 ?_
  refine r_topi (fun x2 ex2 => ?_)
  have h := h x2 ex2
  refine r_if_eq (pc := 40) C (tgt := 63) dX11_readAll_40 (by decide) (fun c3 => ?_) (fun c3 => ?_)
  · have h := h.1 c3
    exact r_sub [0] rfl (T_X11_readAll_63 C E ht hn h)
  · have h := h.2 c3
    refine r_aload_n (pc := 43) C dX11_readAll_43 0 rfl ?_
    obtain ⟨a4, ea4, h⟩ := h
    refine r_getr (pc := 44) C fL_X11_147 dX11_readAll_44 o_v0 ea4 ?_
    obtain ⟨o_a4, h⟩ := h
    refine r_getNi (pc := 47) C fN_X11_190 dX11_readAll_47 o_a4 ?_
    refine r_topi (fun x5 ex5 => ?_)
    have h := h x5 ex5
    refine r_if_eq (pc := 50) C (tgt := 63) dX11_readAll_50 (by decide) (fun c6 => ?_) (fun c6 => ?_)
    · have h := h.1 c6
      exact r_sub [0] rfl (T_X11_readAll_63 C E ht hn h)
    · have h := h.2 c6
      refine r_aload_n (pc := 53) C dX11_readAll_53 0 rfl ?_
      obtain ⟨a7, ea7, h⟩ := h
      refine r_getr (pc := 54) C fL_X11_147 dX11_readAll_54 o_v0 ea7 ?_
      obtain ⟨o_a7, h⟩ := h
      refine r_getNi (pc := 57) C fN_X11_193 dX11_readAll_57 o_a7 ?_
      refine r_topi (fun x8 ex8 => ?_)
      have h := h x8 ex8
      refine r_if_ne (pc := 60) C (tgt := 69) dX11_readAll_60 (by decide) (fun c9 => ?_) (fun c9 => ?_)
      · have h := h.1 c9
        exact r_vret (pc := 69) C E ht dX11_readAll_69 (by decide) (by decide) h
      · have h := h.2 c9
        exact r_sub [0] rfl (T_X11_readAll_63 C E ht hn h)
def B_X11_readAll_2 (Q : HS → Prop) (X2 : Nat → Int32 → HS → Prop) (v0 : Nat) (v1 : Int32) (S : HS) : Prop := ((v1 = 0) → (ob S v0 11 ∧ (∀ x2 : Int32, x2 = fI S v0 9 → (((x2 = (1 : Int32)) → (P_X11_readAll_33 Q v0 S)) ∧ ((¬ x2 = (1 : Int32)) → (P_X11_flaw v0 (1 : Int32) (fun S4 => Gr S S4 → (P_X11_readAll_33 Q v0 S4)) S)))))) ∧ ((¬ v1 = 0) → (ob S v0 11 ∧ (P_X11_readLine v0 (fun S7 => Gr S S7 → (P_X11_eatsSign v0 (59 : Int32) (fun x12 S10 => Gr S7 S10 → bl x12 → (X2 v0 x12 S10)) S7)) S)))
def P_X11_readAll_2 (Q : HS → Prop) (v0 : Nat) (v1 : Int32) (S : HS) : Prop := ∀ X2 : Nat → Int32 → HS → Prop, (∀ (v0 : Nat) (v1 : Int32) (S : HS), B_X11_readAll_2 Q X2 v0 v1 S → X2 v0 v1 S) → X2 v0 v1 S
set_option maxRecDepth 20000 in
set_option maxHeartbeats 4000000 in
theorem TB_X11_readAll_2 {X : CX} {Q : HS → Prop} (C : Cx X cX11_readAll RX11 2 rm_X11_readAll) (E : ReV X rm_X11_readAll Q) (ht : (xh X).sig.returnType = none) (hn : (xh X).name = yX11_readAll.name) {X2 : Nat → Int32 → HS → Prop} (hX2 : ∀ (v0 : Nat) (v1 : Int32) (S : HS), X2 v0 v1 S → WS X 2 0 0 2 [(0, .ref v0), (1, .int v1)] [] S) {v0 : Nat} {v1 : Int32} {S : HS} (h : B_X11_readAll_2 Q X2 v0 v1 S) : WS X 2 0 0 2 [(0, .ref v0), (1, .int v1)] [] S := by
  refine r_iload_n (pc := 2) C dX11_readAll_2 1 rfl ?_
  refine r_if_eq (pc := 3) C (tgt := 20) dX11_readAll_3 (by decide) (fun c1 => ?_) (fun c1 => ?_)
  · have h := h.1 c1
    refine r_aload_n (pc := 20) C dX11_readAll_20 0 rfl ?_
    obtain ⟨o_v0, h⟩ := h
    refine r_geti (pc := 21) C fL_X11_68 dX11_readAll_21 o_v0 ?_
    refine r_topi (fun x2 ex2 => ?_)
    have h := h x2 ex2
    refine r_iconst (pc := 24) C (v := (1 : Int32)) dX11_readAll_24 (by decide) ?_
    refine r_icmp_eq (pc := 25) C (tgt := 33) dX11_readAll_25 (by decide) (fun c3 => ?_) (fun c3 => ?_)
    · have h := h.1 c3
      exact r_sub [0] rfl (T_X11_readAll_33 C E ht hn h)
    · have h := h.2 c3
      refine r_aload_n (pc := 28) C dX11_readAll_28 0 rfl ?_
      refine r_iconst (pc := 29) C (v := (1 : Int32)) dX11_readAll_29 (by decide) ?_
      refine r_callVv0 (pc := 30) C (rest := []) (a := v0) o_v0 [.int (1 : Int32)] yV_X11_flaw g_1417 (c_X11_flaw h) dX11_readAll_30 rfl rfl (Nat.le_of_ble_eq_true rfl) ⟨by decide, by decide⟩ ⟨by decide, by decide⟩ ⟨rfl, rfl⟩ (fun S4 h g5 => ?_)
      have h := h g5
      have o_v0 := gr_ob g5 o_v0
      exact r_sub [0] rfl (T_X11_readAll_33 C E ht hn h)
  · have h := h.2 c1
    refine r_aload_n (pc := 6) C dX11_readAll_6 0 rfl ?_
    obtain ⟨o_v0, h⟩ := h
    refine r_callVv0 (pc := 7) C (rest := []) (a := v0) o_v0 [] yV_X11_readLine g_1399 (c_X11_readLine h) dX11_readAll_7 rfl rfl (Nat.le_of_ble_eq_true rfl) ⟨by decide, by decide⟩ ⟨by decide, by decide⟩ ⟨rfl, rfl⟩ (fun S7 h g8 => ?_)
    have h := h g8
    have o_v0 := gr_ob g8 o_v0
    refine r_aload_n (pc := 10) C dX11_readAll_10 0 rfl ?_
    refine r_bipush (pc := 11) C (v := (59 : Int32)) dX11_readAll_11 (by decide) ?_
    refine r_callVi0 (pc := 13) C (rest := []) (a := v0) o_v0 [.int (59 : Int32)] yV_X11_eatsSign g_1514 (c_X11_eatsSign h) dX11_readAll_13 rfl rfl (Nat.le_of_ble_eq_true rfl) ⟨by decide, by decide⟩ ⟨by decide, by decide⟩ ⟨rfl, rfl⟩ (fun x12 S10 h g11 => ?_)
    have bx12 := h.1
    have h := h.2 g11 bx12
    have o_v0 := gr_ob g11 o_v0
    refine r_istore_n (pc := 16) C dX11_readAll_16 rfl (by decide) (lv' := [(1, .int x12), (0, .ref v0)]) rfl ?_
    refine r_goto (pc := 17) C (tgt := 2) dX11_readAll_17 (by decide) ?_
    exact r_sub [1, 0] rfl (hX2 v0 x12 S10 h)
theorem T_X11_readAll_2 {X : CX} {Q : HS → Prop} (C : Cx X cX11_readAll RX11 2 rm_X11_readAll) (E : ReV X rm_X11_readAll Q) (ht : (xh X).sig.returnType = none) (hn : (xh X).name = yX11_readAll.name) {v0 : Nat} {v1 : Int32} {S : HS} (h : P_X11_readAll_2 Q v0 v1 S) : WS X 2 0 0 2 [(0, .ref v0), (1, .int v1)] [] S :=
  h (fun v0 v1 S => WS X 2 0 0 2 [(0, .ref v0), (1, .int v1)] [] S) (fun v0 v1 S hh => TB_X11_readAll_2 C E ht hn (fun v0 v1 S z => z) hh)
def P_X11_readAll_0 (Q : HS → Prop) (v0 : Nat) (S : HS) : Prop := P_X11_readAll_2 Q v0 (1 : Int32) S
set_option maxRecDepth 20000 in
set_option maxHeartbeats 4000000 in
theorem T_X11_readAll_0 {X : CX} {Q : HS → Prop} (C : Cx X cX11_readAll RX11 2 rm_X11_readAll) (E : ReV X rm_X11_readAll Q) (ht : (xh X).sig.returnType = none) (hn : (xh X).name = yX11_readAll.name) {v0 : Nat} {S : HS} (h : P_X11_readAll_0 Q v0 S) : WS X 2 0 0 0 [(0, .ref v0)] [] S := by
  refine r_iconst (pc := 0) C (v := (1 : Int32)) dX11_readAll_0 (by decide) ?_
  refine r_istore_n (pc := 1) C dX11_readAll_1 rfl (by decide) (lv' := [(1, .int (1 : Int32)), (0, .ref v0)]) rfl ?_
  exact r_sub [1, 0] rfl (T_X11_readAll_2 C E ht hn h)
def P_X11_readAll (v0 : Nat) (Q : HS → Prop) (S : HS) : Prop := P_X11_readAll_0 Q v0 S
theorem c_X11_readAll {l : Launch} {Ee : EE} {S : HS} {v0 : Nat} {Q : HS → Prop} (h : P_X11_readAll v0 Q S) : MV l yX11_readAll cX11_readAll 2 none rm_X11_readAll Ee S [.ref v0] Q :=
  openV (by decide) (Nat.le_of_ble_eq_true rfl) (fun X C E ht hn hE hl => by subst hE; exact r_sub [0] rfl (T_X11_readAll_0 C E ht hn h))
def rm_X11_road : Room := { frames := 1, cells := 0, slots := 0, locals := 22 }
def P_X11_road_22 (Q : Int32 → HS → Prop) (v0 : Nat) (S : HS) : Prop := ob S v0 11 ∧ (P_X11_refused v0 (1 : Int32) (fun x3 S1 => Gr S S1 → (Q x3 S1)) S)
set_option maxRecDepth 20000 in
set_option maxHeartbeats 4000000 in
theorem T_X11_road_22 {X : CX} {Q : Int32 → HS → Prop} (C : Cx X cX11_road RX11 3 rm_X11_road) (E : ReI X rm_X11_road Q) (ht : (xh X).sig.returnType = (some .int)) (hn : (xh X).name = yX11_road.name) {v0 : Nat} {S : HS} (h : P_X11_road_22 Q v0 S) : WS X 3 0 0 22 [(0, .ref v0)] [] S := by
  refine r_aload_n (pc := 22) C dX11_road_22 0 rfl ?_
  refine r_iconst (pc := 23) C (v := (1 : Int32)) dX11_road_23 (by decide) ?_
  obtain ⟨o_v0, h⟩ := h
  refine r_callVi0 (pc := 24) C (rest := []) (a := v0) o_v0 [.int (1 : Int32)] yV_X11_refused g_1250 (c_X11_refused h) dX11_road_24 rfl rfl (Nat.le_of_ble_eq_true rfl) ⟨by decide, by decide⟩ ⟨by decide, by decide⟩ ⟨rfl, rfl⟩ (fun x3 S1 h g2 => ?_)
  have h := h g2
  have o_v0 := gr_ob g2 o_v0
  exact r_iret (pc := 27) C E ht dX11_road_27 (by decide) (by decide) h
def P_X11_road_0 (Q : Int32 → HS → Prop) (v0 : Nat) (v1 : Int32) (v2 : Int32) (S : HS) : Prop := ob S v0 11 ∧ (P_X11_isRoad v0 v1 (fun x3 S1 => Gr (sI S v0 0 (0 : Int32)) S1 → bl x3 → (((x3 = 0) → (P_X11_road_22 Q v0 S1)) ∧ ((¬ x3 = 0) → (P_X11_in v2 (0 : Int32) (4 : Int32) (fun x7 S5 => Gr S1 S5 → bl x7 → (((¬ x7 = 0) → ((v2.toInt < 0 ∨ 3 < v2.toInt → (∃ a10 : Nat, fR S5 v0 3 = some a10 ∧ (ob S5 a10 10 ∧ (∃ a11 : Nat, fR S5 a10 17 = some a11 ∧ (ob S5 a11 13 ∧ (vp_in v1 (hN S5 a11) ∧ ∀ x13 : Int32, x13 = fI S5 a11 v1.toNatClampNeg → (P_X11_good v0 x13 (fun x16 S14 => Gr S5 S14 → (Q x16 S14)) S5))))))) ∧ (v2.toInt = 0 → (∃ a17 : Nat, fR S5 v0 3 = some a17 ∧ (ob S5 a17 10 ∧ (∃ a18 : Nat, fR S5 a17 13 = some a18 ∧ (ob S5 a18 13 ∧ (vp_in v1 (hN S5 a18) ∧ ∀ x20 : Int32, x20 = fI S5 a18 v1.toNatClampNeg → (P_X11_good v0 x20 (fun x23 S21 => Gr S5 S21 → (Q x23 S21)) S5))))))) ∧ (v2.toInt = 1 → (∃ a24 : Nat, fR S5 v0 3 = some a24 ∧ (ob S5 a24 10 ∧ (∃ a25 : Nat, fR S5 a24 14 = some a25 ∧ (ob S5 a25 13 ∧ (vp_in v1 (hN S5 a25) ∧ ∀ x27 : Int32, x27 = fI S5 a25 v1.toNatClampNeg → (P_X11_good v0 x27 (fun x30 S28 => Gr S5 S28 → (Q x30 S28)) S5))))))) ∧ (v2.toInt = 2 → (∃ a31 : Nat, fR S5 v0 3 = some a31 ∧ (ob S5 a31 10 ∧ (∃ a32 : Nat, fR S5 a31 15 = some a32 ∧ (ob S5 a32 13 ∧ (vp_in v1 (hN S5 a32) ∧ ∀ x34 : Int32, x34 = fI S5 a32 v1.toNatClampNeg → (P_X11_good v0 x34 (fun x37 S35 => Gr S5 S35 → (Q x37 S35)) S5))))))) ∧ (v2.toInt = 3 → (∃ a38 : Nat, fR S5 v0 3 = some a38 ∧ (ob S5 a38 10 ∧ (∃ a39 : Nat, fR S5 a38 16 = some a39 ∧ (ob S5 a39 13 ∧ (vp_in v1 (hN S5 a39) ∧ ∀ x41 : Int32, x41 = fI S5 a39 v1.toNatClampNeg → (P_X11_good v0 x41 (fun x44 S42 => Gr S5 S42 → (Q x44 S42)) S5))))))))) ∧ ((x7 = 0) → (P_X11_road_22 Q v0 S5)))) S1)))) (sI S v0 0 (0 : Int32)))
set_option maxRecDepth 20000 in
set_option maxHeartbeats 4000000 in
theorem T_X11_road_0 {X : CX} {Q : Int32 → HS → Prop} (C : Cx X cX11_road RX11 3 rm_X11_road) (E : ReI X rm_X11_road Q) (ht : (xh X).sig.returnType = (some .int)) (hn : (xh X).name = yX11_road.name) {v0 : Nat} {v1 : Int32} {v2 : Int32} {S : HS} (h : P_X11_road_0 Q v0 v1 v2 S) : WS X 3 0 0 0 [(0, .ref v0), (1, .int v1), (2, .int v2)] [] S := by
  refine r_aload_n (pc := 0) C dX11_road_0 0 rfl ?_
  refine r_iconst (pc := 1) C (v := (0 : Int32)) dX11_road_1 (by decide) ?_
  obtain ⟨o_v0, h⟩ := h
  refine r_puti (pc := 2) C pfL_X11_40 dX11_road_2 o_v0 ?_
  refine r_aload_n (pc := 5) C dX11_road_5 0 rfl ?_
  refine r_iload_n (pc := 6) C dX11_road_6 1 rfl ?_
  refine r_callVi0 (pc := 7) C (rest := []) (a := v0) o_v0 [.int v1] yV_X11_isRoad g_1542 (c_X11_isRoad h) dX11_road_7 rfl rfl (Nat.le_of_ble_eq_true rfl) ⟨by decide, by decide⟩ ⟨by decide, by decide⟩ ⟨rfl, rfl⟩ (fun x3 S1 h g2 => ?_)
  have bx3 := h.1
  have h := h.2 g2 bx3
  have o_v0 := gr_ob g2 o_v0
  refine r_if_eq (pc := 10) C (tgt := 22) dX11_road_10 (by decide) (fun c4 => ?_) (fun c4 => ?_)
  · have h := h.1 c4
    exact r_sub [0] rfl (T_X11_road_22 C E ht hn h)
  · have h := h.2 c4
    refine r_iload_n (pc := 13) C dX11_road_13 2 rfl ?_
    refine r_iconst (pc := 14) C (v := (0 : Int32)) dX11_road_14 (by decide) ?_
    refine r_iconst (pc := 15) C (v := (4 : Int32)) dX11_road_15 (by decide) ?_
    refine r_callSi0 (pc := 16) C (rest := []) rfl [.int v2, .int (0 : Int32), .int (4 : Int32)] yS_X11_in g_1434 (c_X11_in h) dX11_road_16 rfl rfl (Nat.le_of_ble_eq_true rfl) ⟨by decide, by decide⟩ ⟨by decide, by decide⟩ ⟨rfl, rfl⟩ (fun x7 S5 h g6 => ?_)
    have bx7 := h.1
    have h := h.2 g6 bx7
    have o_v0 := gr_ob g6 o_v0
    refine r_if_ne (pc := 19) C (tgt := 28) dX11_road_19 (by decide) (fun c8 => ?_) (fun c8 => ?_)
    · have h := h.1 c8
      refine r_iload_n (pc := 28) C dX11_road_28 2 rfl ?_
      refine r_table (pc := 29) C (tgt := 116) dX11_road_29 (by decide) (fun c9 => ?_) (fun j hj hx => ?_)
      · have h := h.1 c9
        refine r_aload_n (pc := 116) C dX11_road_116 0 rfl ?_
        refine r_aload_n (pc := 117) C dX11_road_117 0 rfl ?_
        obtain ⟨a10, ea10, h⟩ := h
        refine r_getr (pc := 118) C fL_X11_338 dX11_road_118 o_v0 ea10 ?_
        obtain ⟨o_a10, h⟩ := h
        obtain ⟨a11, ea11, h⟩ := h
        refine r_getNr (pc := 121) C fN_X11_282 dX11_road_121 o_a10 ea11 ?_
        refine r_iload_n (pc := 124) C dX11_road_124 1 rfl ?_
        obtain ⟨o_a11, h⟩ := h
        obtain ⟨i12, h⟩ := h
        refine r_iald (pc := 125) C dX11_road_125 o_a11 i12 ?_
        refine r_topi (fun x13 ex13 => ?_)
        have h := h x13 ex13
        refine r_callVi0 (pc := 126) C (rest := []) (a := v0) o_v0 [.int x13] yV_X11_good g_1518 (c_X11_good h) dX11_road_126 rfl rfl (Nat.le_of_ble_eq_true rfl) ⟨by decide, by decide⟩ ⟨by decide, by decide⟩ ⟨rfl, rfl⟩ (fun x16 S14 h g15 => ?_)
        have h := h g15
        have o_a10 := gr_ob g15 o_a10
        have o_a11 := gr_ob g15 o_a11
        have o_v0 := gr_ob g15 o_v0
        exact r_iret (pc := 129) C E ht dX11_road_129 (by decide) (by decide) h
      · match j, hj, hx with
        | 0, _, hx =>
          refine ⟨31, 60, rfl, by decide, ?_⟩
          have h := h.2.1 (by simpa using hx)
          refine r_aload_n (pc := 60) C dX11_road_60 0 rfl ?_
          refine r_aload_n (pc := 61) C dX11_road_61 0 rfl ?_
          obtain ⟨a17, ea17, h⟩ := h
          refine r_getr (pc := 62) C fL_X11_338 dX11_road_62 o_v0 ea17 ?_
          obtain ⟨o_a17, h⟩ := h
          obtain ⟨a18, ea18, h⟩ := h
          refine r_getNr (pc := 65) C fN_X11_270 dX11_road_65 o_a17 ea18 ?_
          refine r_iload_n (pc := 68) C dX11_road_68 1 rfl ?_
          obtain ⟨o_a18, h⟩ := h
          obtain ⟨i19, h⟩ := h
          refine r_iald (pc := 69) C dX11_road_69 o_a18 i19 ?_
          refine r_topi (fun x20 ex20 => ?_)
          have h := h x20 ex20
          refine r_callVi0 (pc := 70) C (rest := []) (a := v0) o_v0 [.int x20] yV_X11_good g_1518 (c_X11_good h) dX11_road_70 rfl rfl (Nat.le_of_ble_eq_true rfl) ⟨by decide, by decide⟩ ⟨by decide, by decide⟩ ⟨rfl, rfl⟩ (fun x23 S21 h g22 => ?_)
          have h := h g22
          have o_a17 := gr_ob g22 o_a17
          have o_a18 := gr_ob g22 o_a18
          have o_v0 := gr_ob g22 o_v0
          exact r_iret (pc := 73) C E ht dX11_road_73 (by decide) (by decide) h
        | 1, _, hx =>
          refine ⟨45, 74, rfl, by decide, ?_⟩
          have h := h.2.2.1 (by simpa using hx)
          refine r_aload_n (pc := 74) C dX11_road_74 0 rfl ?_
          refine r_aload_n (pc := 75) C dX11_road_75 0 rfl ?_
          obtain ⟨a24, ea24, h⟩ := h
          refine r_getr (pc := 76) C fL_X11_338 dX11_road_76 o_v0 ea24 ?_
          obtain ⟨o_a24, h⟩ := h
          obtain ⟨a25, ea25, h⟩ := h
          refine r_getNr (pc := 79) C fN_X11_273 dX11_road_79 o_a24 ea25 ?_
          refine r_iload_n (pc := 82) C dX11_road_82 1 rfl ?_
          obtain ⟨o_a25, h⟩ := h
          obtain ⟨i26, h⟩ := h
          refine r_iald (pc := 83) C dX11_road_83 o_a25 i26 ?_
          refine r_topi (fun x27 ex27 => ?_)
          have h := h x27 ex27
          refine r_callVi0 (pc := 84) C (rest := []) (a := v0) o_v0 [.int x27] yV_X11_good g_1518 (c_X11_good h) dX11_road_84 rfl rfl (Nat.le_of_ble_eq_true rfl) ⟨by decide, by decide⟩ ⟨by decide, by decide⟩ ⟨rfl, rfl⟩ (fun x30 S28 h g29 => ?_)
          have h := h g29
          have o_a24 := gr_ob g29 o_a24
          have o_a25 := gr_ob g29 o_a25
          have o_v0 := gr_ob g29 o_v0
          exact r_iret (pc := 87) C E ht dX11_road_87 (by decide) (by decide) h
        | 2, _, hx =>
          refine ⟨59, 88, rfl, by decide, ?_⟩
          have h := h.2.2.2.1 (by simpa using hx)
          refine r_aload_n (pc := 88) C dX11_road_88 0 rfl ?_
          refine r_aload_n (pc := 89) C dX11_road_89 0 rfl ?_
          obtain ⟨a31, ea31, h⟩ := h
          refine r_getr (pc := 90) C fL_X11_338 dX11_road_90 o_v0 ea31 ?_
          obtain ⟨o_a31, h⟩ := h
          obtain ⟨a32, ea32, h⟩ := h
          refine r_getNr (pc := 93) C fN_X11_276 dX11_road_93 o_a31 ea32 ?_
          refine r_iload_n (pc := 96) C dX11_road_96 1 rfl ?_
          obtain ⟨o_a32, h⟩ := h
          obtain ⟨i33, h⟩ := h
          refine r_iald (pc := 97) C dX11_road_97 o_a32 i33 ?_
          refine r_topi (fun x34 ex34 => ?_)
          have h := h x34 ex34
          refine r_callVi0 (pc := 98) C (rest := []) (a := v0) o_v0 [.int x34] yV_X11_good g_1518 (c_X11_good h) dX11_road_98 rfl rfl (Nat.le_of_ble_eq_true rfl) ⟨by decide, by decide⟩ ⟨by decide, by decide⟩ ⟨rfl, rfl⟩ (fun x37 S35 h g36 => ?_)
          have h := h g36
          have o_a31 := gr_ob g36 o_a31
          have o_a32 := gr_ob g36 o_a32
          have o_v0 := gr_ob g36 o_v0
          exact r_iret (pc := 101) C E ht dX11_road_101 (by decide) (by decide) h
        | 3, _, hx =>
          refine ⟨73, 102, rfl, by decide, ?_⟩
          have h := h.2.2.2.2 (by simpa using hx)
          refine r_aload_n (pc := 102) C dX11_road_102 0 rfl ?_
          refine r_aload_n (pc := 103) C dX11_road_103 0 rfl ?_
          obtain ⟨a38, ea38, h⟩ := h
          refine r_getr (pc := 104) C fL_X11_338 dX11_road_104 o_v0 ea38 ?_
          obtain ⟨o_a38, h⟩ := h
          obtain ⟨a39, ea39, h⟩ := h
          refine r_getNr (pc := 107) C fN_X11_279 dX11_road_107 o_a38 ea39 ?_
          refine r_iload_n (pc := 110) C dX11_road_110 1 rfl ?_
          obtain ⟨o_a39, h⟩ := h
          obtain ⟨i40, h⟩ := h
          refine r_iald (pc := 111) C dX11_road_111 o_a39 i40 ?_
          refine r_topi (fun x41 ex41 => ?_)
          have h := h x41 ex41
          refine r_callVi0 (pc := 112) C (rest := []) (a := v0) o_v0 [.int x41] yV_X11_good g_1518 (c_X11_good h) dX11_road_112 rfl rfl (Nat.le_of_ble_eq_true rfl) ⟨by decide, by decide⟩ ⟨by decide, by decide⟩ ⟨rfl, rfl⟩ (fun x44 S42 h g43 => ?_)
          have h := h g43
          have o_a38 := gr_ob g43 o_a38
          have o_a39 := gr_ob g43 o_a39
          have o_v0 := gr_ob g43 o_v0
          exact r_iret (pc := 115) C E ht dX11_road_115 (by decide) (by decide) h
        | j + 4, hj, _ => exact absurd hj (by omega)
    · have h := h.2 c8
      exact r_sub [0] rfl (T_X11_road_22 C E ht hn h)
def P_X11_road (v0 : Nat) (v1 : Int32) (v2 : Int32) (Q : Int32 → HS → Prop) (S : HS) : Prop := P_X11_road_0 Q v0 v1 v2 S
theorem c_X11_road {l : Launch} {Ee : EE} {S : HS} {v0 : Nat} {v1 : Int32} {v2 : Int32} {Q : Int32 → HS → Prop} (h : P_X11_road v0 v1 v2 Q S) : MI l yX11_road cX11_road 3 (some .int) rm_X11_road Ee S [.ref v0, .int v1, .int v2] Q :=
  openI (by decide) (Nat.le_of_ble_eq_true rfl) (fun X C E ht hn hE hl => by subst hE; exact r_sub [0, 1, 2] rfl (T_X11_road_0 C E ht hn h))
def rm_X11_round : Room := { frames := 8, cells := 0, slots := 0, locals := 213 }
def P_X11_round_29 (Q : Int64 → HS → Prop) (v0 : Nat) (S : HS) : Prop := ob S v0 11 ∧ (P_X11_refused v0 (1 : Int32) (fun x3 S1 => Gr S S1 → (Q x3.toInt64 S1)) S)
set_option maxRecDepth 20000 in
set_option maxHeartbeats 4000000 in
theorem T_X11_round_29 {X : CX} {Q : Int64 → HS → Prop} (C : Cx X cX11_round RX11 5 rm_X11_round) (E : ReJ X rm_X11_round Q) (ht : (xh X).sig.returnType = (some .long)) (hn : (xh X).name = yX11_round.name) {v0 : Nat} {S : HS} (h : P_X11_round_29 Q v0 S) : WS X 5 0 0 29 [(0, .ref v0)] [] S := by
  refine r_aload_n (pc := 29) C dX11_round_29 0 rfl ?_
  refine r_iconst (pc := 30) C (v := (1 : Int32)) dX11_round_30 (by decide) ?_
  obtain ⟨o_v0, h⟩ := h
  refine r_callVi0 (pc := 31) C (rest := []) (a := v0) o_v0 [.int (1 : Int32)] yV_X11_refused g_1250 (c_X11_refused h) dX11_round_31 rfl rfl (Nat.le_of_ble_eq_true rfl) ⟨by decide, by decide⟩ ⟨by decide, by decide⟩ ⟨rfl, rfl⟩ (fun x3 S1 h g2 => ?_)
  have h := h g2
  have o_v0 := gr_ob g2 o_v0
  refine r_i2l (pc := 34) C dX11_round_34 ?_
  exact r_lret (pc := 35) C E ht dX11_round_35 (by decide) (by decide) h
def P_X11_round_0 (Q : Int64 → HS → Prop) (v0 : Nat) (v1 : Int32) (v2 : Int32) (v3 : Int32) (v4 : Int32) (S : HS) : Prop := ob S v0 11 ∧ (P_X11_isWalker v0 v1 (fun x3 S1 => Gr (sI S v0 0 (0 : Int32)) S1 → bl x3 → (((x3 = 0) → (P_X11_round_29 Q v0 S1)) ∧ ((¬ x3 = 0) → (P_X11_isRoad v0 v2 (fun x7 S5 => Gr S1 S5 → bl x7 → (((x7 = 0) → (P_X11_round_29 Q v0 S5)) ∧ ((¬ x7 = 0) → (P_X11_isHour v0 v3 (fun x11 S9 => Gr S5 S9 → bl x11 → (((¬ x11 = 0) → (P_X11_wetAtBest v0 v1 v2 (0 : Int32) v3 (fun x15 S13 => Gr S9 S13 → (P_X11_wetAtBest v0 v1 v2 (1 : Int32) v3 (fun x18 S16 => Gr S13 S16 → (P_X11_told v0 (x15 + x18) (2520 : Int64) v4 (fun x21 S19 => Gr S16 S19 → (Q x21 S19)) S16)) S13)) S9)) ∧ ((x11 = 0) → (P_X11_round_29 Q v0 S9)))) S5)))) S1)))) (sI S v0 0 (0 : Int32)))
set_option maxRecDepth 20000 in
set_option maxHeartbeats 4000000 in
theorem T_X11_round_0 {X : CX} {Q : Int64 → HS → Prop} (C : Cx X cX11_round RX11 5 rm_X11_round) (E : ReJ X rm_X11_round Q) (ht : (xh X).sig.returnType = (some .long)) (hn : (xh X).name = yX11_round.name) {v0 : Nat} {v1 : Int32} {v2 : Int32} {v3 : Int32} {v4 : Int32} {S : HS} (h : P_X11_round_0 Q v0 v1 v2 v3 v4 S) : WS X 5 0 0 0 [(0, .ref v0), (1, .int v1), (2, .int v2), (3, .int v3), (4, .int v4)] [] S := by
  refine r_aload_n (pc := 0) C dX11_round_0 0 rfl ?_
  refine r_iconst (pc := 1) C (v := (0 : Int32)) dX11_round_1 (by decide) ?_
  obtain ⟨o_v0, h⟩ := h
  refine r_puti (pc := 2) C pfL_X11_40 dX11_round_2 o_v0 ?_
  refine r_aload_n (pc := 5) C dX11_round_5 0 rfl ?_
  refine r_iload_n (pc := 6) C dX11_round_6 1 rfl ?_
  refine r_callVi0 (pc := 7) C (rest := []) (a := v0) o_v0 [.int v1] yV_X11_isWalker g_1538 (c_X11_isWalker h) dX11_round_7 rfl rfl (Nat.le_of_ble_eq_true rfl) ⟨by decide, by decide⟩ ⟨by decide, by decide⟩ ⟨rfl, rfl⟩ (fun x3 S1 h g2 => ?_)
  have bx3 := h.1
  have h := h.2 g2 bx3
  have o_v0 := gr_ob g2 o_v0
  refine r_if_eq (pc := 10) C (tgt := 29) dX11_round_10 (by decide) (fun c4 => ?_) (fun c4 => ?_)
  · have h := h.1 c4
    exact r_sub [0] rfl (T_X11_round_29 C E ht hn h)
  · have h := h.2 c4
    refine r_aload_n (pc := 13) C dX11_round_13 0 rfl ?_
    refine r_iload_n (pc := 14) C dX11_round_14 2 rfl ?_
    refine r_callVi0 (pc := 15) C (rest := []) (a := v0) o_v0 [.int v2] yV_X11_isRoad g_1542 (c_X11_isRoad h) dX11_round_15 rfl rfl (Nat.le_of_ble_eq_true rfl) ⟨by decide, by decide⟩ ⟨by decide, by decide⟩ ⟨rfl, rfl⟩ (fun x7 S5 h g6 => ?_)
    have bx7 := h.1
    have h := h.2 g6 bx7
    have o_v0 := gr_ob g6 o_v0
    refine r_if_eq (pc := 18) C (tgt := 29) dX11_round_18 (by decide) (fun c8 => ?_) (fun c8 => ?_)
    · have h := h.1 c8
      exact r_sub [0] rfl (T_X11_round_29 C E ht hn h)
    · have h := h.2 c8
      refine r_aload_n (pc := 21) C dX11_round_21 0 rfl ?_
      refine r_iload_n (pc := 22) C dX11_round_22 3 rfl ?_
      refine r_callVi0 (pc := 23) C (rest := []) (a := v0) o_v0 [.int v3] yV_X11_isHour g_1546 (c_X11_isHour h) dX11_round_23 rfl rfl (Nat.le_of_ble_eq_true rfl) ⟨by decide, by decide⟩ ⟨by decide, by decide⟩ ⟨rfl, rfl⟩ (fun x11 S9 h g10 => ?_)
      have bx11 := h.1
      have h := h.2 g10 bx11
      have o_v0 := gr_ob g10 o_v0
      refine r_if_ne (pc := 26) C (tgt := 36) dX11_round_26 (by decide) (fun c12 => ?_) (fun c12 => ?_)
      · have h := h.1 c12
        refine r_aload_n (pc := 36) C dX11_round_36 0 rfl ?_
        refine r_aload_n (pc := 37) C dX11_round_37 0 rfl ?_
        refine r_iload_n (pc := 38) C dX11_round_38 1 rfl ?_
        refine r_iload_n (pc := 39) C dX11_round_39 2 rfl ?_
        refine r_iconst (pc := 40) C (v := (0 : Int32)) dX11_round_40 (by decide) ?_
        refine r_iload_n (pc := 41) C dX11_round_41 3 rfl ?_
        refine r_callVl0 (pc := 42) C (rest := [.ref v0]) (a := v0) o_v0 [.int v1, .int v2, .int (0 : Int32), .int v3] yV_X11_wetAtBest g_1647 (c_X11_wetAtBest h) dX11_round_42 rfl rfl (Nat.le_of_ble_eq_true rfl) ⟨by decide, by decide⟩ ⟨by decide, by decide⟩ ⟨rfl, rfl⟩ (fun x15 S13 h g14 => ?_)
        have h := h g14
        have o_v0 := gr_ob g14 o_v0
        refine r_aload_n (pc := 45) C dX11_round_45 0 rfl ?_
        refine r_iload_n (pc := 46) C dX11_round_46 1 rfl ?_
        refine r_iload_n (pc := 47) C dX11_round_47 2 rfl ?_
        refine r_iconst (pc := 48) C (v := (1 : Int32)) dX11_round_48 (by decide) ?_
        refine r_iload_n (pc := 49) C dX11_round_49 3 rfl ?_
        refine r_callVl0 (pc := 50) C (rest := [.long x15, .ref v0]) (a := v0) o_v0 [.int v1, .int v2, .int (1 : Int32), .int v3] yV_X11_wetAtBest g_1647 (c_X11_wetAtBest h) dX11_round_50 rfl rfl (Nat.le_of_ble_eq_true rfl) ⟨by decide, by decide⟩ ⟨by decide, by decide⟩ ⟨rfl, rfl⟩ (fun x18 S16 h g17 => ?_)
        have h := h g17
        have o_v0 := gr_ob g17 o_v0
        refine r_ladd (pc := 53) C dX11_round_53 ?_
        refine r_ldc2 (pc := 54) C (v := (2520 : Int64)) dX11_round_54 g_1585 ?_
        refine r_iload (pc := 57) C dX11_round_57 4 rfl ?_
        refine r_callVl0 (pc := 59) C (rest := []) (a := v0) o_v0 [.long (x15 + x18), .long (2520 : Int64), .int v4] yV_X11_told g_1586 (c_X11_told h) dX11_round_59 rfl rfl (Nat.le_of_ble_eq_true rfl) ⟨by decide, by decide⟩ ⟨by decide, by decide⟩ ⟨rfl, rfl⟩ (fun x21 S19 h g20 => ?_)
        have h := h g20
        have o_v0 := gr_ob g20 o_v0
        exact r_lret (pc := 62) C E ht dX11_round_62 (by decide) (by decide) h
      · have h := h.2 c12
        exact r_sub [0] rfl (T_X11_round_29 C E ht hn h)
def P_X11_round (v0 : Nat) (v1 : Int32) (v2 : Int32) (v3 : Int32) (v4 : Int32) (Q : Int64 → HS → Prop) (S : HS) : Prop := P_X11_round_0 Q v0 v1 v2 v3 v4 S
theorem c_X11_round {l : Launch} {Ee : EE} {S : HS} {v0 : Nat} {v1 : Int32} {v2 : Int32} {v3 : Int32} {v4 : Int32} {Q : Int64 → HS → Prop} (h : P_X11_round v0 v1 v2 v3 v4 Q S) : MJ l yX11_round cX11_round 5 (some .long) rm_X11_round Ee S [.ref v0, .int v1, .int v2, .int v3, .int v4] Q :=
  openJ (by decide) (Nat.le_of_ble_eq_true rfl) (fun X C E ht hn hE hl => by subst hE; exact r_sub [0, 1, 2, 3, 4] rfl (T_X11_round_0 C E ht hn h))
def rm_X11_saves : Room := { frames := 7, cells := 0, slots := 0, locals := 189 }
def P_X11_saves_39 (Q : Int64 → HS → Prop) (v0 : Nat) (S : HS) : Prop := ob S v0 11 ∧ (P_X11_refused v0 (1 : Int32) (fun x3 S1 => Gr S S1 → (Q x3.toInt64 S1)) S)
set_option maxRecDepth 20000 in
set_option maxHeartbeats 4000000 in
theorem T_X11_saves_39 {X : CX} {Q : Int64 → HS → Prop} (C : Cx X cX11_saves RX11 6 rm_X11_saves) (E : ReJ X rm_X11_saves Q) (ht : (xh X).sig.returnType = (some .long)) (hn : (xh X).name = yX11_saves.name) {v0 : Nat} {S : HS} (h : P_X11_saves_39 Q v0 S) : WS X 6 0 0 39 [(0, .ref v0)] [] S := by
  refine r_aload_n (pc := 39) C dX11_saves_39 0 rfl ?_
  refine r_iconst (pc := 40) C (v := (1 : Int32)) dX11_saves_40 (by decide) ?_
  obtain ⟨o_v0, h⟩ := h
  refine r_callVi0 (pc := 41) C (rest := []) (a := v0) o_v0 [.int (1 : Int32)] yV_X11_refused g_1250 (c_X11_refused h) dX11_saves_41 rfl rfl (Nat.le_of_ble_eq_true rfl) ⟨by decide, by decide⟩ ⟨by decide, by decide⟩ ⟨rfl, rfl⟩ (fun x3 S1 h g2 => ?_)
  have h := h g2
  have o_v0 := gr_ob g2 o_v0
  refine r_i2l (pc := 44) C dX11_saves_44 ?_
  exact r_lret (pc := 45) C E ht dX11_saves_45 (by decide) (by decide) h
def P_X11_saves_0 (Q : Int64 → HS → Prop) (v0 : Nat) (v1 : Int32) (v2 : Int32) (v3 : Int32) (v4 : Int32) (v5 : Int32) (S : HS) : Prop := ob S v0 11 ∧ (P_X11_isWalker v0 v1 (fun x3 S1 => Gr (sI S v0 0 (0 : Int32)) S1 → bl x3 → (((x3 = 0) → (P_X11_saves_39 Q v0 S1)) ∧ ((¬ x3 = 0) → (P_X11_isRoad v0 v2 (fun x7 S5 => Gr S1 S5 → bl x7 → (((x7 = 0) → (P_X11_saves_39 Q v0 S5)) ∧ ((¬ x7 = 0) → (P_X11_in v3 (0 : Int32) (1 : Int32) (fun x11 S9 => Gr S5 S9 → bl x11 → (((x11 = 0) → (P_X11_saves_39 Q v0 S9)) ∧ ((¬ x11 = 0) → (P_X11_isHour v0 v4 (fun x15 S13 => Gr S9 S13 → bl x15 → (((¬ x15 = 0) → (∃ a17 : Nat, fR S13 v0 3 = some a17 ∧ (ob S13 a17 10 ∧ (∃ a18 : Nat, fR S13 a17 24 = some a18 ∧ (ob S13 a18 13 ∧ (vp_in v1 (hN S13 a18) ∧ ∀ x20 : Int32, x20 = fI S13 a18 v1.toNatClampNeg → (P_X11_wetOf v0 v1 v2 v3 v4 x20 (fun x23 S21 => Gr S13 S21 → (P_X11_bestOf v0 v1 v2 v3 v4 (fun x26 S24 => Gr S21 S24 → (P_X11_wetOf v0 v1 v2 v3 v4 x26 (fun x29 S27 => Gr S24 S27 → (P_X11_told v0 (x23 - x29) (2520 : Int64) v5 (fun x32 S30 => Gr S27 S30 → (Q x32 S30)) S27)) S24)) S21)) S13))))))) ∧ ((x15 = 0) → (P_X11_saves_39 Q v0 S13)))) S9)))) S5)))) S1)))) (sI S v0 0 (0 : Int32)))
set_option maxRecDepth 20000 in
set_option maxHeartbeats 4000000 in
theorem T_X11_saves_0 {X : CX} {Q : Int64 → HS → Prop} (C : Cx X cX11_saves RX11 6 rm_X11_saves) (E : ReJ X rm_X11_saves Q) (ht : (xh X).sig.returnType = (some .long)) (hn : (xh X).name = yX11_saves.name) {v0 : Nat} {v1 : Int32} {v2 : Int32} {v3 : Int32} {v4 : Int32} {v5 : Int32} {S : HS} (h : P_X11_saves_0 Q v0 v1 v2 v3 v4 v5 S) : WS X 6 0 0 0 [(0, .ref v0), (1, .int v1), (2, .int v2), (3, .int v3), (4, .int v4), (5, .int v5)] [] S := by
  refine r_aload_n (pc := 0) C dX11_saves_0 0 rfl ?_
  refine r_iconst (pc := 1) C (v := (0 : Int32)) dX11_saves_1 (by decide) ?_
  obtain ⟨o_v0, h⟩ := h
  refine r_puti (pc := 2) C pfL_X11_40 dX11_saves_2 o_v0 ?_
  refine r_aload_n (pc := 5) C dX11_saves_5 0 rfl ?_
  refine r_iload_n (pc := 6) C dX11_saves_6 1 rfl ?_
  refine r_callVi0 (pc := 7) C (rest := []) (a := v0) o_v0 [.int v1] yV_X11_isWalker g_1538 (c_X11_isWalker h) dX11_saves_7 rfl rfl (Nat.le_of_ble_eq_true rfl) ⟨by decide, by decide⟩ ⟨by decide, by decide⟩ ⟨rfl, rfl⟩ (fun x3 S1 h g2 => ?_)
  have bx3 := h.1
  have h := h.2 g2 bx3
  have o_v0 := gr_ob g2 o_v0
  refine r_if_eq (pc := 10) C (tgt := 39) dX11_saves_10 (by decide) (fun c4 => ?_) (fun c4 => ?_)
  · have h := h.1 c4
    exact r_sub [0] rfl (T_X11_saves_39 C E ht hn h)
  · have h := h.2 c4
    refine r_aload_n (pc := 13) C dX11_saves_13 0 rfl ?_
    refine r_iload_n (pc := 14) C dX11_saves_14 2 rfl ?_
    refine r_callVi0 (pc := 15) C (rest := []) (a := v0) o_v0 [.int v2] yV_X11_isRoad g_1542 (c_X11_isRoad h) dX11_saves_15 rfl rfl (Nat.le_of_ble_eq_true rfl) ⟨by decide, by decide⟩ ⟨by decide, by decide⟩ ⟨rfl, rfl⟩ (fun x7 S5 h g6 => ?_)
    have bx7 := h.1
    have h := h.2 g6 bx7
    have o_v0 := gr_ob g6 o_v0
    refine r_if_eq (pc := 18) C (tgt := 39) dX11_saves_18 (by decide) (fun c8 => ?_) (fun c8 => ?_)
    · have h := h.1 c8
      exact r_sub [0] rfl (T_X11_saves_39 C E ht hn h)
    · have h := h.2 c8
      refine r_iload_n (pc := 21) C dX11_saves_21 3 rfl ?_
      refine r_iconst (pc := 22) C (v := (0 : Int32)) dX11_saves_22 (by decide) ?_
      refine r_iconst (pc := 23) C (v := (1 : Int32)) dX11_saves_23 (by decide) ?_
      refine r_callSi0 (pc := 24) C (rest := []) rfl [.int v3, .int (0 : Int32), .int (1 : Int32)] yS_X11_in g_1434 (c_X11_in h) dX11_saves_24 rfl rfl (Nat.le_of_ble_eq_true rfl) ⟨by decide, by decide⟩ ⟨by decide, by decide⟩ ⟨rfl, rfl⟩ (fun x11 S9 h g10 => ?_)
      have bx11 := h.1
      have h := h.2 g10 bx11
      have o_v0 := gr_ob g10 o_v0
      refine r_if_eq (pc := 27) C (tgt := 39) dX11_saves_27 (by decide) (fun c12 => ?_) (fun c12 => ?_)
      · have h := h.1 c12
        exact r_sub [0] rfl (T_X11_saves_39 C E ht hn h)
      · have h := h.2 c12
        refine r_aload_n (pc := 30) C dX11_saves_30 0 rfl ?_
        refine r_iload (pc := 31) C dX11_saves_31 4 rfl ?_
        refine r_callVi0 (pc := 33) C (rest := []) (a := v0) o_v0 [.int v4] yV_X11_isHour g_1546 (c_X11_isHour h) dX11_saves_33 rfl rfl (Nat.le_of_ble_eq_true rfl) ⟨by decide, by decide⟩ ⟨by decide, by decide⟩ ⟨rfl, rfl⟩ (fun x15 S13 h g14 => ?_)
        have bx15 := h.1
        have h := h.2 g14 bx15
        have o_v0 := gr_ob g14 o_v0
        refine r_if_ne (pc := 36) C (tgt := 46) dX11_saves_36 (by decide) (fun c16 => ?_) (fun c16 => ?_)
        · have h := h.1 c16
          refine r_aload_n (pc := 46) C dX11_saves_46 0 rfl ?_
          refine r_aload_n (pc := 47) C dX11_saves_47 0 rfl ?_
          refine r_iload_n (pc := 48) C dX11_saves_48 1 rfl ?_
          refine r_iload_n (pc := 49) C dX11_saves_49 2 rfl ?_
          refine r_iload_n (pc := 50) C dX11_saves_50 3 rfl ?_
          refine r_iload (pc := 51) C dX11_saves_51 4 rfl ?_
          refine r_aload_n (pc := 53) C dX11_saves_53 0 rfl ?_
          obtain ⟨a17, ea17, h⟩ := h
          refine r_getr (pc := 54) C fL_X11_338 dX11_saves_54 o_v0 ea17 ?_
          obtain ⟨o_a17, h⟩ := h
          obtain ⟨a18, ea18, h⟩ := h
          refine r_getNr (pc := 57) C fN_X11_317 dX11_saves_57 o_a17 ea18 ?_
          refine r_iload_n (pc := 60) C dX11_saves_60 1 rfl ?_
          obtain ⟨o_a18, h⟩ := h
          obtain ⟨i19, h⟩ := h
          refine r_iald (pc := 61) C dX11_saves_61 o_a18 i19 ?_
          refine r_topi (fun x20 ex20 => ?_)
          have h := h x20 ex20
          refine r_callVl0 (pc := 62) C (rest := [.ref v0]) (a := v0) o_v0 [.int v1, .int v2, .int v3, .int v4, .int x20] yV_X11_wetOf g_1594 (c_X11_wetOf h) dX11_saves_62 rfl rfl (Nat.le_of_ble_eq_true rfl) ⟨by decide, by decide⟩ ⟨by decide, by decide⟩ ⟨rfl, rfl⟩ (fun x23 S21 h g22 => ?_)
          have h := h g22
          have o_a17 := gr_ob g22 o_a17
          have o_a18 := gr_ob g22 o_a18
          have o_v0 := gr_ob g22 o_v0
          refine r_aload_n (pc := 65) C dX11_saves_65 0 rfl ?_
          refine r_iload_n (pc := 66) C dX11_saves_66 1 rfl ?_
          refine r_iload_n (pc := 67) C dX11_saves_67 2 rfl ?_
          refine r_iload_n (pc := 68) C dX11_saves_68 3 rfl ?_
          refine r_iload (pc := 69) C dX11_saves_69 4 rfl ?_
          refine r_aload_n (pc := 71) C dX11_saves_71 0 rfl ?_
          refine r_iload_n (pc := 72) C dX11_saves_72 1 rfl ?_
          refine r_iload_n (pc := 73) C dX11_saves_73 2 rfl ?_
          refine r_iload_n (pc := 74) C dX11_saves_74 3 rfl ?_
          refine r_iload (pc := 75) C dX11_saves_75 4 rfl ?_
          refine r_callVi0 (pc := 77) C (rest := [.int v4, .int v3, .int v2, .int v1, .ref v0, .long x23, .ref v0]) (a := v0) o_v0 [.int v1, .int v2, .int v3, .int v4] yV_X11_bestOf g_1627 (c_X11_bestOf h) dX11_saves_77 rfl rfl (Nat.le_of_ble_eq_true rfl) ⟨by decide, by decide⟩ ⟨by decide, by decide⟩ ⟨rfl, rfl⟩ (fun x26 S24 h g25 => ?_)
          have h := h g25
          have o_a17 := gr_ob g25 o_a17
          have o_a18 := gr_ob g25 o_a18
          have o_v0 := gr_ob g25 o_v0
          refine r_callVl0 (pc := 80) C (rest := [.long x23, .ref v0]) (a := v0) o_v0 [.int v1, .int v2, .int v3, .int v4, .int x26] yV_X11_wetOf g_1594 (c_X11_wetOf h) dX11_saves_80 rfl rfl (Nat.le_of_ble_eq_true rfl) ⟨by decide, by decide⟩ ⟨by decide, by decide⟩ ⟨rfl, rfl⟩ (fun x29 S27 h g28 => ?_)
          have h := h g28
          have o_a17 := gr_ob g28 o_a17
          have o_a18 := gr_ob g28 o_a18
          have o_v0 := gr_ob g28 o_v0
          refine r_lsub (pc := 83) C dX11_saves_83 ?_
          refine r_ldc2 (pc := 84) C (v := (2520 : Int64)) dX11_saves_84 g_1585 ?_
          refine r_iload (pc := 87) C dX11_saves_87 5 rfl ?_
          refine r_callVl0 (pc := 89) C (rest := []) (a := v0) o_v0 [.long (x23 - x29), .long (2520 : Int64), .int v5] yV_X11_told g_1586 (c_X11_told h) dX11_saves_89 rfl rfl (Nat.le_of_ble_eq_true rfl) ⟨by decide, by decide⟩ ⟨by decide, by decide⟩ ⟨rfl, rfl⟩ (fun x32 S30 h g31 => ?_)
          have h := h g31
          have o_a17 := gr_ob g31 o_a17
          have o_a18 := gr_ob g31 o_a18
          have o_v0 := gr_ob g31 o_v0
          exact r_lret (pc := 92) C E ht dX11_saves_92 (by decide) (by decide) h
        · have h := h.2 c16
          exact r_sub [0] rfl (T_X11_saves_39 C E ht hn h)
def P_X11_saves (v0 : Nat) (v1 : Int32) (v2 : Int32) (v3 : Int32) (v4 : Int32) (v5 : Int32) (Q : Int64 → HS → Prop) (S : HS) : Prop := P_X11_saves_0 Q v0 v1 v2 v3 v4 v5 S
theorem c_X11_saves {l : Launch} {Ee : EE} {S : HS} {v0 : Nat} {v1 : Int32} {v2 : Int32} {v3 : Int32} {v4 : Int32} {v5 : Int32} {Q : Int64 → HS → Prop} (h : P_X11_saves v0 v1 v2 v3 v4 v5 Q S) : MJ l yX11_saves cX11_saves 6 (some .long) rm_X11_saves Ee S [.ref v0, .int v1, .int v2, .int v3, .int v4, .int v5] Q :=
  openJ (by decide) (Nat.le_of_ble_eq_true rfl) (fun X C E ht hn hE hl => by subst hE; exact r_sub [0, 1, 2, 3, 4, 5] rfl (T_X11_saves_0 C E ht hn h))
def rm_X11_size : Room := { frames := 1, cells := 0, slots := 0, locals := 22 }
def P_X11_size_0 (Q : Int32 → HS → Prop) (v0 : Nat) (v1 : Int32) (S : HS) : Prop := ob S v0 11 ∧ (((¬ v1 = (11 : Int32)) → (P_X11_in v1 (0 : Int32) (10 : Int32) (fun x4 S2 => Gr (sI S v0 0 (0 : Int32)) S2 → bl x4 → (((¬ x4 = 0) → ((fR S2 v0 3 = none → (Q (0 : Int32) S2)) ∧ (∀ a6 : Nat, fR S2 v0 3 = some a6 → ((v1.toInt < 0 ∨ 9 < v1.toInt → (∀ x9 : Int32, x9 = fI S2 v0 25 → (Q x9 S2))) ∧ (v1.toInt = 0 → (∃ a10 : Nat, fR S2 v0 3 = some a10 ∧ (ob S2 a10 10 ∧ (∀ x11 : Int32, x11 = fI S2 a10 0 → (Q x11 S2))))) ∧ (v1.toInt = 1 → (∃ a12 : Nat, fR S2 v0 3 = some a12 ∧ (ob S2 a12 10 ∧ (∀ x13 : Int32, x13 = fI S2 a12 1 → (Q x13 S2))))) ∧ (v1.toInt = 2 → (∃ a14 : Nat, fR S2 v0 3 = some a14 ∧ (ob S2 a14 10 ∧ (∀ x15 : Int32, x15 = fI S2 a14 2 → (Q x15 S2))))) ∧ (v1.toInt = 3 → (∃ a16 : Nat, fR S2 v0 3 = some a16 ∧ (ob S2 a16 10 ∧ (∀ x17 : Int32, x17 = fI S2 a16 3 → (Q x17 S2))))) ∧ (v1.toInt = 4 → (∃ a18 : Nat, fR S2 v0 3 = some a18 ∧ (ob S2 a18 10 ∧ (∀ x19 : Int32, x19 = fI S2 a18 4 → (Q x19 S2))))) ∧ (v1.toInt = 5 → (∃ a20 : Nat, fR S2 v0 3 = some a20 ∧ (ob S2 a20 10 ∧ (∀ x21 : Int32, x21 = fI S2 a20 5 → (Q x21 S2))))) ∧ (v1.toInt = 6 → (∀ x22 : Int32, x22 = fI S2 v0 19 → (Q x22 S2))) ∧ (v1.toInt = 7 → (P_X11_isDay v0 (fun x25 S23 => Gr S2 S23 → bl x25 → (((x25 = 0) → (Q (-2 : Int32) S23)) ∧ ((¬ x25 = 0) → (∃ a27 : Nat, fR S23 v0 21 = some a27 ∧ (ob S23 a27 14 ∧ (vp_in (0 : Int32) (hN S23 a27) ∧ ∀ x29 : Int64, x29 = fJ S23 a27 (0 : Int32).toNatClampNeg → (Q x29.toInt32 S23))))))) S2)) ∧ (v1.toInt = 8 → (P_X11_isDay v0 (fun x32 S30 => Gr S2 S30 → bl x32 → (((x32 = 0) → (Q (0 : Int32) S30)) ∧ ((¬ x32 = 0) → (∃ a34 : Nat, fR S30 v0 21 = some a34 ∧ (ob S30 a34 14 ∧ (vp_in (1 : Int32) (hN S30 a34) ∧ ∀ x36 : Int64, x36 = fJ S30 a34 (1 : Int32).toNatClampNeg → (Q x36.toInt32 S30))))))) S2)) ∧ (v1.toInt = 9 → (∀ x37 : Int32, x37 = fI S2 v0 24 → (Q x37 S2))))))) ∧ ((x4 = 0) → (Q (-1 : Int32) S2)))) (sI S v0 0 (0 : Int32)))) ∧ ((v1 = (11 : Int32)) → (∀ x38 : Int32, x38 = fI (sI S v0 0 (0 : Int32)) v0 6 → (Q x38 (sI S v0 0 (0 : Int32))))))
set_option maxRecDepth 20000 in
set_option maxHeartbeats 4000000 in
theorem T_X11_size_0 {X : CX} {Q : Int32 → HS → Prop} (C : Cx X cX11_size RX11 2 rm_X11_size) (E : ReI X rm_X11_size Q) (ht : (xh X).sig.returnType = (some .int)) (hn : (xh X).name = yX11_size.name) {v0 : Nat} {v1 : Int32} {S : HS} (h : P_X11_size_0 Q v0 v1 S) : WS X 2 0 0 0 [(0, .ref v0), (1, .int v1)] [] S := by
  refine r_aload_n (pc := 0) C dX11_size_0 0 rfl ?_
  refine r_iconst (pc := 1) C (v := (0 : Int32)) dX11_size_1 (by decide) ?_
  obtain ⟨o_v0, h⟩ := h
  refine r_puti (pc := 2) C pfL_X11_40 dX11_size_2 o_v0 ?_
  refine r_iload_n (pc := 5) C dX11_size_5 1 rfl ?_
  refine r_bipush (pc := 6) C (v := (11 : Int32)) dX11_size_6 (by decide) ?_
  refine r_icmp_ne (pc := 8) C (tgt := 16) dX11_size_8 (by decide) (fun c1 => ?_) (fun c1 => ?_)
  · have h := h.1 c1
    refine r_iload_n (pc := 16) C dX11_size_16 1 rfl ?_
    refine r_iconst (pc := 17) C (v := (0 : Int32)) dX11_size_17 (by decide) ?_
    refine r_bipush (pc := 18) C (v := (10 : Int32)) dX11_size_18 (by decide) ?_
    refine r_callSi0 (pc := 20) C (rest := []) rfl [.int v1, .int (0 : Int32), .int (10 : Int32)] yS_X11_in g_1434 (c_X11_in h) dX11_size_20 rfl rfl (Nat.le_of_ble_eq_true rfl) ⟨by decide, by decide⟩ ⟨by decide, by decide⟩ ⟨rfl, rfl⟩ (fun x4 S2 h g3 => ?_)
    have bx4 := h.1
    have h := h.2 g3 bx4
    have o_v0 := gr_ob g3 o_v0
    refine r_if_ne (pc := 23) C (tgt := 28) dX11_size_23 (by decide) (fun c5 => ?_) (fun c5 => ?_)
    · have h := h.1 c5
      refine r_aload_n (pc := 28) C dX11_size_28 0 rfl ?_
      rcases e7 : fR S2 v0 3 with _ | a6
      · refine r_get0 (pc := 29) C fL_X11_338 dX11_size_29 o_v0 e7 ?_
        refine r_ifnonnull0 (pc := 32) C dX11_size_32 ?_
        have h := h.1 e7
        refine r_iconst (pc := 35) C (v := (0 : Int32)) dX11_size_35 (by decide) ?_
        exact r_iret (pc := 36) C E ht dX11_size_36 (by decide) (by decide) h
      · refine r_getr (pc := 29) C fL_X11_338 dX11_size_29 o_v0 e7 ?_
        refine r_ifnonnull (pc := 32) C (tgt := 37) dX11_size_32 (by decide) ?_
        have h := h.2 a6 e7
        refine r_iload_n (pc := 37) C dX11_size_37 1 rfl ?_
        refine r_table (pc := 38) C (tgt := 189) dX11_size_38 (by decide) (fun c8 => ?_) (fun j hj hx => ?_)
        · have h := h.1 c8
          refine r_aload_n (pc := 189) C dX11_size_189 0 rfl ?_
          refine r_geti (pc := 190) C fL_X11_343 dX11_size_190 o_v0 ?_
          refine r_topi (fun x9 ex9 => ?_)
          have h := h x9 ex9
          exact r_iret (pc := 193) C E ht dX11_size_193 (by decide) (by decide) h
        · match j, hj, hx with
          | 0, _, hx =>
            refine ⟨54, 92, rfl, by decide, ?_⟩
            have h := h.2.1 (by simpa using hx)
            refine r_aload_n (pc := 92) C dX11_size_92 0 rfl ?_
            obtain ⟨a10, ea10, h⟩ := h
            refine r_getr (pc := 93) C fL_X11_338 dX11_size_93 o_v0 ea10 ?_
            obtain ⟨o_a10, h⟩ := h
            refine r_getNi (pc := 96) C fN_X11_151 dX11_size_96 o_a10 ?_
            refine r_topi (fun x11 ex11 => ?_)
            have h := h x11 ex11
            exact r_iret (pc := 99) C E ht dX11_size_99 (by decide) (by decide) h
          | 1, _, hx =>
            refine ⟨62, 100, rfl, by decide, ?_⟩
            have h := h.2.2.1 (by simpa using hx)
            refine r_aload_n (pc := 100) C dX11_size_100 0 rfl ?_
            obtain ⟨a12, ea12, h⟩ := h
            refine r_getr (pc := 101) C fL_X11_338 dX11_size_101 o_v0 ea12 ?_
            obtain ⟨o_a12, h⟩ := h
            refine r_getNi (pc := 104) C fN_X11_219 dX11_size_104 o_a12 ?_
            refine r_topi (fun x13 ex13 => ?_)
            have h := h x13 ex13
            exact r_iret (pc := 107) C E ht dX11_size_107 (by decide) (by decide) h
          | 2, _, hx =>
            refine ⟨70, 108, rfl, by decide, ?_⟩
            have h := h.2.2.2.1 (by simpa using hx)
            refine r_aload_n (pc := 108) C dX11_size_108 0 rfl ?_
            obtain ⟨a14, ea14, h⟩ := h
            refine r_getr (pc := 109) C fL_X11_338 dX11_size_109 o_v0 ea14 ?_
            obtain ⟨o_a14, h⟩ := h
            refine r_getNi (pc := 112) C fN_X11_190 dX11_size_112 o_a14 ?_
            refine r_topi (fun x15 ex15 => ?_)
            have h := h x15 ex15
            exact r_iret (pc := 115) C E ht dX11_size_115 (by decide) (by decide) h
          | 3, _, hx =>
            refine ⟨78, 116, rfl, by decide, ?_⟩
            have h := h.2.2.2.2.1 (by simpa using hx)
            refine r_aload_n (pc := 116) C dX11_size_116 0 rfl ?_
            obtain ⟨a16, ea16, h⟩ := h
            refine r_getr (pc := 117) C fL_X11_338 dX11_size_117 o_v0 ea16 ?_
            obtain ⟨o_a16, h⟩ := h
            refine r_getNi (pc := 120) C fN_X11_264 dX11_size_120 o_a16 ?_
            refine r_topi (fun x17 ex17 => ?_)
            have h := h x17 ex17
            exact r_iret (pc := 123) C E ht dX11_size_123 (by decide) (by decide) h
          | 4, _, hx =>
            refine ⟨86, 124, rfl, by decide, ?_⟩
            have h := h.2.2.2.2.2.1 (by simpa using hx)
            refine r_aload_n (pc := 124) C dX11_size_124 0 rfl ?_
            obtain ⟨a18, ea18, h⟩ := h
            refine r_getr (pc := 125) C fL_X11_338 dX11_size_125 o_v0 ea18 ?_
            obtain ⟨o_a18, h⟩ := h
            refine r_getNi (pc := 128) C fN_X11_193 dX11_size_128 o_a18 ?_
            refine r_topi (fun x19 ex19 => ?_)
            have h := h x19 ex19
            exact r_iret (pc := 131) C E ht dX11_size_131 (by decide) (by decide) h
          | 5, _, hx =>
            refine ⟨94, 132, rfl, by decide, ?_⟩
            have h := h.2.2.2.2.2.2.1 (by simpa using hx)
            refine r_aload_n (pc := 132) C dX11_size_132 0 rfl ?_
            obtain ⟨a20, ea20, h⟩ := h
            refine r_getr (pc := 133) C fL_X11_338 dX11_size_133 o_v0 ea20 ?_
            obtain ⟨o_a20, h⟩ := h
            refine r_getNi (pc := 136) C fN_X11_323 dX11_size_136 o_a20 ?_
            refine r_topi (fun x21 ex21 => ?_)
            have h := h x21 ex21
            exact r_iret (pc := 139) C E ht dX11_size_139 (by decide) (by decide) h
          | 6, _, hx =>
            refine ⟨102, 140, rfl, by decide, ?_⟩
            have h := h.2.2.2.2.2.2.2.1 (by simpa using hx)
            refine r_aload_n (pc := 140) C dX11_size_140 0 rfl ?_
            refine r_geti (pc := 141) C fL_X11_28 dX11_size_141 o_v0 ?_
            refine r_topi (fun x22 ex22 => ?_)
            have h := h x22 ex22
            exact r_iret (pc := 144) C E ht dX11_size_144 (by decide) (by decide) h
          | 7, _, hx =>
            refine ⟨107, 145, rfl, by decide, ?_⟩
            have h := h.2.2.2.2.2.2.2.2.1 (by simpa using hx)
            refine r_aload_n (pc := 145) C dX11_size_145 0 rfl ?_
            refine r_callVi0 (pc := 146) C (rest := []) (a := v0) o_v0 [] yV_X11_isDay g_1779 (c_X11_isDay h) dX11_size_146 rfl rfl (Nat.le_of_ble_eq_true rfl) ⟨by decide, by decide⟩ ⟨by decide, by decide⟩ ⟨rfl, rfl⟩ (fun x25 S23 h g24 => ?_)
            have bx25 := h.1
            have h := h.2 g24 bx25
            have o_v0 := gr_ob g24 o_v0
            refine r_if_eq (pc := 149) C (tgt := 162) dX11_size_149 (by decide) (fun c26 => ?_) (fun c26 => ?_)
            · have h := h.1 c26
              refine r_bipush (pc := 162) C (v := (-2 : Int32)) dX11_size_162 (by decide) ?_
              exact r_iret (pc := 164) C E ht dX11_size_164 (by decide) (by decide) h
            · have h := h.2 c26
              refine r_aload_n (pc := 152) C dX11_size_152 0 rfl ?_
              obtain ⟨a27, ea27, h⟩ := h
              refine r_getr (pc := 153) C fL_X11_31 dX11_size_153 o_v0 ea27 ?_
              refine r_iconst (pc := 156) C (v := (0 : Int32)) dX11_size_156 (by decide) ?_
              obtain ⟨o_a27, h⟩ := h
              obtain ⟨i28, h⟩ := h
              refine r_lald (pc := 157) C dX11_size_157 o_a27 i28 ?_
              refine r_topl (fun x29 ex29 => ?_)
              have h := h x29 ex29
              refine r_l2i (pc := 158) C dX11_size_158 ?_
              refine r_goto (pc := 159) C (tgt := 164) dX11_size_159 (by decide) ?_
              exact r_iret (pc := 164) C E ht dX11_size_164 (by decide) (by decide) h
          | 8, _, hx =>
            refine ⟨127, 165, rfl, by decide, ?_⟩
            have h := h.2.2.2.2.2.2.2.2.2.1 (by simpa using hx)
            refine r_aload_n (pc := 165) C dX11_size_165 0 rfl ?_
            refine r_callVi0 (pc := 166) C (rest := []) (a := v0) o_v0 [] yV_X11_isDay g_1779 (c_X11_isDay h) dX11_size_166 rfl rfl (Nat.le_of_ble_eq_true rfl) ⟨by decide, by decide⟩ ⟨by decide, by decide⟩ ⟨rfl, rfl⟩ (fun x32 S30 h g31 => ?_)
            have bx32 := h.1
            have h := h.2 g31 bx32
            have o_v0 := gr_ob g31 o_v0
            refine r_if_eq (pc := 169) C (tgt := 182) dX11_size_169 (by decide) (fun c33 => ?_) (fun c33 => ?_)
            · have h := h.1 c33
              refine r_iconst (pc := 182) C (v := (0 : Int32)) dX11_size_182 (by decide) ?_
              exact r_iret (pc := 183) C E ht dX11_size_183 (by decide) (by decide) h
            · have h := h.2 c33
              refine r_aload_n (pc := 172) C dX11_size_172 0 rfl ?_
              obtain ⟨a34, ea34, h⟩ := h
              refine r_getr (pc := 173) C fL_X11_31 dX11_size_173 o_v0 ea34 ?_
              refine r_iconst (pc := 176) C (v := (1 : Int32)) dX11_size_176 (by decide) ?_
              obtain ⟨o_a34, h⟩ := h
              obtain ⟨i35, h⟩ := h
              refine r_lald (pc := 177) C dX11_size_177 o_a34 i35 ?_
              refine r_topl (fun x36 ex36 => ?_)
              have h := h x36 ex36
              refine r_l2i (pc := 178) C dX11_size_178 ?_
              refine r_goto (pc := 179) C (tgt := 183) dX11_size_179 (by decide) ?_
              exact r_iret (pc := 183) C E ht dX11_size_183 (by decide) (by decide) h
          | 9, _, hx =>
            refine ⟨146, 184, rfl, by decide, ?_⟩
            have h := h.2.2.2.2.2.2.2.2.2.2 (by simpa using hx)
            refine r_aload_n (pc := 184) C dX11_size_184 0 rfl ?_
            refine r_geti (pc := 185) C fL_X11_340 dX11_size_185 o_v0 ?_
            refine r_topi (fun x37 ex37 => ?_)
            have h := h x37 ex37
            exact r_iret (pc := 188) C E ht dX11_size_188 (by decide) (by decide) h
          | j + 10, hj, _ => exact absurd hj (by omega)
    · have h := h.2 c5
      refine r_iconst (pc := 26) C (v := (-1 : Int32)) dX11_size_26 (by decide) ?_
      exact r_iret (pc := 27) C E ht dX11_size_27 (by decide) (by decide) h
  · have h := h.2 c1
    refine r_aload_n (pc := 11) C dX11_size_11 0 rfl ?_
    refine r_geti (pc := 12) C fL_X11_331 dX11_size_12 o_v0 ?_
    refine r_topi (fun x38 ex38 => ?_)
    have h := h x38 ex38
    exact r_iret (pc := 15) C E ht dX11_size_15 (by decide) (by decide) h
def P_X11_size (v0 : Nat) (v1 : Int32) (Q : Int32 → HS → Prop) (S : HS) : Prop := P_X11_size_0 Q v0 v1 S
theorem c_X11_size {l : Launch} {Ee : EE} {S : HS} {v0 : Nat} {v1 : Int32} {Q : Int32 → HS → Prop} (h : P_X11_size v0 v1 Q S) : MI l yX11_size cX11_size 2 (some .int) rm_X11_size Ee S [.ref v0, .int v1] Q :=
  openI (by decide) (Nat.le_of_ble_eq_true rfl) (fun X C E ht hn hE hl => by subst hE; exact r_sub [0, 1] rfl (T_X11_size_0 C E ht hn h))
