def rm_X9_stay : Room := { frames := 3, cells := 0, slots := 0, locals := 64 }
def P_X9_stay_111 (Q : Int32 → HS → Prop) (X58 : Nat → Int32 → Int64 → Int32 → HS → Prop) (v0 : Nat) (v1 : Int32) (v2 : Int64) (v4 : Int32) (S : HS) : Prop := ob S v0 9 ∧ (∃ a1 : Nat, fR S v0 6 = some a1 ∧ (ob S a1 0 ∧ (∃ a2 : Nat, fR S a1 4 = some a2 ∧ (ob S a2 2 ∧ (∀ x3 : Int32, x3 = fI S a2 1 → (∀ x4 : Int32, x4 = x3 + (1 : Int32) → (∀ x5 : Int32, x5 = v4 + (1 : Int32) → (X58 v0 v1 v2 x5 (sI S a2 1 x4)))))))))
set_option maxRecDepth 20000 in
set_option maxHeartbeats 4000000 in
theorem T_X9_stay_111 {X : CX} {Q : Int32 → HS → Prop} (C : Cx X cX9_stay RX9 5 rm_X9_stay) (E : ReI X rm_X9_stay (fun r S => bl r ∧ Q r S)) (ht : (xh X).sig.returnType = (some .boolean)) (hn : (xh X).name = yX9_stay.name) {X58 : Nat → Int32 → Int64 → Int32 → HS → Prop} (hX58 : ∀ (v0 : Nat) (v1 : Int32) (v2 : Int64) (v4 : Int32) (S : HS), X58 v0 v1 v2 v4 S → WS X 5 0 0 58 [(0, .ref v0), (1, .int v1), (2, .long v2), (4, .int v4)] [] S) {v0 : Nat} {v1 : Int32} {v2 : Int64} {v4 : Int32} {S : HS} (h : P_X9_stay_111 Q X58 v0 v1 v2 v4 S) : WS X 5 0 0 111 [(0, .ref v0), (1, .int v1), (2, .long v2), (4, .int v4)] [] S := by
  refine r_aload_n (pc := 111) C dX9_stay_111 0 rfl ?_
  obtain ⟨o_v0, h⟩ := h
  obtain ⟨a1, ea1, h⟩ := h
  refine r_getr (pc := 112) C fL_X9_44 dX9_stay_112 o_v0 ea1 ?_
  obtain ⟨o_a1, h⟩ := h
  obtain ⟨a2, ea2, h⟩ := h
  refine r_getr (pc := 115) C fL_X9_287 dX9_stay_115 o_a1 ea2 ?_
  refine r_dup (pc := 118) C dX9_stay_118 rfl ?_
  obtain ⟨o_a2, h⟩ := h
  refine r_geti (pc := 119) C fL_X9_296 dX9_stay_119 o_a2 ?_
  refine r_topi (fun x3 ex3 => ?_)
  have h := h x3 ex3
  refine r_iconst (pc := 122) C (v := (1 : Int32)) dX9_stay_122 (by decide) ?_
  refine r_iadd (pc := 123) C dX9_stay_123 ?_
  refine r_topi (fun x4 ex4 => ?_)
  have h := h x4 ex4
  refine r_puti (pc := 124) C pfL_X9_296 dX9_stay_124 o_a2 ?_
  obtain ⟨x5, ex5⟩ : ∃ z : Int32, z = v4 + (1 : Int32) := ⟨_, rfl⟩
  have h := h x5 ex5
  refine r_iinc (pc := 127) C (v := x5) (lv' := [(4, .int x5), (0, .ref v0), (1, .int v1), (2, .long v2)]) dX9_stay_127 3 rfl ex5.symm (by decide) rfl ?_
  refine r_goto (pc := 130) C (tgt := 58) dX9_stay_130 (by decide) ?_
  exact r_sub [1, 2, 3, 0] rfl (hX58 v0 v1 v2 x5 (sI S a2 1 x4) h)
def B_X9_stay_58 (Q : Int32 → HS → Prop) (X58 : Nat → Int32 → Int64 → Int32 → HS → Prop) (v0 : Nat) (v1 : Int32) (v2 : Int64) (v4 : Int32) (S : HS) : Prop := ((v1 ≤ v4) → (Q (1 : Int32) S)) ∧ ((¬ v1 ≤ v4) → (ob S v0 9 ∧ (∃ a2 : Nat, fR S v0 6 = some a2 ∧ (∃ a3 : Nat, fR S v0 2 = some a3 ∧ (∃ a4 : Nat, fR S v0 6 = some a4 ∧ (ob S a4 0 ∧ (∃ a5 : Nat, fR S a4 4 = some a5 ∧ (ob S a5 2 ∧ (∀ x6 : Int32, x6 = fI S a5 1 → (ob S a3 8 ∧ (P_X8_hourOf a3 x6 (fun x9 S7 => Gr S S7 → (ob S7 a2 0 ∧ (P_X0_rainsIn a2 x9 (fun x12 S10 => Gr S7 S10 → bl x12 → (((x12 = 0) → (P_X9_stay_111 Q X58 v0 v1 v2 v4 S10)) ∧ ((¬ x12 = 0) → (∃ a14 : Nat, fR S10 v0 6 = some a14 ∧ (ob S10 a14 0 ∧ (∃ a15 : Nat, fR S10 a14 4 = some a15 ∧ (ob S10 a15 2 ∧ (∃ a16 : Nat, fR S10 a15 2 = some a16 ∧ (ob S10 a16 14 ∧ (vp_in (0 : Int32) (hN S10 a16) ∧ ∀ x18 : Int64, x18 = fJ S10 a16 (0 : Int32).toNatClampNeg → (∀ x20 : Int64, x20 = x18 + (v2 * (2520 : Int64)) → (vp_in (0 : Int32) (hN S10 a16) ∧ (P_X9_stay_111 Q X58 v0 v1 v2 v4 (sJ S10 a16 (0 : Int32).toNatClampNeg x20)))))))))))))) S7))) S)))))))))))
def P_X9_stay_58 (Q : Int32 → HS → Prop) (v0 : Nat) (v1 : Int32) (v2 : Int64) (v4 : Int32) (S : HS) : Prop := ∀ X58 : Nat → Int32 → Int64 → Int32 → HS → Prop, (∀ (v0 : Nat) (v1 : Int32) (v2 : Int64) (v4 : Int32) (S : HS), B_X9_stay_58 Q X58 v0 v1 v2 v4 S → X58 v0 v1 v2 v4 S) → X58 v0 v1 v2 v4 S
set_option maxRecDepth 20000 in
set_option maxHeartbeats 4000000 in
theorem TB_X9_stay_58 {X : CX} {Q : Int32 → HS → Prop} (C : Cx X cX9_stay RX9 5 rm_X9_stay) (E : ReI X rm_X9_stay (fun r S => bl r ∧ Q r S)) (ht : (xh X).sig.returnType = (some .boolean)) (hn : (xh X).name = yX9_stay.name) {X58 : Nat → Int32 → Int64 → Int32 → HS → Prop} (hX58 : ∀ (v0 : Nat) (v1 : Int32) (v2 : Int64) (v4 : Int32) (S : HS), X58 v0 v1 v2 v4 S → WS X 5 0 0 58 [(0, .ref v0), (1, .int v1), (2, .long v2), (4, .int v4)] [] S) {v0 : Nat} {v1 : Int32} {v2 : Int64} {v4 : Int32} {S : HS} (h : B_X9_stay_58 Q X58 v0 v1 v2 v4 S) : WS X 5 0 0 58 [(0, .ref v0), (1, .int v1), (2, .long v2), (4, .int v4)] [] S := by
  refine r_iload (pc := 58) C dX9_stay_58 3 rfl ?_
  refine r_iload_n (pc := 60) C dX9_stay_60 1 rfl ?_
  refine r_icmp_ge (pc := 61) C (tgt := 133) dX9_stay_61 (by decide) (fun c1 => ?_) (fun c1 => ?_)
  · have h := h.1 c1
    refine r_iconst (pc := 133) C (v := (1 : Int32)) dX9_stay_133 (by decide) ?_
    exact r_zret (pc := 134) C E ht dX9_stay_134 (by decide) (by decide) (Or.inr rfl) h
  · have h := h.2 c1
    refine r_aload_n (pc := 64) C dX9_stay_64 0 rfl ?_
    obtain ⟨o_v0, h⟩ := h
    obtain ⟨a2, ea2, h⟩ := h
    refine r_getr (pc := 65) C fL_X9_44 dX9_stay_65 o_v0 ea2 ?_
    refine r_aload_n (pc := 68) C dX9_stay_68 0 rfl ?_
    obtain ⟨a3, ea3, h⟩ := h
    refine r_getr (pc := 69) C fL_X9_16 dX9_stay_69 o_v0 ea3 ?_
    refine r_aload_n (pc := 72) C dX9_stay_72 0 rfl ?_
    obtain ⟨a4, ea4, h⟩ := h
    refine r_getr (pc := 73) C fL_X9_44 dX9_stay_73 o_v0 ea4 ?_
    obtain ⟨o_a4, h⟩ := h
    obtain ⟨a5, ea5, h⟩ := h
    refine r_getr (pc := 76) C fL_X9_287 dX9_stay_76 o_a4 ea5 ?_
    obtain ⟨o_a5, h⟩ := h
    refine r_geti (pc := 79) C fL_X9_296 dX9_stay_79 o_a5 ?_
    refine r_topi (fun x6 ex6 => ?_)
    have h := h x6 ex6
    obtain ⟨o_a3, h⟩ := h
    refine r_callVi0 (pc := 82) C (rest := [.ref a2]) (a := a3) o_a3 [.int x6] yV_X8_hourOf g_994 (c_X8_hourOf h) dX9_stay_82 rfl rfl (Nat.le_of_ble_eq_true rfl) ⟨by decide, by decide⟩ ⟨by decide, by decide⟩ ⟨rfl, rfl⟩ (fun x9 S7 h g8 => ?_)
    have h := h g8
    have o_a3 := gr_ob g8 o_a3
    have o_a4 := gr_ob g8 o_a4
    have o_a5 := gr_ob g8 o_a5
    have o_v0 := gr_ob g8 o_v0
    obtain ⟨o_a2, h⟩ := h
    refine r_callVi0 (pc := 85) C (rest := []) (a := a2) o_a2 [.int x9] yV_X0_rainsIn g_995 (c_X0_rainsIn h) dX9_stay_85 rfl rfl (Nat.le_of_ble_eq_true rfl) ⟨by decide, by decide⟩ ⟨by decide, by decide⟩ ⟨rfl, rfl⟩ (fun x12 S10 h g11 => ?_)
    have bx12 := h.1
    have h := h.2 g11 bx12
    have o_a2 := gr_ob g11 o_a2
    have o_a3 := gr_ob g11 o_a3
    have o_a4 := gr_ob g11 o_a4
    have o_a5 := gr_ob g11 o_a5
    have o_v0 := gr_ob g11 o_v0
    refine r_if_eq (pc := 88) C (tgt := 111) dX9_stay_88 (by decide) (fun c13 => ?_) (fun c13 => ?_)
    · have h := h.1 c13
      exact r_sub [0, 1, 2, 3] rfl (T_X9_stay_111 C E ht hn hX58 h)
    · have h := h.2 c13
      refine r_aload_n (pc := 91) C dX9_stay_91 0 rfl ?_
      obtain ⟨a14, ea14, h⟩ := h
      refine r_getr (pc := 92) C fL_X9_44 dX9_stay_92 o_v0 ea14 ?_
      obtain ⟨o_a14, h⟩ := h
      obtain ⟨a15, ea15, h⟩ := h
      refine r_getr (pc := 95) C fL_X9_287 dX9_stay_95 o_a14 ea15 ?_
      obtain ⟨o_a15, h⟩ := h
      obtain ⟨a16, ea16, h⟩ := h
      refine r_getr (pc := 98) C fL_X9_322 dX9_stay_98 o_a15 ea16 ?_
      refine r_iconst (pc := 101) C (v := (0 : Int32)) dX9_stay_101 (by decide) ?_
      refine r_dup2 (pc := 102) C dX9_stay_102 rfl rfl ?_
      obtain ⟨o_a16, h⟩ := h
      obtain ⟨i17, h⟩ := h
      refine r_lald (pc := 103) C dX9_stay_103 o_a16 i17 ?_
      refine r_topl (fun x18 ex18 => ?_)
      have h := h x18 ex18
      refine r_lload_n (pc := 104) C dX9_stay_104 2 rfl ?_
      refine r_ldc2 (pc := 105) C (v := (2520 : Int64)) dX9_stay_105 g_721 ?_
      refine r_lmul (pc := 108) C dX9_stay_108 ?_
      refine r_ladd (pc := 109) C dX9_stay_109 ?_
      refine r_topl (fun x20 ex20 => ?_)
      have h := h x20 ex20
      obtain ⟨i19, h⟩ := h
      refine r_last (pc := 110) C dX9_stay_110 o_a16 i19 ?_
      exact r_sub [0, 1, 2, 3] rfl (T_X9_stay_111 C E ht hn hX58 h)
theorem T_X9_stay_58 {X : CX} {Q : Int32 → HS → Prop} (C : Cx X cX9_stay RX9 5 rm_X9_stay) (E : ReI X rm_X9_stay (fun r S => bl r ∧ Q r S)) (ht : (xh X).sig.returnType = (some .boolean)) (hn : (xh X).name = yX9_stay.name) {v0 : Nat} {v1 : Int32} {v2 : Int64} {v4 : Int32} {S : HS} (h : P_X9_stay_58 Q v0 v1 v2 v4 S) : WS X 5 0 0 58 [(0, .ref v0), (1, .int v1), (2, .long v2), (4, .int v4)] [] S :=
  h (fun v0 v1 v2 v4 S => WS X 5 0 0 58 [(0, .ref v0), (1, .int v1), (2, .long v2), (4, .int v4)] [] S) (fun v0 v1 v2 v4 S hh => TB_X9_stay_58 C E ht hn (fun v0 v1 v2 v4 S z => z) hh)
def P_X9_stay_0 (Q : Int32 → HS → Prop) (v0 : Nat) (v1 : Int32) (S : HS) : Prop := ob S v0 9 ∧ (P_X9_stayTrouble v0 v1 (fun x3 S1 => Gr S S1 → (P_X9_refusedBy v0 x3 (fun x6 S4 => Gr S1 S4 → bl x6 → (((x6 = 0) → (∃ a8 : Nat, fR S4 v0 6 = some a8 ∧ (ob S4 a8 0 ∧ (P_X0_keepForUndo a8 (fun S9 => Gr S4 S9 → (∃ a12 : Nat, fR S9 v0 2 = some a12 ∧ (∃ a13 : Nat, fR S9 v0 2 = some a13 ∧ (ob S9 a13 8 ∧ (∃ a14 : Nat, fR S9 a13 9 = some a14 ∧ (∃ a15 : Nat, fR S9 v0 6 = some a15 ∧ (ob S9 a15 0 ∧ (∀ x16 : Int32, x16 = fI S9 a15 0 → (ob S9 a14 19 ∧ (vp_in x16 (hN S9 a14) ∧ ∃ a18 : Nat, fR S9 a14 x16.toNatClampNeg = some a18 ∧ (∃ a19 : Nat, fR S9 v0 6 = some a19 ∧ (ob S9 a19 0 ∧ (∃ a20 : Nat, fR S9 a19 4 = some a20 ∧ (ob S9 a20 2 ∧ (∀ x21 : Int32, x21 = fI S9 a20 0 → (ob S9 a12 8 ∧ (P_X8_dripOn a12 a18 x21 (fun x24 S22 => Gr S9 S22 → (∀ x25 : Int64, x25 = x24.toInt64 → (P_X9_stay_58 Q v0 v1 x25 (0 : Int32) S22))) S9))))))))))))))))) S4)))) ∧ ((¬ x6 = 0) → (Q (0 : Int32) S4)))) S1)) S)
set_option maxRecDepth 20000 in
set_option maxHeartbeats 4000000 in
theorem T_X9_stay_0 {X : CX} {Q : Int32 → HS → Prop} (C : Cx X cX9_stay RX9 5 rm_X9_stay) (E : ReI X rm_X9_stay (fun r S => bl r ∧ Q r S)) (ht : (xh X).sig.returnType = (some .boolean)) (hn : (xh X).name = yX9_stay.name) {v0 : Nat} {v1 : Int32} {S : HS} (h : P_X9_stay_0 Q v0 v1 S) : WS X 5 0 0 0 [(0, .ref v0), (1, .int v1)] [] S := by
  refine r_aload_n (pc := 0) C dX9_stay_0 0 rfl ?_
  refine r_aload_n (pc := 1) C dX9_stay_1 0 rfl ?_
  refine r_iload_n (pc := 2) C dX9_stay_2 1 rfl ?_
  obtain ⟨o_v0, h⟩ := h
  refine r_callVi0 (pc := 3) C (rest := [.ref v0]) (a := v0) o_v0 [.int v1] yV_X9_stayTrouble g_1008 (c_X9_stayTrouble h) dX9_stay_3 rfl rfl (Nat.le_of_ble_eq_true rfl) ⟨by decide, by decide⟩ ⟨by decide, by decide⟩ ⟨rfl, rfl⟩ (fun x3 S1 h g2 => ?_)
  have h := h g2
  have o_v0 := gr_ob g2 o_v0
  refine r_callVi0 (pc := 6) C (rest := []) (a := v0) o_v0 [.int x3] yV_X9_refusedBy g_683 (c_X9_refusedBy h) dX9_stay_6 rfl rfl (Nat.le_of_ble_eq_true rfl) ⟨by decide, by decide⟩ ⟨by decide, by decide⟩ ⟨rfl, rfl⟩ (fun x6 S4 h g5 => ?_)
  have bx6 := h.1
  have h := h.2 g5 bx6
  have o_v0 := gr_ob g5 o_v0
  refine r_if_eq (pc := 9) C (tgt := 14) dX9_stay_9 (by decide) (fun c7 => ?_) (fun c7 => ?_)
  · have h := h.1 c7
    refine r_aload_n (pc := 14) C dX9_stay_14 0 rfl ?_
    obtain ⟨a8, ea8, h⟩ := h
    refine r_getr (pc := 15) C fL_X9_44 dX9_stay_15 o_v0 ea8 ?_
    obtain ⟨o_a8, h⟩ := h
    refine r_callVv0 (pc := 18) C (rest := []) (a := a8) o_a8 [] yV_X0_keepForUndo g_986 (c_X0_keepForUndo h) dX9_stay_18 rfl rfl (Nat.le_of_ble_eq_true rfl) ⟨by decide, by decide⟩ ⟨by decide, by decide⟩ ⟨rfl, rfl⟩ (fun S9 h g10 => ?_)
    have h := h g10
    have o_a8 := gr_ob g10 o_a8
    have o_v0 := gr_ob g10 o_v0
    refine r_aload_n (pc := 21) C dX9_stay_21 0 rfl ?_
    obtain ⟨a12, ea12, h⟩ := h
    refine r_getr (pc := 22) C fL_X9_16 dX9_stay_22 o_v0 ea12 ?_
    refine r_aload_n (pc := 25) C dX9_stay_25 0 rfl ?_
    obtain ⟨a13, ea13, h⟩ := h
    refine r_getr (pc := 26) C fL_X9_16 dX9_stay_26 o_v0 ea13 ?_
    obtain ⟨o_a13, h⟩ := h
    obtain ⟨a14, ea14, h⟩ := h
    refine r_getr (pc := 29) C fL_X9_108 dX9_stay_29 o_a13 ea14 ?_
    refine r_aload_n (pc := 32) C dX9_stay_32 0 rfl ?_
    obtain ⟨a15, ea15, h⟩ := h
    refine r_getr (pc := 33) C fL_X9_44 dX9_stay_33 o_v0 ea15 ?_
    obtain ⟨o_a15, h⟩ := h
    refine r_geti (pc := 36) C fL_X9_282 dX9_stay_36 o_a15 ?_
    refine r_topi (fun x16 ex16 => ?_)
    have h := h x16 ex16
    obtain ⟨o_a14, h⟩ := h
    obtain ⟨i17, a18, ea18, h⟩ := h
    refine r_aald19 (pc := 39) C dX9_stay_39 o_a14 i17 ea18 ?_
    refine r_aload_n (pc := 40) C dX9_stay_40 0 rfl ?_
    obtain ⟨a19, ea19, h⟩ := h
    refine r_getr (pc := 41) C fL_X9_44 dX9_stay_41 o_v0 ea19 ?_
    obtain ⟨o_a19, h⟩ := h
    obtain ⟨a20, ea20, h⟩ := h
    refine r_getr (pc := 44) C fL_X9_287 dX9_stay_44 o_a19 ea20 ?_
    obtain ⟨o_a20, h⟩ := h
    refine r_geti (pc := 47) C fL_X9_291 dX9_stay_47 o_a20 ?_
    refine r_topi (fun x21 ex21 => ?_)
    have h := h x21 ex21
    obtain ⟨o_a12, h⟩ := h
    refine r_callVi0 (pc := 50) C (rest := []) (a := a12) o_a12 [.ref a18, .int x21] yV_X8_dripOn g_1013 (c_X8_dripOn h) dX9_stay_50 rfl rfl (Nat.le_of_ble_eq_true rfl) ⟨by decide, by decide⟩ ⟨by decide, by decide⟩ ⟨rfl, rfl⟩ (fun x24 S22 h g23 => ?_)
    have h := h g23
    have o_a12 := gr_ob g23 o_a12
    have o_a13 := gr_ob g23 o_a13
    have o_a14 := gr_ob g23 o_a14
    have o_a15 := gr_ob g23 o_a15
    have o_a19 := gr_ob g23 o_a19
    have o_a20 := gr_ob g23 o_a20
    have o_a8 := gr_ob g23 o_a8
    have o_v0 := gr_ob g23 o_v0
    refine r_i2l (pc := 53) C dX9_stay_53 ?_
    refine r_topl (fun x25 ex25 => ?_)
    have h := h x25 ex25
    refine r_lstore_n (pc := 54) C dX9_stay_54 rfl (by decide) (lv' := [(2, .long x25), (0, .ref v0), (1, .int v1)]) rfl ?_
    refine r_iconst (pc := 55) C (v := (0 : Int32)) dX9_stay_55 (by decide) ?_
    refine r_istore (pc := 56) C dX9_stay_56 (by decide) (lv' := [(4, .int (0 : Int32)), (2, .long x25), (0, .ref v0), (1, .int v1)]) rfl ?_
    exact r_sub [2, 3, 1, 0] rfl (T_X9_stay_58 C E ht hn h)
  · have h := h.2 c7
    refine r_iconst (pc := 12) C (v := (0 : Int32)) dX9_stay_12 (by decide) ?_
    exact r_zret (pc := 13) C E ht dX9_stay_13 (by decide) (by decide) (Or.inl rfl) h
def P_X9_stay (v0 : Nat) (v1 : Int32) (Q : Int32 → HS → Prop) (S : HS) : Prop := P_X9_stay_0 Q v0 v1 S
theorem c_X9_stay {l : Launch} {Ee : EE} {S : HS} {v0 : Nat} {v1 : Int32} {Q : Int32 → HS → Prop} (h : P_X9_stay v0 v1 Q S) : MI l yX9_stay cX9_stay 5 (some .boolean) rm_X9_stay Ee S [.ref v0, .int v1] (fun r S => bl r ∧ Q r S) :=
  openI (by decide) (Nat.le_of_ble_eq_true rfl) (fun X C E ht hn hE hl => by subst hE; exact r_sub [0, 1] rfl (T_X9_stay_0 C E ht hn h))
def rm_X9_step : Room := { frames := 7, cells := 8, slots := 7937, locals := 186 }
def P_X9_step_61 (Q : Int32 → HS → Prop) (v0 : Nat) (S : HS) : Prop := ob S v0 9 ∧ (P_X9_refuse v0 (1 : Int32) (fun x3 S1 => Gr S S1 → (Q x3 S1)) S)
set_option maxRecDepth 20000 in
set_option maxHeartbeats 4000000 in
theorem T_X9_step_61 {X : CX} {Q : Int32 → HS → Prop} (C : Cx X cX9_step RX9 8 rm_X9_step) (E : ReI X rm_X9_step Q) (ht : (xh X).sig.returnType = (some .int)) (hn : (xh X).name = yX9_step.name) {v0 : Nat} {S : HS} (h : P_X9_step_61 Q v0 S) : WS X 8 8 7937 61 [(0, .ref v0)] [] S := by
  refine r_aload_n (pc := 61) C dX9_step_61 0 rfl ?_
  refine r_iconst (pc := 62) C (v := (1 : Int32)) dX9_step_62 (by decide) ?_
  obtain ⟨o_v0, h⟩ := h
  refine r_callVi0 (pc := 63) C (rest := []) (a := v0) o_v0 [.int (1 : Int32)] yV_X9_refuse g_430 (c_X9_refuse h) dX9_step_63 rfl rfl (Nat.le_of_ble_eq_true rfl) ⟨by decide, by decide⟩ ⟨by decide, by decide⟩ ⟨rfl, rfl⟩ (fun x3 S1 h g2 => ?_)
  have h := h g2
  have o_v0 := gr_ob g2 o_v0
  exact r_iret (pc := 66) C E ht dX9_step_66 (by decide) (by decide) h
def P_X9_step_0 (Q : Int32 → HS → Prop) (v0 : Nat) (v1 : Int32) (v2 : Int32) (v3 : Int32) (v4 : Int32) (v5 : Int32) (v6 : Int32) (S : HS) : Prop := ob S v0 9 ∧ (P_X9_wayTrouble v0 v1 v2 v3 v4 v5 (fun x3 S1 => Gr S S1 → (P_X9_refusedBy v0 x3 (fun x6 S4 => Gr S1 S4 → bl x6 → (((x6 = 0) → (∃ a8 : Nat, fR S4 v0 5 = some a8 ∧ (∃ a9 : Nat, fR S4 v0 2 = some a9 ∧ (ob S4 a8 7 ∧ (P_X7_trace a8 a9 v2 v4 (fun x12 S10 => Gr S4 S10 → (((v6 < 0) → (P_X9_step_61 Q v0 S10)) ∧ ((¬ v6 < 0) → (((x12 ≤ v6) → (P_X9_step_61 Q v0 S10)) ∧ ((¬ x12 ≤ v6) → (∃ a15 : Nat, fR S10 v0 5 = some a15 ∧ (ob S10 a15 7 ∧ (∃ a16 : Nat, fR S10 a15 0 = some a16 ∧ (ob S10 a16 13 ∧ (((v6 < (nI (hN S10 a16))) → (∃ a18 : Nat, fR S10 v0 5 = some a18 ∧ (ob S10 a18 7 ∧ (∃ a19 : Nat, fR S10 a18 0 = some a19 ∧ (ob S10 a19 13 ∧ (vp_in v6 (hN S10 a19) ∧ ∀ x21 : Int32, x21 = fI S10 a19 v6.toNatClampNeg → (Q x21 S10))))))) ∧ ((¬ v6 < (nI (hN S10 a16))) → (P_X9_step_61 Q v0 S10)))))))))))) S4))))) ∧ ((¬ x6 = 0) → (Q (-1 : Int32) S4)))) S1)) S)
set_option maxRecDepth 20000 in
set_option maxHeartbeats 4000000 in
theorem T_X9_step_0 {X : CX} {Q : Int32 → HS → Prop} (C : Cx X cX9_step RX9 8 rm_X9_step) (E : ReI X rm_X9_step Q) (ht : (xh X).sig.returnType = (some .int)) (hn : (xh X).name = yX9_step.name) {v0 : Nat} {v1 : Int32} {v2 : Int32} {v3 : Int32} {v4 : Int32} {v5 : Int32} {v6 : Int32} {S : HS} (h : P_X9_step_0 Q v0 v1 v2 v3 v4 v5 v6 S) : WS X 8 0 0 0 [(0, .ref v0), (1, .int v1), (2, .int v2), (3, .int v3), (4, .int v4), (5, .int v5), (6, .int v6)] [] S := by
  refine r_aload_n (pc := 0) C dX9_step_0 0 rfl ?_
  refine r_aload_n (pc := 1) C dX9_step_1 0 rfl ?_
  refine r_iload_n (pc := 2) C dX9_step_2 1 rfl ?_
  refine r_iload_n (pc := 3) C dX9_step_3 2 rfl ?_
  refine r_iload_n (pc := 4) C dX9_step_4 3 rfl ?_
  refine r_iload (pc := 5) C dX9_step_5 4 rfl ?_
  refine r_iload (pc := 7) C dX9_step_7 5 rfl ?_
  obtain ⟨o_v0, h⟩ := h
  refine r_callVi (pc := 9) C (rest := [.ref v0]) (a := v0) o_v0 [.int v1, .int v2, .int v3, .int v4, .int v5] yV_X9_wayTrouble g_817 (c_X9_wayTrouble h) dX9_step_9 rfl rfl (Nat.le_of_ble_eq_true rfl) ⟨by decide, by decide⟩ ⟨by decide, by decide⟩ (fun x3 S1 h g2 => ?_)
  have h := h g2
  have o_v0 := gr_ob g2 o_v0
  refine r_callVi0 (pc := 12) C (rest := []) (a := v0) o_v0 [.int x3] yV_X9_refusedBy g_683 (c_X9_refusedBy h) dX9_step_12 rfl rfl (Nat.le_of_ble_eq_true rfl) ⟨by decide, by decide⟩ ⟨by decide, by decide⟩ ⟨rfl, rfl⟩ (fun x6 S4 h g5 => ?_)
  have bx6 := h.1
  have h := h.2 g5 bx6
  have o_v0 := gr_ob g5 o_v0
  refine r_if_eq (pc := 15) C (tgt := 20) dX9_step_15 (by decide) (fun c7 => ?_) (fun c7 => ?_)
  · have h := h.1 c7
    refine r_aload_n (pc := 20) C dX9_step_20 0 rfl ?_
    obtain ⟨a8, ea8, h⟩ := h
    refine r_getr (pc := 21) C fL_X9_37 dX9_step_21 o_v0 ea8 ?_
    refine r_aload_n (pc := 24) C dX9_step_24 0 rfl ?_
    obtain ⟨a9, ea9, h⟩ := h
    refine r_getr (pc := 25) C fL_X9_16 dX9_step_25 o_v0 ea9 ?_
    refine r_iload_n (pc := 28) C dX9_step_28 2 rfl ?_
    refine r_iload (pc := 29) C dX9_step_29 4 rfl ?_
    obtain ⟨o_a8, h⟩ := h
    refine r_callVi0 (pc := 31) C (rest := []) (a := a8) o_a8 [.ref a9, .int v2, .int v4] yV_X7_trace g_912 (c_X7_trace h) dX9_step_31 rfl rfl (Nat.le_of_ble_eq_true rfl) ⟨by decide, by decide⟩ ⟨by decide, by decide⟩ ⟨rfl, rfl⟩ (fun x12 S10 h g11 => ?_)
    have h := h g11
    have o_a8 := gr_ob g11 o_a8
    have o_v0 := gr_ob g11 o_v0
    refine r_istore (pc := 34) C dX9_step_34 (by decide) (lv' := [(7, .int x12), (0, .ref v0), (1, .int v1), (2, .int v2), (3, .int v3), (4, .int v4), (5, .int v5), (6, .int v6)]) rfl ?_
    refine r_iload (pc := 36) C dX9_step_36 7 rfl ?_
    refine r_if_lt (pc := 38) C (tgt := 61) dX9_step_38 (by decide) (fun c13 => ?_) (fun c13 => ?_)
    · have h := h.1 c13
      exact r_sub [1] rfl (T_X9_step_61 C E ht hn h)
    · have h := h.2 c13
      refine r_iload (pc := 41) C dX9_step_41 7 rfl ?_
      refine r_iload (pc := 43) C dX9_step_43 0 rfl ?_
      refine r_icmp_ge (pc := 45) C (tgt := 61) dX9_step_45 (by decide) (fun c14 => ?_) (fun c14 => ?_)
      · have h := h.1 c14
        exact r_sub [1] rfl (T_X9_step_61 C E ht hn h)
      · have h := h.2 c14
        refine r_iload (pc := 48) C dX9_step_48 7 rfl ?_
        refine r_aload_n (pc := 50) C dX9_step_50 1 rfl ?_
        obtain ⟨a15, ea15, h⟩ := h
        refine r_getr (pc := 51) C fL_X9_37 dX9_step_51 o_v0 ea15 ?_
        obtain ⟨o_a15, h⟩ := h
        obtain ⟨a16, ea16, h⟩ := h
        refine r_getr (pc := 54) C fL_X9_228 dX9_step_54 o_a15 ea16 ?_
        obtain ⟨o_a16, h⟩ := h
        refine r_alen13 (pc := 57) C dX9_step_57 o_a16 ?_
        refine r_icmp_lt (pc := 58) C (tgt := 67) dX9_step_58 (by decide) (fun c17 => ?_) (fun c17 => ?_)
        · have h := h.1 c17
          refine r_aload_n (pc := 67) C dX9_step_67 1 rfl ?_
          obtain ⟨a18, ea18, h⟩ := h
          refine r_getr (pc := 68) C fL_X9_37 dX9_step_68 o_v0 ea18 ?_
          obtain ⟨o_a18, h⟩ := h
          obtain ⟨a19, ea19, h⟩ := h
          refine r_getr (pc := 71) C fL_X9_228 dX9_step_71 o_a18 ea19 ?_
          refine r_iload (pc := 74) C dX9_step_74 7 rfl ?_
          obtain ⟨o_a19, h⟩ := h
          obtain ⟨i20, h⟩ := h
          refine r_iald (pc := 76) C dX9_step_76 o_a19 i20 ?_
          refine r_topi (fun x21 ex21 => ?_)
          have h := h x21 ex21
          exact r_iret (pc := 77) C E ht dX9_step_77 (by decide) (by decide) h
        · have h := h.2 c17
          exact r_sub [1] rfl (T_X9_step_61 C E ht hn h)
  · have h := h.2 c7
    refine r_iconst (pc := 18) C (v := (-1 : Int32)) dX9_step_18 (by decide) ?_
    exact r_iret (pc := 19) C E ht dX9_step_19 (by decide) (by decide) h
def P_X9_step (v0 : Nat) (v1 : Int32) (v2 : Int32) (v3 : Int32) (v4 : Int32) (v5 : Int32) (v6 : Int32) (Q : Int32 → HS → Prop) (S : HS) : Prop := P_X9_step_0 Q v0 v1 v2 v3 v4 v5 v6 S
theorem c_X9_step {l : Launch} {Ee : EE} {S : HS} {v0 : Nat} {v1 : Int32} {v2 : Int32} {v3 : Int32} {v4 : Int32} {v5 : Int32} {v6 : Int32} {Q : Int32 → HS → Prop} (h : P_X9_step v0 v1 v2 v3 v4 v5 v6 Q S) : MI l yX9_step cX9_step 8 (some .int) rm_X9_step Ee S [.ref v0, .int v1, .int v2, .int v3, .int v4, .int v5, .int v6] Q :=
  openI (by decide) (Nat.le_of_ble_eq_true rfl) (fun X C E ht hn hE hl => by subst hE; exact r_sub [0, 1, 2, 3, 4, 5, 6] rfl (T_X9_step_0 C E ht hn h))
def rm_X9_steps : Room := { frames := 7, cells := 8, slots := 7937, locals := 186 }
def P_X9_steps_0 (Q : Int32 → HS → Prop) (v0 : Nat) (v1 : Int32) (v2 : Int32) (v3 : Int32) (v4 : Int32) (v5 : Int32) (S : HS) : Prop := ob S v0 9 ∧ (P_X9_wayTrouble v0 v1 v2 v3 v4 v5 (fun x3 S1 => Gr S S1 → (P_X9_refusedBy v0 x3 (fun x6 S4 => Gr S1 S4 → bl x6 → (((x6 = 0) → (∃ a8 : Nat, fR S4 v0 5 = some a8 ∧ (∃ a9 : Nat, fR S4 v0 2 = some a9 ∧ (ob S4 a8 7 ∧ (P_X7_trace a8 a9 v2 v4 (fun x12 S10 => Gr S4 S10 → (Q x12 S10)) S4))))) ∧ ((¬ x6 = 0) → (Q (-1 : Int32) S4)))) S1)) S)
set_option maxRecDepth 20000 in
set_option maxHeartbeats 4000000 in
theorem T_X9_steps_0 {X : CX} {Q : Int32 → HS → Prop} (C : Cx X cX9_steps RX9 6 rm_X9_steps) (E : ReI X rm_X9_steps Q) (ht : (xh X).sig.returnType = (some .int)) (hn : (xh X).name = yX9_steps.name) {v0 : Nat} {v1 : Int32} {v2 : Int32} {v3 : Int32} {v4 : Int32} {v5 : Int32} {S : HS} (h : P_X9_steps_0 Q v0 v1 v2 v3 v4 v5 S) : WS X 6 0 0 0 [(0, .ref v0), (1, .int v1), (2, .int v2), (3, .int v3), (4, .int v4), (5, .int v5)] [] S := by
  refine r_aload_n (pc := 0) C dX9_steps_0 0 rfl ?_
  refine r_aload_n (pc := 1) C dX9_steps_1 0 rfl ?_
  refine r_iload_n (pc := 2) C dX9_steps_2 1 rfl ?_
  refine r_iload_n (pc := 3) C dX9_steps_3 2 rfl ?_
  refine r_iload_n (pc := 4) C dX9_steps_4 3 rfl ?_
  refine r_iload (pc := 5) C dX9_steps_5 4 rfl ?_
  refine r_iload (pc := 7) C dX9_steps_7 5 rfl ?_
  obtain ⟨o_v0, h⟩ := h
  refine r_callVi (pc := 9) C (rest := [.ref v0]) (a := v0) o_v0 [.int v1, .int v2, .int v3, .int v4, .int v5] yV_X9_wayTrouble g_817 (c_X9_wayTrouble h) dX9_steps_9 rfl rfl (Nat.le_of_ble_eq_true rfl) ⟨by decide, by decide⟩ ⟨by decide, by decide⟩ (fun x3 S1 h g2 => ?_)
  have h := h g2
  have o_v0 := gr_ob g2 o_v0
  refine r_callVi0 (pc := 12) C (rest := []) (a := v0) o_v0 [.int x3] yV_X9_refusedBy g_683 (c_X9_refusedBy h) dX9_steps_12 rfl rfl (Nat.le_of_ble_eq_true rfl) ⟨by decide, by decide⟩ ⟨by decide, by decide⟩ ⟨rfl, rfl⟩ (fun x6 S4 h g5 => ?_)
  have bx6 := h.1
  have h := h.2 g5 bx6
  have o_v0 := gr_ob g5 o_v0
  refine r_if_eq (pc := 15) C (tgt := 20) dX9_steps_15 (by decide) (fun c7 => ?_) (fun c7 => ?_)
  · have h := h.1 c7
    refine r_aload_n (pc := 20) C dX9_steps_20 0 rfl ?_
    obtain ⟨a8, ea8, h⟩ := h
    refine r_getr (pc := 21) C fL_X9_37 dX9_steps_21 o_v0 ea8 ?_
    refine r_aload_n (pc := 24) C dX9_steps_24 0 rfl ?_
    obtain ⟨a9, ea9, h⟩ := h
    refine r_getr (pc := 25) C fL_X9_16 dX9_steps_25 o_v0 ea9 ?_
    refine r_iload_n (pc := 28) C dX9_steps_28 2 rfl ?_
    refine r_iload (pc := 29) C dX9_steps_29 4 rfl ?_
    obtain ⟨o_a8, h⟩ := h
    refine r_callVi0 (pc := 31) C (rest := []) (a := a8) o_a8 [.ref a9, .int v2, .int v4] yV_X7_trace g_912 (c_X7_trace h) dX9_steps_31 rfl rfl (Nat.le_of_ble_eq_true rfl) ⟨by decide, by decide⟩ ⟨by decide, by decide⟩ ⟨rfl, rfl⟩ (fun x12 S10 h g11 => ?_)
    have h := h g11
    have o_a8 := gr_ob g11 o_a8
    have o_v0 := gr_ob g11 o_v0
    exact r_iret (pc := 34) C E ht dX9_steps_34 (by decide) (by decide) h
  · have h := h.2 c7
    refine r_iconst (pc := 18) C (v := (-1 : Int32)) dX9_steps_18 (by decide) ?_
    exact r_iret (pc := 19) C E ht dX9_steps_19 (by decide) (by decide) h
def P_X9_steps (v0 : Nat) (v1 : Int32) (v2 : Int32) (v3 : Int32) (v4 : Int32) (v5 : Int32) (Q : Int32 → HS → Prop) (S : HS) : Prop := P_X9_steps_0 Q v0 v1 v2 v3 v4 v5 S
theorem c_X9_steps {l : Launch} {Ee : EE} {S : HS} {v0 : Nat} {v1 : Int32} {v2 : Int32} {v3 : Int32} {v4 : Int32} {v5 : Int32} {Q : Int32 → HS → Prop} (h : P_X9_steps v0 v1 v2 v3 v4 v5 Q S) : MI l yX9_steps cX9_steps 6 (some .int) rm_X9_steps Ee S [.ref v0, .int v1, .int v2, .int v3, .int v4, .int v5] Q :=
  openI (by decide) (Nat.le_of_ble_eq_true rfl) (fun X C E ht hn hE hl => by subst hE; exact r_sub [0, 1, 2, 3, 4, 5] rfl (T_X9_steps_0 C E ht hn h))
def rm_X9_there : Room := { frames := 7, cells := 8, slots := 7937, locals := 186 }
def P_X9_there_0 (Q : Int32 → HS → Prop) (v0 : Nat) (v1 : Int32) (v2 : Int32) (v3 : Int32) (v4 : Int32) (v5 : Int32) (S : HS) : Prop := ob S v0 9 ∧ (P_X9_wayTrouble v0 v1 v2 v3 v4 v5 (fun x3 S1 => Gr S S1 → (P_X9_refusedBy v0 x3 (fun x6 S4 => Gr S1 S4 → bl x6 → (((x6 = 0) → (∃ a8 : Nat, fR S4 v0 5 = some a8 ∧ (ob S4 a8 7 ∧ (P_X7_endFrom a8 v2 v4 (fun x11 S9 => Gr S4 S9 → (Q x11 S9)) S4)))) ∧ ((¬ x6 = 0) → (Q (-1 : Int32) S4)))) S1)) S)
set_option maxRecDepth 20000 in
set_option maxHeartbeats 4000000 in
theorem T_X9_there_0 {X : CX} {Q : Int32 → HS → Prop} (C : Cx X cX9_there RX9 6 rm_X9_there) (E : ReI X rm_X9_there Q) (ht : (xh X).sig.returnType = (some .int)) (hn : (xh X).name = yX9_there.name) {v0 : Nat} {v1 : Int32} {v2 : Int32} {v3 : Int32} {v4 : Int32} {v5 : Int32} {S : HS} (h : P_X9_there_0 Q v0 v1 v2 v3 v4 v5 S) : WS X 6 0 0 0 [(0, .ref v0), (1, .int v1), (2, .int v2), (3, .int v3), (4, .int v4), (5, .int v5)] [] S := by
  refine r_aload_n (pc := 0) C dX9_there_0 0 rfl ?_
  refine r_aload_n (pc := 1) C dX9_there_1 0 rfl ?_
  refine r_iload_n (pc := 2) C dX9_there_2 1 rfl ?_
  refine r_iload_n (pc := 3) C dX9_there_3 2 rfl ?_
  refine r_iload_n (pc := 4) C dX9_there_4 3 rfl ?_
  refine r_iload (pc := 5) C dX9_there_5 4 rfl ?_
  refine r_iload (pc := 7) C dX9_there_7 5 rfl ?_
  obtain ⟨o_v0, h⟩ := h
  refine r_callVi (pc := 9) C (rest := [.ref v0]) (a := v0) o_v0 [.int v1, .int v2, .int v3, .int v4, .int v5] yV_X9_wayTrouble g_817 (c_X9_wayTrouble h) dX9_there_9 rfl rfl (Nat.le_of_ble_eq_true rfl) ⟨by decide, by decide⟩ ⟨by decide, by decide⟩ (fun x3 S1 h g2 => ?_)
  have h := h g2
  have o_v0 := gr_ob g2 o_v0
  refine r_callVi0 (pc := 12) C (rest := []) (a := v0) o_v0 [.int x3] yV_X9_refusedBy g_683 (c_X9_refusedBy h) dX9_there_12 rfl rfl (Nat.le_of_ble_eq_true rfl) ⟨by decide, by decide⟩ ⟨by decide, by decide⟩ ⟨rfl, rfl⟩ (fun x6 S4 h g5 => ?_)
  have bx6 := h.1
  have h := h.2 g5 bx6
  have o_v0 := gr_ob g5 o_v0
  refine r_if_eq (pc := 15) C (tgt := 20) dX9_there_15 (by decide) (fun c7 => ?_) (fun c7 => ?_)
  · have h := h.1 c7
    refine r_aload_n (pc := 20) C dX9_there_20 0 rfl ?_
    obtain ⟨a8, ea8, h⟩ := h
    refine r_getr (pc := 21) C fL_X9_37 dX9_there_21 o_v0 ea8 ?_
    refine r_iload_n (pc := 24) C dX9_there_24 2 rfl ?_
    refine r_iload (pc := 25) C dX9_there_25 4 rfl ?_
    obtain ⟨o_a8, h⟩ := h
    refine r_callVi0 (pc := 27) C (rest := []) (a := a8) o_a8 [.int v2, .int v4] yV_X7_endFrom g_904 (c_X7_endFrom h) dX9_there_27 rfl rfl (Nat.le_of_ble_eq_true rfl) ⟨by decide, by decide⟩ ⟨by decide, by decide⟩ ⟨rfl, rfl⟩ (fun x11 S9 h g10 => ?_)
    have h := h g10
    have o_a8 := gr_ob g10 o_a8
    have o_v0 := gr_ob g10 o_v0
    exact r_iret (pc := 30) C E ht dX9_there_30 (by decide) (by decide) h
  · have h := h.2 c7
    refine r_iconst (pc := 18) C (v := (-1 : Int32)) dX9_there_18 (by decide) ?_
    exact r_iret (pc := 19) C E ht dX9_there_19 (by decide) (by decide) h
def P_X9_there (v0 : Nat) (v1 : Int32) (v2 : Int32) (v3 : Int32) (v4 : Int32) (v5 : Int32) (Q : Int32 → HS → Prop) (S : HS) : Prop := P_X9_there_0 Q v0 v1 v2 v3 v4 v5 S
theorem c_X9_there {l : Launch} {Ee : EE} {S : HS} {v0 : Nat} {v1 : Int32} {v2 : Int32} {v3 : Int32} {v4 : Int32} {v5 : Int32} {Q : Int32 → HS → Prop} (h : P_X9_there v0 v1 v2 v3 v4 v5 Q S) : MI l yX9_there cX9_there 6 (some .int) rm_X9_there Ee S [.ref v0, .int v1, .int v2, .int v3, .int v4, .int v5] Q :=
  openI (by decide) (Nat.le_of_ble_eq_true rfl) (fun X C E ht hn hE hl => by subst hE; exact r_sub [0, 1, 2, 3, 4, 5] rfl (T_X9_there_0 C E ht hn h))
def rm_X9_trouble : Room := { frames := 0, cells := 0, slots := 0, locals := 0 }
def P_X9_trouble_0 (Q : Int32 → HS → Prop) (v0 : Nat) (S : HS) : Prop := ob S v0 9 ∧ (∀ x1 : Int32, x1 = fI S v0 9 → (Q x1 S))
set_option maxRecDepth 20000 in
set_option maxHeartbeats 4000000 in
theorem T_X9_trouble_0 {X : CX} {Q : Int32 → HS → Prop} (C : Cx X cX9_trouble RX9 1 rm_X9_trouble) (E : ReI X rm_X9_trouble Q) (ht : (xh X).sig.returnType = (some .int)) (hn : (xh X).name = yX9_trouble.name) {v0 : Nat} {S : HS} (h : P_X9_trouble_0 Q v0 S) : WS X 1 0 0 0 [(0, .ref v0)] [] S := by
  refine r_aload_n (pc := 0) C dX9_trouble_0 0 rfl ?_
  obtain ⟨o_v0, h⟩ := h
  refine r_geti (pc := 1) C fL_X9_92 dX9_trouble_1 o_v0 ?_
  refine r_topi (fun x1 ex1 => ?_)
  have h := h x1 ex1
  exact r_iret (pc := 4) C E ht dX9_trouble_4 (by decide) (by decide) h
def P_X9_trouble (v0 : Nat) (Q : Int32 → HS → Prop) (S : HS) : Prop := P_X9_trouble_0 Q v0 S
theorem c_X9_trouble {l : Launch} {Ee : EE} {S : HS} {v0 : Nat} {Q : Int32 → HS → Prop} (h : P_X9_trouble v0 Q S) : MI l yX9_trouble cX9_trouble 1 (some .int) rm_X9_trouble Ee S [.ref v0] Q :=
  openI (by decide) (Nat.le_of_ble_eq_true rfl) (fun X C E ht hn hE hl => by subst hE; exact r_sub [0] rfl (T_X9_trouble_0 C E ht hn h))
def rm_X9_undo : Room := { frames := 2, cells := 0, slots := 0, locals := 42 }
def P_X9_undo_17 (Q : Int32 → HS → Prop) (s0 : Nat) (s1 : Int32) (S : HS) : Prop := ob S s0 9 ∧ (P_X9_refusedBy s0 s1 (fun x3 S1 => Gr S S1 → bl x3 → (((¬ x3 = 0) → (Q (0 : Int32) S1)) ∧ ((x3 = 0) → (Q (1 : Int32) S1)))) S)
set_option maxRecDepth 20000 in
set_option maxHeartbeats 4000000 in
theorem T_X9_undo_17 {X : CX} {Q : Int32 → HS → Prop} (C : Cx X cX9_undo RX9 1 rm_X9_undo) (E : ReI X rm_X9_undo (fun r S => bl r ∧ Q r S)) (ht : (xh X).sig.returnType = (some .boolean)) (hn : (xh X).name = yX9_undo.name) {s0 : Nat} {s1 : Int32} {S : HS} (h : P_X9_undo_17 Q s0 s1 S) : WS X 1 0 0 17 [] [.int s1, .ref s0] S := by
  obtain ⟨o_s0, h⟩ := h
  refine r_callVi0 (pc := 17) C (rest := []) (a := s0) o_s0 [.int s1] yV_X9_refusedBy g_683 (c_X9_refusedBy h) dX9_undo_17 rfl rfl (Nat.le_of_ble_eq_true rfl) ⟨by decide, by decide⟩ ⟨by decide, by decide⟩ ⟨rfl, rfl⟩ (fun x3 S1 h g2 => ?_)
  have bx3 := h.1
  have h := h.2 g2 bx3
  have o_s0 := gr_ob g2 o_s0
  refine r_if_ne (pc := 20) C (tgt := 27) dX9_undo_20 (by decide) (fun c4 => ?_) (fun c4 => ?_)
  · have h := h.1 c4
    refine r_iconst (pc := 27) C (v := (0 : Int32)) dX9_undo_27 (by decide) ?_
    exact r_zret (pc := 28) C E ht dX9_undo_28 (by decide) (by decide) (Or.inl rfl) h
  · have h := h.2 c4
    refine r_iconst (pc := 23) C (v := (1 : Int32)) dX9_undo_23 (by decide) ?_
    refine r_goto (pc := 24) C (tgt := 28) dX9_undo_24 (by decide) ?_
    exact r_zret (pc := 28) C E ht dX9_undo_28 (by decide) (by decide) (Or.inr rfl) h
def P_X9_undo_0 (Q : Int32 → HS → Prop) (v0 : Nat) (S : HS) : Prop := ob S v0 9 ∧ (∃ a1 : Nat, fR S v0 6 = some a1 ∧ (ob S a1 0 ∧ (P_X0_takeBack a1 (fun x4 S2 => Gr S S2 → bl x4 → (((x4 = 0) → (P_X9_undo_17 Q v0 (6 : Int32) S2)) ∧ ((¬ x4 = 0) → (P_X9_undo_17 Q v0 (0 : Int32) S2)))) S)))
set_option maxRecDepth 20000 in
set_option maxHeartbeats 4000000 in
theorem T_X9_undo_0 {X : CX} {Q : Int32 → HS → Prop} (C : Cx X cX9_undo RX9 1 rm_X9_undo) (E : ReI X rm_X9_undo (fun r S => bl r ∧ Q r S)) (ht : (xh X).sig.returnType = (some .boolean)) (hn : (xh X).name = yX9_undo.name) {v0 : Nat} {S : HS} (h : P_X9_undo_0 Q v0 S) : WS X 1 0 0 0 [(0, .ref v0)] [] S := by
  refine r_aload_n (pc := 0) C dX9_undo_0 0 rfl ?_
  refine r_aload_n (pc := 1) C dX9_undo_1 0 rfl ?_
  obtain ⟨o_v0, h⟩ := h
  obtain ⟨a1, ea1, h⟩ := h
  refine r_getr (pc := 2) C fL_X9_44 dX9_undo_2 o_v0 ea1 ?_
  obtain ⟨o_a1, h⟩ := h
  refine r_callVi0 (pc := 5) C (rest := [.ref v0]) (a := a1) o_a1 [] yV_X0_takeBack g_1040 (c_X0_takeBack h) dX9_undo_5 rfl rfl (Nat.le_of_ble_eq_true rfl) ⟨by decide, by decide⟩ ⟨by decide, by decide⟩ ⟨rfl, rfl⟩ (fun x4 S2 h g3 => ?_)
  have bx4 := h.1
  have h := h.2 g3 bx4
  have o_a1 := gr_ob g3 o_a1
  have o_v0 := gr_ob g3 o_v0
  refine r_if_eq (pc := 8) C (tgt := 15) dX9_undo_8 (by decide) (fun c5 => ?_) (fun c5 => ?_)
  · have h := h.1 c5
    refine r_bipush (pc := 15) C (v := (6 : Int32)) dX9_undo_15 (by decide) ?_
    exact r_sub [] rfl (T_X9_undo_17 C E ht hn h)
  · have h := h.2 c5
    refine r_iconst (pc := 11) C (v := (0 : Int32)) dX9_undo_11 (by decide) ?_
    refine r_goto (pc := 12) C (tgt := 17) dX9_undo_12 (by decide) ?_
    exact r_sub [] rfl (T_X9_undo_17 C E ht hn h)
def P_X9_undo (v0 : Nat) (Q : Int32 → HS → Prop) (S : HS) : Prop := P_X9_undo_0 Q v0 S
theorem c_X9_undo {l : Launch} {Ee : EE} {S : HS} {v0 : Nat} {Q : Int32 → HS → Prop} (h : P_X9_undo v0 Q S) : MI l yX9_undo cX9_undo 1 (some .boolean) rm_X9_undo Ee S [.ref v0] (fun r S => bl r ∧ Q r S) :=
  openI (by decide) (Nat.le_of_ble_eq_true rfl) (fun X C E ht hn hE hl => by subst hE; exact r_sub [0] rfl (T_X9_undo_0 C E ht hn h))
def rm_X9_walker : Room := { frames := 1, cells := 0, slots := 0, locals := 21 }
def P_X9_walker_21 (Q : Int32 → HS → Prop) (v0 : Nat) (S : HS) : Prop := ob S v0 9 ∧ (P_X9_refuse v0 (1 : Int32) (fun x3 S1 => Gr S S1 → (Q x3 S1)) S)
set_option maxRecDepth 20000 in
set_option maxHeartbeats 4000000 in
theorem T_X9_walker_21 {X : CX} {Q : Int32 → HS → Prop} (C : Cx X cX9_walker RX9 3 rm_X9_walker) (E : ReI X rm_X9_walker Q) (ht : (xh X).sig.returnType = (some .int)) (hn : (xh X).name = yX9_walker.name) {v0 : Nat} {S : HS} (h : P_X9_walker_21 Q v0 S) : WS X 3 0 0 21 [(0, .ref v0)] [] S := by
  refine r_aload_n (pc := 21) C dX9_walker_21 0 rfl ?_
  refine r_iconst (pc := 22) C (v := (1 : Int32)) dX9_walker_22 (by decide) ?_
  obtain ⟨o_v0, h⟩ := h
  refine r_callVi0 (pc := 23) C (rest := []) (a := v0) o_v0 [.int (1 : Int32)] yV_X9_refuse g_430 (c_X9_refuse h) dX9_walker_23 rfl rfl (Nat.le_of_ble_eq_true rfl) ⟨by decide, by decide⟩ ⟨by decide, by decide⟩ ⟨rfl, rfl⟩ (fun x3 S1 h g2 => ?_)
  have h := h g2
  have o_v0 := gr_ob g2 o_v0
  exact r_iret (pc := 26) C E ht dX9_walker_26 (by decide) (by decide) h
def P_X9_walker_0 (Q : Int32 → HS → Prop) (v0 : Nat) (v1 : Int32) (v2 : Int32) (S : HS) : Prop := ob S v0 9 ∧ (∃ a1 : Nat, fR S v0 2 = some a1 ∧ (ob S a1 8 ∧ (P_X8_hasWalker a1 v1 (fun x4 S2 => Gr S S2 → bl x4 → (((x4 = 0) → (P_X9_walker_21 Q v0 S2)) ∧ ((¬ x4 = 0) → (((v2 < 0) → (P_X9_walker_21 Q v0 S2)) ∧ ((¬ v2 < 0) → (((v2 ≤ (6 : Int32)) → (∃ a8 : Nat, fR S2 v0 2 = some a8 ∧ (ob S2 a8 8 ∧ (∃ a9 : Nat, fR S2 a8 9 = some a9 ∧ (ob S2 a9 19 ∧ (vp_in v1 (hN S2 a9) ∧ ∃ a11 : Nat, fR S2 a9 v1.toNatClampNeg = some a11 ∧ (ob S2 a11 6 ∧ (P_X6_tell a11 v2 (fun x14 S12 => Gr S2 S12 → (P_X9_grant v0 x14 (fun x17 S15 => Gr S12 S15 → (Q x17 S15)) S12)) S2)))))))) ∧ ((¬ v2 ≤ (6 : Int32)) → (P_X9_walker_21 Q v0 S2)))))))) S)))
set_option maxRecDepth 20000 in
set_option maxHeartbeats 4000000 in
theorem T_X9_walker_0 {X : CX} {Q : Int32 → HS → Prop} (C : Cx X cX9_walker RX9 3 rm_X9_walker) (E : ReI X rm_X9_walker Q) (ht : (xh X).sig.returnType = (some .int)) (hn : (xh X).name = yX9_walker.name) {v0 : Nat} {v1 : Int32} {v2 : Int32} {S : HS} (h : P_X9_walker_0 Q v0 v1 v2 S) : WS X 3 0 0 0 [(0, .ref v0), (1, .int v1), (2, .int v2)] [] S := by
  refine r_aload_n (pc := 0) C dX9_walker_0 0 rfl ?_
  obtain ⟨o_v0, h⟩ := h
  obtain ⟨a1, ea1, h⟩ := h
  refine r_getr (pc := 1) C fL_X9_16 dX9_walker_1 o_v0 ea1 ?_
  refine r_iload_n (pc := 4) C dX9_walker_4 1 rfl ?_
  obtain ⟨o_a1, h⟩ := h
  refine r_callVi0 (pc := 5) C (rest := []) (a := a1) o_a1 [.int v1] yV_X8_hasWalker g_664 (c_X8_hasWalker h) dX9_walker_5 rfl rfl (Nat.le_of_ble_eq_true rfl) ⟨by decide, by decide⟩ ⟨by decide, by decide⟩ ⟨rfl, rfl⟩ (fun x4 S2 h g3 => ?_)
  have bx4 := h.1
  have h := h.2 g3 bx4
  have o_a1 := gr_ob g3 o_a1
  have o_v0 := gr_ob g3 o_v0
  refine r_if_eq (pc := 8) C (tgt := 21) dX9_walker_8 (by decide) (fun c5 => ?_) (fun c5 => ?_)
  · have h := h.1 c5
    exact r_sub [0] rfl (T_X9_walker_21 C E ht hn h)
  · have h := h.2 c5
    refine r_iload_n (pc := 11) C dX9_walker_11 2 rfl ?_
    refine r_if_lt (pc := 12) C (tgt := 21) dX9_walker_12 (by decide) (fun c6 => ?_) (fun c6 => ?_)
    · have h := h.1 c6
      exact r_sub [0] rfl (T_X9_walker_21 C E ht hn h)
    · have h := h.2 c6
      refine r_iload_n (pc := 15) C dX9_walker_15 2 rfl ?_
      refine r_bipush (pc := 16) C (v := (6 : Int32)) dX9_walker_16 (by decide) ?_
      refine r_icmp_le (pc := 18) C (tgt := 27) dX9_walker_18 (by decide) (fun c7 => ?_) (fun c7 => ?_)
      · have h := h.1 c7
        refine r_aload_n (pc := 27) C dX9_walker_27 0 rfl ?_
        refine r_aload_n (pc := 28) C dX9_walker_28 0 rfl ?_
        obtain ⟨a8, ea8, h⟩ := h
        refine r_getr (pc := 29) C fL_X9_16 dX9_walker_29 o_v0 ea8 ?_
        obtain ⟨o_a8, h⟩ := h
        obtain ⟨a9, ea9, h⟩ := h
        refine r_getr (pc := 32) C fL_X9_108 dX9_walker_32 o_a8 ea9 ?_
        refine r_iload_n (pc := 35) C dX9_walker_35 1 rfl ?_
        obtain ⟨o_a9, h⟩ := h
        obtain ⟨i10, a11, ea11, h⟩ := h
        refine r_aald19 (pc := 36) C dX9_walker_36 o_a9 i10 ea11 ?_
        refine r_iload_n (pc := 37) C dX9_walker_37 2 rfl ?_
        obtain ⟨o_a11, h⟩ := h
        refine r_callVi0 (pc := 38) C (rest := [.ref v0]) (a := a11) o_a11 [.int v2] yV_X6_tell g_1064 (c_X6_tell h) dX9_walker_38 rfl rfl (Nat.le_of_ble_eq_true rfl) ⟨by decide, by decide⟩ ⟨by decide, by decide⟩ ⟨rfl, rfl⟩ (fun x14 S12 h g13 => ?_)
        have h := h g13
        have o_a1 := gr_ob g13 o_a1
        have o_a11 := gr_ob g13 o_a11
        have o_a8 := gr_ob g13 o_a8
        have o_a9 := gr_ob g13 o_a9
        have o_v0 := gr_ob g13 o_v0
        refine r_callVi0 (pc := 41) C (rest := []) (a := v0) o_v0 [.int x14] yV_X9_grant g_637 (c_X9_grant h) dX9_walker_41 rfl rfl (Nat.le_of_ble_eq_true rfl) ⟨by decide, by decide⟩ ⟨by decide, by decide⟩ ⟨rfl, rfl⟩ (fun x17 S15 h g16 => ?_)
        have h := h g16
        have o_a1 := gr_ob g16 o_a1
        have o_a11 := gr_ob g16 o_a11
        have o_a8 := gr_ob g16 o_a8
        have o_a9 := gr_ob g16 o_a9
        have o_v0 := gr_ob g16 o_v0
        exact r_iret (pc := 44) C E ht dX9_walker_44 (by decide) (by decide) h
      · have h := h.2 c7
        exact r_sub [0] rfl (T_X9_walker_21 C E ht hn h)
def P_X9_walker (v0 : Nat) (v1 : Int32) (v2 : Int32) (Q : Int32 → HS → Prop) (S : HS) : Prop := P_X9_walker_0 Q v0 v1 v2 S
theorem c_X9_walker {l : Launch} {Ee : EE} {S : HS} {v0 : Nat} {v1 : Int32} {v2 : Int32} {Q : Int32 → HS → Prop} (h : P_X9_walker v0 v1 v2 Q S) : MI l yX9_walker cX9_walker 3 (some .int) rm_X9_walker Ee S [.ref v0, .int v1, .int v2] Q :=
  openI (by decide) (Nat.le_of_ble_eq_true rfl) (fun X C E ht hn hE hl => by subst hE; exact r_sub [0, 1, 2] rfl (T_X9_walker_0 C E ht hn h))
def rm_X9_wet : Room := { frames := 4, cells := 0, slots := 0, locals := 101 }
def P_X9_wet_0 (Q : Int64 → HS → Prop) (v0 : Nat) (v1 : Int32) (v2 : Int32) (v3 : Int32) (v4 : Int32) (v5 : Int32) (v6 : Int32) (S : HS) : Prop := ob S v0 9 ∧ (P_X9_legTrouble v0 v1 v2 v3 v4 v5 (fun x3 S1 => Gr S S1 → (P_X9_refusedBy v0 x3 (fun x6 S4 => Gr S1 S4 → bl x6 → (((x6 = 0) → (∃ a8 : Nat, fR S4 v0 4 = some a8 ∧ (∃ a9 : Nat, fR S4 v0 2 = some a9 ∧ (ob S4 a9 8 ∧ (∃ a10 : Nat, fR S4 a9 9 = some a10 ∧ (ob S4 a10 19 ∧ (vp_in v1 (hN S4 a10) ∧ ∃ a12 : Nat, fR S4 a10 v1.toNatClampNeg = some a12 ∧ (∃ a13 : Nat, fR S4 v0 2 = some a13 ∧ (ob S4 a13 8 ∧ (∃ a14 : Nat, fR S4 a13 8 = some a14 ∧ (ob S4 a14 18 ∧ (vp_in v2 (hN S4 a14) ∧ ∃ a16 : Nat, fR S4 a14 v2.toNatClampNeg = some a16 ∧ (∃ a17 : Nat, fR S4 v0 2 = some a17 ∧ (ob S4 a17 8 ∧ (∃ a18 : Nat, fR S4 a17 6 = some a18 ∧ (ob S4 a18 17 ∧ (vp_in v4 (hN S4 a18) ∧ ∃ a20 : Nat, fR S4 a18 v4.toNatClampNeg = some a20 ∧ (ob S4 a8 1 ∧ (P_X1_wetOf a8 a12 a16 v3 a20 v5 (fun x23 S21 => Gr S4 S21 → (P_X9_fraction x23 (2520 : Int64) v6 (fun x26 S24 => Gr S21 S24 → (Q x26 S24)) S21)) S4))))))))))))))))))) ∧ ((¬ x6 = 0) → (Q (-1 : Int64) S4)))) S1)) S)
set_option maxRecDepth 20000 in
set_option maxHeartbeats 4000000 in
theorem T_X9_wet_0 {X : CX} {Q : Int64 → HS → Prop} (C : Cx X cX9_wet RX9 7 rm_X9_wet) (E : ReJ X rm_X9_wet Q) (ht : (xh X).sig.returnType = (some .long)) (hn : (xh X).name = yX9_wet.name) {v0 : Nat} {v1 : Int32} {v2 : Int32} {v3 : Int32} {v4 : Int32} {v5 : Int32} {v6 : Int32} {S : HS} (h : P_X9_wet_0 Q v0 v1 v2 v3 v4 v5 v6 S) : WS X 7 0 0 0 [(0, .ref v0), (1, .int v1), (2, .int v2), (3, .int v3), (4, .int v4), (5, .int v5), (6, .int v6)] [] S := by
  refine r_aload_n (pc := 0) C dX9_wet_0 0 rfl ?_
  refine r_aload_n (pc := 1) C dX9_wet_1 0 rfl ?_
  refine r_iload_n (pc := 2) C dX9_wet_2 1 rfl ?_
  refine r_iload_n (pc := 3) C dX9_wet_3 2 rfl ?_
  refine r_iload_n (pc := 4) C dX9_wet_4 3 rfl ?_
  refine r_iload (pc := 5) C dX9_wet_5 4 rfl ?_
  refine r_iload (pc := 7) C dX9_wet_7 5 rfl ?_
  obtain ⟨o_v0, h⟩ := h
  refine r_callVi0 (pc := 9) C (rest := [.ref v0]) (a := v0) o_v0 [.int v1, .int v2, .int v3, .int v4, .int v5] yV_X9_legTrouble g_656 (c_X9_legTrouble h) dX9_wet_9 rfl rfl (Nat.le_of_ble_eq_true rfl) ⟨by decide, by decide⟩ ⟨by decide, by decide⟩ ⟨rfl, rfl⟩ (fun x3 S1 h g2 => ?_)
  have h := h g2
  have o_v0 := gr_ob g2 o_v0
  refine r_callVi0 (pc := 12) C (rest := []) (a := v0) o_v0 [.int x3] yV_X9_refusedBy g_683 (c_X9_refusedBy h) dX9_wet_12 rfl rfl (Nat.le_of_ble_eq_true rfl) ⟨by decide, by decide⟩ ⟨by decide, by decide⟩ ⟨rfl, rfl⟩ (fun x6 S4 h g5 => ?_)
  have bx6 := h.1
  have h := h.2 g5 bx6
  have o_v0 := gr_ob g5 o_v0
  refine r_if_eq (pc := 15) C (tgt := 22) dX9_wet_15 (by decide) (fun c7 => ?_) (fun c7 => ?_)
  · have h := h.1 c7
    refine r_aload_n (pc := 22) C dX9_wet_22 0 rfl ?_
    obtain ⟨a8, ea8, h⟩ := h
    refine r_getr (pc := 23) C fL_X9_30 dX9_wet_23 o_v0 ea8 ?_
    refine r_aload_n (pc := 26) C dX9_wet_26 0 rfl ?_
    obtain ⟨a9, ea9, h⟩ := h
    refine r_getr (pc := 27) C fL_X9_16 dX9_wet_27 o_v0 ea9 ?_
    obtain ⟨o_a9, h⟩ := h
    obtain ⟨a10, ea10, h⟩ := h
    refine r_getr (pc := 30) C fL_X9_108 dX9_wet_30 o_a9 ea10 ?_
    refine r_iload_n (pc := 33) C dX9_wet_33 1 rfl ?_
    obtain ⟨o_a10, h⟩ := h
    obtain ⟨i11, a12, ea12, h⟩ := h
    refine r_aald19 (pc := 34) C dX9_wet_34 o_a10 i11 ea12 ?_
    refine r_aload_n (pc := 35) C dX9_wet_35 0 rfl ?_
    obtain ⟨a13, ea13, h⟩ := h
    refine r_getr (pc := 36) C fL_X9_16 dX9_wet_36 o_v0 ea13 ?_
    obtain ⟨o_a13, h⟩ := h
    obtain ⟨a14, ea14, h⟩ := h
    refine r_getr (pc := 39) C fL_X9_112 dX9_wet_39 o_a13 ea14 ?_
    refine r_iload_n (pc := 42) C dX9_wet_42 2 rfl ?_
    obtain ⟨o_a14, h⟩ := h
    obtain ⟨i15, a16, ea16, h⟩ := h
    refine r_aald18 (pc := 43) C dX9_wet_43 o_a14 i15 ea16 ?_
    refine r_iload_n (pc := 44) C dX9_wet_44 3 rfl ?_
    refine r_aload_n (pc := 45) C dX9_wet_45 0 rfl ?_
    obtain ⟨a17, ea17, h⟩ := h
    refine r_getr (pc := 46) C fL_X9_16 dX9_wet_46 o_v0 ea17 ?_
    obtain ⟨o_a17, h⟩ := h
    obtain ⟨a18, ea18, h⟩ := h
    refine r_getr (pc := 49) C fL_X9_116 dX9_wet_49 o_a17 ea18 ?_
    refine r_iload (pc := 52) C dX9_wet_52 4 rfl ?_
    obtain ⟨o_a18, h⟩ := h
    obtain ⟨i19, a20, ea20, h⟩ := h
    refine r_aald17 (pc := 54) C dX9_wet_54 o_a18 i19 ea20 ?_
    refine r_iload (pc := 55) C dX9_wet_55 5 rfl ?_
    obtain ⟨o_a8, h⟩ := h
    refine r_callVl0 (pc := 57) C (rest := []) (a := a8) o_a8 [.ref a12, .ref a16, .int v3, .ref a20, .int v5] yV_X1_wetOf g_688 (c_X1_wetOf h) dX9_wet_57 rfl rfl (Nat.le_of_ble_eq_true rfl) ⟨by decide, by decide⟩ ⟨by decide, by decide⟩ ⟨rfl, rfl⟩ (fun x23 S21 h g22 => ?_)
    have h := h g22
    have o_a10 := gr_ob g22 o_a10
    have o_a13 := gr_ob g22 o_a13
    have o_a14 := gr_ob g22 o_a14
    have o_a17 := gr_ob g22 o_a17
    have o_a18 := gr_ob g22 o_a18
    have o_a8 := gr_ob g22 o_a8
    have o_a9 := gr_ob g22 o_a9
    have o_v0 := gr_ob g22 o_v0
    refine r_ldc2 (pc := 60) C (v := (2520 : Int64)) dX9_wet_60 g_721 ?_
    refine r_iload (pc := 63) C dX9_wet_63 6 rfl ?_
    refine r_callSl0 (pc := 65) C (rest := []) rfl [.long x23, .long (2520 : Int64), .int v6] yS_X9_fraction g_722 (c_X9_fraction h) dX9_wet_65 rfl rfl (Nat.le_of_ble_eq_true rfl) ⟨by decide, by decide⟩ ⟨by decide, by decide⟩ ⟨rfl, rfl⟩ (fun x26 S24 h g25 => ?_)
    have h := h g25
    have o_a10 := gr_ob g25 o_a10
    have o_a13 := gr_ob g25 o_a13
    have o_a14 := gr_ob g25 o_a14
    have o_a17 := gr_ob g25 o_a17
    have o_a18 := gr_ob g25 o_a18
    have o_a8 := gr_ob g25 o_a8
    have o_a9 := gr_ob g25 o_a9
    have o_v0 := gr_ob g25 o_v0
    exact r_lret (pc := 68) C E ht dX9_wet_68 (by decide) (by decide) h
  · have h := h.2 c7
    refine r_ldc2 (pc := 18) C (v := (-1 : Int64)) dX9_wet_18 g_687 ?_
    exact r_lret (pc := 21) C E ht dX9_wet_21 (by decide) (by decide) h
def P_X9_wet (v0 : Nat) (v1 : Int32) (v2 : Int32) (v3 : Int32) (v4 : Int32) (v5 : Int32) (v6 : Int32) (Q : Int64 → HS → Prop) (S : HS) : Prop := P_X9_wet_0 Q v0 v1 v2 v3 v4 v5 v6 S
theorem c_X9_wet {l : Launch} {Ee : EE} {S : HS} {v0 : Nat} {v1 : Int32} {v2 : Int32} {v3 : Int32} {v4 : Int32} {v5 : Int32} {v6 : Int32} {Q : Int64 → HS → Prop} (h : P_X9_wet v0 v1 v2 v3 v4 v5 v6 Q S) : MJ l yX9_wet cX9_wet 7 (some .long) rm_X9_wet Ee S [.ref v0, .int v1, .int v2, .int v3, .int v4, .int v5, .int v6] Q :=
  openJ (by decide) (Nat.le_of_ble_eq_true rfl) (fun X C E ht hn hE hl => by subst hE; exact r_sub [0, 1, 2, 3, 4, 5, 6] rfl (T_X9_wet_0 C E ht hn h))
def rm_X9_wetness : Room := { frames := 2, cells := 0, slots := 0, locals := 56 }
def P_X9_wetness_27 (Q : Int64 → HS → Prop) (v0 : Nat) (S : HS) : Prop := ob S v0 9 ∧ (P_X9_refuse v0 (1 : Int32) (fun x3 S1 => Gr S S1 → (Q x3.toInt64 S1)) S)
set_option maxRecDepth 20000 in
set_option maxHeartbeats 4000000 in
theorem T_X9_wetness_27 {X : CX} {Q : Int64 → HS → Prop} (C : Cx X cX9_wetness RX9 4 rm_X9_wetness) (E : ReJ X rm_X9_wetness Q) (ht : (xh X).sig.returnType = (some .long)) (hn : (xh X).name = yX9_wetness.name) {v0 : Nat} {S : HS} (h : P_X9_wetness_27 Q v0 S) : WS X 4 0 0 27 [(0, .ref v0)] [] S := by
  refine r_aload_n (pc := 27) C dX9_wetness_27 0 rfl ?_
  refine r_iconst (pc := 28) C (v := (1 : Int32)) dX9_wetness_28 (by decide) ?_
  obtain ⟨o_v0, h⟩ := h
  refine r_callVi0 (pc := 29) C (rest := []) (a := v0) o_v0 [.int (1 : Int32)] yV_X9_refuse g_430 (c_X9_refuse h) dX9_wetness_29 rfl rfl (Nat.le_of_ble_eq_true rfl) ⟨by decide, by decide⟩ ⟨by decide, by decide⟩ ⟨rfl, rfl⟩ (fun x3 S1 h g2 => ?_)
  have h := h g2
  have o_v0 := gr_ob g2 o_v0
  refine r_i2l (pc := 32) C dX9_wetness_32 ?_
  exact r_lret (pc := 33) C E ht dX9_wetness_33 (by decide) (by decide) h
def P_X9_wetness_0 (Q : Int64 → HS → Prop) (v0 : Nat) (v1 : Int32) (S : HS) : Prop := ob S v0 9 ∧ (∃ a1 : Nat, fR S v0 6 = some a1 ∧ (ob S a1 0 ∧ (P_X0_isOn a1 (fun x4 S2 => Gr S S2 → bl x4 → (((x4 = 0) → (P_X9_wetness_27 Q v0 S2)) ∧ ((¬ x4 = 0) → (∃ a6 : Nat, fR S2 v0 2 = some a6 ∧ (∃ a7 : Nat, fR S2 v0 6 = some a7 ∧ (ob S2 a7 0 ∧ (∀ x8 : Int32, x8 = fI S2 a7 0 → (ob S2 a6 8 ∧ (P_X8_hasWalker a6 x8 (fun x11 S9 => Gr S2 S9 → bl x11 → (((¬ x11 = 0) → (∃ a13 : Nat, fR (sI S9 v0 9 (0 : Int32)) v0 6 = some a13 ∧ (ob (sI S9 v0 9 (0 : Int32)) a13 0 ∧ (∃ a14 : Nat, fR (sI S9 v0 9 (0 : Int32)) a13 4 = some a14 ∧ (ob (sI S9 v0 9 (0 : Int32)) a14 2 ∧ (P_X2_allGot a14 (fun x17 S15 => Gr (sI S9 v0 9 (0 : Int32)) S15 → (∃ a18 : Nat, fR S15 v0 2 = some a18 ∧ (ob S15 a18 8 ∧ (∃ a19 : Nat, fR S15 a18 9 = some a19 ∧ (∃ a20 : Nat, fR S15 v0 6 = some a20 ∧ (ob S15 a20 0 ∧ (∀ x21 : Int32, x21 = fI S15 a20 0 → (ob S15 a19 19 ∧ (vp_in x21 (hN S15 a19) ∧ ∃ a23 : Nat, fR S15 a19 x21.toNatClampNeg = some a23 ∧ (P_X9_coatParts a23 (fun x26 S24 => Gr S15 S24 → (∀ x27 : Int64, x27 = x17 - x26 → (∀ x28 : Int64, x28 = (if (0 : Int64) < x27 then x27 else (0 : Int64)) → (P_X9_fraction x28 (2520 : Int64) v1 (fun x31 S29 => Gr S24 S29 → (Q x31 S29)) S24)))) S15)))))))))) (sI S9 v0 9 (0 : Int32)))))))) ∧ ((x11 = 0) → (P_X9_wetness_27 Q v0 S9)))) S2))))))))) S)))
set_option maxRecDepth 20000 in
set_option maxHeartbeats 4000000 in
theorem T_X9_wetness_0 {X : CX} {Q : Int64 → HS → Prop} (C : Cx X cX9_wetness RX9 4 rm_X9_wetness) (E : ReJ X rm_X9_wetness Q) (ht : (xh X).sig.returnType = (some .long)) (hn : (xh X).name = yX9_wetness.name) {v0 : Nat} {v1 : Int32} {S : HS} (h : P_X9_wetness_0 Q v0 v1 S) : WS X 4 0 0 0 [(0, .ref v0), (1, .int v1)] [] S := by
  refine r_aload_n (pc := 0) C dX9_wetness_0 0 rfl ?_
  obtain ⟨o_v0, h⟩ := h
  obtain ⟨a1, ea1, h⟩ := h
  refine r_getr (pc := 1) C fL_X9_44 dX9_wetness_1 o_v0 ea1 ?_
  obtain ⟨o_a1, h⟩ := h
  refine r_callVi0 (pc := 4) C (rest := []) (a := a1) o_a1 [] yV_X0_isOn g_981 (c_X0_isOn h) dX9_wetness_4 rfl rfl (Nat.le_of_ble_eq_true rfl) ⟨by decide, by decide⟩ ⟨by decide, by decide⟩ ⟨rfl, rfl⟩ (fun x4 S2 h g3 => ?_)
  have bx4 := h.1
  have h := h.2 g3 bx4
  have o_a1 := gr_ob g3 o_a1
  have o_v0 := gr_ob g3 o_v0
  refine r_if_eq (pc := 7) C (tgt := 27) dX9_wetness_7 (by decide) (fun c5 => ?_) (fun c5 => ?_)
  · have h := h.1 c5
    exact r_sub [0] rfl (T_X9_wetness_27 C E ht hn h)
  · have h := h.2 c5
    refine r_aload_n (pc := 10) C dX9_wetness_10 0 rfl ?_
    obtain ⟨a6, ea6, h⟩ := h
    refine r_getr (pc := 11) C fL_X9_16 dX9_wetness_11 o_v0 ea6 ?_
    refine r_aload_n (pc := 14) C dX9_wetness_14 0 rfl ?_
    obtain ⟨a7, ea7, h⟩ := h
    refine r_getr (pc := 15) C fL_X9_44 dX9_wetness_15 o_v0 ea7 ?_
    obtain ⟨o_a7, h⟩ := h
    refine r_geti (pc := 18) C fL_X9_282 dX9_wetness_18 o_a7 ?_
    refine r_topi (fun x8 ex8 => ?_)
    have h := h x8 ex8
    obtain ⟨o_a6, h⟩ := h
    refine r_callVi0 (pc := 21) C (rest := []) (a := a6) o_a6 [.int x8] yV_X8_hasWalker g_664 (c_X8_hasWalker h) dX9_wetness_21 rfl rfl (Nat.le_of_ble_eq_true rfl) ⟨by decide, by decide⟩ ⟨by decide, by decide⟩ ⟨rfl, rfl⟩ (fun x11 S9 h g10 => ?_)
    have bx11 := h.1
    have h := h.2 g10 bx11
    have o_a1 := gr_ob g10 o_a1
    have o_a6 := gr_ob g10 o_a6
    have o_a7 := gr_ob g10 o_a7
    have o_v0 := gr_ob g10 o_v0
    refine r_if_ne (pc := 24) C (tgt := 34) dX9_wetness_24 (by decide) (fun c12 => ?_) (fun c12 => ?_)
    · have h := h.1 c12
      refine r_aload_n (pc := 34) C dX9_wetness_34 0 rfl ?_
      refine r_iconst (pc := 35) C (v := (0 : Int32)) dX9_wetness_35 (by decide) ?_
      refine r_puti (pc := 36) C pfL_X9_92 dX9_wetness_36 o_v0 ?_
      refine r_aload_n (pc := 39) C dX9_wetness_39 0 rfl ?_
      obtain ⟨a13, ea13, h⟩ := h
      refine r_getr (pc := 40) C fL_X9_44 dX9_wetness_40 o_v0 ea13 ?_
      obtain ⟨o_a13, h⟩ := h
      obtain ⟨a14, ea14, h⟩ := h
      refine r_getr (pc := 43) C fL_X9_287 dX9_wetness_43 o_a13 ea14 ?_
      obtain ⟨o_a14, h⟩ := h
      refine r_callVl0 (pc := 46) C (rest := []) (a := a14) o_a14 [] yV_X2_allGot g_1022 (c_X2_allGot h) dX9_wetness_46 rfl rfl (Nat.le_of_ble_eq_true rfl) ⟨by decide, by decide⟩ ⟨by decide, by decide⟩ ⟨rfl, rfl⟩ (fun x17 S15 h g16 => ?_)
      have h := h g16
      have o_a1 := gr_ob g16 o_a1
      have o_a13 := gr_ob g16 o_a13
      have o_a14 := gr_ob g16 o_a14
      have o_a6 := gr_ob g16 o_a6
      have o_a7 := gr_ob g16 o_a7
      have o_v0 := gr_ob g16 o_v0
      refine r_aload_n (pc := 49) C dX9_wetness_49 0 rfl ?_
      obtain ⟨a18, ea18, h⟩ := h
      refine r_getr (pc := 50) C fL_X9_16 dX9_wetness_50 o_v0 ea18 ?_
      obtain ⟨o_a18, h⟩ := h
      obtain ⟨a19, ea19, h⟩ := h
      refine r_getr (pc := 53) C fL_X9_108 dX9_wetness_53 o_a18 ea19 ?_
      refine r_aload_n (pc := 56) C dX9_wetness_56 0 rfl ?_
      obtain ⟨a20, ea20, h⟩ := h
      refine r_getr (pc := 57) C fL_X9_44 dX9_wetness_57 o_v0 ea20 ?_
      obtain ⟨o_a20, h⟩ := h
      refine r_geti (pc := 60) C fL_X9_282 dX9_wetness_60 o_a20 ?_
      refine r_topi (fun x21 ex21 => ?_)
      have h := h x21 ex21
      obtain ⟨o_a19, h⟩ := h
      obtain ⟨i22, a23, ea23, h⟩ := h
      refine r_aald19 (pc := 63) C dX9_wetness_63 o_a19 i22 ea23 ?_
      refine r_callSl0 (pc := 64) C (rest := [.long x17]) rfl [.ref a23] yS_X9_coatParts g_1026 (c_X9_coatParts h) dX9_wetness_64 rfl rfl (Nat.le_of_ble_eq_true rfl) ⟨by decide, by decide⟩ ⟨by decide, by decide⟩ ⟨rfl, rfl⟩ (fun x26 S24 h g25 => ?_)
      have h := h g25
      have o_a1 := gr_ob g25 o_a1
      have o_a13 := gr_ob g25 o_a13
      have o_a14 := gr_ob g25 o_a14
      have o_a18 := gr_ob g25 o_a18
      have o_a19 := gr_ob g25 o_a19
      have o_a20 := gr_ob g25 o_a20
      have o_a6 := gr_ob g25 o_a6
      have o_a7 := gr_ob g25 o_a7
      have o_v0 := gr_ob g25 o_v0
      refine r_lsub (pc := 67) C dX9_wetness_67 ?_
      refine r_topl (fun x27 ex27 => ?_)
      have h := h x27 ex27
      refine r_lstore_n (pc := 68) C dX9_wetness_68 rfl (by decide) (lv' := [(2, .long x27), (0, .ref v0), (1, .int v1)]) rfl ?_
      refine r_lload_n (pc := 69) C dX9_wetness_69 0 rfl ?_
      refine r_lconst (pc := 70) C (v := (0 : Int64)) dX9_wetness_70 (by decide) ?_
      refine r_maxl (pc := 71) C g_1029 dX9_wetness_71 (by decide) (Nat.le_of_ble_eq_true rfl) (by decide) (by decide) ?_
      refine r_topl (fun x28 ex28 => ?_)
      have h := h x28 ex28
      refine r_ldc2 (pc := 74) C (v := (2520 : Int64)) dX9_wetness_74 g_721 ?_
      refine r_iload_n (pc := 77) C dX9_wetness_77 2 rfl ?_
      refine r_callSl0 (pc := 78) C (rest := []) rfl [.long x28, .long (2520 : Int64), .int v1] yS_X9_fraction g_722 (c_X9_fraction h) dX9_wetness_78 rfl rfl (Nat.le_of_ble_eq_true rfl) ⟨by decide, by decide⟩ ⟨by decide, by decide⟩ ⟨rfl, rfl⟩ (fun x31 S29 h g30 => ?_)
      have h := h g30
      have o_a1 := gr_ob g30 o_a1
      have o_a13 := gr_ob g30 o_a13
      have o_a14 := gr_ob g30 o_a14
      have o_a18 := gr_ob g30 o_a18
      have o_a19 := gr_ob g30 o_a19
      have o_a20 := gr_ob g30 o_a20
      have o_a6 := gr_ob g30 o_a6
      have o_a7 := gr_ob g30 o_a7
      have o_v0 := gr_ob g30 o_v0
      exact r_lret (pc := 81) C E ht dX9_wetness_81 (by decide) (by decide) h
    · have h := h.2 c12
      exact r_sub [0] rfl (T_X9_wetness_27 C E ht hn h)
def P_X9_wetness (v0 : Nat) (v1 : Int32) (Q : Int64 → HS → Prop) (S : HS) : Prop := P_X9_wetness_0 Q v0 v1 S
theorem c_X9_wetness {l : Launch} {Ee : EE} {S : HS} {v0 : Nat} {v1 : Int32} {Q : Int64 → HS → Prop} (h : P_X9_wetness v0 v1 Q S) : MJ l yX9_wetness cX9_wetness 4 (some .long) rm_X9_wetness Ee S [.ref v0, .int v1] Q :=
  openJ (by decide) (Nat.le_of_ble_eq_true rfl) (fun X C E ht hn hE hl => by subst hE; exact r_sub [0, 1] rfl (T_X9_wetness_0 C E ht hn h))
def rm_X9_where : Room := { frames := 0, cells := 0, slots := 0, locals := 0 }
def P_X9_where_0 (Q : Int32 → HS → Prop) (v0 : Nat) (S : HS) : Prop := ob S v0 9 ∧ (∀ x1 : Int32, x1 = fI S v0 9 → (((¬ x1 = (4 : Int32)) → (Q (-1 : Int32) S)) ∧ ((x1 = (4 : Int32)) → (∀ x3 : Int32, x3 = fI S v0 8 → (Q x3 S)))))
set_option maxRecDepth 20000 in
set_option maxHeartbeats 4000000 in
theorem T_X9_where_0 {X : CX} {Q : Int32 → HS → Prop} (C : Cx X cX9_where RX9 1 rm_X9_where) (E : ReI X rm_X9_where Q) (ht : (xh X).sig.returnType = (some .int)) (hn : (xh X).name = yX9_where.name) {v0 : Nat} {S : HS} (h : P_X9_where_0 Q v0 S) : WS X 1 0 0 0 [(0, .ref v0)] [] S := by
  refine r_aload_n (pc := 0) C dX9_where_0 0 rfl ?_
  obtain ⟨o_v0, h⟩ := h
  refine r_geti (pc := 1) C fL_X9_92 dX9_where_1 o_v0 ?_
  refine r_topi (fun x1 ex1 => ?_)
  have h := h x1 ex1
  refine r_iconst (pc := 4) C (v := (4 : Int32)) dX9_where_4 (by decide) ?_
  refine r_icmp_ne (pc := 5) C (tgt := 15) dX9_where_5 (by decide) (fun c2 => ?_) (fun c2 => ?_)
  · have h := h.1 c2
    refine r_iconst (pc := 15) C (v := (-1 : Int32)) dX9_where_15 (by decide) ?_
    exact r_iret (pc := 16) C E ht dX9_where_16 (by decide) (by decide) h
  · have h := h.2 c2
    refine r_aload_n (pc := 8) C dX9_where_8 0 rfl ?_
    refine r_geti (pc := 9) C fL_X9_73 dX9_where_9 o_v0 ?_
    refine r_topi (fun x3 ex3 => ?_)
    have h := h x3 ex3
    refine r_goto (pc := 12) C (tgt := 16) dX9_where_12 (by decide) ?_
    exact r_iret (pc := 16) C E ht dX9_where_16 (by decide) (by decide) h
def P_X9_where (v0 : Nat) (Q : Int32 → HS → Prop) (S : HS) : Prop := P_X9_where_0 Q v0 S
theorem c_X9_where {l : Launch} {Ee : EE} {S : HS} {v0 : Nat} {Q : Int32 → HS → Prop} (h : P_X9_where v0 Q S) : MI l yX9_where cX9_where 1 (some .int) rm_X9_where Ee S [.ref v0] Q :=
  openI (by decide) (Nat.le_of_ble_eq_true rfl) (fun X C E ht hn hE hl => by subst hE; exact r_sub [0] rfl (T_X9_where_0 C E ht hn h))
def rm_X9_world : Room := { frames := 11, cells := 0, slots := 0, locals := 257 }
def P_X9_world_12 (Q : Int32 → HS → Prop) (v0 : Nat) (S : HS) : Prop := ob S v0 9 ∧ (P_X9_refuse v0 (2 : Int32) (fun x3 S1 => Gr S S1 → (Q x3 S1)) S)
set_option maxRecDepth 20000 in
set_option maxHeartbeats 4000000 in
theorem T_X9_world_12 {X : CX} {Q : Int32 → HS → Prop} (C : Cx X cX9_world RX9 3 rm_X9_world) (E : ReI X rm_X9_world Q) (ht : (xh X).sig.returnType = (some .int)) (hn : (xh X).name = yX9_world.name) {v0 : Nat} {S : HS} (h : P_X9_world_12 Q v0 S) : WS X 3 0 0 12 [(0, .ref v0)] [] S := by
  refine r_aload_n (pc := 12) C dX9_world_12 0 rfl ?_
  refine r_iconst (pc := 13) C (v := (2 : Int32)) dX9_world_13 (by decide) ?_
  obtain ⟨o_v0, h⟩ := h
  refine r_callVi0 (pc := 14) C (rest := []) (a := v0) o_v0 [.int (2 : Int32)] yV_X9_refuse g_430 (c_X9_refuse h) dX9_world_14 rfl rfl (Nat.le_of_ble_eq_true rfl) ⟨by decide, by decide⟩ ⟨by decide, by decide⟩ ⟨rfl, rfl⟩ (fun x3 S1 h g2 => ?_)
  have h := h g2
  have o_v0 := gr_ob g2 o_v0
  exact r_iret (pc := 17) C E ht dX9_world_17 (by decide) (by decide) h
def P_X9_world_0 (Q : Int32 → HS → Prop) (v0 : Nat) (v1 : Int32) (S : HS) : Prop := ((v1 < 0) → (P_X9_world_12 Q v0 S)) ∧ ((¬ v1 < 0) → (ob S v0 9 ∧ (∀ x2 : Int32, x2 = fI S v0 1 → (((v1 ≤ x2) → (∃ a4 : Nat, fR S v0 3 = some a4 ∧ (∃ a5 : Nat, fR S v0 0 = some a5 ∧ (ob S a4 4 ∧ (P_X4_read a4 a5 v1 (fun x8 S6 => Gr S S6 → bl x8 → (∃ a9 : Nat, fR (sI S6 v0 1 (0 : Int32)) v0 3 = some a9 ∧ (ob (sI S6 v0 1 (0 : Int32)) a9 4 ∧ (∀ x10 : Int32, x10 = fI (sI S6 v0 1 (0 : Int32)) a9 0 → (∃ a11 : Nat, fR (sI (sI S6 v0 1 (0 : Int32)) v0 7 x10) v0 3 = some a11 ∧ (ob (sI (sI S6 v0 1 (0 : Int32)) v0 7 x10) a11 4 ∧ (∀ x12 : Int32, x12 = fI (sI (sI S6 v0 1 (0 : Int32)) v0 7 x10) a11 1 → (((¬ x8 = 0) → (∃ a14 : Nat, fR (sI (sI (sI S6 v0 1 (0 : Int32)) v0 7 x10) v0 8 x12) v0 3 = some a14 ∧ (∃ a15 : Nat, fR (sI (sI (sI S6 v0 1 (0 : Int32)) v0 7 x10) v0 8 x12) v0 2 = some a15 ∧ (ob (sI (sI (sI S6 v0 1 (0 : Int32)) v0 7 x10) v0 8 x12) a14 4 ∧ (P_X4_exchange a14 a15 (fun a18 S16 => Gr (sI (sI (sI S6 v0 1 (0 : Int32)) v0 7 x10) v0 8 x12) S16 → (∃ a19 : Nat, fR (sR S16 v0 2 (some a18)) v0 5 = some a19 ∧ (ob (sR S16 v0 2 (some a18)) a19 7 ∧ (P_X7_forget a19 (fun S20 => Gr (sR S16 v0 2 (some a18)) S20 → (∃ a23 : Nat, fR S20 v0 6 = some a23 ∧ (ob S20 a23 0 ∧ (P_X0_end a23 (fun S24 => Gr S20 S24 → (∃ a27 : Nat, fR S24 v0 2 = some a27 ∧ (ob S24 a27 8 ∧ (∀ x28 : Int32, x28 = fI S24 a27 4 → (P_X9_grant v0 x28 (fun x31 S29 => Gr S24 S29 → (Q x31 S29)) S24))))) S20)))) (sR S16 v0 2 (some a18)))))) (sI (sI (sI S6 v0 1 (0 : Int32)) v0 7 x10) v0 8 x12)))))) ∧ ((x8 = 0) → (P_X9_refuse v0 (4 : Int32) (fun x34 S32 => Gr (sI (sI (sI S6 v0 1 (0 : Int32)) v0 7 x10) v0 8 x12) S32 → (Q x34 S32)) (sI (sI (sI S6 v0 1 (0 : Int32)) v0 7 x10) v0 8 x12))))))))))) S))))) ∧ ((¬ v1 ≤ x2) → (P_X9_world_12 Q v0 S))))))
set_option maxRecDepth 20000 in
set_option maxHeartbeats 4000000 in
theorem T_X9_world_0 {X : CX} {Q : Int32 → HS → Prop} (C : Cx X cX9_world RX9 3 rm_X9_world) (E : ReI X rm_X9_world Q) (ht : (xh X).sig.returnType = (some .int)) (hn : (xh X).name = yX9_world.name) {v0 : Nat} {v1 : Int32} {S : HS} (h : P_X9_world_0 Q v0 v1 S) : WS X 3 0 0 0 [(0, .ref v0), (1, .int v1)] [] S := by
  refine r_iload_n (pc := 0) C dX9_world_0 1 rfl ?_
  refine r_if_lt (pc := 1) C (tgt := 12) dX9_world_1 (by decide) (fun c1 => ?_) (fun c1 => ?_)
  · have h := h.1 c1
    exact r_sub [0] rfl (T_X9_world_12 C E ht hn h)
  · have h := h.2 c1
    refine r_iload_n (pc := 4) C dX9_world_4 1 rfl ?_
    refine r_aload_n (pc := 5) C dX9_world_5 0 rfl ?_
    obtain ⟨o_v0, h⟩ := h
    refine r_geti (pc := 6) C fL_X9_48 dX9_world_6 o_v0 ?_
    refine r_topi (fun x2 ex2 => ?_)
    have h := h x2 ex2
    refine r_icmp_le (pc := 9) C (tgt := 18) dX9_world_9 (by decide) (fun c3 => ?_) (fun c3 => ?_)
    · have h := h.1 c3
      refine r_aload_n (pc := 18) C dX9_world_18 0 rfl ?_
      obtain ⟨a4, ea4, h⟩ := h
      refine r_getr (pc := 19) C fL_X9_23 dX9_world_19 o_v0 ea4 ?_
      refine r_aload_n (pc := 22) C dX9_world_22 0 rfl ?_
      obtain ⟨a5, ea5, h⟩ := h
      refine r_getr (pc := 23) C fL_X9_9 dX9_world_23 o_v0 ea5 ?_
      refine r_iload_n (pc := 26) C dX9_world_26 1 rfl ?_
      obtain ⟨o_a4, h⟩ := h
      refine r_callVi0 (pc := 27) C (rest := []) (a := a4) o_a4 [.ref a5, .int v1] yV_X4_read g_434 (c_X4_read h) dX9_world_27 rfl rfl (Nat.le_of_ble_eq_true rfl) ⟨by decide, by decide⟩ ⟨by decide, by decide⟩ ⟨rfl, rfl⟩ (fun x8 S6 h g7 => ?_)
      have bx8 := h.1
      have h := h.2 g7 bx8
      have o_a4 := gr_ob g7 o_a4
      have o_v0 := gr_ob g7 o_v0
      refine r_istore_n (pc := 30) C dX9_world_30 rfl (by decide) (lv' := [(2, .int x8), (0, .ref v0), (1, .int v1)]) rfl ?_
      refine r_aload_n (pc := 31) C dX9_world_31 1 rfl ?_
      refine r_iconst (pc := 32) C (v := (0 : Int32)) dX9_world_32 (by decide) ?_
      refine r_puti (pc := 33) C pfL_X9_48 dX9_world_33 o_v0 ?_
      refine r_aload_n (pc := 36) C dX9_world_36 1 rfl ?_
      refine r_aload_n (pc := 37) C dX9_world_37 1 rfl ?_
      obtain ⟨a9, ea9, h⟩ := h
      refine r_getr (pc := 38) C fL_X9_23 dX9_world_38 o_v0 ea9 ?_
      obtain ⟨o_a9, h⟩ := h
      refine r_geti (pc := 41) C fL_X9_64 dX9_world_41 o_a9 ?_
      refine r_topi (fun x10 ex10 => ?_)
      have h := h x10 ex10
      refine r_puti (pc := 44) C pfL_X9_67 dX9_world_44 o_v0 ?_
      refine r_aload_n (pc := 47) C dX9_world_47 1 rfl ?_
      refine r_aload_n (pc := 48) C dX9_world_48 1 rfl ?_
      obtain ⟨a11, ea11, h⟩ := h
      refine r_getr (pc := 49) C fL_X9_23 dX9_world_49 o_v0 ea11 ?_
      obtain ⟨o_a11, h⟩ := h
      refine r_geti (pc := 52) C fL_X9_70 dX9_world_52 o_a11 ?_
      refine r_topi (fun x12 ex12 => ?_)
      have h := h x12 ex12
      refine r_puti (pc := 55) C pfL_X9_73 dX9_world_55 o_v0 ?_
      refine r_iload_n (pc := 58) C dX9_world_58 0 rfl ?_
      refine r_if_ne (pc := 59) C (tgt := 68) dX9_world_59 (by decide) (fun c13 => ?_) (fun c13 => ?_)
      · have h := h.1 c13
        refine r_aload_n (pc := 68) C dX9_world_68 1 rfl ?_
        refine r_aload_n (pc := 69) C dX9_world_69 1 rfl ?_
        obtain ⟨a14, ea14, h⟩ := h
        refine r_getr (pc := 70) C fL_X9_23 dX9_world_70 o_v0 ea14 ?_
        refine r_aload_n (pc := 73) C dX9_world_73 1 rfl ?_
        obtain ⟨a15, ea15, h⟩ := h
        refine r_getr (pc := 74) C fL_X9_16 dX9_world_74 o_v0 ea15 ?_
        obtain ⟨o_a14, h⟩ := h
        refine r_callVr0 (pc := 77) C (rest := [.ref v0]) (a := a14) o_a14 [.ref a15] yV_X4_exchange g_625 (c_X4_exchange h) dX9_world_77 rfl rfl (Nat.le_of_ble_eq_true rfl) ⟨by decide, by decide⟩ ⟨by decide, by decide⟩ ⟨rfl, rfl⟩ (fun r S16 h g17 => ?_)
        obtain ⟨a18, rfl, h⟩ := h
        have h := h g17
        refine r_rf ?_
        have o_a11 := gr_ob g17 o_a11
        have o_a14 := gr_ob g17 o_a14
        have o_a4 := gr_ob g17 o_a4
        have o_a9 := gr_ob g17 o_a9
        have o_v0 := gr_ob g17 o_v0
        refine r_putr (pc := 80) C pfL_X9_16 dX9_world_80 o_v0 ?_
        refine r_aload_n (pc := 83) C dX9_world_83 1 rfl ?_
        obtain ⟨a19, ea19, h⟩ := h
        refine r_getr (pc := 84) C fL_X9_37 dX9_world_84 o_v0 ea19 ?_
        obtain ⟨o_a19, h⟩ := h
        refine r_callVv0 (pc := 87) C (rest := []) (a := a19) o_a19 [] yV_X7_forget g_629 (c_X7_forget h) dX9_world_87 rfl rfl (Nat.le_of_ble_eq_true rfl) ⟨by decide, by decide⟩ ⟨by decide, by decide⟩ ⟨rfl, rfl⟩ (fun S20 h g21 => ?_)
        have h := h g21
        have o_a11 := gr_ob g21 o_a11
        have o_a14 := gr_ob g21 o_a14
        have o_a19 := gr_ob g21 o_a19
        have o_a4 := gr_ob g21 o_a4
        have o_a9 := gr_ob g21 o_a9
        have o_v0 := gr_ob g21 o_v0
        refine r_aload_n (pc := 90) C dX9_world_90 1 rfl ?_
        obtain ⟨a23, ea23, h⟩ := h
        refine r_getr (pc := 91) C fL_X9_44 dX9_world_91 o_v0 ea23 ?_
        obtain ⟨o_a23, h⟩ := h
        refine r_callVv0 (pc := 94) C (rest := []) (a := a23) o_a23 [] yV_X0_end g_633 (c_X0_end h) dX9_world_94 rfl rfl (Nat.le_of_ble_eq_true rfl) ⟨by decide, by decide⟩ ⟨by decide, by decide⟩ ⟨rfl, rfl⟩ (fun S24 h g25 => ?_)
        have h := h g25
        have o_a11 := gr_ob g25 o_a11
        have o_a14 := gr_ob g25 o_a14
        have o_a19 := gr_ob g25 o_a19
        have o_a23 := gr_ob g25 o_a23
        have o_a4 := gr_ob g25 o_a4
        have o_a9 := gr_ob g25 o_a9
        have o_v0 := gr_ob g25 o_v0
        refine r_aload_n (pc := 97) C dX9_world_97 1 rfl ?_
        refine r_aload_n (pc := 98) C dX9_world_98 1 rfl ?_
        obtain ⟨a27, ea27, h⟩ := h
        refine r_getr (pc := 99) C fL_X9_16 dX9_world_99 o_v0 ea27 ?_
        obtain ⟨o_a27, h⟩ := h
        refine r_geti (pc := 102) C fL_X9_86 dX9_world_102 o_a27 ?_
        refine r_topi (fun x28 ex28 => ?_)
        have h := h x28 ex28
        refine r_callVi0 (pc := 105) C (rest := []) (a := v0) o_v0 [.int x28] yV_X9_grant g_637 (c_X9_grant h) dX9_world_105 rfl rfl (Nat.le_of_ble_eq_true rfl) ⟨by decide, by decide⟩ ⟨by decide, by decide⟩ ⟨rfl, rfl⟩ (fun x31 S29 h g30 => ?_)
        have h := h g30
        have o_a11 := gr_ob g30 o_a11
        have o_a14 := gr_ob g30 o_a14
        have o_a19 := gr_ob g30 o_a19
        have o_a23 := gr_ob g30 o_a23
        have o_a27 := gr_ob g30 o_a27
        have o_a4 := gr_ob g30 o_a4
        have o_a9 := gr_ob g30 o_a9
        have o_v0 := gr_ob g30 o_v0
        exact r_iret (pc := 108) C E ht dX9_world_108 (by decide) (by decide) h
      · have h := h.2 c13
        refine r_aload_n (pc := 62) C dX9_world_62 1 rfl ?_
        refine r_iconst (pc := 63) C (v := (4 : Int32)) dX9_world_63 (by decide) ?_
        refine r_callVi0 (pc := 64) C (rest := []) (a := v0) o_v0 [.int (4 : Int32)] yV_X9_refuse g_430 (c_X9_refuse h) dX9_world_64 rfl rfl (Nat.le_of_ble_eq_true rfl) ⟨by decide, by decide⟩ ⟨by decide, by decide⟩ ⟨rfl, rfl⟩ (fun x34 S32 h g33 => ?_)
        have h := h g33
        have o_a11 := gr_ob g33 o_a11
        have o_a4 := gr_ob g33 o_a4
        have o_a9 := gr_ob g33 o_a9
        have o_v0 := gr_ob g33 o_v0
        exact r_iret (pc := 67) C E ht dX9_world_67 (by decide) (by decide) h
    · have h := h.2 c3
      exact r_sub [0] rfl (T_X9_world_12 C E ht hn h)
def P_X9_world (v0 : Nat) (v1 : Int32) (Q : Int32 → HS → Prop) (S : HS) : Prop := P_X9_world_0 Q v0 v1 S
theorem c_X9_world {l : Launch} {Ee : EE} {S : HS} {v0 : Nat} {v1 : Int32} {Q : Int32 → HS → Prop} (h : P_X9_world v0 v1 Q S) : MI l yX9_world cX9_world 3 (some .int) rm_X9_world Ee S [.ref v0, .int v1] Q :=
  openI (by decide) (Nat.le_of_ble_eq_true rfl) (fun X C E ht hn hE hl => by subst hE; exact r_sub [0, 1] rfl (T_X9_world_0 C E ht hn h))
def rm_X9_worst : Room := { frames := 5, cells := 0, slots := 0, locals := 131 }
def P_X9_worst_0 (Q : Int32 → HS → Prop) (v0 : Nat) (v1 : Int32) (v2 : Int32) (v3 : Int32) (v4 : Int32) (S : HS) : Prop := ob S v0 9 ∧ (P_X9_tripTrouble v0 v1 v2 v3 v4 (fun x3 S1 => Gr S S1 → (P_X9_refusedBy v0 x3 (fun x6 S4 => Gr S1 S4 → bl x6 → (((x6 = 0) → (∃ a8 : Nat, fR S4 v0 4 = some a8 ∧ (∃ a9 : Nat, fR S4 v0 2 = some a9 ∧ (ob S4 a9 8 ∧ (∃ a10 : Nat, fR S4 a9 9 = some a10 ∧ (ob S4 a10 19 ∧ (vp_in v1 (hN S4 a10) ∧ ∃ a12 : Nat, fR S4 a10 v1.toNatClampNeg = some a12 ∧ (∃ a13 : Nat, fR S4 v0 2 = some a13 ∧ (ob S4 a13 8 ∧ (∃ a14 : Nat, fR S4 a13 8 = some a14 ∧ (ob S4 a14 18 ∧ (vp_in v2 (hN S4 a14) ∧ ∃ a16 : Nat, fR S4 a14 v2.toNatClampNeg = some a16 ∧ (∃ a17 : Nat, fR S4 v0 2 = some a17 ∧ (ob S4 a17 8 ∧ (∃ a18 : Nat, fR S4 a17 6 = some a18 ∧ (ob S4 a18 17 ∧ (vp_in v4 (hN S4 a18) ∧ ∃ a20 : Nat, fR S4 a18 v4.toNatClampNeg = some a20 ∧ (ob S4 a8 1 ∧ (P_X1_worstSpeed a8 a12 a16 v3 a20 (fun x23 S21 => Gr S4 S21 → (Q x23 S21)) S4))))))))))))))))))) ∧ ((¬ x6 = 0) → (Q (-1 : Int32) S4)))) S1)) S)
set_option maxRecDepth 20000 in
set_option maxHeartbeats 4000000 in
theorem T_X9_worst_0 {X : CX} {Q : Int32 → HS → Prop} (C : Cx X cX9_worst RX9 5 rm_X9_worst) (E : ReI X rm_X9_worst Q) (ht : (xh X).sig.returnType = (some .int)) (hn : (xh X).name = yX9_worst.name) {v0 : Nat} {v1 : Int32} {v2 : Int32} {v3 : Int32} {v4 : Int32} {S : HS} (h : P_X9_worst_0 Q v0 v1 v2 v3 v4 S) : WS X 5 0 0 0 [(0, .ref v0), (1, .int v1), (2, .int v2), (3, .int v3), (4, .int v4)] [] S := by
  refine r_aload_n (pc := 0) C dX9_worst_0 0 rfl ?_
  refine r_aload_n (pc := 1) C dX9_worst_1 0 rfl ?_
  refine r_iload_n (pc := 2) C dX9_worst_2 1 rfl ?_
  refine r_iload_n (pc := 3) C dX9_worst_3 2 rfl ?_
  refine r_iload_n (pc := 4) C dX9_worst_4 3 rfl ?_
  refine r_iload (pc := 5) C dX9_worst_5 4 rfl ?_
  obtain ⟨o_v0, h⟩ := h
  refine r_callVi0 (pc := 7) C (rest := [.ref v0]) (a := v0) o_v0 [.int v1, .int v2, .int v3, .int v4] yV_X9_tripTrouble g_660 (c_X9_tripTrouble h) dX9_worst_7 rfl rfl (Nat.le_of_ble_eq_true rfl) ⟨by decide, by decide⟩ ⟨by decide, by decide⟩ ⟨rfl, rfl⟩ (fun x3 S1 h g2 => ?_)
  have h := h g2
  have o_v0 := gr_ob g2 o_v0
  refine r_callVi0 (pc := 10) C (rest := []) (a := v0) o_v0 [.int x3] yV_X9_refusedBy g_683 (c_X9_refusedBy h) dX9_worst_10 rfl rfl (Nat.le_of_ble_eq_true rfl) ⟨by decide, by decide⟩ ⟨by decide, by decide⟩ ⟨rfl, rfl⟩ (fun x6 S4 h g5 => ?_)
  have bx6 := h.1
  have h := h.2 g5 bx6
  have o_v0 := gr_ob g5 o_v0
  refine r_if_eq (pc := 13) C (tgt := 18) dX9_worst_13 (by decide) (fun c7 => ?_) (fun c7 => ?_)
  · have h := h.1 c7
    refine r_aload_n (pc := 18) C dX9_worst_18 0 rfl ?_
    obtain ⟨a8, ea8, h⟩ := h
    refine r_getr (pc := 19) C fL_X9_30 dX9_worst_19 o_v0 ea8 ?_
    refine r_aload_n (pc := 22) C dX9_worst_22 0 rfl ?_
    obtain ⟨a9, ea9, h⟩ := h
    refine r_getr (pc := 23) C fL_X9_16 dX9_worst_23 o_v0 ea9 ?_
    obtain ⟨o_a9, h⟩ := h
    obtain ⟨a10, ea10, h⟩ := h
    refine r_getr (pc := 26) C fL_X9_108 dX9_worst_26 o_a9 ea10 ?_
    refine r_iload_n (pc := 29) C dX9_worst_29 1 rfl ?_
    obtain ⟨o_a10, h⟩ := h
    obtain ⟨i11, a12, ea12, h⟩ := h
    refine r_aald19 (pc := 30) C dX9_worst_30 o_a10 i11 ea12 ?_
    refine r_aload_n (pc := 31) C dX9_worst_31 0 rfl ?_
    obtain ⟨a13, ea13, h⟩ := h
    refine r_getr (pc := 32) C fL_X9_16 dX9_worst_32 o_v0 ea13 ?_
    obtain ⟨o_a13, h⟩ := h
    obtain ⟨a14, ea14, h⟩ := h
    refine r_getr (pc := 35) C fL_X9_112 dX9_worst_35 o_a13 ea14 ?_
    refine r_iload_n (pc := 38) C dX9_worst_38 2 rfl ?_
    obtain ⟨o_a14, h⟩ := h
    obtain ⟨i15, a16, ea16, h⟩ := h
    refine r_aald18 (pc := 39) C dX9_worst_39 o_a14 i15 ea16 ?_
    refine r_iload_n (pc := 40) C dX9_worst_40 3 rfl ?_
    refine r_aload_n (pc := 41) C dX9_worst_41 0 rfl ?_
    obtain ⟨a17, ea17, h⟩ := h
    refine r_getr (pc := 42) C fL_X9_16 dX9_worst_42 o_v0 ea17 ?_
    obtain ⟨o_a17, h⟩ := h
    obtain ⟨a18, ea18, h⟩ := h
    refine r_getr (pc := 45) C fL_X9_116 dX9_worst_45 o_a17 ea18 ?_
    refine r_iload (pc := 48) C dX9_worst_48 4 rfl ?_
    obtain ⟨o_a18, h⟩ := h
    obtain ⟨i19, a20, ea20, h⟩ := h
    refine r_aald17 (pc := 50) C dX9_worst_50 o_a18 i19 ea20 ?_
    obtain ⟨o_a8, h⟩ := h
    refine r_callVi0 (pc := 51) C (rest := []) (a := a8) o_a8 [.ref a12, .ref a16, .int v3, .ref a20] yV_X1_worstSpeed g_779 (c_X1_worstSpeed h) dX9_worst_51 rfl rfl (Nat.le_of_ble_eq_true rfl) ⟨by decide, by decide⟩ ⟨by decide, by decide⟩ ⟨rfl, rfl⟩ (fun x23 S21 h g22 => ?_)
    have h := h g22
    have o_a10 := gr_ob g22 o_a10
    have o_a13 := gr_ob g22 o_a13
    have o_a14 := gr_ob g22 o_a14
    have o_a17 := gr_ob g22 o_a17
    have o_a18 := gr_ob g22 o_a18
    have o_a8 := gr_ob g22 o_a8
    have o_a9 := gr_ob g22 o_a9
    have o_v0 := gr_ob g22 o_v0
    exact r_iret (pc := 54) C E ht dX9_worst_54 (by decide) (by decide) h
  · have h := h.2 c7
    refine r_iconst (pc := 16) C (v := (-1 : Int32)) dX9_worst_16 (by decide) ?_
    exact r_iret (pc := 17) C E ht dX9_worst_17 (by decide) (by decide) h
def P_X9_worst (v0 : Nat) (v1 : Int32) (v2 : Int32) (v3 : Int32) (v4 : Int32) (Q : Int32 → HS → Prop) (S : HS) : Prop := P_X9_worst_0 Q v0 v1 v2 v3 v4 S
theorem c_X9_worst {l : Launch} {Ee : EE} {S : HS} {v0 : Nat} {v1 : Int32} {v2 : Int32} {v3 : Int32} {v4 : Int32} {Q : Int32 → HS → Prop} (h : P_X9_worst v0 v1 v2 v3 v4 Q S) : MI l yX9_worst cX9_worst 5 (some .int) rm_X9_worst Ee S [.ref v0, .int v1, .int v2, .int v3, .int v4] Q :=
  openI (by decide) (Nat.le_of_ble_eq_true rfl) (fun X C E ht hn hE hl => by subst hE; exact r_sub [0, 1, 2, 3, 4] rfl (T_X9_worst_0 C E ht hn h))
