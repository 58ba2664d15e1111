def rm_X11_laysWays : Room := { frames := 8, cells := 0, slots := 0, locals := 217 }
def P_X11_laysWays_85 (Q : HS → Prop) (X3 : Nat → Int32 → Int32 → Int32 → Int32 → HS → Prop) (X11 : Nat → Int32 → Int32 → Int32 → Int32 → Int32 → HS → Prop) (v0 : Nat) (v1 : Int32) (v2 : Int32) (v3 : Int32) (v4 : Int32) (v5 : Int32) (S : HS) : Prop := ∀ x1 : Int32, x1 = v5 + (1 : Int32) → (X11 v0 v1 v2 v3 v4 x1 S)
set_option maxRecDepth 20000 in
set_option maxHeartbeats 4000000 in
theorem T_X11_laysWays_85 {X : CX} {Q : HS → Prop} (C : Cx X cX11_laysWays RX11 7 rm_X11_laysWays) (E : ReV X rm_X11_laysWays Q) (ht : (xh X).sig.returnType = none) (hn : (xh X).name = yX11_laysWays.name) {X3 : Nat → Int32 → Int32 → Int32 → Int32 → HS → Prop} (hX3 : ∀ (v0 : Nat) (v1 : Int32) (v2 : Int32) (v3 : Int32) (v4 : Int32) (S : HS), X3 v0 v1 v2 v3 v4 S → WS X 7 0 0 3 [(0, .ref v0), (1, .int v1), (2, .int v2), (3, .int v3), (4, .int v4)] [] S) {X11 : Nat → Int32 → Int32 → Int32 → Int32 → Int32 → HS → Prop} (hX11 : ∀ (v0 : Nat) (v1 : Int32) (v2 : Int32) (v3 : Int32) (v4 : Int32) (v5 : Int32) (S : HS), X11 v0 v1 v2 v3 v4 v5 S → WS X 7 0 0 11 [(0, .ref v0), (1, .int v1), (2, .int v2), (3, .int v3), (4, .int v4), (5, .int v5)] [] S) {v0 : Nat} {v1 : Int32} {v2 : Int32} {v3 : Int32} {v4 : Int32} {v5 : Int32} {S : HS} (h : P_X11_laysWays_85 Q X3 X11 v0 v1 v2 v3 v4 v5 S) : WS X 7 0 0 85 [(0, .ref v0), (1, .int v1), (2, .int v2), (3, .int v3), (4, .int v4), (5, .int v5)] [] S := by
  obtain ⟨x1, ex1⟩ : ∃ z : Int32, z = v5 + (1 : Int32) := ⟨_, rfl⟩
  have h := h x1 ex1
  refine r_iinc (pc := 85) C (v := x1) (lv' := [(5, .int x1), (0, .ref v0), (1, .int v1), (2, .int v2), (3, .int v3), (4, .int v4)]) dX11_laysWays_85 5 rfl ex1.symm (by decide) rfl ?_
  refine r_goto (pc := 88) C (tgt := 11) dX11_laysWays_88 (by decide) ?_
  exact r_sub [1, 2, 3, 4, 5, 0] rfl (hX11 v0 v1 v2 v3 v4 x1 S h)
def P_X11_laysWays_51 (Q : HS → Prop) (X3 : Nat → Int32 → Int32 → Int32 → Int32 → HS → Prop) (X11 : Nat → Int32 → Int32 → Int32 → Int32 → Int32 → HS → Prop) (v0 : Nat) (v1 : Int32) (v2 : Int32) (v3 : Int32) (v4 : Int32) (v5 : Int32) (v6 : Int32) (s0 : Nat) (s1 : Int32) (s2 : Int64) (S : HS) : Prop := ob S s0 14 ∧ (vp_in s1 (hN S s0) ∧ (∀ S2 : HS, S2 = sJ S s0 s1.toNatClampNeg s2 → (ob S2 v0 11 ∧ (∃ a3 : Nat, fR S2 v0 17 = some a3 ∧ (ob S2 a3 13 ∧ (vp_in v6 (hN S2 a3) ∧ (∀ S5 : HS, S5 = sI S2 a3 v6.toNatClampNeg v4 → (∃ a6 : Nat, fR S5 v0 18 = some a6 ∧ (ob S5 a6 13 ∧ (vp_in v6 (hN S5 a6) ∧ (∀ S8 : HS, S8 = sI S5 a6 v6.toNatClampNeg (-1 : Int32) → (((v5 = v2) → (P_X11_laysWays_85 Q X3 X11 v0 v1 v2 v3 v4 v5 S8)) ∧ ((¬ v5 = v2) → (P_X11_tries v0 v1 v5 v4 v3 (fun S10 => Gr S8 S10 → (P_X11_laysWays_85 Q X3 X11 v0 v1 v2 v3 v4 v5 S10)) S8))))))))))))))
set_option maxRecDepth 20000 in
set_option maxHeartbeats 4000000 in
theorem T_X11_laysWays_51 {X : CX} {Q : HS → Prop} (C : Cx X cX11_laysWays RX11 7 rm_X11_laysWays) (E : ReV X rm_X11_laysWays Q) (ht : (xh X).sig.returnType = none) (hn : (xh X).name = yX11_laysWays.name) {X3 : Nat → Int32 → Int32 → Int32 → Int32 → HS → Prop} (hX3 : ∀ (v0 : Nat) (v1 : Int32) (v2 : Int32) (v3 : Int32) (v4 : Int32) (S : HS), X3 v0 v1 v2 v3 v4 S → WS X 7 0 0 3 [(0, .ref v0), (1, .int v1), (2, .int v2), (3, .int v3), (4, .int v4)] [] S) {X11 : Nat → Int32 → Int32 → Int32 → Int32 → Int32 → HS → Prop} (hX11 : ∀ (v0 : Nat) (v1 : Int32) (v2 : Int32) (v3 : Int32) (v4 : Int32) (v5 : Int32) (S : HS), X11 v0 v1 v2 v3 v4 v5 S → WS X 7 0 0 11 [(0, .ref v0), (1, .int v1), (2, .int v2), (3, .int v3), (4, .int v4), (5, .int v5)] [] S) {v0 : Nat} {v1 : Int32} {v2 : Int32} {v3 : Int32} {v4 : Int32} {v5 : Int32} {v6 : Int32} {s0 : Nat} {s1 : Int32} {s2 : Int64} {S : HS} (h : P_X11_laysWays_51 Q X3 X11 v0 v1 v2 v3 v4 v5 v6 s0 s1 s2 S) : WS X 7 0 0 51 [(0, .ref v0), (1, .int v1), (2, .int v2), (3, .int v3), (4, .int v4), (5, .int v5), (6, .int v6)] [.long s2, .int s1, .ref s0] S := by
  obtain ⟨o_s0, h⟩ := h
  obtain ⟨i1, h⟩ := h
  refine r_last (pc := 51) C dX11_laysWays_51 o_s0 i1 ?_
  refine r_heap (fun S2 eS2 => ?_)
  have h := h S2 eS2
  have o_s0 := ob_J eS2 o_s0
  refine r_aload_n (pc := 52) C dX11_laysWays_52 0 rfl ?_
  obtain ⟨o_v0, h⟩ := h
  obtain ⟨a3, ea3, h⟩ := h
  refine r_getr (pc := 53) C fL_X11_21 dX11_laysWays_53 o_v0 ea3 ?_
  refine r_iload (pc := 56) C dX11_laysWays_56 6 rfl ?_
  refine r_iload (pc := 58) C dX11_laysWays_58 4 rfl ?_
  obtain ⟨o_a3, h⟩ := h
  obtain ⟨i4, h⟩ := h
  refine r_iast (pc := 60) C dX11_laysWays_60 o_a3 i4 ?_
  refine r_heap (fun S5 eS5 => ?_)
  have h := h S5 eS5
  have o_a3 := ob_I eS5 o_a3
  have o_s0 := ob_I eS5 o_s0
  have o_v0 := ob_I eS5 o_v0
  refine r_aload_n (pc := 61) C dX11_laysWays_61 0 rfl ?_
  obtain ⟨a6, ea6, h⟩ := h
  refine r_getr (pc := 62) C fL_X11_25 dX11_laysWays_62 o_v0 ea6 ?_
  refine r_iload (pc := 65) C dX11_laysWays_65 6 rfl ?_
  refine r_iconst (pc := 67) C (v := (-1 : Int32)) dX11_laysWays_67 (by decide) ?_
  obtain ⟨o_a6, h⟩ := h
  obtain ⟨i7, h⟩ := h
  refine r_iast (pc := 68) C dX11_laysWays_68 o_a6 i7 ?_
  refine r_heap (fun S8 eS8 => ?_)
  have h := h S8 eS8
  have o_a3 := ob_I eS8 o_a3
  have o_a6 := ob_I eS8 o_a6
  have o_s0 := ob_I eS8 o_s0
  have o_v0 := ob_I eS8 o_v0
  refine r_iload (pc := 69) C dX11_laysWays_69 5 rfl ?_
  refine r_iload_n (pc := 71) C dX11_laysWays_71 2 rfl ?_
  refine r_icmp_eq (pc := 72) C (tgt := 85) dX11_laysWays_72 (by decide) (fun c9 => ?_) (fun c9 => ?_)
  · have h := h.1 c9
    exact r_sub [0, 1, 2, 3, 4, 5] rfl (T_X11_laysWays_85 C E ht hn hX3 hX11 h)
  · have h := h.2 c9
    refine r_aload_n (pc := 75) C dX11_laysWays_75 0 rfl ?_
    refine r_iload_n (pc := 76) C dX11_laysWays_76 1 rfl ?_
    refine r_iload (pc := 77) C dX11_laysWays_77 5 rfl ?_
    refine r_iload (pc := 79) C dX11_laysWays_79 4 rfl ?_
    refine r_iload_n (pc := 81) C dX11_laysWays_81 3 rfl ?_
    refine r_callVv0 (pc := 82) C (rest := []) (a := v0) o_v0 [.int v1, .int v5, .int v4, .int v3] yV_X11_tries g_1691 (c_X11_tries h) dX11_laysWays_82 rfl rfl (Nat.le_of_ble_eq_true rfl) ⟨by decide, by decide⟩ ⟨by decide, by decide⟩ ⟨rfl, rfl⟩ (fun S10 h g11 => ?_)
    have h := h g11
    have o_a3 := gr_ob g11 o_a3
    have o_a6 := gr_ob g11 o_a6
    have o_s0 := gr_ob g11 o_s0
    have o_v0 := gr_ob g11 o_v0
    exact r_sub [0, 1, 2, 3, 4, 5] rfl (T_X11_laysWays_85 C E ht hn hX3 hX11 h)
def B_X11_laysWays_11 (Q : HS → Prop) (X3 : Nat → Int32 → Int32 → Int32 → Int32 → HS → Prop) (X11 : Nat → Int32 → Int32 → Int32 → Int32 → Int32 → HS → Prop) (v0 : Nat) (v1 : Int32) (v2 : Int32) (v3 : Int32) (v4 : Int32) (v5 : Int32) (S : HS) : Prop := ob S v0 11 ∧ (∃ a1 : Nat, fR S v0 3 = some a1 ∧ (ob S a1 10 ∧ (∀ x2 : Int32, x2 = fI S a1 2 → (((x2 ≤ v5) → (∀ x4 : Int32, x4 = v4 + (-1 : Int32) → (X3 v0 v1 v2 v3 x4 S))) ∧ ((¬ x2 ≤ v5) → (P_X11_spotOf v5 v4 (fun x7 S5 => Gr S S5 → (∃ a8 : Nat, fR S5 v0 16 = some a8 ∧ (((¬ v5 = v2) → (P_X11_laysWays_51 Q X3 X11 v0 v1 v2 v3 v4 v5 x7 a8 x7 (-1 : Int64) S5)) ∧ ((v5 = v2) → (P_X11_laysWays_51 Q X3 X11 v0 v1 v2 v3 v4 v5 x7 a8 x7 (0 : Int64) S5))))) S))))))
def P_X11_laysWays_11 (Q : HS → Prop) (X3 : Nat → Int32 → Int32 → Int32 → Int32 → HS → Prop) (v0 : Nat) (v1 : Int32) (v2 : Int32) (v3 : Int32) (v4 : Int32) (v5 : Int32) (S : HS) : Prop := ∀ X11 : Nat → Int32 → Int32 → Int32 → Int32 → Int32 → HS → Prop, (∀ (v0 : Nat) (v1 : Int32) (v2 : Int32) (v3 : Int32) (v4 : Int32) (v5 : Int32) (S : HS), B_X11_laysWays_11 Q X3 X11 v0 v1 v2 v3 v4 v5 S → X11 v0 v1 v2 v3 v4 v5 S) → X11 v0 v1 v2 v3 v4 v5 S
set_option maxRecDepth 20000 in
set_option maxHeartbeats 4000000 in
theorem TB_X11_laysWays_11 {X : CX} {Q : HS → Prop} (C : Cx X cX11_laysWays RX11 7 rm_X11_laysWays) (E : ReV X rm_X11_laysWays Q) (ht : (xh X).sig.returnType = none) (hn : (xh X).name = yX11_laysWays.name) {X3 : Nat → Int32 → Int32 → Int32 → Int32 → HS → Prop} (hX3 : ∀ (v0 : Nat) (v1 : Int32) (v2 : Int32) (v3 : Int32) (v4 : Int32) (S : HS), X3 v0 v1 v2 v3 v4 S → WS X 7 0 0 3 [(0, .ref v0), (1, .int v1), (2, .int v2), (3, .int v3), (4, .int v4)] [] S) {X11 : Nat → Int32 → Int32 → Int32 → Int32 → Int32 → HS → Prop} (hX11 : ∀ (v0 : Nat) (v1 : Int32) (v2 : Int32) (v3 : Int32) (v4 : Int32) (v5 : Int32) (S : HS), X11 v0 v1 v2 v3 v4 v5 S → WS X 7 0 0 11 [(0, .ref v0), (1, .int v1), (2, .int v2), (3, .int v3), (4, .int v4), (5, .int v5)] [] S) {v0 : Nat} {v1 : Int32} {v2 : Int32} {v3 : Int32} {v4 : Int32} {v5 : Int32} {S : HS} (h : B_X11_laysWays_11 Q X3 X11 v0 v1 v2 v3 v4 v5 S) : WS X 7 0 0 11 [(0, .ref v0), (1, .int v1), (2, .int v2), (3, .int v3), (4, .int v4), (5, .int v5)] [] S := by
  refine r_iload (pc := 11) C dX11_laysWays_11 5 rfl ?_
  refine r_aload_n (pc := 13) C dX11_laysWays_13 0 rfl ?_
  obtain ⟨o_v0, h⟩ := h
  obtain ⟨a1, ea1, h⟩ := h
  refine r_getr (pc := 14) C fL_X11_338 dX11_laysWays_14 o_v0 ea1 ?_
  obtain ⟨o_a1, h⟩ := h
  refine r_getNi (pc := 17) C fN_X11_190 dX11_laysWays_17 o_a1 ?_
  refine r_topi (fun x2 ex2 => ?_)
  have h := h x2 ex2
  refine r_icmp_ge (pc := 20) C (tgt := 91) dX11_laysWays_20 (by decide) (fun c3 => ?_) (fun c3 => ?_)
  · have h := h.1 c3
    obtain ⟨x4, ex4⟩ : ∃ z : Int32, z = v4 + (-1 : Int32) := ⟨_, rfl⟩
    have h := h x4 ex4
    refine r_iinc (pc := 91) C (v := x4) (lv' := [(4, .int x4), (0, .ref v0), (1, .int v1), (2, .int v2), (3, .int v3), (5, .int v5)]) dX11_laysWays_91 4 rfl ex4.symm (by decide) rfl ?_
    refine r_goto (pc := 94) C (tgt := 3) dX11_laysWays_94 (by decide) ?_
    exact r_sub [1, 2, 3, 4, 0] rfl (hX3 v0 v1 v2 v3 x4 S h)
  · have h := h.2 c3
    refine r_iload (pc := 23) C dX11_laysWays_23 5 rfl ?_
    refine r_iload (pc := 25) C dX11_laysWays_25 4 rfl ?_
    refine r_callSi0 (pc := 27) C (rest := []) rfl [.int v5, .int v4] yS_X11_spotOf g_1687 (c_X11_spotOf h) dX11_laysWays_27 rfl rfl (Nat.le_of_ble_eq_true rfl) ⟨by decide, by decide⟩ ⟨by decide, by decide⟩ ⟨rfl, rfl⟩ (fun x7 S5 h g6 => ?_)
    have h := h g6
    have o_a1 := gr_ob g6 o_a1
    have o_v0 := gr_ob g6 o_v0
    refine r_istore (pc := 30) C dX11_laysWays_30 (by decide) (lv' := [(6, .int x7), (0, .ref v0), (1, .int v1), (2, .int v2), (3, .int v3), (4, .int v4), (5, .int v5)]) rfl ?_
    refine r_aload_n (pc := 32) C dX11_laysWays_32 1 rfl ?_
    obtain ⟨a8, ea8, h⟩ := h
    refine r_getr (pc := 33) C fL_X11_17 dX11_laysWays_33 o_v0 ea8 ?_
    refine r_iload (pc := 36) C dX11_laysWays_36 0 rfl ?_
    refine r_iload (pc := 38) C dX11_laysWays_38 6 rfl ?_
    refine r_iload_n (pc := 40) C dX11_laysWays_40 3 rfl ?_
    refine r_icmp_ne (pc := 41) C (tgt := 48) dX11_laysWays_41 (by decide) (fun c9 => ?_) (fun c9 => ?_)
    · have h := h.1 c9
      refine r_ldc2 (pc := 48) C (v := (-1 : Int64)) dX11_laysWays_48 g_1690 ?_
      exact r_sub [1, 2, 3, 4, 5, 6, 0] rfl (T_X11_laysWays_51 C E ht hn hX3 hX11 h)
    · have h := h.2 c9
      refine r_lconst (pc := 44) C (v := (0 : Int64)) dX11_laysWays_44 (by decide) ?_
      refine r_goto (pc := 45) C (tgt := 51) dX11_laysWays_45 (by decide) ?_
      exact r_sub [1, 2, 3, 4, 5, 6, 0] rfl (T_X11_laysWays_51 C E ht hn hX3 hX11 h)
theorem T_X11_laysWays_11 {X : CX} {Q : HS → Prop} (C : Cx X cX11_laysWays RX11 7 rm_X11_laysWays) (E : ReV X rm_X11_laysWays Q) (ht : (xh X).sig.returnType = none) (hn : (xh X).name = yX11_laysWays.name) {X3 : Nat → Int32 → Int32 → Int32 → Int32 → HS → Prop} (hX3 : ∀ (v0 : Nat) (v1 : Int32) (v2 : Int32) (v3 : Int32) (v4 : Int32) (S : HS), X3 v0 v1 v2 v3 v4 S → WS X 7 0 0 3 [(0, .ref v0), (1, .int v1), (2, .int v2), (3, .int v3), (4, .int v4)] [] S) {v0 : Nat} {v1 : Int32} {v2 : Int32} {v3 : Int32} {v4 : Int32} {v5 : Int32} {S : HS} (h : P_X11_laysWays_11 Q X3 v0 v1 v2 v3 v4 v5 S) : WS X 7 0 0 11 [(0, .ref v0), (1, .int v1), (2, .int v2), (3, .int v3), (4, .int v4), (5, .int v5)] [] S :=
  h (fun v0 v1 v2 v3 v4 v5 S => WS X 7 0 0 11 [(0, .ref v0), (1, .int v1), (2, .int v2), (3, .int v3), (4, .int v4), (5, .int v5)] [] S) (fun v0 v1 v2 v3 v4 v5 S hh => TB_X11_laysWays_11 C E ht hn hX3 (fun v0 v1 v2 v3 v4 v5 S z => z) hh)
def B_X11_laysWays_3 (Q : HS → Prop) (X3 : Nat → Int32 → Int32 → Int32 → Int32 → HS → Prop) (v0 : Nat) (v1 : Int32) (v2 : Int32) (v3 : Int32) (v4 : Int32) (S : HS) : Prop := ((v4 < 0) → (Q S)) ∧ ((¬ v4 < 0) → (P_X11_laysWays_11 Q X3 v0 v1 v2 v3 v4 (0 : Int32) S))
def P_X11_laysWays_3 (Q : HS → Prop) (v0 : Nat) (v1 : Int32) (v2 : Int32) (v3 : Int32) (v4 : Int32) (S : HS) : Prop := ∀ X3 : Nat → Int32 → Int32 → Int32 → Int32 → HS → Prop, (∀ (v0 : Nat) (v1 : Int32) (v2 : Int32) (v3 : Int32) (v4 : Int32) (S : HS), B_X11_laysWays_3 Q X3 v0 v1 v2 v3 v4 S → X3 v0 v1 v2 v3 v4 S) → X3 v0 v1 v2 v3 v4 S
set_option maxRecDepth 20000 in
set_option maxHeartbeats 4000000 in
theorem TB_X11_laysWays_3 {X : CX} {Q : HS → Prop} (C : Cx X cX11_laysWays RX11 7 rm_X11_laysWays) (E : ReV X rm_X11_laysWays Q) (ht : (xh X).sig.returnType = none) (hn : (xh X).name = yX11_laysWays.name) {X3 : Nat → Int32 → Int32 → Int32 → Int32 → HS → Prop} (hX3 : ∀ (v0 : Nat) (v1 : Int32) (v2 : Int32) (v3 : Int32) (v4 : Int32) (S : HS), X3 v0 v1 v2 v3 v4 S → WS X 7 0 0 3 [(0, .ref v0), (1, .int v1), (2, .int v2), (3, .int v3), (4, .int v4)] [] S) {v0 : Nat} {v1 : Int32} {v2 : Int32} {v3 : Int32} {v4 : Int32} {S : HS} (h : B_X11_laysWays_3 Q X3 v0 v1 v2 v3 v4 S) : WS X 7 0 0 3 [(0, .ref v0), (1, .int v1), (2, .int v2), (3, .int v3), (4, .int v4)] [] S := by
  refine r_iload (pc := 3) C dX11_laysWays_3 4 rfl ?_
  refine r_if_lt (pc := 5) C (tgt := 97) dX11_laysWays_5 (by decide) (fun c1 => ?_) (fun c1 => ?_)
  · have h := h.1 c1
    exact r_vret (pc := 97) C E ht dX11_laysWays_97 (by decide) (by decide) h
  · have h := h.2 c1
    refine r_iconst (pc := 8) C (v := (0 : Int32)) dX11_laysWays_8 (by decide) ?_
    refine r_istore (pc := 9) C dX11_laysWays_9 (by decide) (lv' := [(5, .int (0 : Int32)), (0, .ref v0), (1, .int v1), (2, .int v2), (3, .int v3), (4, .int v4)]) rfl ?_
    exact r_sub [1, 2, 3, 4, 5, 0] rfl (T_X11_laysWays_11 C E ht hn hX3 h)
theorem T_X11_laysWays_3 {X : CX} {Q : HS → Prop} (C : Cx X cX11_laysWays RX11 7 rm_X11_laysWays) (E : ReV X rm_X11_laysWays Q) (ht : (xh X).sig.returnType = none) (hn : (xh X).name = yX11_laysWays.name) {v0 : Nat} {v1 : Int32} {v2 : Int32} {v3 : Int32} {v4 : Int32} {S : HS} (h : P_X11_laysWays_3 Q v0 v1 v2 v3 v4 S) : WS X 7 0 0 3 [(0, .ref v0), (1, .int v1), (2, .int v2), (3, .int v3), (4, .int v4)] [] S :=
  h (fun v0 v1 v2 v3 v4 S => WS X 7 0 0 3 [(0, .ref v0), (1, .int v1), (2, .int v2), (3, .int v3), (4, .int v4)] [] S) (fun v0 v1 v2 v3 v4 S hh => TB_X11_laysWays_3 C E ht hn (fun v0 v1 v2 v3 v4 S z => z) hh)
def P_X11_laysWays_0 (Q : HS → Prop) (v0 : Nat) (v1 : Int32) (v2 : Int32) (v3 : Int32) (S : HS) : Prop := P_X11_laysWays_3 Q v0 v1 v2 v3 v3 S
set_option maxRecDepth 20000 in
set_option maxHeartbeats 4000000 in
theorem T_X11_laysWays_0 {X : CX} {Q : HS → Prop} (C : Cx X cX11_laysWays RX11 7 rm_X11_laysWays) (E : ReV X rm_X11_laysWays Q) (ht : (xh X).sig.returnType = none) (hn : (xh X).name = yX11_laysWays.name) {v0 : Nat} {v1 : Int32} {v2 : Int32} {v3 : Int32} {S : HS} (h : P_X11_laysWays_0 Q v0 v1 v2 v3 S) : WS X 7 0 0 0 [(0, .ref v0), (1, .int v1), (2, .int v2), (3, .int v3)] [] S := by
  refine r_iload_n (pc := 0) C dX11_laysWays_0 3 rfl ?_
  refine r_istore (pc := 1) C dX11_laysWays_1 (by decide) (lv' := [(4, .int v3), (0, .ref v0), (1, .int v1), (2, .int v2), (3, .int v3)]) rfl ?_
  exact r_sub [1, 2, 3, 4, 0] rfl (T_X11_laysWays_3 C E ht hn h)
def P_X11_laysWays (v0 : Nat) (v1 : Int32) (v2 : Int32) (v3 : Int32) (Q : HS → Prop) (S : HS) : Prop := P_X11_laysWays_0 Q v0 v1 v2 v3 S
theorem c_X11_laysWays {l : Launch} {Ee : EE} {S : HS} {v0 : Nat} {v1 : Int32} {v2 : Int32} {v3 : Int32} {Q : HS → Prop} (h : P_X11_laysWays v0 v1 v2 v3 Q S) : MV l yX11_laysWays cX11_laysWays 7 none rm_X11_laysWays Ee S [.ref v0, .int v1, .int v2, .int v3] Q :=
  openV (by decide) (Nat.le_of_ble_eq_true rfl) (fun X C E ht hn hE hl => by subst hE; exact r_sub [0, 1, 2, 3] rfl (T_X11_laysWays_0 C E ht hn h))
def rm_X11_refusesWay : Room := { frames := 9, cells := 0, slots := 0, locals := 243 }
def P_X11_refusesWay_0 (Q : Int32 → HS → Prop) (v0 : Nat) (v1 : Int32) (v2 : Int32) (v3 : Int32) (v4 : Int32) (v5 : Int32) (S : HS) : Prop := ob S v0 11 ∧ (P_X11_isWalker v0 v1 (fun x3 S1 => Gr S S1 → bl x3 → (((x3 = 0) → (Q (1 : Int32) S1)) ∧ ((¬ x3 = 0) → (P_X11_isPlace v0 v2 (fun x7 S5 => Gr S1 S5 → bl x7 → (((x7 = 0) → (Q (1 : Int32) S5)) ∧ ((¬ x7 = 0) → (P_X11_isPlace v0 v3 (fun x11 S9 => Gr S5 S9 → bl x11 → (((¬ x11 = 0) → (P_X11_in v5 (0 : Int32) (400 : Int32) (fun x15 S13 => Gr S9 S13 → bl x15 → (((x15 = 0) → (Q (2 : Int32) S13)) ∧ ((¬ x15 = 0) → (P_X11_in v4 (0 : Int32) v5 (fun x19 S17 => Gr S13 S17 → bl x19 → (((¬ x19 = 0) → (P_X11_laysWays v0 v1 v3 v5 (fun S21 => Gr S17 S21 → (∃ a24 : Nat, fR S21 v0 16 = some a24 ∧ (P_X11_spotOf v2 v4 (fun x27 S25 => Gr S21 S25 → (ob S25 a24 14 ∧ (vp_in x27 (hN S25 a24) ∧ ∀ x29 : Int64, x29 = fJ S25 a24 x27.toNatClampNeg → (((¬ (lg_cmp x29 (-1 : Int64)) = 0) → (Q (0 : Int32) S25)) ∧ (((lg_cmp x29 (-1 : Int64)) = 0) → (Q (6 : Int32) S25)))))) S21))) S17)) ∧ ((x19 = 0) → (Q (2 : Int32) S17)))) S13)))) S9)) ∧ ((x11 = 0) → (Q (1 : Int32) S9)))) S5)))) S1)))) S)
set_option maxRecDepth 20000 in
set_option maxHeartbeats 4000000 in
theorem T_X11_refusesWay_0 {X : CX} {Q : Int32 → HS → Prop} (C : Cx X cX11_refusesWay RX11 6 rm_X11_refusesWay) (E : ReI X rm_X11_refusesWay Q) (ht : (xh X).sig.returnType = (some .int)) (hn : (xh X).name = yX11_refusesWay.name) {v0 : Nat} {v1 : Int32} {v2 : Int32} {v3 : Int32} {v4 : Int32} {v5 : Int32} {S : HS} (h : P_X11_refusesWay_0 Q v0 v1 v2 v3 v4 v5 S) : WS X 6 0 0 0 [(0, .ref v0), (1, .int v1), (2, .int v2), (3, .int v3), (4, .int v4), (5, .int v5)] [] S := by
  refine r_aload_n (pc := 0) C dX11_refusesWay_0 0 rfl ?_
  refine r_iload_n (pc := 1) C dX11_refusesWay_1 1 rfl ?_
  obtain ⟨o_v0, h⟩ := h
  refine r_callVi0 (pc := 2) C (rest := []) (a := v0) o_v0 [.int v1] yV_X11_isWalker g_1538 (c_X11_isWalker h) dX11_refusesWay_2 rfl rfl (Nat.le_of_ble_eq_true rfl) ⟨by decide, by decide⟩ ⟨by decide, by decide⟩ ⟨rfl, rfl⟩ (fun x3 S1 h g2 => ?_)
  have bx3 := h.1
  have h := h.2 g2 bx3
  have o_v0 := gr_ob g2 o_v0
  refine r_if_eq (pc := 5) C (tgt := 24) dX11_refusesWay_5 (by decide) (fun c4 => ?_) (fun c4 => ?_)
  · have h := h.1 c4
    refine r_iconst (pc := 24) C (v := (1 : Int32)) dX11_refusesWay_24 (by decide) ?_
    exact r_iret (pc := 25) C E ht dX11_refusesWay_25 (by decide) (by decide) h
  · have h := h.2 c4
    refine r_aload_n (pc := 8) C dX11_refusesWay_8 0 rfl ?_
    refine r_iload_n (pc := 9) C dX11_refusesWay_9 2 rfl ?_
    refine r_callVi0 (pc := 10) C (rest := []) (a := v0) o_v0 [.int v2] yV_X11_isPlace g_1679 (c_X11_isPlace h) dX11_refusesWay_10 rfl rfl (Nat.le_of_ble_eq_true rfl) ⟨by decide, by decide⟩ ⟨by decide, by decide⟩ ⟨rfl, rfl⟩ (fun x7 S5 h g6 => ?_)
    have bx7 := h.1
    have h := h.2 g6 bx7
    have o_v0 := gr_ob g6 o_v0
    refine r_if_eq (pc := 13) C (tgt := 24) dX11_refusesWay_13 (by decide) (fun c8 => ?_) (fun c8 => ?_)
    · have h := h.1 c8
      refine r_iconst (pc := 24) C (v := (1 : Int32)) dX11_refusesWay_24 (by decide) ?_
      exact r_iret (pc := 25) C E ht dX11_refusesWay_25 (by decide) (by decide) h
    · have h := h.2 c8
      refine r_aload_n (pc := 16) C dX11_refusesWay_16 0 rfl ?_
      refine r_iload_n (pc := 17) C dX11_refusesWay_17 3 rfl ?_
      refine r_callVi0 (pc := 18) C (rest := []) (a := v0) o_v0 [.int v3] yV_X11_isPlace g_1679 (c_X11_isPlace h) dX11_refusesWay_18 rfl rfl (Nat.le_of_ble_eq_true rfl) ⟨by decide, by decide⟩ ⟨by decide, by decide⟩ ⟨rfl, rfl⟩ (fun x11 S9 h g10 => ?_)
      have bx11 := h.1
      have h := h.2 g10 bx11
      have o_v0 := gr_ob g10 o_v0
      refine r_if_ne (pc := 21) C (tgt := 26) dX11_refusesWay_21 (by decide) (fun c12 => ?_) (fun c12 => ?_)
      · have h := h.1 c12
        refine r_iload (pc := 26) C dX11_refusesWay_26 5 rfl ?_
        refine r_iconst (pc := 28) C (v := (0 : Int32)) dX11_refusesWay_28 (by decide) ?_
        refine r_sipush (pc := 29) C (v := (400 : Int32)) dX11_refusesWay_29 (by decide) ?_
        refine r_callSi0 (pc := 32) C (rest := []) rfl [.int v5, .int (0 : Int32), .int (400 : Int32)] yS_X11_in g_1434 (c_X11_in h) dX11_refusesWay_32 rfl rfl (Nat.le_of_ble_eq_true rfl) ⟨by decide, by decide⟩ ⟨by decide, by decide⟩ ⟨rfl, rfl⟩ (fun x15 S13 h g14 => ?_)
        have bx15 := h.1
        have h := h.2 g14 bx15
        have o_v0 := gr_ob g14 o_v0
        refine r_if_eq (pc := 35) C (tgt := 49) dX11_refusesWay_35 (by decide) (fun c16 => ?_) (fun c16 => ?_)
        · have h := h.1 c16
          refine r_iconst (pc := 49) C (v := (2 : Int32)) dX11_refusesWay_49 (by decide) ?_
          exact r_iret (pc := 50) C E ht dX11_refusesWay_50 (by decide) (by decide) h
        · have h := h.2 c16
          refine r_iload (pc := 38) C dX11_refusesWay_38 4 rfl ?_
          refine r_iconst (pc := 40) C (v := (0 : Int32)) dX11_refusesWay_40 (by decide) ?_
          refine r_iload (pc := 41) C dX11_refusesWay_41 5 rfl ?_
          refine r_callSi0 (pc := 43) C (rest := []) rfl [.int v4, .int (0 : Int32), .int v5] yS_X11_in g_1434 (c_X11_in h) dX11_refusesWay_43 rfl rfl (Nat.le_of_ble_eq_true rfl) ⟨by decide, by decide⟩ ⟨by decide, by decide⟩ ⟨rfl, rfl⟩ (fun x19 S17 h g18 => ?_)
          have bx19 := h.1
          have h := h.2 g18 bx19
          have o_v0 := gr_ob g18 o_v0
          refine r_if_ne (pc := 46) C (tgt := 51) dX11_refusesWay_46 (by decide) (fun c20 => ?_) (fun c20 => ?_)
          · have h := h.1 c20
            refine r_aload_n (pc := 51) C dX11_refusesWay_51 0 rfl ?_
            refine r_iload_n (pc := 52) C dX11_refusesWay_52 1 rfl ?_
            refine r_iload_n (pc := 53) C dX11_refusesWay_53 3 rfl ?_
            refine r_iload (pc := 54) C dX11_refusesWay_54 5 rfl ?_
            refine r_callVv0 (pc := 56) C (rest := []) (a := v0) o_v0 [.int v1, .int v3, .int v5] yV_X11_laysWays g_1683 (c_X11_laysWays h) dX11_refusesWay_56 rfl rfl (Nat.le_of_ble_eq_true rfl) ⟨by decide, by decide⟩ ⟨by decide, by decide⟩ ⟨rfl, rfl⟩ (fun S21 h g22 => ?_)
            have h := h g22
            have o_v0 := gr_ob g22 o_v0
            refine r_aload_n (pc := 59) C dX11_refusesWay_59 0 rfl ?_
            obtain ⟨a24, ea24, h⟩ := h
            refine r_getr (pc := 60) C fL_X11_17 dX11_refusesWay_60 o_v0 ea24 ?_
            refine r_iload_n (pc := 63) C dX11_refusesWay_63 2 rfl ?_
            refine r_iload (pc := 64) C dX11_refusesWay_64 4 rfl ?_
            refine r_callSi0 (pc := 66) C (rest := [.ref a24]) rfl [.int v2, .int v4] yS_X11_spotOf g_1687 (c_X11_spotOf h) dX11_refusesWay_66 rfl rfl (Nat.le_of_ble_eq_true rfl) ⟨by decide, by decide⟩ ⟨by decide, by decide⟩ ⟨rfl, rfl⟩ (fun x27 S25 h g26 => ?_)
            have h := h g26
            have o_v0 := gr_ob g26 o_v0
            obtain ⟨o_a24, h⟩ := h
            obtain ⟨i28, h⟩ := h
            refine r_lald (pc := 69) C dX11_refusesWay_69 o_a24 i28 ?_
            refine r_topl (fun x29 ex29 => ?_)
            have h := h x29 ex29
            refine r_ldc2 (pc := 70) C (v := (-1 : Int64)) dX11_refusesWay_70 g_1690 ?_
            refine r_lcmp (pc := 73) C dX11_refusesWay_73 ?_
            refine r_if_ne (pc := 74) C (tgt := 82) dX11_refusesWay_74 (by decide) (fun c30 => ?_) (fun c30 => ?_)
            · have h := h.1 c30
              refine r_iconst (pc := 82) C (v := (0 : Int32)) dX11_refusesWay_82 (by decide) ?_
              exact r_iret (pc := 83) C E ht dX11_refusesWay_83 (by decide) (by decide) h
            · have h := h.2 c30
              refine r_bipush (pc := 77) C (v := (6 : Int32)) dX11_refusesWay_77 (by decide) ?_
              refine r_goto (pc := 79) C (tgt := 83) dX11_refusesWay_79 (by decide) ?_
              exact r_iret (pc := 83) C E ht dX11_refusesWay_83 (by decide) (by decide) h
          · have h := h.2 c20
            refine r_iconst (pc := 49) C (v := (2 : Int32)) dX11_refusesWay_49 (by decide) ?_
            exact r_iret (pc := 50) C E ht dX11_refusesWay_50 (by decide) (by decide) h
      · have h := h.2 c12
        refine r_iconst (pc := 24) C (v := (1 : Int32)) dX11_refusesWay_24 (by decide) ?_
        exact r_iret (pc := 25) C E ht dX11_refusesWay_25 (by decide) (by decide) h
def P_X11_refusesWay (v0 : Nat) (v1 : Int32) (v2 : Int32) (v3 : Int32) (v4 : Int32) (v5 : Int32) (Q : Int32 → HS → Prop) (S : HS) : Prop := P_X11_refusesWay_0 Q v0 v1 v2 v3 v4 v5 S
theorem c_X11_refusesWay {l : Launch} {Ee : EE} {S : HS} {v0 : Nat} {v1 : Int32} {v2 : Int32} {v3 : Int32} {v4 : Int32} {v5 : Int32} {Q : Int32 → HS → Prop} (h : P_X11_refusesWay v0 v1 v2 v3 v4 v5 Q S) : MI l yX11_refusesWay cX11_refusesWay 6 (some .int) rm_X11_refusesWay Ee S [.ref v0, .int v1, .int v2, .int v3, .int v4, .int v5] Q :=
  openI (by decide) (Nat.le_of_ble_eq_true rfl) (fun X C E ht hn hE hl => by subst hE; exact r_sub [0, 1, 2, 3, 4, 5] rfl (T_X11_refusesWay_0 C E ht hn h))
def rm_X11_least : Room := { frames := 10, cells := 0, slots := 0, locals := 268 }
def P_X11_least_0 (Q : Int64 → HS → Prop) (v0 : Nat) (v1 : Int32) (v2 : Int32) (v3 : Int32) (v4 : Int32) (v5 : Int32) (v6 : Int32) (S : HS) : Prop := ob S v0 11 ∧ (∀ S1 : HS, S1 = sI S v0 0 (0 : Int32) → (P_X11_refusesWay v0 v1 v2 v3 v4 v5 (fun x4 S2 => Gr S1 S2 → (((x4 ≤ 0) → (∃ a6 : Nat, fR S2 v0 16 = some a6 ∧ (P_X11_spotOf v2 v4 (fun x9 S7 => Gr S2 S7 → (ob S7 a6 14 ∧ (vp_in x9 (hN S7 a6) ∧ ∀ x11 : Int64, x11 = fJ S7 a6 x9.toNatClampNeg → (P_X11_told v0 x11 (252000 : Int64) v6 (fun x14 S12 => Gr S7 S12 → (Q x14 S12)) S7)))) S2))) ∧ ((¬ x4 ≤ 0) → (P_X11_refused v0 x4 (fun x17 S15 => Gr S2 S15 → (Q x17.toInt64 S15)) S2)))) S1))
set_option maxRecDepth 20000 in
set_option maxHeartbeats 4000000 in
theorem T_X11_least_0 {X : CX} {Q : Int64 → HS → Prop} (C : Cx X cX11_least RX11 8 rm_X11_least) (E : ReJ X rm_X11_least Q) (ht : (xh X).sig.returnType = (some .long)) (hn : (xh X).name = yX11_least.name) {v0 : Nat} {v1 : Int32} {v2 : Int32} {v3 : Int32} {v4 : Int32} {v5 : Int32} {v6 : Int32} {S : HS} (h : P_X11_least_0 Q v0 v1 v2 v3 v4 v5 v6 S) : WS X 8 0 0 0 [(0, .ref v0), (1, .int v1), (2, .int v2), (3, .int v3), (4, .int v4), (5, .int v5), (6, .int v6)] [] S := by
  refine r_aload_n (pc := 0) C dX11_least_0 0 rfl ?_
  refine r_iconst (pc := 1) C (v := (0 : Int32)) dX11_least_1 (by decide) ?_
  obtain ⟨o_v0, h⟩ := h
  refine r_puti (pc := 2) C pfL_X11_40 dX11_least_2 o_v0 ?_
  refine r_heap (fun S1 eS1 => ?_)
  have h := h S1 eS1
  have o_v0 := ob_I eS1 o_v0
  refine r_aload_n (pc := 5) C dX11_least_5 0 rfl ?_
  refine r_iload_n (pc := 6) C dX11_least_6 1 rfl ?_
  refine r_iload_n (pc := 7) C dX11_least_7 2 rfl ?_
  refine r_iload_n (pc := 8) C dX11_least_8 3 rfl ?_
  refine r_iload (pc := 9) C dX11_least_9 4 rfl ?_
  refine r_iload (pc := 11) C dX11_least_11 5 rfl ?_
  refine r_callVi0 (pc := 13) C (rest := []) (a := v0) o_v0 [.int v1, .int v2, .int v3, .int v4, .int v5] yV_X11_refusesWay g_1675 (c_X11_refusesWay h) dX11_least_13 rfl rfl (Nat.le_of_ble_eq_true rfl) ⟨by decide, by decide⟩ ⟨by decide, by decide⟩ ⟨rfl, rfl⟩ (fun x4 S2 h g3 => ?_)
  have h := h g3
  have o_v0 := gr_ob g3 o_v0
  refine r_istore (pc := 16) C dX11_least_16 (by decide) (lv' := [(7, .int x4), (0, .ref v0), (1, .int v1), (2, .int v2), (3, .int v3), (4, .int v4), (5, .int v5), (6, .int v6)]) rfl ?_
  refine r_iload (pc := 18) C dX11_least_18 0 rfl ?_
  refine r_if_le (pc := 20) C (tgt := 33) dX11_least_20 (by decide) (fun c5 => ?_) (fun c5 => ?_)
  · have h := h.1 c5
    refine r_aload_n (pc := 33) C dX11_least_33 1 rfl ?_
    refine r_aload_n (pc := 34) C dX11_least_34 1 rfl ?_
    obtain ⟨a6, ea6, h⟩ := h
    refine r_getr (pc := 35) C fL_X11_17 dX11_least_35 o_v0 ea6 ?_
    refine r_iload_n (pc := 38) C dX11_least_38 3 rfl ?_
    refine r_iload (pc := 39) C dX11_least_39 5 rfl ?_
    refine r_callSi0 (pc := 41) C (rest := [.ref a6, .ref v0]) rfl [.int v2, .int v4] yS_X11_spotOf g_1687 (c_X11_spotOf h) dX11_least_41 rfl rfl (Nat.le_of_ble_eq_true rfl) ⟨by decide, by decide⟩ ⟨by decide, by decide⟩ ⟨rfl, rfl⟩ (fun x9 S7 h g8 => ?_)
    have h := h g8
    have o_v0 := gr_ob g8 o_v0
    obtain ⟨o_a6, h⟩ := h
    obtain ⟨i10, h⟩ := h
    refine r_lald (pc := 44) C dX11_least_44 o_a6 i10 ?_
    refine r_topl (fun x11 ex11 => ?_)
    have h := h x11 ex11
    refine r_ldc2 (pc := 45) C (v := (252000 : Int64)) dX11_least_45 g_1602 ?_
    refine r_iload (pc := 48) C dX11_least_48 7 rfl ?_
    refine r_callVl0 (pc := 50) C (rest := []) (a := v0) o_v0 [.long x11, .long (252000 : Int64), .int v6] yV_X11_told g_1586 (c_X11_told h) dX11_least_50 rfl rfl (Nat.le_of_ble_eq_true rfl) ⟨by decide, by decide⟩ ⟨by decide, by decide⟩ ⟨rfl, rfl⟩ (fun x14 S12 h g13 => ?_)
    have h := h g13
    have o_a6 := gr_ob g13 o_a6
    have o_v0 := gr_ob g13 o_v0
    exact r_lret (pc := 53) C E ht dX11_least_53 (by decide) (by decide) h
  · have h := h.2 c5
    refine r_aload_n (pc := 23) C dX11_least_23 1 rfl ?_
    refine r_iload (pc := 24) C dX11_least_24 0 rfl ?_
    refine r_callVi0 (pc := 26) C (rest := []) (a := v0) o_v0 [.int x4] yV_X11_refused g_1250 (c_X11_refused h) dX11_least_26 rfl rfl (Nat.le_of_ble_eq_true rfl) ⟨by decide, by decide⟩ ⟨by decide, by decide⟩ ⟨rfl, rfl⟩ (fun x17 S15 h g16 => ?_)
    have h := h g16
    have o_v0 := gr_ob g16 o_v0
    refine r_i2l (pc := 29) C dX11_least_29 ?_
    refine r_goto (pc := 30) C (tgt := 53) dX11_least_30 (by decide) ?_
    exact r_lret (pc := 53) C E ht dX11_least_53 (by decide) (by decide) h
def P_X11_least (v0 : Nat) (v1 : Int32) (v2 : Int32) (v3 : Int32) (v4 : Int32) (v5 : Int32) (v6 : Int32) (Q : Int64 → HS → Prop) (S : HS) : Prop := P_X11_least_0 Q v0 v1 v2 v3 v4 v5 v6 S
theorem c_X11_least {l : Launch} {Ee : EE} {S : HS} {v0 : Nat} {v1 : Int32} {v2 : Int32} {v3 : Int32} {v4 : Int32} {v5 : Int32} {v6 : Int32} {Q : Int64 → HS → Prop} (h : P_X11_least v0 v1 v2 v3 v4 v5 v6 Q S) : MJ l yX11_least cX11_least 8 (some .long) rm_X11_least Ee S [.ref v0, .int v1, .int v2, .int v3, .int v4, .int v5, .int v6] Q :=
  openJ (by decide) (Nat.le_of_ble_eq_true rfl) (fun X C E ht hn hE hl => by subst hE; exact r_sub [0, 1, 2, 3, 4, 5, 6] rfl (T_X11_least_0 C E ht hn h))
def rm_X11_led : Room := { frames := 1, cells := 0, slots := 0, locals := 20 }
def P_X11_led_80 (Q : Int32 → HS → Prop) (X9 : Nat → Int32 → Int32 → Int32 → HS → Prop) (v0 : Nat) (v1 : Int32) (v2 : Int32) (v3 : Int32) (S : HS) : Prop := ∀ x1 : Int32, x1 = v3 + (1 : Int32) → (X9 v0 v1 v2 x1 S)
set_option maxRecDepth 20000 in
set_option maxHeartbeats 4000000 in
theorem T_X11_led_80 {X : CX} {Q : Int32 → HS → Prop} (C : Cx X cX11_led RX11 4 rm_X11_led) (E : ReI X rm_X11_led Q) (ht : (xh X).sig.returnType = (some .int)) (hn : (xh X).name = yX11_led.name) {X9 : Nat → Int32 → Int32 → Int32 → HS → Prop} (hX9 : ∀ (v0 : Nat) (v1 : Int32) (v2 : Int32) (v3 : Int32) (S : HS), X9 v0 v1 v2 v3 S → WS X 4 0 0 9 [(0, .ref v0), (1, .int v1), (2, .int v2), (3, .int v3)] [] S) {v0 : Nat} {v1 : Int32} {v2 : Int32} {v3 : Int32} {S : HS} (h : P_X11_led_80 Q X9 v0 v1 v2 v3 S) : WS X 4 0 0 80 [(0, .ref v0), (1, .int v1), (2, .int v2), (3, .int v3)] [] S := by
  obtain ⟨x1, ex1⟩ : ∃ z : Int32, z = v3 + (1 : Int32) := ⟨_, rfl⟩
  have h := h x1 ex1
  refine r_iinc (pc := 80) C (v := x1) (lv' := [(3, .int x1), (0, .ref v0), (1, .int v1), (2, .int v2)]) dX11_led_80 3 rfl ex1.symm (by decide) rfl ?_
  refine r_goto (pc := 83) C (tgt := 9) dX11_led_83 (by decide) ?_
  exact r_sub [1, 2, 3, 0] rfl (hX9 v0 v1 v2 x1 S h)
def P_X11_led_70 (Q : Int32 → HS → Prop) (X9 : Nat → Int32 → Int32 → Int32 → HS → Prop) (v0 : Nat) (v1 : Int32) (v2 : Int32) (v3 : Int32) (S : HS) : Prop := ((¬ v2 = v1) → (∀ x2 : Int32, x2 = v2 + (1 : Int32) → (P_X11_led_80 Q X9 v0 v1 x2 v3 S))) ∧ ((v2 = v1) → (Q v3 S))
set_option maxRecDepth 20000 in
set_option maxHeartbeats 4000000 in
theorem T_X11_led_70 {X : CX} {Q : Int32 → HS → Prop} (C : Cx X cX11_led RX11 4 rm_X11_led) (E : ReI X rm_X11_led Q) (ht : (xh X).sig.returnType = (some .int)) (hn : (xh X).name = yX11_led.name) {X9 : Nat → Int32 → Int32 → Int32 → HS → Prop} (hX9 : ∀ (v0 : Nat) (v1 : Int32) (v2 : Int32) (v3 : Int32) (S : HS), X9 v0 v1 v2 v3 S → WS X 4 0 0 9 [(0, .ref v0), (1, .int v1), (2, .int v2), (3, .int v3)] [] S) {v0 : Nat} {v1 : Int32} {v2 : Int32} {v3 : Int32} {S : HS} (h : P_X11_led_70 Q X9 v0 v1 v2 v3 S) : WS X 4 0 0 70 [(0, .ref v0), (1, .int v1), (2, .int v2), (3, .int v3)] [] S := by
  refine r_iload_n (pc := 70) C dX11_led_70 2 rfl ?_
  refine r_iload_n (pc := 71) C dX11_led_71 1 rfl ?_
  refine r_icmp_ne (pc := 72) C (tgt := 77) dX11_led_72 (by decide) (fun c1 => ?_) (fun c1 => ?_)
  · have h := h.1 c1
    obtain ⟨x2, ex2⟩ : ∃ z : Int32, z = v2 + (1 : Int32) := ⟨_, rfl⟩
    have h := h x2 ex2
    refine r_iinc (pc := 77) C (v := x2) (lv' := [(2, .int x2), (0, .ref v0), (1, .int v1), (3, .int v3)]) dX11_led_77 2 rfl ex2.symm (by decide) rfl ?_
    exact r_sub [1, 2, 0, 3] rfl (T_X11_led_80 C E ht hn hX9 h)
  · have h := h.2 c1
    refine r_iload_n (pc := 75) C dX11_led_75 3 rfl ?_
    exact r_iret (pc := 76) C E ht dX11_led_76 (by decide) (by decide) h
def B_X11_led_9 (Q : Int32 → HS → Prop) (X9 : Nat → Int32 → Int32 → Int32 → HS → Prop) (v0 : Nat) (v1 : Int32) (v2 : Int32) (v3 : Int32) (S : HS) : Prop := ob S v0 11 ∧ (P_X11_isDay v0 (fun x3 S1 => Gr S S1 → bl x3 → (((x3 = 0) → (∀ S5 : HS, S5 = sI S1 v0 0 (1 : Int32) → (Q (0 : Int32) S5))) ∧ ((¬ x3 = 0) → (∃ a6 : Nat, fR S1 v0 3 = some a6 ∧ (ob S1 a6 10 ∧ (∀ x7 : Int32, x7 = fI S1 a6 3 → (((x7 ≤ v3) → (∀ S9 : HS, S9 = sI S1 v0 0 (1 : Int32) → (Q (0 : Int32) S9))) ∧ ((¬ x7 ≤ v3) → (∃ a10 : Nat, fR S1 v0 3 = some a10 ∧ (ob S1 a10 10 ∧ (∃ a11 : Nat, fR S1 a10 13 = some a11 ∧ (ob S1 a11 13 ∧ (vp_in v3 (hN S1 a11) ∧ ∀ x13 : Int32, x13 = fI S1 a11 v3.toNatClampNeg → (∃ a14 : Nat, fR S1 v0 21 = some a14 ∧ (ob S1 a14 14 ∧ (vp_in (0 : Int32) (hN S1 a14) ∧ ∀ x16 : Int64, x16 = fJ S1 a14 (0 : Int32).toNatClampNeg → ((((lg_cmp x13.toInt64 x16) = 0) → (P_X11_led_70 Q X9 v0 v1 v2 v3 S1)) ∧ ((¬ (lg_cmp x13.toInt64 x16) = 0) → (∃ a18 : Nat, fR S1 v0 3 = some a18 ∧ (ob S1 a18 10 ∧ (∃ a19 : Nat, fR S1 a18 14 = some a19 ∧ (ob S1 a19 13 ∧ (vp_in v3 (hN S1 a19) ∧ ∀ x21 : Int32, x21 = fI S1 a19 v3.toNatClampNeg → (∃ a22 : Nat, fR S1 v0 21 = some a22 ∧ (ob S1 a22 14 ∧ (vp_in (0 : Int32) (hN S1 a22) ∧ ∀ x24 : Int64, x24 = fJ S1 a22 (0 : Int32).toNatClampNeg → ((((lg_cmp x21.toInt64 x24) = 0) → (P_X11_led_70 Q X9 v0 v1 v2 v3 S1)) ∧ ((¬ (lg_cmp x21.toInt64 x24) = 0) → (P_X11_led_80 Q X9 v0 v1 v2 v3 S1))))))))))))))))))))))))))))) S)
def P_X11_led_9 (Q : Int32 → HS → Prop) (v0 : Nat) (v1 : Int32) (v2 : Int32) (v3 : Int32) (S : HS) : Prop := ∀ X9 : Nat → Int32 → Int32 → Int32 → HS → Prop, (∀ (v0 : Nat) (v1 : Int32) (v2 : Int32) (v3 : Int32) (S : HS), B_X11_led_9 Q X9 v0 v1 v2 v3 S → X9 v0 v1 v2 v3 S) → X9 v0 v1 v2 v3 S
set_option maxRecDepth 20000 in
set_option maxHeartbeats 4000000 in
theorem TB_X11_led_9 {X : CX} {Q : Int32 → HS → Prop} (C : Cx X cX11_led RX11 4 rm_X11_led) (E : ReI X rm_X11_led Q) (ht : (xh X).sig.returnType = (some .int)) (hn : (xh X).name = yX11_led.name) {X9 : Nat → Int32 → Int32 → Int32 → HS → Prop} (hX9 : ∀ (v0 : Nat) (v1 : Int32) (v2 : Int32) (v3 : Int32) (S : HS), X9 v0 v1 v2 v3 S → WS X 4 0 0 9 [(0, .ref v0), (1, .int v1), (2, .int v2), (3, .int v3)] [] S) {v0 : Nat} {v1 : Int32} {v2 : Int32} {v3 : Int32} {S : HS} (h : B_X11_led_9 Q X9 v0 v1 v2 v3 S) : WS X 4 0 0 9 [(0, .ref v0), (1, .int v1), (2, .int v2), (3, .int v3)] [] S := by
  refine r_aload_n (pc := 9) C dX11_led_9 0 rfl ?_
  obtain ⟨o_v0, h⟩ := h
  refine r_callVi0 (pc := 10) C (rest := []) (a := v0) o_v0 [] yV_X11_isDay g_1779 (c_X11_isDay h) dX11_led_10 rfl rfl (Nat.le_of_ble_eq_true rfl) ⟨by decide, by decide⟩ ⟨by decide, by decide⟩ ⟨rfl, rfl⟩ (fun x3 S1 h g2 => ?_)
  have bx3 := h.1
  have h := h.2 g2 bx3
  have o_v0 := gr_ob g2 o_v0
  refine r_if_eq (pc := 13) C (tgt := 86) dX11_led_13 (by decide) (fun c4 => ?_) (fun c4 => ?_)
  · have h := h.1 c4
    refine r_aload_n (pc := 86) C dX11_led_86 0 rfl ?_
    refine r_iconst (pc := 87) C (v := (1 : Int32)) dX11_led_87 (by decide) ?_
    refine r_puti (pc := 88) C pfL_X11_40 dX11_led_88 o_v0 ?_
    refine r_heap (fun S5 eS5 => ?_)
    have h := h S5 eS5
    have o_v0 := ob_I eS5 o_v0
    refine r_iconst (pc := 91) C (v := (0 : Int32)) dX11_led_91 (by decide) ?_
    exact r_iret (pc := 92) C E ht dX11_led_92 (by decide) (by decide) h
  · have h := h.2 c4
    refine r_iload_n (pc := 16) C dX11_led_16 3 rfl ?_
    refine r_aload_n (pc := 17) C dX11_led_17 0 rfl ?_
    obtain ⟨a6, ea6, h⟩ := h
    refine r_getr (pc := 18) C fL_X11_338 dX11_led_18 o_v0 ea6 ?_
    obtain ⟨o_a6, h⟩ := h
    refine r_getNi (pc := 21) C fN_X11_264 dX11_led_21 o_a6 ?_
    refine r_topi (fun x7 ex7 => ?_)
    have h := h x7 ex7
    refine r_icmp_ge (pc := 24) C (tgt := 86) dX11_led_24 (by decide) (fun c8 => ?_) (fun c8 => ?_)
    · have h := h.1 c8
      refine r_aload_n (pc := 86) C dX11_led_86 0 rfl ?_
      refine r_iconst (pc := 87) C (v := (1 : Int32)) dX11_led_87 (by decide) ?_
      refine r_puti (pc := 88) C pfL_X11_40 dX11_led_88 o_v0 ?_
      refine r_heap (fun S9 eS9 => ?_)
      have h := h S9 eS9
      have o_a6 := ob_I eS9 o_a6
      have o_v0 := ob_I eS9 o_v0
      refine r_iconst (pc := 91) C (v := (0 : Int32)) dX11_led_91 (by decide) ?_
      exact r_iret (pc := 92) C E ht dX11_led_92 (by decide) (by decide) h
    · have h := h.2 c8
      refine r_aload_n (pc := 27) C dX11_led_27 0 rfl ?_
      obtain ⟨a10, ea10, h⟩ := h
      refine r_getr (pc := 28) C fL_X11_338 dX11_led_28 o_v0 ea10 ?_
      obtain ⟨o_a10, h⟩ := h
      obtain ⟨a11, ea11, h⟩ := h
      refine r_getNr (pc := 31) C fN_X11_270 dX11_led_31 o_a10 ea11 ?_
      refine r_iload_n (pc := 34) C dX11_led_34 3 rfl ?_
      obtain ⟨o_a11, h⟩ := h
      obtain ⟨i12, h⟩ := h
      refine r_iald (pc := 35) C dX11_led_35 o_a11 i12 ?_
      refine r_topi (fun x13 ex13 => ?_)
      have h := h x13 ex13
      refine r_i2l (pc := 36) C dX11_led_36 ?_
      refine r_aload_n (pc := 37) C dX11_led_37 0 rfl ?_
      obtain ⟨a14, ea14, h⟩ := h
      refine r_getr (pc := 38) C fL_X11_31 dX11_led_38 o_v0 ea14 ?_
      refine r_iconst (pc := 41) C (v := (0 : Int32)) dX11_led_41 (by decide) ?_
      obtain ⟨o_a14, h⟩ := h
      obtain ⟨i15, h⟩ := h
      refine r_lald (pc := 42) C dX11_led_42 o_a14 i15 ?_
      refine r_topl (fun x16 ex16 => ?_)
      have h := h x16 ex16
      refine r_lcmp (pc := 43) C dX11_led_43 ?_
      refine r_if_eq (pc := 44) C (tgt := 70) dX11_led_44 (by decide) (fun c17 => ?_) (fun c17 => ?_)
      · have h := h.1 c17
        exact r_sub [0, 1, 2, 3] rfl (T_X11_led_70 C E ht hn hX9 h)
      · have h := h.2 c17
        refine r_aload_n (pc := 47) C dX11_led_47 0 rfl ?_
        obtain ⟨a18, ea18, h⟩ := h
        refine r_getr (pc := 48) C fL_X11_338 dX11_led_48 o_v0 ea18 ?_
        obtain ⟨o_a18, h⟩ := h
        obtain ⟨a19, ea19, h⟩ := h
        refine r_getNr (pc := 51) C fN_X11_273 dX11_led_51 o_a18 ea19 ?_
        refine r_iload_n (pc := 54) C dX11_led_54 3 rfl ?_
        obtain ⟨o_a19, h⟩ := h
        obtain ⟨i20, h⟩ := h
        refine r_iald (pc := 55) C dX11_led_55 o_a19 i20 ?_
        refine r_topi (fun x21 ex21 => ?_)
        have h := h x21 ex21
        refine r_i2l (pc := 56) C dX11_led_56 ?_
        refine r_aload_n (pc := 57) C dX11_led_57 0 rfl ?_
        obtain ⟨a22, ea22, h⟩ := h
        refine r_getr (pc := 58) C fL_X11_31 dX11_led_58 o_v0 ea22 ?_
        refine r_iconst (pc := 61) C (v := (0 : Int32)) dX11_led_61 (by decide) ?_
        obtain ⟨o_a22, h⟩ := h
        obtain ⟨i23, h⟩ := h
        refine r_lald (pc := 62) C dX11_led_62 o_a22 i23 ?_
        refine r_topl (fun x24 ex24 => ?_)
        have h := h x24 ex24
        refine r_lcmp (pc := 63) C dX11_led_63 ?_
        refine r_if_eq (pc := 64) C (tgt := 70) dX11_led_64 (by decide) (fun c25 => ?_) (fun c25 => ?_)
        · have h := h.1 c25
          exact r_sub [0, 1, 2, 3] rfl (T_X11_led_70 C E ht hn hX9 h)
        · have h := h.2 c25
          refine r_goto (pc := 67) C (tgt := 80) dX11_led_67 (by decide) ?_
          exact r_sub [0, 1, 2, 3] rfl (T_X11_led_80 C E ht hn hX9 h)
theorem T_X11_led_9 {X : CX} {Q : Int32 → HS → Prop} (C : Cx X cX11_led RX11 4 rm_X11_led) (E : ReI X rm_X11_led Q) (ht : (xh X).sig.returnType = (some .int)) (hn : (xh X).name = yX11_led.name) {v0 : Nat} {v1 : Int32} {v2 : Int32} {v3 : Int32} {S : HS} (h : P_X11_led_9 Q v0 v1 v2 v3 S) : WS X 4 0 0 9 [(0, .ref v0), (1, .int v1), (2, .int v2), (3, .int v3)] [] S :=
  h (fun v0 v1 v2 v3 S => WS X 4 0 0 9 [(0, .ref v0), (1, .int v1), (2, .int v2), (3, .int v3)] [] S) (fun v0 v1 v2 v3 S hh => TB_X11_led_9 C E ht hn (fun v0 v1 v2 v3 S z => z) hh)
def P_X11_led_0 (Q : Int32 → HS → Prop) (v0 : Nat) (v1 : Int32) (S : HS) : Prop := ob S v0 11 ∧ (∀ S1 : HS, S1 = sI S v0 0 (0 : Int32) → (P_X11_led_9 Q v0 v1 (0 : Int32) (0 : Int32) S1))
set_option maxRecDepth 20000 in
set_option maxHeartbeats 4000000 in
theorem T_X11_led_0 {X : CX} {Q : Int32 → HS → Prop} (C : Cx X cX11_led RX11 4 rm_X11_led) (E : ReI X rm_X11_led Q) (ht : (xh X).sig.returnType = (some .int)) (hn : (xh X).name = yX11_led.name) {v0 : Nat} {v1 : Int32} {S : HS} (h : P_X11_led_0 Q v0 v1 S) : WS X 4 0 0 0 [(0, .ref v0), (1, .int v1)] [] S := by
  refine r_aload_n (pc := 0) C dX11_led_0 0 rfl ?_
  refine r_iconst (pc := 1) C (v := (0 : Int32)) dX11_led_1 (by decide) ?_
  obtain ⟨o_v0, h⟩ := h
  refine r_puti (pc := 2) C pfL_X11_40 dX11_led_2 o_v0 ?_
  refine r_heap (fun S1 eS1 => ?_)
  have h := h S1 eS1
  have o_v0 := ob_I eS1 o_v0
  refine r_iconst (pc := 5) C (v := (0 : Int32)) dX11_led_5 (by decide) ?_
  refine r_istore_n (pc := 6) C dX11_led_6 rfl (by decide) (lv' := [(2, .int (0 : Int32)), (0, .ref v0), (1, .int v1)]) rfl ?_
  refine r_iconst (pc := 7) C (v := (0 : Int32)) dX11_led_7 (by decide) ?_
  refine r_istore_n (pc := 8) C dX11_led_8 rfl (by decide) (lv' := [(3, .int (0 : Int32)), (2, .int (0 : Int32)), (0, .ref v0), (1, .int v1)]) rfl ?_
  exact r_sub [2, 3, 1, 0] rfl (T_X11_led_9 C E ht hn h)
def P_X11_led (v0 : Nat) (v1 : Int32) (Q : Int32 → HS → Prop) (S : HS) : Prop := P_X11_led_0 Q v0 v1 S
theorem c_X11_led {l : Launch} {Ee : EE} {S : HS} {v0 : Nat} {v1 : Int32} {Q : Int32 → HS → Prop} (h : P_X11_led v0 v1 Q S) : MI l yX11_led cX11_led 4 (some .int) rm_X11_led Ee S [.ref v0, .int v1] Q :=
  openI (by decide) (Nat.le_of_ble_eq_true rfl) (fun X C E ht hn hE hl => by subst hE; exact r_sub [0, 1] rfl (T_X11_led_0 C E ht hn h))
def rm_X11_lee : Room := { frames := 5, cells := 0, slots := 0, locals := 138 }
def P_X11_lee_0 (Q : Int64 → HS → Prop) (v0 : Nat) (v1 : Int32) (v2 : Int32) (v3 : Int32) (v4 : Int32) (v5 : Int32) (v6 : Int32) (v7 : Int32) (S : HS) : Prop := ob S v0 11 ∧ (∀ S1 : HS, S1 = sI S v0 0 (0 : Int32) → (P_X11_refusesTwo v0 v1 v2 v3 v4 v5 v6 (fun x4 S2 => Gr S1 S2 → (((x4 ≤ 0) → (P_X11_together v0 v1 v2 v3 v4 v5 v6 (fun x8 S6 => Gr S2 S6 → (P_X11_told v0 x8 (2520 : Int64) v7 (fun x11 S9 => Gr S6 S9 → (Q x11 S9)) S6)) S2)) ∧ ((¬ x4 ≤ 0) → (P_X11_refused v0 x4 (fun x14 S12 => Gr S2 S12 → (Q x14.toInt64 S12)) S2)))) S1))
set_option maxRecDepth 20000 in
set_option maxHeartbeats 4000000 in
theorem T_X11_lee_0 {X : CX} {Q : Int64 → HS → Prop} (C : Cx X cX11_lee RX11 9 rm_X11_lee) (E : ReJ X rm_X11_lee Q) (ht : (xh X).sig.returnType = (some .long)) (hn : (xh X).name = yX11_lee.name) {v0 : Nat} {v1 : Int32} {v2 : Int32} {v3 : Int32} {v4 : Int32} {v5 : Int32} {v6 : Int32} {v7 : Int32} {S : HS} (h : P_X11_lee_0 Q v0 v1 v2 v3 v4 v5 v6 v7 S) : WS X 9 0 0 0 [(0, .ref v0), (1, .int v1), (2, .int v2), (3, .int v3), (4, .int v4), (5, .int v5), (6, .int v6), (7, .int v7)] [] S := by
  refine r_aload_n (pc := 0) C dX11_lee_0 0 rfl ?_
  refine r_iconst (pc := 1) C (v := (0 : Int32)) dX11_lee_1 (by decide) ?_
  obtain ⟨o_v0, h⟩ := h
  refine r_puti (pc := 2) C pfL_X11_40 dX11_lee_2 o_v0 ?_
  refine r_heap (fun S1 eS1 => ?_)
  have h := h S1 eS1
  have o_v0 := ob_I eS1 o_v0
  refine r_aload_n (pc := 5) C dX11_lee_5 0 rfl ?_
  refine r_iload_n (pc := 6) C dX11_lee_6 1 rfl ?_
  refine r_iload_n (pc := 7) C dX11_lee_7 2 rfl ?_
  refine r_iload_n (pc := 8) C dX11_lee_8 3 rfl ?_
  refine r_iload (pc := 9) C dX11_lee_9 4 rfl ?_
  refine r_iload (pc := 11) C dX11_lee_11 5 rfl ?_
  refine r_iload (pc := 13) C dX11_lee_13 6 rfl ?_
  refine r_callVi0 (pc := 15) C (rest := []) (a := v0) o_v0 [.int v1, .int v2, .int v3, .int v4, .int v5, .int v6] yV_X11_refusesTwo g_1659 (c_X11_refusesTwo h) dX11_lee_15 rfl rfl (Nat.le_of_ble_eq_true rfl) ⟨by decide, by decide⟩ ⟨by decide, by decide⟩ ⟨rfl, rfl⟩ (fun x4 S2 h g3 => ?_)
  have h := h g3
  have o_v0 := gr_ob g3 o_v0
  refine r_istore (pc := 18) C dX11_lee_18 (by decide) (lv' := [(8, .int x4), (0, .ref v0), (1, .int v1), (2, .int v2), (3, .int v3), (4, .int v4), (5, .int v5), (6, .int v6), (7, .int v7)]) rfl ?_
  refine r_iload (pc := 20) C dX11_lee_20 0 rfl ?_
  refine r_if_le (pc := 22) C (tgt := 35) dX11_lee_22 (by decide) (fun c5 => ?_) (fun c5 => ?_)
  · have h := h.1 c5
    refine r_aload_n (pc := 35) C dX11_lee_35 1 rfl ?_
    refine r_aload_n (pc := 36) C dX11_lee_36 1 rfl ?_
    refine r_iload_n (pc := 37) C dX11_lee_37 2 rfl ?_
    refine r_iload_n (pc := 38) C dX11_lee_38 3 rfl ?_
    refine r_iload_n (pc := 39) C dX11_lee_39 4 rfl ?_
    refine r_iload (pc := 40) C dX11_lee_40 5 rfl ?_
    refine r_iload (pc := 42) C dX11_lee_42 6 rfl ?_
    refine r_iload (pc := 44) C dX11_lee_44 7 rfl ?_
    refine r_callVl0 (pc := 46) C (rest := [.ref v0]) (a := v0) o_v0 [.int v1, .int v2, .int v3, .int v4, .int v5, .int v6] yV_X11_together g_1663 (c_X11_together h) dX11_lee_46 rfl rfl (Nat.le_of_ble_eq_true rfl) ⟨by decide, by decide⟩ ⟨by decide, by decide⟩ ⟨rfl, rfl⟩ (fun x8 S6 h g7 => ?_)
    have h := h g7
    have o_v0 := gr_ob g7 o_v0
    refine r_ldc2 (pc := 49) C (v := (2520 : Int64)) dX11_lee_49 g_1585 ?_
    refine r_iload (pc := 52) C dX11_lee_52 8 rfl ?_
    refine r_callVl0 (pc := 54) C (rest := []) (a := v0) o_v0 [.long x8, .long (2520 : Int64), .int v7] yV_X11_told g_1586 (c_X11_told h) dX11_lee_54 rfl rfl (Nat.le_of_ble_eq_true rfl) ⟨by decide, by decide⟩ ⟨by decide, by decide⟩ ⟨rfl, rfl⟩ (fun x11 S9 h g10 => ?_)
    have h := h g10
    have o_v0 := gr_ob g10 o_v0
    exact r_lret (pc := 57) C E ht dX11_lee_57 (by decide) (by decide) h
  · have h := h.2 c5
    refine r_aload_n (pc := 25) C dX11_lee_25 1 rfl ?_
    refine r_iload (pc := 26) C dX11_lee_26 0 rfl ?_
    refine r_callVi0 (pc := 28) C (rest := []) (a := v0) o_v0 [.int x4] yV_X11_refused g_1250 (c_X11_refused h) dX11_lee_28 rfl rfl (Nat.le_of_ble_eq_true rfl) ⟨by decide, by decide⟩ ⟨by decide, by decide⟩ ⟨rfl, rfl⟩ (fun x14 S12 h g13 => ?_)
    have h := h g13
    have o_v0 := gr_ob g13 o_v0
    refine r_i2l (pc := 31) C dX11_lee_31 ?_
    refine r_goto (pc := 32) C (tgt := 57) dX11_lee_32 (by decide) ?_
    exact r_lret (pc := 57) C E ht dX11_lee_57 (by decide) (by decide) h
def P_X11_lee (v0 : Nat) (v1 : Int32) (v2 : Int32) (v3 : Int32) (v4 : Int32) (v5 : Int32) (v6 : Int32) (v7 : Int32) (Q : Int64 → HS → Prop) (S : HS) : Prop := P_X11_lee_0 Q v0 v1 v2 v3 v4 v5 v6 v7 S
theorem c_X11_lee {l : Launch} {Ee : EE} {S : HS} {v0 : Nat} {v1 : Int32} {v2 : Int32} {v3 : Int32} {v4 : Int32} {v5 : Int32} {v6 : Int32} {v7 : Int32} {Q : Int64 → HS → Prop} (h : P_X11_lee v0 v1 v2 v3 v4 v5 v6 v7 Q S) : MJ l yX11_lee cX11_lee 9 (some .long) rm_X11_lee Ee S [.ref v0, .int v1, .int v2, .int v3, .int v4, .int v5, .int v6, .int v7] Q :=
  openJ (by decide) (Nat.le_of_ble_eq_true rfl) (fun X C E ht hn hE hl => by subst hE; exact r_sub [0, 1, 2, 3, 4, 5, 6, 7] rfl (T_X11_lee_0 C E ht hn h))
def rm_X11_lies : Room := { frames := 6, cells := 0, slots := 0, locals := 165 }
def P_X11_lies_50 (Q : Int32 → HS → Prop) (X22 : Nat → Int32 → Int32 → HS → Prop) (v0 : Nat) (v2 : Int32) (s0 : Int32) (s1 : Int32) (S : HS) : Prop := ∀ x1 : Int32, x1 = s0 ||| s1 → (∀ x2 : Int32, x2 = v2 + (1 : Int32) → (X22 v0 x1 x2 S))
set_option maxRecDepth 20000 in
set_option maxHeartbeats 4000000 in
theorem T_X11_lies_50 {X : CX} {Q : Int32 → HS → Prop} (C : Cx X cX11_lies RX11 3 rm_X11_lies) (E : ReI X rm_X11_lies Q) (ht : (xh X).sig.returnType = (some .int)) (hn : (xh X).name = yX11_lies.name) {X22 : Nat → Int32 → Int32 → HS → Prop} (hX22 : ∀ (v0 : Nat) (v1 : Int32) (v2 : Int32) (S : HS), X22 v0 v1 v2 S → WS X 3 0 0 22 [(0, .ref v0), (1, .int v1), (2, .int v2)] [] S) {v0 : Nat} {v2 : Int32} {s0 : Int32} {s1 : Int32} {S : HS} (h : P_X11_lies_50 Q X22 v0 v2 s0 s1 S) : WS X 3 0 0 50 [(0, .ref v0), (2, .int v2)] [.int s1, .int s0] S := by
  refine r_ior (pc := 50) C dX11_lies_50 ?_
  refine r_topi (fun x1 ex1 => ?_)
  have h := h x1 ex1
  refine r_istore_n (pc := 51) C dX11_lies_51 rfl (by decide) (lv' := [(1, .int x1), (0, .ref v0), (2, .int v2)]) rfl ?_
  obtain ⟨x2, ex2⟩ : ∃ z : Int32, z = v2 + (1 : Int32) := ⟨_, rfl⟩
  have h := h x2 ex2
  refine r_iinc (pc := 52) C (v := x2) (lv' := [(2, .int x2), (1, .int x1), (0, .ref v0)]) dX11_lies_52 2 rfl ex2.symm (by decide) rfl ?_
  refine r_goto (pc := 55) C (tgt := 22) dX11_lies_55 (by decide) ?_
  exact r_sub [2, 1, 0] rfl (hX22 v0 x1 x2 S h)
def B_X11_lies_22 (Q : Int32 → HS → Prop) (X22 : Nat → Int32 → Int32 → HS → Prop) (v0 : Nat) (v1 : Int32) (v2 : Int32) (S : HS) : Prop := ob S v0 11 ∧ (∃ a1 : Nat, fR S v0 3 = some a1 ∧ (ob S a1 10 ∧ (∀ x2 : Int32, x2 = fI S a1 5 → (((x2 ≤ v2) → (P_X11_good v0 v1 (fun x6 S4 => Gr S S4 → (Q x6 S4)) S)) ∧ ((¬ x2 ≤ v2) → (P_X11_fitOf v0 v2 (-1 : Int32) (fun x9 S7 => Gr S S7 → (((¬ x9 = 0) → (P_X11_lies_50 Q X22 v0 v2 v1 (0 : Int32) S7)) ∧ ((x9 = 0) → (P_X11_lies_50 Q X22 v0 v2 v1 ((1 : Int32) <<< (v2 &&& 31)) S7)))) S))))))
def P_X11_lies_22 (Q : Int32 → HS → Prop) (v0 : Nat) (v1 : Int32) (v2 : Int32) (S : HS) : Prop := ∀ X22 : Nat → Int32 → Int32 → HS → Prop, (∀ (v0 : Nat) (v1 : Int32) (v2 : Int32) (S : HS), B_X11_lies_22 Q X22 v0 v1 v2 S → X22 v0 v1 v2 S) → X22 v0 v1 v2 S
set_option maxRecDepth 20000 in
set_option maxHeartbeats 4000000 in
theorem TB_X11_lies_22 {X : CX} {Q : Int32 → HS → Prop} (C : Cx X cX11_lies RX11 3 rm_X11_lies) (E : ReI X rm_X11_lies Q) (ht : (xh X).sig.returnType = (some .int)) (hn : (xh X).name = yX11_lies.name) {X22 : Nat → Int32 → Int32 → HS → Prop} (hX22 : ∀ (v0 : Nat) (v1 : Int32) (v2 : Int32) (S : HS), X22 v0 v1 v2 S → WS X 3 0 0 22 [(0, .ref v0), (1, .int v1), (2, .int v2)] [] S) {v0 : Nat} {v1 : Int32} {v2 : Int32} {S : HS} (h : B_X11_lies_22 Q X22 v0 v1 v2 S) : WS X 3 0 0 22 [(0, .ref v0), (1, .int v1), (2, .int v2)] [] S := by
  refine r_iload_n (pc := 22) C dX11_lies_22 2 rfl ?_
  refine r_aload_n (pc := 23) C dX11_lies_23 0 rfl ?_
  obtain ⟨o_v0, h⟩ := h
  obtain ⟨a1, ea1, h⟩ := h
  refine r_getr (pc := 24) C fL_X11_338 dX11_lies_24 o_v0 ea1 ?_
  obtain ⟨o_a1, h⟩ := h
  refine r_getNi (pc := 27) C fN_X11_323 dX11_lies_27 o_a1 ?_
  refine r_topi (fun x2 ex2 => ?_)
  have h := h x2 ex2
  refine r_icmp_ge (pc := 30) C (tgt := 58) dX11_lies_30 (by decide) (fun c3 => ?_) (fun c3 => ?_)
  · have h := h.1 c3
    refine r_aload_n (pc := 58) C dX11_lies_58 0 rfl ?_
    refine r_iload_n (pc := 59) C dX11_lies_59 1 rfl ?_
    refine r_callVi0 (pc := 60) C (rest := []) (a := v0) o_v0 [.int v1] yV_X11_good g_1518 (c_X11_good h) dX11_lies_60 rfl rfl (Nat.le_of_ble_eq_true rfl) ⟨by decide, by decide⟩ ⟨by decide, by decide⟩ ⟨rfl, rfl⟩ (fun x6 S4 h g5 => ?_)
    have h := h g5
    have o_a1 := gr_ob g5 o_a1
    have o_v0 := gr_ob g5 o_v0
    exact r_iret (pc := 63) C E ht dX11_lies_63 (by decide) (by decide) h
  · have h := h.2 c3
    refine r_iload_n (pc := 33) C dX11_lies_33 1 rfl ?_
    refine r_aload_n (pc := 34) C dX11_lies_34 0 rfl ?_
    refine r_iload_n (pc := 35) C dX11_lies_35 2 rfl ?_
    refine r_iconst (pc := 36) C (v := (-1 : Int32)) dX11_lies_36 (by decide) ?_
    refine r_callVi0 (pc := 37) C (rest := [.int v1]) (a := v0) o_v0 [.int v2, .int (-1 : Int32)] yV_X11_fitOf g_1755 (c_X11_fitOf h) dX11_lies_37 rfl rfl (Nat.le_of_ble_eq_true rfl) ⟨by decide, by decide⟩ ⟨by decide, by decide⟩ ⟨rfl, rfl⟩ (fun x9 S7 h g8 => ?_)
    have h := h g8
    have o_a1 := gr_ob g8 o_a1
    have o_v0 := gr_ob g8 o_v0
    refine r_if_ne (pc := 40) C (tgt := 49) dX11_lies_40 (by decide) (fun c10 => ?_) (fun c10 => ?_)
    · have h := h.1 c10
      refine r_iconst (pc := 49) C (v := (0 : Int32)) dX11_lies_49 (by decide) ?_
      exact r_sub [0, 2] rfl (T_X11_lies_50 C E ht hn hX22 h)
    · have h := h.2 c10
      refine r_iconst (pc := 43) C (v := (1 : Int32)) dX11_lies_43 (by decide) ?_
      refine r_iload_n (pc := 44) C dX11_lies_44 2 rfl ?_
      refine r_ishl (pc := 45) C dX11_lies_45 ?_
      refine r_goto (pc := 46) C (tgt := 50) dX11_lies_46 (by decide) ?_
      exact r_sub [0, 2] rfl (T_X11_lies_50 C E ht hn hX22 h)
theorem T_X11_lies_22 {X : CX} {Q : Int32 → HS → Prop} (C : Cx X cX11_lies RX11 3 rm_X11_lies) (E : ReI X rm_X11_lies Q) (ht : (xh X).sig.returnType = (some .int)) (hn : (xh X).name = yX11_lies.name) {v0 : Nat} {v1 : Int32} {v2 : Int32} {S : HS} (h : P_X11_lies_22 Q v0 v1 v2 S) : WS X 3 0 0 22 [(0, .ref v0), (1, .int v1), (2, .int v2)] [] S :=
  h (fun v0 v1 v2 S => WS X 3 0 0 22 [(0, .ref v0), (1, .int v1), (2, .int v2)] [] S) (fun v0 v1 v2 S hh => TB_X11_lies_22 C E ht hn (fun v0 v1 v2 S z => z) hh)
def P_X11_lies_0 (Q : Int32 → HS → Prop) (v0 : Nat) (S : HS) : Prop := ob S v0 11 ∧ (∀ S1 : HS, S1 = sI S v0 0 (0 : Int32) → ((fR S1 v0 3 = none → (P_X11_refused v0 (1 : Int32) (fun x6 S4 => Gr S1 S4 → (Q x6 S4)) S1)) ∧ (∀ a2 : Nat, fR S1 v0 3 = some a2 → (P_X11_lies_22 Q v0 (0 : Int32) (0 : Int32) S1))))
set_option maxRecDepth 20000 in
set_option maxHeartbeats 4000000 in
theorem T_X11_lies_0 {X : CX} {Q : Int32 → HS → Prop} (C : Cx X cX11_lies RX11 3 rm_X11_lies) (E : ReI X rm_X11_lies Q) (ht : (xh X).sig.returnType = (some .int)) (hn : (xh X).name = yX11_lies.name) {v0 : Nat} {S : HS} (h : P_X11_lies_0 Q v0 S) : WS X 3 0 0 0 [(0, .ref v0)] [] S := by
  refine r_aload_n (pc := 0) C dX11_lies_0 0 rfl ?_
  refine r_iconst (pc := 1) C (v := (0 : Int32)) dX11_lies_1 (by decide) ?_
  obtain ⟨o_v0, h⟩ := h
  refine r_puti (pc := 2) C pfL_X11_40 dX11_lies_2 o_v0 ?_
  refine r_heap (fun S1 eS1 => ?_)
  have h := h S1 eS1
  have o_v0 := ob_I eS1 o_v0
  refine r_aload_n (pc := 5) C dX11_lies_5 0 rfl ?_
  rcases e3 : fR S1 v0 3 with _ | a2
  · refine r_get0 (pc := 6) C fL_X11_338 dX11_lies_6 o_v0 e3 ?_
    refine r_ifnonnull0 (pc := 9) C dX11_lies_9 ?_
    have h := h.1 e3
    refine r_aload_n (pc := 12) C dX11_lies_12 0 rfl ?_
    refine r_iconst (pc := 13) C (v := (1 : Int32)) dX11_lies_13 (by decide) ?_
    refine r_callVi0 (pc := 14) C (rest := []) (a := v0) o_v0 [.int (1 : Int32)] yV_X11_refused g_1250 (c_X11_refused h) dX11_lies_14 rfl rfl (Nat.le_of_ble_eq_true rfl) ⟨by decide, by decide⟩ ⟨by decide, by decide⟩ ⟨rfl, rfl⟩ (fun x6 S4 h g5 => ?_)
    have h := h g5
    have o_v0 := gr_ob g5 o_v0
    exact r_iret (pc := 17) C E ht dX11_lies_17 (by decide) (by decide) h
  · refine r_getr (pc := 6) C fL_X11_338 dX11_lies_6 o_v0 e3 ?_
    refine r_ifnonnull (pc := 9) C (tgt := 18) dX11_lies_9 (by decide) ?_
    have h := h.2 a2 e3
    refine r_iconst (pc := 18) C (v := (0 : Int32)) dX11_lies_18 (by decide) ?_
    refine r_istore_n (pc := 19) C dX11_lies_19 rfl (by decide) (lv' := [(1, .int (0 : Int32)), (0, .ref v0)]) rfl ?_
    refine r_iconst (pc := 20) C (v := (0 : Int32)) dX11_lies_20 (by decide) ?_
    refine r_istore_n (pc := 21) C dX11_lies_21 rfl (by decide) (lv' := [(2, .int (0 : Int32)), (1, .int (0 : Int32)), (0, .ref v0)]) rfl ?_
    exact r_sub [2, 1, 0] rfl (T_X11_lies_22 C E ht hn h)
def P_X11_lies (v0 : Nat) (Q : Int32 → HS → Prop) (S : HS) : Prop := P_X11_lies_0 Q v0 S
theorem c_X11_lies {l : Launch} {Ee : EE} {S : HS} {v0 : Nat} {Q : Int32 → HS → Prop} (h : P_X11_lies v0 Q S) : MI l yX11_lies cX11_lies 3 (some .int) rm_X11_lies Ee S [.ref v0] Q :=
  openI (by decide) (Nat.le_of_ble_eq_true rfl) (fun X C E ht hn hE hl => by subst hE; exact r_sub [0] rfl (T_X11_lies_0 C E ht hn h))
def rm_X11_mark : Room := { frames := 1, cells := 0, slots := 0, locals := 21 }
def B_X11_mark_34 (Q : Int32 → HS → Prop) (X34 : Nat → Int32 → HS → Prop) (v0 : Nat) (v1 : Int32) (S : HS) : Prop := (((7 : Int32) ≤ v1) → (ob S v0 11 ∧ (∀ x2 : Int32, x2 = fI S v0 25 → (∀ x3 : Int32, x3 = x2 + (1 : Int32) → (∀ S4 : HS, S4 = sI S v0 25 x3 → (∀ x5 : Int32, x5 = fI S4 v0 25 → (P_X11_good v0 (x5 - (1 : Int32)) (fun x8 S6 => Gr S4 S6 → (Q x8 S6)) S4))))))) ∧ ((¬ (7 : Int32) ≤ v1) → (ob S v0 11 ∧ (∃ a9 : Nat, fR S v0 23 = some a9 ∧ (∀ x10 : Int32, x10 = fI S v0 25 → (∃ a11 : Nat, fR S v0 21 = some a11 ∧ (ob S a11 14 ∧ (vp_in v1 (hN S a11) ∧ ∀ x13 : Int64, x13 = fJ S a11 v1.toNatClampNeg → (ob S a9 14 ∧ (vp_in (((7 : Int32) * x10) + v1) (hN S a9) ∧ (∀ S15 : HS, S15 = sJ S a9 (((7 : Int32) * x10) + v1).toNatClampNeg x13 → (∀ x16 : Int32, x16 = v1 + (1 : Int32) → (X34 v0 x16 S15))))))))))))
def P_X11_mark_34 (Q : Int32 → HS → Prop) (v0 : Nat) (v1 : Int32) (S : HS) : Prop := ∀ X34 : Nat → Int32 → HS → Prop, (∀ (v0 : Nat) (v1 : Int32) (S : HS), B_X11_mark_34 Q X34 v0 v1 S → X34 v0 v1 S) → X34 v0 v1 S
set_option maxRecDepth 20000 in
set_option maxHeartbeats 4000000 in
theorem TB_X11_mark_34 {X : CX} {Q : Int32 → HS → Prop} (C : Cx X cX11_mark RX11 2 rm_X11_mark) (E : ReI X rm_X11_mark Q) (ht : (xh X).sig.returnType = (some .int)) (hn : (xh X).name = yX11_mark.name) {X34 : Nat → Int32 → HS → Prop} (hX34 : ∀ (v0 : Nat) (v1 : Int32) (S : HS), X34 v0 v1 S → WS X 2 0 0 34 [(0, .ref v0), (1, .int v1)] [] S) {v0 : Nat} {v1 : Int32} {S : HS} (h : B_X11_mark_34 Q X34 v0 v1 S) : WS X 2 0 0 34 [(0, .ref v0), (1, .int v1)] [] S := by
  refine r_iload_n (pc := 34) C dX11_mark_34 1 rfl ?_
  refine r_bipush (pc := 35) C (v := (7 : Int32)) dX11_mark_35 (by decide) ?_
  refine r_icmp_ge (pc := 37) C (tgt := 66) dX11_mark_37 (by decide) (fun c1 => ?_) (fun c1 => ?_)
  · have h := h.1 c1
    refine r_aload_n (pc := 66) C dX11_mark_66 0 rfl ?_
    refine r_dup (pc := 67) C dX11_mark_67 rfl ?_
    obtain ⟨o_v0, h⟩ := h
    refine r_geti (pc := 68) C fL_X11_343 dX11_mark_68 o_v0 ?_
    refine r_topi (fun x2 ex2 => ?_)
    have h := h x2 ex2
    refine r_iconst (pc := 71) C (v := (1 : Int32)) dX11_mark_71 (by decide) ?_
    refine r_iadd (pc := 72) C dX11_mark_72 ?_
    refine r_topi (fun x3 ex3 => ?_)
    have h := h x3 ex3
    refine r_puti (pc := 73) C pfL_X11_343 dX11_mark_73 o_v0 ?_
    refine r_heap (fun S4 eS4 => ?_)
    have h := h S4 eS4
    have o_v0 := ob_I eS4 o_v0
    refine r_aload_n (pc := 76) C dX11_mark_76 0 rfl ?_
    refine r_aload_n (pc := 77) C dX11_mark_77 0 rfl ?_
    refine r_geti (pc := 78) C fL_X11_343 dX11_mark_78 o_v0 ?_
    refine r_topi (fun x5 ex5 => ?_)
    have h := h x5 ex5
    refine r_iconst (pc := 81) C (v := (1 : Int32)) dX11_mark_81 (by decide) ?_
    refine r_isub (pc := 82) C dX11_mark_82 ?_
    refine r_callVi0 (pc := 83) C (rest := []) (a := v0) o_v0 [.int (x5 - (1 : Int32))] yV_X11_good g_1518 (c_X11_good h) dX11_mark_83 rfl rfl (Nat.le_of_ble_eq_true rfl) ⟨by decide, by decide⟩ ⟨by decide, by decide⟩ ⟨rfl, rfl⟩ (fun x8 S6 h g7 => ?_)
    have h := h g7
    have o_v0 := gr_ob g7 o_v0
    exact r_iret (pc := 86) C E ht dX11_mark_86 (by decide) (by decide) h
  · have h := h.2 c1
    refine r_aload_n (pc := 40) C dX11_mark_40 0 rfl ?_
    obtain ⟨o_v0, h⟩ := h
    obtain ⟨a9, ea9, h⟩ := h
    refine r_getr (pc := 41) C fL_X11_37 dX11_mark_41 o_v0 ea9 ?_
    refine r_bipush (pc := 44) C (v := (7 : Int32)) dX11_mark_44 (by decide) ?_
    refine r_aload_n (pc := 46) C dX11_mark_46 0 rfl ?_
    refine r_geti (pc := 47) C fL_X11_343 dX11_mark_47 o_v0 ?_
    refine r_topi (fun x10 ex10 => ?_)
    have h := h x10 ex10
    refine r_imul (pc := 50) C dX11_mark_50 ?_
    refine r_iload_n (pc := 51) C dX11_mark_51 1 rfl ?_
    refine r_iadd (pc := 52) C dX11_mark_52 ?_
    refine r_aload_n (pc := 53) C dX11_mark_53 0 rfl ?_
    obtain ⟨a11, ea11, h⟩ := h
    refine r_getr (pc := 54) C fL_X11_31 dX11_mark_54 o_v0 ea11 ?_
    refine r_iload_n (pc := 57) C dX11_mark_57 1 rfl ?_
    obtain ⟨o_a11, h⟩ := h
    obtain ⟨i12, h⟩ := h
    refine r_lald (pc := 58) C dX11_mark_58 o_a11 i12 ?_
    refine r_topl (fun x13 ex13 => ?_)
    have h := h x13 ex13
    obtain ⟨o_a9, h⟩ := h
    obtain ⟨i14, h⟩ := h
    refine r_last (pc := 59) C dX11_mark_59 o_a9 i14 ?_
    refine r_heap (fun S15 eS15 => ?_)
    have h := h S15 eS15
    have o_a11 := ob_J eS15 o_a11
    have o_a9 := ob_J eS15 o_a9
    have o_v0 := ob_J eS15 o_v0
    obtain ⟨x16, ex16⟩ : ∃ z : Int32, z = v1 + (1 : Int32) := ⟨_, rfl⟩
    have h := h x16 ex16
    refine r_iinc (pc := 60) C (v := x16) (lv' := [(1, .int x16), (0, .ref v0)]) dX11_mark_60 1 rfl ex16.symm (by decide) rfl ?_
    refine r_goto (pc := 63) C (tgt := 34) dX11_mark_63 (by decide) ?_
    exact r_sub [1, 0] rfl (hX34 v0 x16 S15 h)
theorem T_X11_mark_34 {X : CX} {Q : Int32 → HS → Prop} (C : Cx X cX11_mark RX11 2 rm_X11_mark) (E : ReI X rm_X11_mark Q) (ht : (xh X).sig.returnType = (some .int)) (hn : (xh X).name = yX11_mark.name) {v0 : Nat} {v1 : Int32} {S : HS} (h : P_X11_mark_34 Q v0 v1 S) : WS X 2 0 0 34 [(0, .ref v0), (1, .int v1)] [] S :=
  h (fun v0 v1 S => WS X 2 0 0 34 [(0, .ref v0), (1, .int v1)] [] S) (fun v0 v1 S hh => TB_X11_mark_34 C E ht hn (fun v0 v1 S z => z) hh)
def P_X11_mark_0 (Q : Int32 → HS → Prop) (v0 : Nat) (S : HS) : Prop := ob S v0 11 ∧ (∀ S1 : HS, S1 = sI S v0 0 (0 : Int32) → (P_X11_isDay v0 (fun x4 S2 => Gr S1 S2 → bl x4 → (((¬ x4 = 0) → (∀ x6 : Int32, x6 = fI S2 v0 25 → (((¬ x6 = (3 : Int32)) → (P_X11_mark_34 Q v0 (0 : Int32) S2)) ∧ ((x6 = (3 : Int32)) → (P_X11_refused v0 (3 : Int32) (fun x10 S8 => Gr S2 S8 → (Q x10 S8)) S2))))) ∧ ((x4 = 0) → (P_X11_refused v0 (1 : Int32) (fun x13 S11 => Gr S2 S11 → (Q x13 S11)) S2)))) S1))
set_option maxRecDepth 20000 in
set_option maxHeartbeats 4000000 in
theorem T_X11_mark_0 {X : CX} {Q : Int32 → HS → Prop} (C : Cx X cX11_mark RX11 2 rm_X11_mark) (E : ReI X rm_X11_mark Q) (ht : (xh X).sig.returnType = (some .int)) (hn : (xh X).name = yX11_mark.name) {v0 : Nat} {S : HS} (h : P_X11_mark_0 Q v0 S) : WS X 2 0 0 0 [(0, .ref v0)] [] S := by
  refine r_aload_n (pc := 0) C dX11_mark_0 0 rfl ?_
  refine r_iconst (pc := 1) C (v := (0 : Int32)) dX11_mark_1 (by decide) ?_
  obtain ⟨o_v0, h⟩ := h
  refine r_puti (pc := 2) C pfL_X11_40 dX11_mark_2 o_v0 ?_
  refine r_heap (fun S1 eS1 => ?_)
  have h := h S1 eS1
  have o_v0 := ob_I eS1 o_v0
  refine r_aload_n (pc := 5) C dX11_mark_5 0 rfl ?_
  refine r_callVi0 (pc := 6) C (rest := []) (a := v0) o_v0 [] yV_X11_isDay g_1779 (c_X11_isDay h) dX11_mark_6 rfl rfl (Nat.le_of_ble_eq_true rfl) ⟨by decide, by decide⟩ ⟨by decide, by decide⟩ ⟨rfl, rfl⟩ (fun x4 S2 h g3 => ?_)
  have bx4 := h.1
  have h := h.2 g3 bx4
  have o_v0 := gr_ob g3 o_v0
  refine r_if_ne (pc := 9) C (tgt := 18) dX11_mark_9 (by decide) (fun c5 => ?_) (fun c5 => ?_)
  · have h := h.1 c5
    refine r_aload_n (pc := 18) C dX11_mark_18 0 rfl ?_
    refine r_geti (pc := 19) C fL_X11_343 dX11_mark_19 o_v0 ?_
    refine r_topi (fun x6 ex6 => ?_)
    have h := h x6 ex6
    refine r_iconst (pc := 22) C (v := (3 : Int32)) dX11_mark_22 (by decide) ?_
    refine r_icmp_ne (pc := 23) C (tgt := 32) dX11_mark_23 (by decide) (fun c7 => ?_) (fun c7 => ?_)
    · have h := h.1 c7
      refine r_iconst (pc := 32) C (v := (0 : Int32)) dX11_mark_32 (by decide) ?_
      refine r_istore_n (pc := 33) C dX11_mark_33 rfl (by decide) (lv' := [(1, .int (0 : Int32)), (0, .ref v0)]) rfl ?_
      exact r_sub [1, 0] rfl (T_X11_mark_34 C E ht hn h)
    · have h := h.2 c7
      refine r_aload_n (pc := 26) C dX11_mark_26 0 rfl ?_
      refine r_iconst (pc := 27) C (v := (3 : Int32)) dX11_mark_27 (by decide) ?_
      refine r_callVi0 (pc := 28) C (rest := []) (a := v0) o_v0 [.int (3 : Int32)] yV_X11_refused g_1250 (c_X11_refused h) dX11_mark_28 rfl rfl (Nat.le_of_ble_eq_true rfl) ⟨by decide, by decide⟩ ⟨by decide, by decide⟩ ⟨rfl, rfl⟩ (fun x10 S8 h g9 => ?_)
      have h := h g9
      have o_v0 := gr_ob g9 o_v0
      exact r_iret (pc := 31) C E ht dX11_mark_31 (by decide) (by decide) h
  · have h := h.2 c5
    refine r_aload_n (pc := 12) C dX11_mark_12 0 rfl ?_
    refine r_iconst (pc := 13) C (v := (1 : Int32)) dX11_mark_13 (by decide) ?_
    refine r_callVi0 (pc := 14) C (rest := []) (a := v0) o_v0 [.int (1 : Int32)] yV_X11_refused g_1250 (c_X11_refused h) dX11_mark_14 rfl rfl (Nat.le_of_ble_eq_true rfl) ⟨by decide, by decide⟩ ⟨by decide, by decide⟩ ⟨rfl, rfl⟩ (fun x13 S11 h g12 => ?_)
    have h := h g12
    have o_v0 := gr_ob g12 o_v0
    exact r_iret (pc := 17) C E ht dX11_mark_17 (by decide) (by decide) h
def P_X11_mark (v0 : Nat) (Q : Int32 → HS → Prop) (S : HS) : Prop := P_X11_mark_0 Q v0 S
theorem c_X11_mark {l : Launch} {Ee : EE} {S : HS} {v0 : Nat} {Q : Int32 → HS → Prop} (h : P_X11_mark v0 Q S) : MI l yX11_mark cX11_mark 2 (some .int) rm_X11_mark Ee S [.ref v0] Q :=
  openI (by decide) (Nat.le_of_ble_eq_true rfl) (fun X C E ht hn hE hl => by subst hE; exact r_sub [0] rfl (T_X11_mark_0 C E ht hn h))
def rm_X11_mean : Room := { frames := 6, cells := 0, slots := 0, locals := 163 }
def P_X11_mean_0 (Q : Int64 → HS → Prop) (v0 : Nat) (v1 : Int32) (v2 : Int32) (v3 : Int32) (v4 : Int32) (v5 : Int32) (v6 : Int32) (S : HS) : Prop := ob S v0 11 ∧ (∀ S1 : HS, S1 = sI S v0 0 (0 : Int32) → (P_X11_refuses v0 v1 v2 v3 v4 v5 (fun x4 S2 => Gr S1 S2 → (((x4 ≤ 0) → (P_X11_wetOf v0 v1 v2 v3 v4 v5 (fun x8 S6 => Gr S2 S6 → (∃ a9 : Nat, fR S6 v0 3 = some a9 ∧ (ob S6 a9 10 ∧ (∃ a10 : Nat, fR S6 a9 11 = some a10 ∧ (ob S6 a10 13 ∧ (vp_in v4 (hN S6 a10) ∧ ∀ x12 : Int32, x12 = fI S6 a10 v4.toNatClampNeg → (P_X11_told v0 (x8 * x12.toInt64) (252000 : Int64) v6 (fun x15 S13 => Gr S6 S13 → (Q x15 S13)) S6))))))) S2)) ∧ ((¬ x4 ≤ 0) → (P_X11_refused v0 x4 (fun x18 S16 => Gr S2 S16 → (Q x18.toInt64 S16)) S2)))) S1))
set_option maxRecDepth 20000 in
set_option maxHeartbeats 4000000 in
theorem T_X11_mean_0 {X : CX} {Q : Int64 → HS → Prop} (C : Cx X cX11_mean RX11 8 rm_X11_mean) (E : ReJ X rm_X11_mean Q) (ht : (xh X).sig.returnType = (some .long)) (hn : (xh X).name = yX11_mean.name) {v0 : Nat} {v1 : Int32} {v2 : Int32} {v3 : Int32} {v4 : Int32} {v5 : Int32} {v6 : Int32} {S : HS} (h : P_X11_mean_0 Q v0 v1 v2 v3 v4 v5 v6 S) : WS X 8 0 0 0 [(0, .ref v0), (1, .int v1), (2, .int v2), (3, .int v3), (4, .int v4), (5, .int v5), (6, .int v6)] [] S := by
  refine r_aload_n (pc := 0) C dX11_mean_0 0 rfl ?_
  refine r_iconst (pc := 1) C (v := (0 : Int32)) dX11_mean_1 (by decide) ?_
  obtain ⟨o_v0, h⟩ := h
  refine r_puti (pc := 2) C pfL_X11_40 dX11_mean_2 o_v0 ?_
  refine r_heap (fun S1 eS1 => ?_)
  have h := h S1 eS1
  have o_v0 := ob_I eS1 o_v0
  refine r_aload_n (pc := 5) C dX11_mean_5 0 rfl ?_
  refine r_iload_n (pc := 6) C dX11_mean_6 1 rfl ?_
  refine r_iload_n (pc := 7) C dX11_mean_7 2 rfl ?_
  refine r_iload_n (pc := 8) C dX11_mean_8 3 rfl ?_
  refine r_iload (pc := 9) C dX11_mean_9 4 rfl ?_
  refine r_iload (pc := 11) C dX11_mean_11 5 rfl ?_
  refine r_callVi0 (pc := 13) C (rest := []) (a := v0) o_v0 [.int v1, .int v2, .int v3, .int v4, .int v5] yV_X11_refuses g_1534 (c_X11_refuses h) dX11_mean_13 rfl rfl (Nat.le_of_ble_eq_true rfl) ⟨by decide, by decide⟩ ⟨by decide, by decide⟩ ⟨rfl, rfl⟩ (fun x4 S2 h g3 => ?_)
  have h := h g3
  have o_v0 := gr_ob g3 o_v0
  refine r_istore (pc := 16) C dX11_mean_16 (by decide) (lv' := [(7, .int x4), (0, .ref v0), (1, .int v1), (2, .int v2), (3, .int v3), (4, .int v4), (5, .int v5), (6, .int v6)]) rfl ?_
  refine r_iload (pc := 18) C dX11_mean_18 0 rfl ?_
  refine r_if_le (pc := 20) C (tgt := 33) dX11_mean_20 (by decide) (fun c5 => ?_) (fun c5 => ?_)
  · have h := h.1 c5
    refine r_aload_n (pc := 33) C dX11_mean_33 1 rfl ?_
    refine r_aload_n (pc := 34) C dX11_mean_34 1 rfl ?_
    refine r_iload_n (pc := 35) C dX11_mean_35 2 rfl ?_
    refine r_iload_n (pc := 36) C dX11_mean_36 3 rfl ?_
    refine r_iload_n (pc := 37) C dX11_mean_37 4 rfl ?_
    refine r_iload (pc := 38) C dX11_mean_38 5 rfl ?_
    refine r_iload (pc := 40) C dX11_mean_40 6 rfl ?_
    refine r_callVl0 (pc := 42) C (rest := [.ref v0]) (a := v0) o_v0 [.int v1, .int v2, .int v3, .int v4, .int v5] yV_X11_wetOf g_1594 (c_X11_wetOf h) dX11_mean_42 rfl rfl (Nat.le_of_ble_eq_true rfl) ⟨by decide, by decide⟩ ⟨by decide, by decide⟩ ⟨rfl, rfl⟩ (fun x8 S6 h g7 => ?_)
    have h := h g7
    have o_v0 := gr_ob g7 o_v0
    refine r_aload_n (pc := 45) C dX11_mean_45 1 rfl ?_
    obtain ⟨a9, ea9, h⟩ := h
    refine r_getr (pc := 46) C fL_X11_338 dX11_mean_46 o_v0 ea9 ?_
    obtain ⟨o_a9, h⟩ := h
    obtain ⟨a10, ea10, h⟩ := h
    refine r_getNr (pc := 49) C fN_X11_246 dX11_mean_49 o_a9 ea10 ?_
    refine r_iload (pc := 52) C dX11_mean_52 5 rfl ?_
    obtain ⟨o_a10, h⟩ := h
    obtain ⟨i11, h⟩ := h
    refine r_iald (pc := 54) C dX11_mean_54 o_a10 i11 ?_
    refine r_topi (fun x12 ex12 => ?_)
    have h := h x12 ex12
    refine r_i2l (pc := 55) C dX11_mean_55 ?_
    refine r_lmul (pc := 56) C dX11_mean_56 ?_
    refine r_ldc2 (pc := 57) C (v := (252000 : Int64)) dX11_mean_57 g_1602 ?_
    refine r_iload (pc := 60) C dX11_mean_60 7 rfl ?_
    refine r_callVl0 (pc := 62) C (rest := []) (a := v0) o_v0 [.long (x8 * x12.toInt64), .long (252000 : Int64), .int v6] yV_X11_told g_1586 (c_X11_told h) dX11_mean_62 rfl rfl (Nat.le_of_ble_eq_true rfl) ⟨by decide, by decide⟩ ⟨by decide, by decide⟩ ⟨rfl, rfl⟩ (fun x15 S13 h g14 => ?_)
    have h := h g14
    have o_a10 := gr_ob g14 o_a10
    have o_a9 := gr_ob g14 o_a9
    have o_v0 := gr_ob g14 o_v0
    exact r_lret (pc := 65) C E ht dX11_mean_65 (by decide) (by decide) h
  · have h := h.2 c5
    refine r_aload_n (pc := 23) C dX11_mean_23 1 rfl ?_
    refine r_iload (pc := 24) C dX11_mean_24 0 rfl ?_
    refine r_callVi0 (pc := 26) C (rest := []) (a := v0) o_v0 [.int x4] yV_X11_refused g_1250 (c_X11_refused h) dX11_mean_26 rfl rfl (Nat.le_of_ble_eq_true rfl) ⟨by decide, by decide⟩ ⟨by decide, by decide⟩ ⟨rfl, rfl⟩ (fun x18 S16 h g17 => ?_)
    have h := h g17
    have o_v0 := gr_ob g17 o_v0
    refine r_i2l (pc := 29) C dX11_mean_29 ?_
    refine r_goto (pc := 30) C (tgt := 65) dX11_mean_30 (by decide) ?_
    exact r_lret (pc := 65) C E ht dX11_mean_65 (by decide) (by decide) h
def P_X11_mean (v0 : Nat) (v1 : Int32) (v2 : Int32) (v3 : Int32) (v4 : Int32) (v5 : Int32) (v6 : Int32) (Q : Int64 → HS → Prop) (S : HS) : Prop := P_X11_mean_0 Q v0 v1 v2 v3 v4 v5 v6 S
theorem c_X11_mean {l : Launch} {Ee : EE} {S : HS} {v0 : Nat} {v1 : Int32} {v2 : Int32} {v3 : Int32} {v4 : Int32} {v5 : Int32} {v6 : Int32} {Q : Int64 → HS → Prop} (h : P_X11_mean v0 v1 v2 v3 v4 v5 v6 Q S) : MJ l yX11_mean cX11_mean 8 (some .long) rm_X11_mean Ee S [.ref v0, .int v1, .int v2, .int v3, .int v4, .int v5, .int v6] Q :=
  openJ (by decide) (Nat.le_of_ble_eq_true rfl) (fun X C E ht hn hE hl => by subst hE; exact r_sub [0, 1, 2, 3, 4, 5, 6] rfl (T_X11_mean_0 C E ht hn h))
def rm_X11_minutes : Room := { frames := 2, cells := 0, slots := 0, locals := 44 }
def P_X11_minutes_21 (Q : Int32 → HS → Prop) (v0 : Nat) (S : HS) : Prop := ob S v0 11 ∧ (P_X11_refused v0 (1 : Int32) (fun x3 S1 => Gr S S1 → (Q x3 S1)) S)
set_option maxRecDepth 20000 in
set_option maxHeartbeats 4000000 in
theorem T_X11_minutes_21 {X : CX} {Q : Int32 → HS → Prop} (C : Cx X cX11_minutes RX11 4 rm_X11_minutes) (E : ReI X rm_X11_minutes Q) (ht : (xh X).sig.returnType = (some .int)) (hn : (xh X).name = yX11_minutes.name) {v0 : Nat} {S : HS} (h : P_X11_minutes_21 Q v0 S) : WS X 4 0 0 21 [(0, .ref v0)] [] S := by
  refine r_aload_n (pc := 21) C dX11_minutes_21 0 rfl ?_
  refine r_iconst (pc := 22) C (v := (1 : Int32)) dX11_minutes_22 (by decide) ?_
  obtain ⟨o_v0, h⟩ := h
  refine r_callVi0 (pc := 23) C (rest := []) (a := v0) o_v0 [.int (1 : Int32)] yV_X11_refused g_1250 (c_X11_refused h) dX11_minutes_23 rfl rfl (Nat.le_of_ble_eq_true rfl) ⟨by decide, by decide⟩ ⟨by decide, by decide⟩ ⟨rfl, rfl⟩ (fun x3 S1 h g2 => ?_)
  have h := h g2
  have o_v0 := gr_ob g2 o_v0
  exact r_iret (pc := 26) C E ht dX11_minutes_26 (by decide) (by decide) h
def P_X11_minutes_0 (Q : Int32 → HS → Prop) (v0 : Nat) (v1 : Int32) (v2 : Int32) (v3 : Int32) (S : HS) : Prop := ob S v0 11 ∧ (∀ S1 : HS, S1 = sI S v0 0 (0 : Int32) → (P_X11_isWalker v0 v1 (fun x4 S2 => Gr S1 S2 → bl x4 → (((x4 = 0) → (P_X11_minutes_21 Q v0 S2)) ∧ ((¬ x4 = 0) → (P_X11_isRoad v0 v2 (fun x8 S6 => Gr S2 S6 → bl x8 → (((¬ x8 = 0) → (P_X11_isSpeed v0 v1 v3 (fun x12 S10 => Gr S6 S10 → bl x12 → (((x12 = 0) → (P_X11_refused v0 (2 : Int32) (fun x16 S14 => Gr S10 S14 → (Q x16 S14)) S10)) ∧ ((¬ x12 = 0) → (∃ a17 : Nat, fR S10 v0 3 = some a17 ∧ (ob S10 a17 10 ∧ (P_X10_minutes a17 v2 v3 (fun x20 S18 => Gr S10 S18 → (P_X11_good v0 x20 (fun x23 S21 => Gr S18 S21 → (Q x23 S21)) S18)) S10)))))) S6)) ∧ ((x8 = 0) → (P_X11_minutes_21 Q v0 S6)))) S2)))) S1))
set_option maxRecDepth 20000 in
set_option maxHeartbeats 4000000 in
theorem T_X11_minutes_0 {X : CX} {Q : Int32 → HS → Prop} (C : Cx X cX11_minutes RX11 4 rm_X11_minutes) (E : ReI X rm_X11_minutes Q) (ht : (xh X).sig.returnType = (some .int)) (hn : (xh X).name = yX11_minutes.name) {v0 : Nat} {v1 : Int32} {v2 : Int32} {v3 : Int32} {S : HS} (h : P_X11_minutes_0 Q v0 v1 v2 v3 S) : WS X 4 0 0 0 [(0, .ref v0), (1, .int v1), (2, .int v2), (3, .int v3)] [] S := by
  refine r_aload_n (pc := 0) C dX11_minutes_0 0 rfl ?_
  refine r_iconst (pc := 1) C (v := (0 : Int32)) dX11_minutes_1 (by decide) ?_
  obtain ⟨o_v0, h⟩ := h
  refine r_puti (pc := 2) C pfL_X11_40 dX11_minutes_2 o_v0 ?_
  refine r_heap (fun S1 eS1 => ?_)
  have h := h S1 eS1
  have o_v0 := ob_I eS1 o_v0
  refine r_aload_n (pc := 5) C dX11_minutes_5 0 rfl ?_
  refine r_iload_n (pc := 6) C dX11_minutes_6 1 rfl ?_
  refine r_callVi0 (pc := 7) C (rest := []) (a := v0) o_v0 [.int v1] yV_X11_isWalker g_1538 (c_X11_isWalker h) dX11_minutes_7 rfl rfl (Nat.le_of_ble_eq_true rfl) ⟨by decide, by decide⟩ ⟨by decide, by decide⟩ ⟨rfl, rfl⟩ (fun x4 S2 h g3 => ?_)
  have bx4 := h.1
  have h := h.2 g3 bx4
  have o_v0 := gr_ob g3 o_v0
  refine r_if_eq (pc := 10) C (tgt := 21) dX11_minutes_10 (by decide) (fun c5 => ?_) (fun c5 => ?_)
  · have h := h.1 c5
    exact r_sub [0] rfl (T_X11_minutes_21 C E ht hn h)
  · have h := h.2 c5
    refine r_aload_n (pc := 13) C dX11_minutes_13 0 rfl ?_
    refine r_iload_n (pc := 14) C dX11_minutes_14 2 rfl ?_
    refine r_callVi0 (pc := 15) C (rest := []) (a := v0) o_v0 [.int v2] yV_X11_isRoad g_1542 (c_X11_isRoad h) dX11_minutes_15 rfl rfl (Nat.le_of_ble_eq_true rfl) ⟨by decide, by decide⟩ ⟨by decide, by decide⟩ ⟨rfl, rfl⟩ (fun x8 S6 h g7 => ?_)
    have bx8 := h.1
    have h := h.2 g7 bx8
    have o_v0 := gr_ob g7 o_v0
    refine r_if_ne (pc := 18) C (tgt := 27) dX11_minutes_18 (by decide) (fun c9 => ?_) (fun c9 => ?_)
    · have h := h.1 c9
      refine r_aload_n (pc := 27) C dX11_minutes_27 0 rfl ?_
      refine r_iload_n (pc := 28) C dX11_minutes_28 1 rfl ?_
      refine r_iload_n (pc := 29) C dX11_minutes_29 3 rfl ?_
      refine r_callVi0 (pc := 30) C (rest := []) (a := v0) o_v0 [.int v1, .int v3] yV_X11_isSpeed g_1550 (c_X11_isSpeed h) dX11_minutes_30 rfl rfl (Nat.le_of_ble_eq_true rfl) ⟨by decide, by decide⟩ ⟨by decide, by decide⟩ ⟨rfl, rfl⟩ (fun x12 S10 h g11 => ?_)
      have bx12 := h.1
      have h := h.2 g11 bx12
      have o_v0 := gr_ob g11 o_v0
      refine r_if_eq (pc := 33) C (tgt := 52) dX11_minutes_33 (by decide) (fun c13 => ?_) (fun c13 => ?_)
      · have h := h.1 c13
        refine r_aload_n (pc := 52) C dX11_minutes_52 0 rfl ?_
        refine r_iconst (pc := 53) C (v := (2 : Int32)) dX11_minutes_53 (by decide) ?_
        refine r_callVi0 (pc := 54) C (rest := []) (a := v0) o_v0 [.int (2 : Int32)] yV_X11_refused g_1250 (c_X11_refused h) dX11_minutes_54 rfl rfl (Nat.le_of_ble_eq_true rfl) ⟨by decide, by decide⟩ ⟨by decide, by decide⟩ ⟨rfl, rfl⟩ (fun x16 S14 h g15 => ?_)
        have h := h g15
        have o_v0 := gr_ob g15 o_v0
        exact r_iret (pc := 57) C E ht dX11_minutes_57 (by decide) (by decide) h
      · have h := h.2 c13
        refine r_aload_n (pc := 36) C dX11_minutes_36 0 rfl ?_
        refine r_aload_n (pc := 37) C dX11_minutes_37 0 rfl ?_
        obtain ⟨a17, ea17, h⟩ := h
        refine r_getr (pc := 38) C fL_X11_338 dX11_minutes_38 o_v0 ea17 ?_
        refine r_iload_n (pc := 41) C dX11_minutes_41 2 rfl ?_
        refine r_iload_n (pc := 42) C dX11_minutes_42 3 rfl ?_
        obtain ⟨o_a17, h⟩ := h
        refine r_callVi0 (pc := 43) C (rest := [.ref v0]) (a := a17) o_a17 [.int v2, .int v3] yV_X10_minutes g_1607 (c_X10_minutes h) dX11_minutes_43 rfl rfl (Nat.le_of_ble_eq_true rfl) ⟨by decide, by decide⟩ ⟨by decide, by decide⟩ ⟨rfl, rfl⟩ (fun x20 S18 h g19 => ?_)
        have h := h g19
        have o_a17 := gr_ob g19 o_a17
        have o_v0 := gr_ob g19 o_v0
        refine r_callVi0 (pc := 46) C (rest := []) (a := v0) o_v0 [.int x20] yV_X11_good g_1518 (c_X11_good h) dX11_minutes_46 rfl rfl (Nat.le_of_ble_eq_true rfl) ⟨by decide, by decide⟩ ⟨by decide, by decide⟩ ⟨rfl, rfl⟩ (fun x23 S21 h g22 => ?_)
        have h := h g22
        have o_a17 := gr_ob g22 o_a17
        have o_v0 := gr_ob g22 o_v0
        refine r_goto (pc := 49) C (tgt := 57) dX11_minutes_49 (by decide) ?_
        exact r_iret (pc := 57) C E ht dX11_minutes_57 (by decide) (by decide) h
    · have h := h.2 c9
      exact r_sub [0] rfl (T_X11_minutes_21 C E ht hn h)
def P_X11_minutes (v0 : Nat) (v1 : Int32) (v2 : Int32) (v3 : Int32) (Q : Int32 → HS → Prop) (S : HS) : Prop := P_X11_minutes_0 Q v0 v1 v2 v3 S
theorem c_X11_minutes {l : Launch} {Ee : EE} {S : HS} {v0 : Nat} {v1 : Int32} {v2 : Int32} {v3 : Int32} {Q : Int32 → HS → Prop} (h : P_X11_minutes v0 v1 v2 v3 Q S) : MI l yX11_minutes cX11_minutes 4 (some .int) rm_X11_minutes Ee S [.ref v0, .int v1, .int v2, .int v3] Q :=
  openI (by decide) (Nat.le_of_ble_eq_true rfl) (fun X C E ht hn hE hl => by subst hE; exact r_sub [0, 1, 2, 3] rfl (T_X11_minutes_0 C E ht hn h))
def rm_X11_names : Room := { frames := 0, cells := 0, slots := 0, locals := 0 }
def P_X11_names_0 (Q : HS → Prop) (v0 : Nat) (v1 : Int64) (v3 : Int32) (v4 : Int32) (S : HS) : Prop := ob S v0 11 ∧ (∃ a1 : Nat, fR S v0 4 = some a1 ∧ (ob S a1 10 ∧ (∃ a2 : Nat, fR S a1 28 = some a2 ∧ (∃ a3 : Nat, fR S v0 4 = some a3 ∧ (ob S a3 10 ∧ (∀ x4 : Int32, x4 = fI S a3 6 → (ob S a2 14 ∧ (vp_in x4 (hN S a2) ∧ (∀ S6 : HS, S6 = sJ S a2 x4.toNatClampNeg v1 → (∃ a7 : Nat, fR S6 v0 4 = some a7 ∧ (ob S6 a7 10 ∧ (∃ a8 : Nat, fR S6 a7 29 = some a8 ∧ (∃ a9 : Nat, fR S6 v0 4 = some a9 ∧ (ob S6 a9 10 ∧ (∀ x10 : Int32, x10 = fI S6 a9 6 → (ob S6 a8 13 ∧ (vp_in x10 (hN S6 a8) ∧ (∀ S12 : HS, S12 = sI S6 a8 x10.toNatClampNeg v3 → (∃ a13 : Nat, fR S12 v0 4 = some a13 ∧ (ob S12 a13 10 ∧ (∃ a14 : Nat, fR S12 a13 30 = some a14 ∧ (∃ a15 : Nat, fR S12 v0 4 = some a15 ∧ (ob S12 a15 10 ∧ (∀ x16 : Int32, x16 = fI S12 a15 6 → (ob S12 a14 13 ∧ (vp_in x16 (hN S12 a14) ∧ (∀ S18 : HS, S18 = sI S12 a14 x16.toNatClampNeg v4 → (∃ a19 : Nat, fR S18 v0 4 = some a19 ∧ (ob S18 a19 10 ∧ (∀ x20 : Int32, x20 = fI S18 a19 6 → (∀ x21 : Int32, x21 = x20 + (1 : Int32) → (∀ S22 : HS, S22 = sI S18 a19 6 x21 → (Q S22)))))))))))))))))))))))))))))))))
set_option maxRecDepth 20000 in
set_option maxHeartbeats 4000000 in
theorem T_X11_names_0 {X : CX} {Q : HS → Prop} (C : Cx X cX11_names RX11 5 rm_X11_names) (E : ReV X rm_X11_names Q) (ht : (xh X).sig.returnType = none) (hn : (xh X).name = yX11_names.name) {v0 : Nat} {v1 : Int64} {v3 : Int32} {v4 : Int32} {S : HS} (h : P_X11_names_0 Q v0 v1 v3 v4 S) : WS X 5 0 0 0 [(0, .ref v0), (1, .long v1), (3, .int v3), (4, .int v4)] [] S := by
  refine r_aload_n (pc := 0) C dX11_names_0 0 rfl ?_
  obtain ⟨o_v0, h⟩ := h
  obtain ⟨a1, ea1, h⟩ := h
  refine r_getr (pc := 1) C fL_X11_147 dX11_names_1 o_v0 ea1 ?_
  obtain ⟨o_a1, h⟩ := h
  obtain ⟨a2, ea2, h⟩ := h
  refine r_getNr (pc := 4) C fN_X11_164 dX11_names_4 o_a1 ea2 ?_
  refine r_aload_n (pc := 7) C dX11_names_7 0 rfl ?_
  obtain ⟨a3, ea3, h⟩ := h
  refine r_getr (pc := 8) C fL_X11_147 dX11_names_8 o_v0 ea3 ?_
  obtain ⟨o_a3, h⟩ := h
  refine r_getNi (pc := 11) C fN_X11_167 dX11_names_11 o_a3 ?_
  refine r_topi (fun x4 ex4 => ?_)
  have h := h x4 ex4
  refine r_lload_n (pc := 14) C dX11_names_14 1 rfl ?_
  obtain ⟨o_a2, h⟩ := h
  obtain ⟨i5, h⟩ := h
  refine r_last (pc := 15) C dX11_names_15 o_a2 i5 ?_
  refine r_heap (fun S6 eS6 => ?_)
  have h := h S6 eS6
  have o_a1 := ob_J eS6 o_a1
  have o_a2 := ob_J eS6 o_a2
  have o_a3 := ob_J eS6 o_a3
  have o_v0 := ob_J eS6 o_v0
  refine r_aload_n (pc := 16) C dX11_names_16 0 rfl ?_
  obtain ⟨a7, ea7, h⟩ := h
  refine r_getr (pc := 17) C fL_X11_147 dX11_names_17 o_v0 ea7 ?_
  obtain ⟨o_a7, h⟩ := h
  obtain ⟨a8, ea8, h⟩ := h
  refine r_getNr (pc := 20) C fN_X11_170 dX11_names_20 o_a7 ea8 ?_
  refine r_aload_n (pc := 23) C dX11_names_23 0 rfl ?_
  obtain ⟨a9, ea9, h⟩ := h
  refine r_getr (pc := 24) C fL_X11_147 dX11_names_24 o_v0 ea9 ?_
  obtain ⟨o_a9, h⟩ := h
  refine r_getNi (pc := 27) C fN_X11_167 dX11_names_27 o_a9 ?_
  refine r_topi (fun x10 ex10 => ?_)
  have h := h x10 ex10
  refine r_iload_n (pc := 30) C dX11_names_30 2 rfl ?_
  obtain ⟨o_a8, h⟩ := h
  obtain ⟨i11, h⟩ := h
  refine r_iast (pc := 31) C dX11_names_31 o_a8 i11 ?_
  refine r_heap (fun S12 eS12 => ?_)
  have h := h S12 eS12
  have o_a1 := ob_I eS12 o_a1
  have o_a2 := ob_I eS12 o_a2
  have o_a3 := ob_I eS12 o_a3
  have o_a7 := ob_I eS12 o_a7
  have o_a8 := ob_I eS12 o_a8
  have o_a9 := ob_I eS12 o_a9
  have o_v0 := ob_I eS12 o_v0
  refine r_aload_n (pc := 32) C dX11_names_32 0 rfl ?_
  obtain ⟨a13, ea13, h⟩ := h
  refine r_getr (pc := 33) C fL_X11_147 dX11_names_33 o_v0 ea13 ?_
  obtain ⟨o_a13, h⟩ := h
  obtain ⟨a14, ea14, h⟩ := h
  refine r_getNr (pc := 36) C fN_X11_173 dX11_names_36 o_a13 ea14 ?_
  refine r_aload_n (pc := 39) C dX11_names_39 0 rfl ?_
  obtain ⟨a15, ea15, h⟩ := h
  refine r_getr (pc := 40) C fL_X11_147 dX11_names_40 o_v0 ea15 ?_
  obtain ⟨o_a15, h⟩ := h
  refine r_getNi (pc := 43) C fN_X11_167 dX11_names_43 o_a15 ?_
  refine r_topi (fun x16 ex16 => ?_)
  have h := h x16 ex16
  refine r_iload (pc := 46) C dX11_names_46 3 rfl ?_
  obtain ⟨o_a14, h⟩ := h
  obtain ⟨i17, h⟩ := h
  refine r_iast (pc := 48) C dX11_names_48 o_a14 i17 ?_
  refine r_heap (fun S18 eS18 => ?_)
  have h := h S18 eS18
  have o_a1 := ob_I eS18 o_a1
  have o_a13 := ob_I eS18 o_a13
  have o_a14 := ob_I eS18 o_a14
  have o_a15 := ob_I eS18 o_a15
  have o_a2 := ob_I eS18 o_a2
  have o_a3 := ob_I eS18 o_a3
  have o_a7 := ob_I eS18 o_a7
  have o_a8 := ob_I eS18 o_a8
  have o_a9 := ob_I eS18 o_a9
  have o_v0 := ob_I eS18 o_v0
  refine r_aload_n (pc := 49) C dX11_names_49 0 rfl ?_
  obtain ⟨a19, ea19, h⟩ := h
  refine r_getr (pc := 50) C fL_X11_147 dX11_names_50 o_v0 ea19 ?_
  refine r_dup (pc := 53) C dX11_names_53 rfl ?_
  obtain ⟨o_a19, h⟩ := h
  refine r_getNi (pc := 54) C fN_X11_167 dX11_names_54 o_a19 ?_
  refine r_topi (fun x20 ex20 => ?_)
  have h := h x20 ex20
  refine r_iconst (pc := 57) C (v := (1 : Int32)) dX11_names_57 (by decide) ?_
  refine r_iadd (pc := 58) C dX11_names_58 ?_
  refine r_topi (fun x21 ex21 => ?_)
  have h := h x21 ex21
  refine r_putNi (pc := 59) C pfN_X11_167 dX11_names_59 o_a19 ?_
  refine r_heap (fun S22 eS22 => ?_)
  have h := h S22 eS22
  have o_a1 := ob_I eS22 o_a1
  have o_a13 := ob_I eS22 o_a13
  have o_a14 := ob_I eS22 o_a14
  have o_a15 := ob_I eS22 o_a15
  have o_a19 := ob_I eS22 o_a19
  have o_a2 := ob_I eS22 o_a2
  have o_a3 := ob_I eS22 o_a3
  have o_a7 := ob_I eS22 o_a7
  have o_a8 := ob_I eS22 o_a8
  have o_a9 := ob_I eS22 o_a9
  have o_v0 := ob_I eS22 o_v0
  exact r_vret (pc := 62) C E ht dX11_names_62 (by decide) (by decide) h
def P_X11_names (v0 : Nat) (v1 : Int64) (v3 : Int32) (v4 : Int32) (Q : HS → Prop) (S : HS) : Prop := P_X11_names_0 Q v0 v1 v3 v4 S
theorem c_X11_names {l : Launch} {Ee : EE} {S : HS} {v0 : Nat} {v1 : Int64} {v3 : Int32} {v4 : Int32} {Q : HS → Prop} (h : P_X11_names v0 v1 v3 v4 Q S) : MV l yX11_names cX11_names 5 none rm_X11_names Ee S [.ref v0, .long v1, .int v3, .int v4] Q :=
  openV (by decide) (Nat.le_of_ble_eq_true rfl) (fun X C E ht hn hE hl => by subst hE; exact r_sub [0, 1, 2, 3] rfl (T_X11_names_0 C E ht hn h))
def rm_X11_needs : Room := { frames := 7, cells := 0, slots := 0, locals := 164 }
def P_X11_needs_13 (Q : HS → Prop) (v0 : Nat) (S : HS) : Prop := ob S v0 11 ∧ (P_X11_goesOn v0 (fun S1 => Gr S S1 → (Q S1)) S)
set_option maxRecDepth 20000 in
set_option maxHeartbeats 4000000 in
theorem T_X11_needs_13 {X : CX} {Q : HS → Prop} (C : Cx X cX11_needs RX11 2 rm_X11_needs) (E : ReV X rm_X11_needs Q) (ht : (xh X).sig.returnType = none) (hn : (xh X).name = yX11_needs.name) {v0 : Nat} {S : HS} (h : P_X11_needs_13 Q v0 S) : WS X 2 0 0 13 [(0, .ref v0)] [] S := by
  refine r_aload_n (pc := 13) C dX11_needs_13 0 rfl ?_
  obtain ⟨o_v0, h⟩ := h
  refine r_callVv0 (pc := 14) C (rest := []) (a := v0) o_v0 [] yV_X11_goesOn g_1380 (c_X11_goesOn h) dX11_needs_14 rfl rfl (Nat.le_of_ble_eq_true rfl) ⟨by decide, by decide⟩ ⟨by decide, by decide⟩ ⟨rfl, rfl⟩ (fun S1 h g2 => ?_)
  have h := h g2
  have o_v0 := gr_ob g2 o_v0
  exact r_vret (pc := 17) C E ht dX11_needs_17 (by decide) (by decide) h
def P_X11_needs_0 (Q : HS → Prop) (v0 : Nat) (v1 : Nat) (S : HS) : Prop := ob S v0 11 ∧ (P_X11_isWord v0 v1 (fun x3 S1 => Gr S S1 → bl x3 → (((¬ x3 = 0) → (P_X11_needs_13 Q v0 S1)) ∧ ((x3 = 0) → (P_X11_flaw v0 (1 : Int32) (fun S5 => Gr S1 S5 → (P_X11_needs_13 Q v0 S5)) S1)))) S)
set_option maxRecDepth 20000 in
set_option maxHeartbeats 4000000 in
theorem T_X11_needs_0 {X : CX} {Q : HS → Prop} (C : Cx X cX11_needs RX11 2 rm_X11_needs) (E : ReV X rm_X11_needs Q) (ht : (xh X).sig.returnType = none) (hn : (xh X).name = yX11_needs.name) {v0 : Nat} {v1 : Nat} {S : HS} (h : P_X11_needs_0 Q v0 v1 S) : WS X 2 0 0 0 [(0, .ref v0), (1, .ref (eK (xE X) v1))] [] S := by
  refine r_aload_n (pc := 0) C dX11_needs_0 0 rfl ?_
  refine r_aload_n (pc := 1) C dX11_needs_1 1 rfl ?_
  obtain ⟨o_v0, h⟩ := h
  refine r_callVi0 (pc := 2) C (rest := []) (a := v0) o_v0 [.ref (eK (xE X) v1)] yV_X11_isWord g_1404 (c_X11_isWord h) dX11_needs_2 rfl rfl (Nat.le_of_ble_eq_true rfl) ⟨by decide, by decide⟩ ⟨by decide, by decide⟩ ⟨rfl, rfl⟩ (fun x3 S1 h g2 => ?_)
  have bx3 := h.1
  have h := h.2 g2 bx3
  have o_v0 := gr_ob g2 o_v0
  refine r_if_ne (pc := 5) C (tgt := 13) dX11_needs_5 (by decide) (fun c4 => ?_) (fun c4 => ?_)
  · have h := h.1 c4
    exact r_sub [0] rfl (T_X11_needs_13 C E ht hn h)
  · have h := h.2 c4
    refine r_aload_n (pc := 8) C dX11_needs_8 0 rfl ?_
    refine r_iconst (pc := 9) C (v := (1 : Int32)) dX11_needs_9 (by decide) ?_
    refine r_callVv0 (pc := 10) C (rest := []) (a := v0) o_v0 [.int (1 : Int32)] yV_X11_flaw g_1417 (c_X11_flaw h) dX11_needs_10 rfl rfl (Nat.le_of_ble_eq_true rfl) ⟨by decide, by decide⟩ ⟨by decide, by decide⟩ ⟨rfl, rfl⟩ (fun S5 h g6 => ?_)
    have h := h g6
    have o_v0 := gr_ob g6 o_v0
    exact r_sub [0] rfl (T_X11_needs_13 C E ht hn h)
def P_X11_needs (v0 : Nat) (v1 : Nat) (Q : HS → Prop) (S : HS) : Prop := P_X11_needs_0 Q v0 v1 S
theorem c_X11_needs {l : Launch} {Ee : EE} {S : HS} {v0 : Nat} {v1 : Nat} {Q : HS → Prop} (h : P_X11_needs v0 v1 Q S) : MV l yX11_needs cX11_needs 2 none rm_X11_needs Ee S [.ref v0, .ref (eK Ee v1)] Q :=
  openV (by decide) (Nat.le_of_ble_eq_true rfl) (fun X C E ht hn hE hl => by subst hE; exact r_sub [0, 1] rfl (T_X11_needs_0 C E ht hn h))
def rm_X11_off : Room := { frames := 9, cells := 0, slots := 0, locals := 243 }
def P_X11_off_29 (Q : Int32 → HS → Prop) (v0 : Nat) (S : HS) : Prop := ob S v0 11 ∧ (P_X11_refused v0 (1 : Int32) (fun x3 S1 => Gr S S1 → (Q x3 S1)) S)
set_option maxRecDepth 20000 in
set_option maxHeartbeats 4000000 in
theorem T_X11_off_29 {X : CX} {Q : Int32 → HS → Prop} (C : Cx X cX11_off RX11 7 rm_X11_off) (E : ReI X rm_X11_off Q) (ht : (xh X).sig.returnType = (some .int)) (hn : (xh X).name = yX11_off.name) {v0 : Nat} {S : HS} (h : P_X11_off_29 Q v0 S) : WS X 7 0 0 29 [(0, .ref v0)] [] S := by
  refine r_aload_n (pc := 29) C dX11_off_29 0 rfl ?_
  refine r_iconst (pc := 30) C (v := (1 : Int32)) dX11_off_30 (by decide) ?_
  obtain ⟨o_v0, h⟩ := h
  refine r_callVi0 (pc := 31) C (rest := []) (a := v0) o_v0 [.int (1 : Int32)] yV_X11_refused g_1250 (c_X11_refused h) dX11_off_31 rfl rfl (Nat.le_of_ble_eq_true rfl) ⟨by decide, by decide⟩ ⟨by decide, by decide⟩ ⟨rfl, rfl⟩ (fun x3 S1 h g2 => ?_)
  have h := h g2
  have o_v0 := gr_ob g2 o_v0
  exact r_iret (pc := 34) C E ht dX11_off_34 (by decide) (by decide) h
def P_X11_off_128 (Q : Int32 → HS → Prop) (X67 : Nat → Int32 → Int32 → Int32 → Int32 → HS → Prop) (v0 : Nat) (v2 : Int32) (v4 : Int32) (v5 : Int32) (v6 : Int32) (S : HS) : Prop := ∀ x1 : Int32, x1 = v6 + (1 : Int32) → (X67 v0 v2 v4 v5 x1 S)
set_option maxRecDepth 20000 in
set_option maxHeartbeats 4000000 in
theorem T_X11_off_128 {X : CX} {Q : Int32 → HS → Prop} (C : Cx X cX11_off RX11 7 rm_X11_off) (E : ReI X rm_X11_off Q) (ht : (xh X).sig.returnType = (some .int)) (hn : (xh X).name = yX11_off.name) {X67 : Nat → Int32 → Int32 → Int32 → Int32 → HS → Prop} (hX67 : ∀ (v0 : Nat) (v2 : Int32) (v4 : Int32) (v5 : Int32) (v6 : Int32) (S : HS), X67 v0 v2 v4 v5 v6 S → WS X 7 0 0 67 [(0, .ref v0), (2, .int v2), (4, .int v4), (5, .int v5), (6, .int v6)] [] S) {v0 : Nat} {v2 : Int32} {v4 : Int32} {v5 : Int32} {v6 : Int32} {S : HS} (h : P_X11_off_128 Q X67 v0 v2 v4 v5 v6 S) : WS X 7 0 0 128 [(0, .ref v0), (2, .int v2), (4, .int v4), (5, .int v5), (6, .int v6)] [] S := by
  obtain ⟨x1, ex1⟩ : ∃ z : Int32, z = v6 + (1 : Int32) := ⟨_, rfl⟩
  have h := h x1 ex1
  refine r_iinc (pc := 128) C (v := x1) (lv' := [(6, .int x1), (0, .ref v0), (2, .int v2), (4, .int v4), (5, .int v5)]) dX11_off_128 4 rfl ex1.symm (by decide) rfl ?_
  refine r_goto (pc := 131) C (tgt := 67) dX11_off_131 (by decide) ?_
  exact r_sub [1, 2, 3, 4, 0] rfl (hX67 v0 v2 v4 v5 x1 S h)
def P_X11_off_124 (Q : Int32 → HS → Prop) (X67 : Nat → Int32 → Int32 → Int32 → Int32 → HS → Prop) (v0 : Nat) (v2 : Int32) (v4 : Int32) (v6 : Int32) (S : HS) : Prop := P_X11_off_128 Q X67 v0 v2 v4 v6 v6 S
set_option maxRecDepth 20000 in
set_option maxHeartbeats 4000000 in
theorem T_X11_off_124 {X : CX} {Q : Int32 → HS → Prop} (C : Cx X cX11_off RX11 7 rm_X11_off) (E : ReI X rm_X11_off Q) (ht : (xh X).sig.returnType = (some .int)) (hn : (xh X).name = yX11_off.name) {X67 : Nat → Int32 → Int32 → Int32 → Int32 → HS → Prop} (hX67 : ∀ (v0 : Nat) (v2 : Int32) (v4 : Int32) (v5 : Int32) (v6 : Int32) (S : HS), X67 v0 v2 v4 v5 v6 S → WS X 7 0 0 67 [(0, .ref v0), (2, .int v2), (4, .int v4), (5, .int v5), (6, .int v6)] [] S) {v0 : Nat} {v2 : Int32} {v4 : Int32} {v6 : Int32} {S : HS} (h : P_X11_off_124 Q X67 v0 v2 v4 v6 S) : WS X 7 0 0 124 [(0, .ref v0), (2, .int v2), (4, .int v4), (6, .int v6)] [] S := by
  refine r_iload (pc := 124) C dX11_off_124 3 rfl ?_
  refine r_istore (pc := 126) C dX11_off_126 (by decide) (lv' := [(5, .int v6), (0, .ref v0), (2, .int v2), (4, .int v4), (6, .int v6)]) rfl ?_
  exact r_sub [1, 2, 3, 0, 4] rfl (T_X11_off_128 C E ht hn hX67 h)
def B_X11_off_67 (Q : Int32 → HS → Prop) (X67 : Nat → Int32 → Int32 → Int32 → Int32 → HS → Prop) (v0 : Nat) (v2 : Int32) (v4 : Int32) (v5 : Int32) (v6 : Int32) (S : HS) : Prop := ((v4 < v6) → (((¬ v5 = (-1 : Int32)) → (ob S v0 11 ∧ (P_X11_good v0 v5 (fun x5 S3 => Gr S S3 → (Q x5 S3)) S))) ∧ ((v5 = (-1 : Int32)) → (ob S v0 11 ∧ (P_X11_refused v0 (6 : Int32) (fun x8 S6 => Gr S S6 → (Q x8 S6)) S))))) ∧ ((¬ v4 < v6) → (ob S v0 11 ∧ (∃ a9 : Nat, fR S v0 16 = some a9 ∧ (P_X11_spotOf v2 v6 (fun x12 S10 => Gr S S10 → (ob S10 a9 14 ∧ (vp_in x12 (hN S10 a9) ∧ ∀ x14 : Int64, x14 = fJ S10 a9 x12.toNatClampNeg → ((((lg_cmp x14 (-1 : Int64)) = 0) → (P_X11_off_128 Q X67 v0 v2 v4 v5 v6 S10)) ∧ ((¬ (lg_cmp x14 (-1 : Int64)) = 0) → (((v5 = (-1 : Int32)) → (P_X11_off_124 Q X67 v0 v2 v4 v6 S10)) ∧ ((¬ v5 = (-1 : Int32)) → (∃ a17 : Nat, fR S10 v0 16 = some a17 ∧ (P_X11_spotOf v2 v6 (fun x20 S18 => Gr S10 S18 → (ob S18 a17 14 ∧ (vp_in x20 (hN S18 a17) ∧ ∀ x22 : Int64, x22 = fJ S18 a17 x20.toNatClampNeg → (∃ a23 : Nat, fR S18 v0 16 = some a23 ∧ (P_X11_spotOf v2 v5 (fun x26 S24 => Gr S18 S24 → (ob S24 a23 14 ∧ (vp_in x26 (hN S24 a23) ∧ ∀ x28 : Int64, x28 = fJ S24 a23 x26.toNatClampNeg → (((0 ≤ (lg_cmp x22 x28)) → (P_X11_off_128 Q X67 v0 v2 v4 v5 v6 S24)) ∧ ((¬ 0 ≤ (lg_cmp x22 x28)) → (P_X11_off_124 Q X67 v0 v2 v4 v6 S24)))))) S18))))) S10))))))))) S))))
def P_X11_off_67 (Q : Int32 → HS → Prop) (v0 : Nat) (v2 : Int32) (v4 : Int32) (v5 : Int32) (v6 : Int32) (S : HS) : Prop := ∀ X67 : Nat → Int32 → Int32 → Int32 → Int32 → HS → Prop, (∀ (v0 : Nat) (v2 : Int32) (v4 : Int32) (v5 : Int32) (v6 : Int32) (S : HS), B_X11_off_67 Q X67 v0 v2 v4 v5 v6 S → X67 v0 v2 v4 v5 v6 S) → X67 v0 v2 v4 v5 v6 S
set_option maxRecDepth 20000 in
set_option maxHeartbeats 4000000 in
theorem TB_X11_off_67 {X : CX} {Q : Int32 → HS → Prop} (C : Cx X cX11_off RX11 7 rm_X11_off) (E : ReI X rm_X11_off Q) (ht : (xh X).sig.returnType = (some .int)) (hn : (xh X).name = yX11_off.name) {X67 : Nat → Int32 → Int32 → Int32 → Int32 → HS → Prop} (hX67 : ∀ (v0 : Nat) (v2 : Int32) (v4 : Int32) (v5 : Int32) (v6 : Int32) (S : HS), X67 v0 v2 v4 v5 v6 S → WS X 7 0 0 67 [(0, .ref v0), (2, .int v2), (4, .int v4), (5, .int v5), (6, .int v6)] [] S) {v0 : Nat} {v2 : Int32} {v4 : Int32} {v5 : Int32} {v6 : Int32} {S : HS} (h : B_X11_off_67 Q X67 v0 v2 v4 v5 v6 S) : WS X 7 0 0 67 [(0, .ref v0), (2, .int v2), (4, .int v4), (5, .int v5), (6, .int v6)] [] S := by
  refine r_iload (pc := 67) C dX11_off_67 4 rfl ?_
  refine r_iload (pc := 69) C dX11_off_69 2 rfl ?_
  refine r_icmp_gt (pc := 71) C (tgt := 134) dX11_off_71 (by decide) (fun c1 => ?_) (fun c1 => ?_)
  · have h := h.1 c1
    refine r_iload (pc := 134) C dX11_off_134 3 rfl ?_
    refine r_iconst (pc := 136) C (v := (-1 : Int32)) dX11_off_136 (by decide) ?_
    refine r_icmp_ne (pc := 137) C (tgt := 149) dX11_off_137 (by decide) (fun c2 => ?_) (fun c2 => ?_)
    · have h := h.1 c2
      refine r_aload_n (pc := 149) C dX11_off_149 0 rfl ?_
      refine r_iload (pc := 150) C dX11_off_150 3 rfl ?_
      obtain ⟨o_v0, h⟩ := h
      refine r_callVi0 (pc := 152) C (rest := []) (a := v0) o_v0 [.int v5] yV_X11_good g_1518 (c_X11_good h) dX11_off_152 rfl rfl (Nat.le_of_ble_eq_true rfl) ⟨by decide, by decide⟩ ⟨by decide, by decide⟩ ⟨rfl, rfl⟩ (fun x5 S3 h g4 => ?_)
      have h := h g4
      have o_v0 := gr_ob g4 o_v0
      exact r_iret (pc := 155) C E ht dX11_off_155 (by decide) (by decide) h
    · have h := h.2 c2
      refine r_aload_n (pc := 140) C dX11_off_140 0 rfl ?_
      refine r_bipush (pc := 141) C (v := (6 : Int32)) dX11_off_141 (by decide) ?_
      obtain ⟨o_v0, h⟩ := h
      refine r_callVi0 (pc := 143) C (rest := []) (a := v0) o_v0 [.int (6 : Int32)] yV_X11_refused g_1250 (c_X11_refused h) dX11_off_143 rfl rfl (Nat.le_of_ble_eq_true rfl) ⟨by decide, by decide⟩ ⟨by decide, by decide⟩ ⟨rfl, rfl⟩ (fun x8 S6 h g7 => ?_)
      have h := h g7
      have o_v0 := gr_ob g7 o_v0
      refine r_goto (pc := 146) C (tgt := 155) dX11_off_146 (by decide) ?_
      exact r_iret (pc := 155) C E ht dX11_off_155 (by decide) (by decide) h
  · have h := h.2 c1
    refine r_aload_n (pc := 74) C dX11_off_74 0 rfl ?_
    obtain ⟨o_v0, h⟩ := h
    obtain ⟨a9, ea9, h⟩ := h
    refine r_getr (pc := 75) C fL_X11_17 dX11_off_75 o_v0 ea9 ?_
    refine r_iload_n (pc := 78) C dX11_off_78 1 rfl ?_
    refine r_iload (pc := 79) C dX11_off_79 4 rfl ?_
    refine r_callSi0 (pc := 81) C (rest := [.ref a9]) rfl [.int v2, .int v6] yS_X11_spotOf g_1687 (c_X11_spotOf h) dX11_off_81 rfl rfl (Nat.le_of_ble_eq_true rfl) ⟨by decide, by decide⟩ ⟨by decide, by decide⟩ ⟨rfl, rfl⟩ (fun x12 S10 h g11 => ?_)
    have h := h g11
    have o_v0 := gr_ob g11 o_v0
    obtain ⟨o_a9, h⟩ := h
    obtain ⟨i13, h⟩ := h
    refine r_lald (pc := 84) C dX11_off_84 o_a9 i13 ?_
    refine r_topl (fun x14 ex14 => ?_)
    have h := h x14 ex14
    refine r_ldc2 (pc := 85) C (v := (-1 : Int64)) dX11_off_85 g_1690 ?_
    refine r_lcmp (pc := 88) C dX11_off_88 ?_
    refine r_if_eq (pc := 89) C (tgt := 128) dX11_off_89 (by decide) (fun c15 => ?_) (fun c15 => ?_)
    · have h := h.1 c15
      exact r_sub [0, 1, 2, 3, 4] rfl (T_X11_off_128 C E ht hn hX67 h)
    · have h := h.2 c15
      refine r_iload (pc := 92) C dX11_off_92 3 rfl ?_
      refine r_iconst (pc := 94) C (v := (-1 : Int32)) dX11_off_94 (by decide) ?_
      refine r_icmp_eq (pc := 95) C (tgt := 124) dX11_off_95 (by decide) (fun c16 => ?_) (fun c16 => ?_)
      · have h := h.1 c16
        exact r_sub [0, 1, 2, 4] rfl (T_X11_off_124 C E ht hn hX67 h)
      · have h := h.2 c16
        refine r_aload_n (pc := 98) C dX11_off_98 0 rfl ?_
        obtain ⟨a17, ea17, h⟩ := h
        refine r_getr (pc := 99) C fL_X11_17 dX11_off_99 o_v0 ea17 ?_
        refine r_iload_n (pc := 102) C dX11_off_102 1 rfl ?_
        refine r_iload (pc := 103) C dX11_off_103 4 rfl ?_
        refine r_callSi0 (pc := 105) C (rest := [.ref a17]) rfl [.int v2, .int v6] yS_X11_spotOf g_1687 (c_X11_spotOf h) dX11_off_105 rfl rfl (Nat.le_of_ble_eq_true rfl) ⟨by decide, by decide⟩ ⟨by decide, by decide⟩ ⟨rfl, rfl⟩ (fun x20 S18 h g19 => ?_)
        have h := h g19
        have o_a9 := gr_ob g19 o_a9
        have o_v0 := gr_ob g19 o_v0
        obtain ⟨o_a17, h⟩ := h
        obtain ⟨i21, h⟩ := h
        refine r_lald (pc := 108) C dX11_off_108 o_a17 i21 ?_
        refine r_topl (fun x22 ex22 => ?_)
        have h := h x22 ex22
        refine r_aload_n (pc := 109) C dX11_off_109 0 rfl ?_
        obtain ⟨a23, ea23, h⟩ := h
        refine r_getr (pc := 110) C fL_X11_17 dX11_off_110 o_v0 ea23 ?_
        refine r_iload_n (pc := 113) C dX11_off_113 1 rfl ?_
        refine r_iload (pc := 114) C dX11_off_114 3 rfl ?_
        refine r_callSi0 (pc := 116) C (rest := [.ref a23, .long x22]) rfl [.int v2, .int v5] yS_X11_spotOf g_1687 (c_X11_spotOf h) dX11_off_116 rfl rfl (Nat.le_of_ble_eq_true rfl) ⟨by decide, by decide⟩ ⟨by decide, by decide⟩ ⟨rfl, rfl⟩ (fun x26 S24 h g25 => ?_)
        have h := h g25
        have o_a17 := gr_ob g25 o_a17
        have o_a9 := gr_ob g25 o_a9
        have o_v0 := gr_ob g25 o_v0
        obtain ⟨o_a23, h⟩ := h
        obtain ⟨i27, h⟩ := h
        refine r_lald (pc := 119) C dX11_off_119 o_a23 i27 ?_
        refine r_topl (fun x28 ex28 => ?_)
        have h := h x28 ex28
        refine r_lcmp (pc := 120) C dX11_off_120 ?_
        refine r_if_ge (pc := 121) C (tgt := 128) dX11_off_121 (by decide) (fun c29 => ?_) (fun c29 => ?_)
        · have h := h.1 c29
          exact r_sub [0, 1, 2, 3, 4] rfl (T_X11_off_128 C E ht hn hX67 h)
        · have h := h.2 c29
          exact r_sub [0, 1, 2, 4] rfl (T_X11_off_124 C E ht hn hX67 h)
theorem T_X11_off_67 {X : CX} {Q : Int32 → HS → Prop} (C : Cx X cX11_off RX11 7 rm_X11_off) (E : ReI X rm_X11_off Q) (ht : (xh X).sig.returnType = (some .int)) (hn : (xh X).name = yX11_off.name) {v0 : Nat} {v2 : Int32} {v4 : Int32} {v5 : Int32} {v6 : Int32} {S : HS} (h : P_X11_off_67 Q v0 v2 v4 v5 v6 S) : WS X 7 0 0 67 [(0, .ref v0), (2, .int v2), (4, .int v4), (5, .int v5), (6, .int v6)] [] S :=
  h (fun v0 v2 v4 v5 v6 S => WS X 7 0 0 67 [(0, .ref v0), (2, .int v2), (4, .int v4), (5, .int v5), (6, .int v6)] [] S) (fun v0 v2 v4 v5 v6 S hh => TB_X11_off_67 C E ht hn (fun v0 v2 v4 v5 v6 S z => z) hh)
def P_X11_off_0 (Q : Int32 → HS → Prop) (v0 : Nat) (v1 : Int32) (v2 : Int32) (v3 : Int32) (v4 : Int32) (S : HS) : Prop := ob S v0 11 ∧ (∀ S1 : HS, S1 = sI S v0 0 (0 : Int32) → (P_X11_isWalker v0 v1 (fun x4 S2 => Gr S1 S2 → bl x4 → (((x4 = 0) → (P_X11_off_29 Q v0 S2)) ∧ ((¬ x4 = 0) → (P_X11_isPlace v0 v2 (fun x8 S6 => Gr S2 S6 → bl x8 → (((x8 = 0) → (P_X11_off_29 Q v0 S6)) ∧ ((¬ x8 = 0) → (P_X11_isPlace v0 v3 (fun x12 S10 => Gr S6 S10 → bl x12 → (((¬ x12 = 0) → (P_X11_in v4 (0 : Int32) (400 : Int32) (fun x16 S14 => Gr S10 S14 → bl x16 → (((¬ x16 = 0) → (P_X11_laysWays v0 v1 v3 v4 (fun S18 => Gr S14 S18 → (P_X11_off_67 Q v0 v2 v4 (-1 : Int32) (0 : Int32) S18)) S14)) ∧ ((x16 = 0) → (P_X11_refused v0 (2 : Int32) (fun x23 S21 => Gr S14 S21 → (Q x23 S21)) S14)))) S10)) ∧ ((x12 = 0) → (P_X11_off_29 Q v0 S10)))) S6)))) S2)))) S1))
set_option maxRecDepth 20000 in
set_option maxHeartbeats 4000000 in
theorem T_X11_off_0 {X : CX} {Q : Int32 → HS → Prop} (C : Cx X cX11_off RX11 7 rm_X11_off) (E : ReI X rm_X11_off Q) (ht : (xh X).sig.returnType = (some .int)) (hn : (xh X).name = yX11_off.name) {v0 : Nat} {v1 : Int32} {v2 : Int32} {v3 : Int32} {v4 : Int32} {S : HS} (h : P_X11_off_0 Q v0 v1 v2 v3 v4 S) : WS X 7 0 0 0 [(0, .ref v0), (1, .int v1), (2, .int v2), (3, .int v3), (4, .int v4)] [] S := by
  refine r_aload_n (pc := 0) C dX11_off_0 0 rfl ?_
  refine r_iconst (pc := 1) C (v := (0 : Int32)) dX11_off_1 (by decide) ?_
  obtain ⟨o_v0, h⟩ := h
  refine r_puti (pc := 2) C pfL_X11_40 dX11_off_2 o_v0 ?_
  refine r_heap (fun S1 eS1 => ?_)
  have h := h S1 eS1
  have o_v0 := ob_I eS1 o_v0
  refine r_aload_n (pc := 5) C dX11_off_5 0 rfl ?_
  refine r_iload_n (pc := 6) C dX11_off_6 1 rfl ?_
  refine r_callVi0 (pc := 7) C (rest := []) (a := v0) o_v0 [.int v1] yV_X11_isWalker g_1538 (c_X11_isWalker h) dX11_off_7 rfl rfl (Nat.le_of_ble_eq_true rfl) ⟨by decide, by decide⟩ ⟨by decide, by decide⟩ ⟨rfl, rfl⟩ (fun x4 S2 h g3 => ?_)
  have bx4 := h.1
  have h := h.2 g3 bx4
  have o_v0 := gr_ob g3 o_v0
  refine r_if_eq (pc := 10) C (tgt := 29) dX11_off_10 (by decide) (fun c5 => ?_) (fun c5 => ?_)
  · have h := h.1 c5
    exact r_sub [0] rfl (T_X11_off_29 C E ht hn h)
  · have h := h.2 c5
    refine r_aload_n (pc := 13) C dX11_off_13 0 rfl ?_
    refine r_iload_n (pc := 14) C dX11_off_14 2 rfl ?_
    refine r_callVi0 (pc := 15) C (rest := []) (a := v0) o_v0 [.int v2] yV_X11_isPlace g_1679 (c_X11_isPlace h) dX11_off_15 rfl rfl (Nat.le_of_ble_eq_true rfl) ⟨by decide, by decide⟩ ⟨by decide, by decide⟩ ⟨rfl, rfl⟩ (fun x8 S6 h g7 => ?_)
    have bx8 := h.1
    have h := h.2 g7 bx8
    have o_v0 := gr_ob g7 o_v0
    refine r_if_eq (pc := 18) C (tgt := 29) dX11_off_18 (by decide) (fun c9 => ?_) (fun c9 => ?_)
    · have h := h.1 c9
      exact r_sub [0] rfl (T_X11_off_29 C E ht hn h)
    · have h := h.2 c9
      refine r_aload_n (pc := 21) C dX11_off_21 0 rfl ?_
      refine r_iload_n (pc := 22) C dX11_off_22 3 rfl ?_
      refine r_callVi0 (pc := 23) C (rest := []) (a := v0) o_v0 [.int v3] yV_X11_isPlace g_1679 (c_X11_isPlace h) dX11_off_23 rfl rfl (Nat.le_of_ble_eq_true rfl) ⟨by decide, by decide⟩ ⟨by decide, by decide⟩ ⟨rfl, rfl⟩ (fun x12 S10 h g11 => ?_)
      have bx12 := h.1
      have h := h.2 g11 bx12
      have o_v0 := gr_ob g11 o_v0
      refine r_if_ne (pc := 26) C (tgt := 35) dX11_off_26 (by decide) (fun c13 => ?_) (fun c13 => ?_)
      · have h := h.1 c13
        refine r_iload (pc := 35) C dX11_off_35 4 rfl ?_
        refine r_iconst (pc := 37) C (v := (0 : Int32)) dX11_off_37 (by decide) ?_
        refine r_sipush (pc := 38) C (v := (400 : Int32)) dX11_off_38 (by decide) ?_
        refine r_callSi0 (pc := 41) C (rest := []) rfl [.int v4, .int (0 : Int32), .int (400 : Int32)] yS_X11_in g_1434 (c_X11_in h) dX11_off_41 rfl rfl (Nat.le_of_ble_eq_true rfl) ⟨by decide, by decide⟩ ⟨by decide, by decide⟩ ⟨rfl, rfl⟩ (fun x16 S14 h g15 => ?_)
        have bx16 := h.1
        have h := h.2 g15 bx16
        have o_v0 := gr_ob g15 o_v0
        refine r_if_ne (pc := 44) C (tgt := 53) dX11_off_44 (by decide) (fun c17 => ?_) (fun c17 => ?_)
        · have h := h.1 c17
          refine r_aload_n (pc := 53) C dX11_off_53 0 rfl ?_
          refine r_iload_n (pc := 54) C dX11_off_54 1 rfl ?_
          refine r_iload_n (pc := 55) C dX11_off_55 3 rfl ?_
          refine r_iload (pc := 56) C dX11_off_56 4 rfl ?_
          refine r_callVv0 (pc := 58) C (rest := []) (a := v0) o_v0 [.int v1, .int v3, .int v4] yV_X11_laysWays g_1683 (c_X11_laysWays h) dX11_off_58 rfl rfl (Nat.le_of_ble_eq_true rfl) ⟨by decide, by decide⟩ ⟨by decide, by decide⟩ ⟨rfl, rfl⟩ (fun S18 h g19 => ?_)
          have h := h g19
          have o_v0 := gr_ob g19 o_v0
          refine r_iconst (pc := 61) C (v := (-1 : Int32)) dX11_off_61 (by decide) ?_
          refine r_istore (pc := 62) C dX11_off_62 (by decide) (lv' := [(5, .int (-1 : Int32)), (0, .ref v0), (1, .int v1), (2, .int v2), (3, .int v3), (4, .int v4)]) rfl ?_
          refine r_iconst (pc := 64) C (v := (0 : Int32)) dX11_off_64 (by decide) ?_
          refine r_istore (pc := 65) C dX11_off_65 (by decide) (lv' := [(6, .int (0 : Int32)), (5, .int (-1 : Int32)), (0, .ref v0), (1, .int v1), (2, .int v2), (3, .int v3), (4, .int v4)]) rfl ?_
          exact r_sub [2, 4, 6, 1, 0] rfl (T_X11_off_67 C E ht hn h)
        · have h := h.2 c17
          refine r_aload_n (pc := 47) C dX11_off_47 0 rfl ?_
          refine r_iconst (pc := 48) C (v := (2 : Int32)) dX11_off_48 (by decide) ?_
          refine r_callVi0 (pc := 49) C (rest := []) (a := v0) o_v0 [.int (2 : Int32)] yV_X11_refused g_1250 (c_X11_refused h) dX11_off_49 rfl rfl (Nat.le_of_ble_eq_true rfl) ⟨by decide, by decide⟩ ⟨by decide, by decide⟩ ⟨rfl, rfl⟩ (fun x23 S21 h g22 => ?_)
          have h := h g22
          have o_v0 := gr_ob g22 o_v0
          exact r_iret (pc := 52) C E ht dX11_off_52 (by decide) (by decide) h
      · have h := h.2 c13
        exact r_sub [0] rfl (T_X11_off_29 C E ht hn h)
def P_X11_off (v0 : Nat) (v1 : Int32) (v2 : Int32) (v3 : Int32) (v4 : Int32) (Q : Int32 → HS → Prop) (S : HS) : Prop := P_X11_off_0 Q v0 v1 v2 v3 v4 S
theorem c_X11_off {l : Launch} {Ee : EE} {S : HS} {v0 : Nat} {v1 : Int32} {v2 : Int32} {v3 : Int32} {v4 : Int32} {Q : Int32 → HS → Prop} (h : P_X11_off v0 v1 v2 v3 v4 Q S) : MI l yX11_off cX11_off 7 (some .int) rm_X11_off Ee S [.ref v0, .int v1, .int v2, .int v3, .int v4] Q :=
  openI (by decide) (Nat.le_of_ble_eq_true rfl) (fun X C E ht hn hE hl => by subst hE; exact r_sub [0, 1, 2, 3, 4] rfl (T_X11_off_0 C E ht hn h))
def rm_X11_readFresh : Room := { frames := 8, cells := 0, slots := 0, locals := 184 }
def P_X11_readFresh_32 (Q : Int64 → HS → Prop) (v0 : Nat) (S : HS) : Prop := ob S v0 11 ∧ (∀ x1 : Int64, x1 = fJ S v0 15 → (P_X11_goesOn v0 (fun S2 => Gr S S2 → (Q x1 S2)) S))
set_option maxRecDepth 20000 in
set_option maxHeartbeats 4000000 in
theorem T_X11_readFresh_32 {X : CX} {Q : Int64 → HS → Prop} (C : Cx X cX11_readFresh RX11 3 rm_X11_readFresh) (E : ReJ X rm_X11_readFresh Q) (ht : (xh X).sig.returnType = (some .long)) (hn : (xh X).name = yX11_readFresh.name) {v0 : Nat} {S : HS} (h : P_X11_readFresh_32 Q v0 S) : WS X 3 0 0 32 [(0, .ref v0)] [] S := by
  refine r_aload_n (pc := 32) C dX11_readFresh_32 0 rfl ?_
  obtain ⟨o_v0, h⟩ := h
  refine r_getl (pc := 33) C fL_X11_87 dX11_readFresh_33 o_v0 ?_
  refine r_topl (fun x1 ex1 => ?_)
  have h := h x1 ex1
  refine r_lstore_n (pc := 36) C dX11_readFresh_36 rfl (by decide) (lv' := [(1, .long x1), (0, .ref v0)]) rfl ?_
  refine r_aload_n (pc := 37) C dX11_readFresh_37 1 rfl ?_
  refine r_callVv0 (pc := 38) C (rest := []) (a := v0) o_v0 [] yV_X11_goesOn g_1380 (c_X11_goesOn h) dX11_readFresh_38 rfl rfl (Nat.le_of_ble_eq_true rfl) ⟨by decide, by decide⟩ ⟨by decide, by decide⟩ ⟨rfl, rfl⟩ (fun S2 h g3 => ?_)
  have h := h g3
  have o_v0 := gr_ob g3 o_v0
  refine r_lload_n (pc := 41) C dX11_readFresh_41 0 rfl ?_
  exact r_lret (pc := 42) C E ht dX11_readFresh_42 (by decide) (by decide) h
def P_X11_readFresh_12 (Q : Int64 → HS → Prop) (v0 : Nat) (S : HS) : Prop := ob S v0 11 ∧ (∃ a1 : Nat, fR S v0 4 = some a1 ∧ (∀ x2 : Int64, x2 = fJ S v0 15 → (ob S a1 10 ∧ (P_X10_find a1 x2 (fun x5 S3 => Gr S S3 → (((x5 = (-1 : Int32)) → (P_X11_readFresh_32 Q v0 S3)) ∧ ((¬ x5 = (-1 : Int32)) → (P_X11_flaw v0 (3 : Int32) (fun S7 => Gr S3 S7 → (P_X11_readFresh_32 Q v0 S7)) S3)))) S))))
set_option maxRecDepth 20000 in
set_option maxHeartbeats 4000000 in
theorem T_X11_readFresh_12 {X : CX} {Q : Int64 → HS → Prop} (C : Cx X cX11_readFresh RX11 3 rm_X11_readFresh) (E : ReJ X rm_X11_readFresh Q) (ht : (xh X).sig.returnType = (some .long)) (hn : (xh X).name = yX11_readFresh.name) {v0 : Nat} {S : HS} (h : P_X11_readFresh_12 Q v0 S) : WS X 3 0 0 12 [(0, .ref v0)] [] S := by
  refine r_aload_n (pc := 12) C dX11_readFresh_12 0 rfl ?_
  obtain ⟨o_v0, h⟩ := h
  obtain ⟨a1, ea1, h⟩ := h
  refine r_getr (pc := 13) C fL_X11_147 dX11_readFresh_13 o_v0 ea1 ?_
  refine r_aload_n (pc := 16) C dX11_readFresh_16 0 rfl ?_
  refine r_getl (pc := 17) C fL_X11_87 dX11_readFresh_17 o_v0 ?_
  refine r_topl (fun x2 ex2 => ?_)
  have h := h x2 ex2
  obtain ⟨o_a1, h⟩ := h
  refine r_callVi0 (pc := 20) C (rest := []) (a := a1) o_a1 [.long x2] yV_X10_find g_1477 (c_X10_find h) dX11_readFresh_20 rfl rfl (Nat.le_of_ble_eq_true rfl) ⟨by decide, by decide⟩ ⟨by decide, by decide⟩ ⟨rfl, rfl⟩ (fun x5 S3 h g4 => ?_)
  have h := h g4
  have o_a1 := gr_ob g4 o_a1
  have o_v0 := gr_ob g4 o_v0
  refine r_iconst (pc := 23) C (v := (-1 : Int32)) dX11_readFresh_23 (by decide) ?_
  refine r_icmp_eq (pc := 24) C (tgt := 32) dX11_readFresh_24 (by decide) (fun c6 => ?_) (fun c6 => ?_)
  · have h := h.1 c6
    exact r_sub [0] rfl (T_X11_readFresh_32 C E ht hn h)
  · have h := h.2 c6
    refine r_aload_n (pc := 27) C dX11_readFresh_27 0 rfl ?_
    refine r_iconst (pc := 28) C (v := (3 : Int32)) dX11_readFresh_28 (by decide) ?_
    refine r_callVv0 (pc := 29) C (rest := []) (a := v0) o_v0 [.int (3 : Int32)] yV_X11_flaw g_1417 (c_X11_flaw h) dX11_readFresh_29 rfl rfl (Nat.le_of_ble_eq_true rfl) ⟨by decide, by decide⟩ ⟨by decide, by decide⟩ ⟨rfl, rfl⟩ (fun S7 h g8 => ?_)
    have h := h g8
    have o_a1 := gr_ob g8 o_a1
    have o_v0 := gr_ob g8 o_v0
    exact r_sub [0] rfl (T_X11_readFresh_32 C E ht hn h)
def P_X11_readFresh_0 (Q : Int64 → HS → Prop) (v0 : Nat) (S : HS) : Prop := ob S v0 11 ∧ (P_X11_isName v0 (fun x3 S1 => Gr S S1 → bl x3 → (((¬ x3 = 0) → (P_X11_readFresh_12 Q v0 S1)) ∧ ((x3 = 0) → (P_X11_flaw v0 (1 : Int32) (fun S5 => Gr S1 S5 → (P_X11_readFresh_12 Q v0 S5)) S1)))) S)
set_option maxRecDepth 20000 in
set_option maxHeartbeats 4000000 in
theorem T_X11_readFresh_0 {X : CX} {Q : Int64 → HS → Prop} (C : Cx X cX11_readFresh RX11 3 rm_X11_readFresh) (E : ReJ X rm_X11_readFresh Q) (ht : (xh X).sig.returnType = (some .long)) (hn : (xh X).name = yX11_readFresh.name) {v0 : Nat} {S : HS} (h : P_X11_readFresh_0 Q v0 S) : WS X 3 0 0 0 [(0, .ref v0)] [] S := by
  refine r_aload_n (pc := 0) C dX11_readFresh_0 0 rfl ?_
  obtain ⟨o_v0, h⟩ := h
  refine r_callVi0 (pc := 1) C (rest := []) (a := v0) o_v0 [] yV_X11_isName g_1467 (c_X11_isName h) dX11_readFresh_1 rfl rfl (Nat.le_of_ble_eq_true rfl) ⟨by decide, by decide⟩ ⟨by decide, by decide⟩ ⟨rfl, rfl⟩ (fun x3 S1 h g2 => ?_)
  have bx3 := h.1
  have h := h.2 g2 bx3
  have o_v0 := gr_ob g2 o_v0
  refine r_if_ne (pc := 4) C (tgt := 12) dX11_readFresh_4 (by decide) (fun c4 => ?_) (fun c4 => ?_)
  · have h := h.1 c4
    exact r_sub [0] rfl (T_X11_readFresh_12 C E ht hn h)
  · have h := h.2 c4
    refine r_aload_n (pc := 7) C dX11_readFresh_7 0 rfl ?_
    refine r_iconst (pc := 8) C (v := (1 : Int32)) dX11_readFresh_8 (by decide) ?_
    refine r_callVv0 (pc := 9) C (rest := []) (a := v0) o_v0 [.int (1 : Int32)] yV_X11_flaw g_1417 (c_X11_flaw h) dX11_readFresh_9 rfl rfl (Nat.le_of_ble_eq_true rfl) ⟨by decide, by decide⟩ ⟨by decide, by decide⟩ ⟨rfl, rfl⟩ (fun S5 h g6 => ?_)
    have h := h g6
    have o_v0 := gr_ob g6 o_v0
    exact r_sub [0] rfl (T_X11_readFresh_12 C E ht hn h)
def P_X11_readFresh (v0 : Nat) (Q : Int64 → HS → Prop) (S : HS) : Prop := P_X11_readFresh_0 Q v0 S
theorem c_X11_readFresh {l : Launch} {Ee : EE} {S : HS} {v0 : Nat} {Q : Int64 → HS → Prop} (h : P_X11_readFresh v0 Q S) : MJ l yX11_readFresh cX11_readFresh 3 (some .long) rm_X11_readFresh Ee S [.ref v0] Q :=
  openJ (by decide) (Nat.le_of_ble_eq_true rfl) (fun X C E ht hn hE hl => by subst hE; exact r_sub [0] rfl (T_X11_readFresh_0 C E ht hn h))
def rm_X11_readWhole : Room := { frames := 2, cells := 0, slots := 0, locals := 43 }
def P_X11_readWhole_49 (Q : Int32 → HS → Prop) (v0 : Nat) (s0 : Int32) (S : HS) : Prop := ob S v0 11 ∧ (P_X11_goesOn v0 (fun S1 => Gr S S1 → (Q s0 S1)) S)
set_option maxRecDepth 20000 in
set_option maxHeartbeats 4000000 in
theorem T_X11_readWhole_49 {X : CX} {Q : Int32 → HS → Prop} (C : Cx X cX11_readWhole RX11 4 rm_X11_readWhole) (E : ReI X rm_X11_readWhole Q) (ht : (xh X).sig.returnType = (some .int)) (hn : (xh X).name = yX11_readWhole.name) {v0 : Nat} {s0 : Int32} {S : HS} (h : P_X11_readWhole_49 Q v0 s0 S) : WS X 4 0 0 49 [(0, .ref v0)] [.int s0] S := by
  refine r_istore_n (pc := 49) C dX11_readWhole_49 rfl (by decide) (lv' := [(3, .int s0), (0, .ref v0)]) rfl ?_
  refine r_aload_n (pc := 50) C dX11_readWhole_50 1 rfl ?_
  obtain ⟨o_v0, h⟩ := h
  refine r_callVv0 (pc := 51) C (rest := []) (a := v0) o_v0 [] yV_X11_goesOn g_1380 (c_X11_goesOn h) dX11_readWhole_51 rfl rfl (Nat.le_of_ble_eq_true rfl) ⟨by decide, by decide⟩ ⟨by decide, by decide⟩ ⟨rfl, rfl⟩ (fun S1 h g2 => ?_)
  have h := h g2
  have o_v0 := gr_ob g2 o_v0
  refine r_iload_n (pc := 54) C dX11_readWhole_54 0 rfl ?_
  exact r_iret (pc := 55) C E ht dX11_readWhole_55 (by decide) (by decide) h
def P_X11_readWhole_33 (Q : Int32 → HS → Prop) (v0 : Nat) (v1 : Int32) (S : HS) : Prop := ob S v0 11 ∧ (∀ x1 : Int32, x1 = fI S v0 9 → (((¬ x1 = (5 : Int32)) → (∀ x3 : Int32, x3 = fI S v0 12 → (P_X11_readWhole_49 Q v0 x3 S))) ∧ ((x1 = (5 : Int32)) → (P_X11_readWhole_49 Q v0 v1 S))))
set_option maxRecDepth 20000 in
set_option maxHeartbeats 4000000 in
theorem T_X11_readWhole_33 {X : CX} {Q : Int32 → HS → Prop} (C : Cx X cX11_readWhole RX11 4 rm_X11_readWhole) (E : ReI X rm_X11_readWhole Q) (ht : (xh X).sig.returnType = (some .int)) (hn : (xh X).name = yX11_readWhole.name) {v0 : Nat} {v1 : Int32} {S : HS} (h : P_X11_readWhole_33 Q v0 v1 S) : WS X 4 0 0 33 [(0, .ref v0), (1, .int v1)] [] S := by
  refine r_aload_n (pc := 33) C dX11_readWhole_33 0 rfl ?_
  obtain ⟨o_v0, h⟩ := h
  refine r_geti (pc := 34) C fL_X11_68 dX11_readWhole_34 o_v0 ?_
  refine r_topi (fun x1 ex1 => ?_)
  have h := h x1 ex1
  refine r_iconst (pc := 37) C (v := (5 : Int32)) dX11_readWhole_37 (by decide) ?_
  refine r_icmp_ne (pc := 38) C (tgt := 45) dX11_readWhole_38 (by decide) (fun c2 => ?_) (fun c2 => ?_)
  · have h := h.1 c2
    refine r_aload_n (pc := 45) C dX11_readWhole_45 0 rfl ?_
    refine r_geti (pc := 46) C fL_X11_94 dX11_readWhole_46 o_v0 ?_
    refine r_topi (fun x3 ex3 => ?_)
    have h := h x3 ex3
    exact r_sub [0] rfl (T_X11_readWhole_49 C E ht hn h)
  · have h := h.2 c2
    refine r_iload_n (pc := 41) C dX11_readWhole_41 1 rfl ?_
    refine r_goto (pc := 42) C (tgt := 49) dX11_readWhole_42 (by decide) ?_
    exact r_sub [0] rfl (T_X11_readWhole_49 C E ht hn h)
def P_X11_readWhole_0 (Q : Int32 → HS → Prop) (v0 : Nat) (v1 : Int32) (v2 : Int32) (S : HS) : Prop := ob S v0 11 ∧ (∀ x1 : Int32, x1 = fI S v0 9 → (((x1 = (3 : Int32)) → (∀ x3 : Int32, x3 = fI S v0 12 → (P_X11_in x3 v1 v2 (fun x6 S4 => Gr S S4 → bl x6 → (((¬ x6 = 0) → (P_X11_readWhole_33 Q v0 v1 S4)) ∧ ((x6 = 0) → (P_X11_flaw v0 (4 : Int32) (fun S8 => Gr S4 S8 → (P_X11_readWhole_33 Q v0 v1 S8)) S4)))) S))) ∧ ((¬ x1 = (3 : Int32)) → (P_X11_flaw v0 (1 : Int32) (fun S11 => Gr S S11 → (P_X11_readWhole_33 Q v0 v1 S11)) S))))
set_option maxRecDepth 20000 in
set_option maxHeartbeats 4000000 in
theorem T_X11_readWhole_0 {X : CX} {Q : Int32 → HS → Prop} (C : Cx X cX11_readWhole RX11 4 rm_X11_readWhole) (E : ReI X rm_X11_readWhole Q) (ht : (xh X).sig.returnType = (some .int)) (hn : (xh X).name = yX11_readWhole.name) {v0 : Nat} {v1 : Int32} {v2 : Int32} {S : HS} (h : P_X11_readWhole_0 Q v0 v1 v2 S) : WS X 4 0 0 0 [(0, .ref v0), (1, .int v1), (2, .int v2)] [] S := by
  refine r_aload_n (pc := 0) C dX11_readWhole_0 0 rfl ?_
  obtain ⟨o_v0, h⟩ := h
  refine r_geti (pc := 1) C fL_X11_68 dX11_readWhole_1 o_v0 ?_
  refine r_topi (fun x1 ex1 => ?_)
  have h := h x1 ex1
  refine r_iconst (pc := 4) C (v := (3 : Int32)) dX11_readWhole_4 (by decide) ?_
  refine r_icmp_eq (pc := 5) C (tgt := 16) dX11_readWhole_5 (by decide) (fun c2 => ?_) (fun c2 => ?_)
  · have h := h.1 c2
    refine r_aload_n (pc := 16) C dX11_readWhole_16 0 rfl ?_
    refine r_geti (pc := 17) C fL_X11_94 dX11_readWhole_17 o_v0 ?_
    refine r_topi (fun x3 ex3 => ?_)
    have h := h x3 ex3
    refine r_iload_n (pc := 20) C dX11_readWhole_20 1 rfl ?_
    refine r_iload_n (pc := 21) C dX11_readWhole_21 2 rfl ?_
    refine r_callSi0 (pc := 22) C (rest := []) rfl [.int x3, .int v1, .int v2] yS_X11_in g_1434 (c_X11_in h) dX11_readWhole_22 rfl rfl (Nat.le_of_ble_eq_true rfl) ⟨by decide, by decide⟩ ⟨by decide, by decide⟩ ⟨rfl, rfl⟩ (fun x6 S4 h g5 => ?_)
    have bx6 := h.1
    have h := h.2 g5 bx6
    have o_v0 := gr_ob g5 o_v0
    refine r_if_ne (pc := 25) C (tgt := 33) dX11_readWhole_25 (by decide) (fun c7 => ?_) (fun c7 => ?_)
    · have h := h.1 c7
      exact r_sub [0, 1] rfl (T_X11_readWhole_33 C E ht hn h)
    · have h := h.2 c7
      refine r_aload_n (pc := 28) C dX11_readWhole_28 0 rfl ?_
      refine r_iconst (pc := 29) C (v := (4 : Int32)) dX11_readWhole_29 (by decide) ?_
      refine r_callVv0 (pc := 30) C (rest := []) (a := v0) o_v0 [.int (4 : Int32)] yV_X11_flaw g_1417 (c_X11_flaw h) dX11_readWhole_30 rfl rfl (Nat.le_of_ble_eq_true rfl) ⟨by decide, by decide⟩ ⟨by decide, by decide⟩ ⟨rfl, rfl⟩ (fun S8 h g9 => ?_)
      have h := h g9
      have o_v0 := gr_ob g9 o_v0
      exact r_sub [0, 1] rfl (T_X11_readWhole_33 C E ht hn h)
  · have h := h.2 c2
    refine r_aload_n (pc := 8) C dX11_readWhole_8 0 rfl ?_
    refine r_iconst (pc := 9) C (v := (1 : Int32)) dX11_readWhole_9 (by decide) ?_
    refine r_callVv0 (pc := 10) C (rest := []) (a := v0) o_v0 [.int (1 : Int32)] yV_X11_flaw g_1417 (c_X11_flaw h) dX11_readWhole_10 rfl rfl (Nat.le_of_ble_eq_true rfl) ⟨by decide, by decide⟩ ⟨by decide, by decide⟩ ⟨rfl, rfl⟩ (fun S11 h g12 => ?_)
    have h := h g12
    have o_v0 := gr_ob g12 o_v0
    refine r_goto (pc := 13) C (tgt := 33) dX11_readWhole_13 (by decide) ?_
    exact r_sub [0, 1] rfl (T_X11_readWhole_33 C E ht hn h)
def P_X11_readWhole (v0 : Nat) (v1 : Int32) (v2 : Int32) (Q : Int32 → HS → Prop) (S : HS) : Prop := P_X11_readWhole_0 Q v0 v1 v2 S
theorem c_X11_readWhole {l : Launch} {Ee : EE} {S : HS} {v0 : Nat} {v1 : Int32} {v2 : Int32} {Q : Int32 → HS → Prop} (h : P_X11_readWhole v0 v1 v2 Q S) : MI l yX11_readWhole cX11_readWhole 4 (some .int) rm_X11_readWhole Ee S [.ref v0, .int v1, .int v2] Q :=
  openI (by decide) (Nat.le_of_ble_eq_true rfl) (fun X C E ht hn hE hl => by subst hE; exact r_sub [0, 1, 2] rfl (T_X11_readWhole_0 C E ht hn h))
def rm_X11_readPlace : Room := { frames := 9, cells := 0, slots := 0, locals := 206 }
def P_X11_readPlace_50 (Q : HS → Prop) (v0 : Nat) (v1 : Int64) (v3 : Int32) (s0 : Int32) (S : HS) : Prop := ob S v0 11 ∧ (∀ x1 : Int32, x1 = fI S v0 9 → (((¬ x1 = (5 : Int32)) → (∃ a3 : Nat, fR S v0 4 = some a3 ∧ (ob S a3 10 ∧ (∀ x4 : Int32, x4 = fI S a3 2 → (P_X11_names v0 v1 (0 : Int32) x4 (fun S5 => Gr S S5 → (∃ a8 : Nat, fR S5 v0 4 = some a8 ∧ (ob S5 a8 10 ∧ (∃ a9 : Nat, fR S5 a8 18 = some a9 ∧ (∃ a10 : Nat, fR S5 v0 4 = some a10 ∧ (ob S5 a10 10 ∧ (∀ x11 : Int32, x11 = fI S5 a10 2 → (ob S5 a9 15 ∧ (vp_in x11 (hN S5 a9) ∧ (∀ S13 : HS, S13 = sI S5 a9 x11.toNatClampNeg (vp_nar .boolean v3) → (∃ a14 : Nat, fR S13 v0 4 = some a14 ∧ (ob S13 a14 10 ∧ (∃ a15 : Nat, fR S13 a14 12 = some a15 ∧ (∃ a16 : Nat, fR S13 v0 4 = some a16 ∧ (ob S13 a16 10 ∧ (∀ x17 : Int32, x17 = fI S13 a16 2 → (ob S13 a15 13 ∧ (vp_in x17 (hN S13 a15) ∧ (∀ S19 : HS, S19 = sI S13 a15 x17.toNatClampNeg s0 → (∃ a20 : Nat, fR S19 v0 4 = some a20 ∧ (ob S19 a20 10 ∧ (∀ x21 : Int32, x21 = fI S19 a20 2 → (∀ x22 : Int32, x22 = x21 + (1 : Int32) → (∀ S23 : HS, S23 = sI S19 a20 2 x22 → (Q S23))))))))))))))))))))))))) S))))) ∧ ((x1 = (5 : Int32)) → (Q S))))
set_option maxRecDepth 20000 in
set_option maxHeartbeats 4000000 in
theorem T_X11_readPlace_50 {X : CX} {Q : HS → Prop} (C : Cx X cX11_readPlace RX11 5 rm_X11_readPlace) (E : ReV X rm_X11_readPlace Q) (ht : (xh X).sig.returnType = none) (hn : (xh X).name = yX11_readPlace.name) {v0 : Nat} {v1 : Int64} {v3 : Int32} {s0 : Int32} {S : HS} (h : P_X11_readPlace_50 Q v0 v1 v3 s0 S) : WS X 5 0 0 50 [(0, .ref v0), (1, .long v1), (3, .int v3)] [.int s0] S := by
  refine r_istore (pc := 50) C dX11_readPlace_50 (by decide) (lv' := [(4, .int s0), (0, .ref v0), (1, .long v1), (3, .int v3)]) rfl ?_
  refine r_aload_n (pc := 52) C dX11_readPlace_52 1 rfl ?_
  obtain ⟨o_v0, h⟩ := h
  refine r_geti (pc := 53) C fL_X11_68 dX11_readPlace_53 o_v0 ?_
  refine r_topi (fun x1 ex1 => ?_)
  have h := h x1 ex1
  refine r_iconst (pc := 56) C (v := (5 : Int32)) dX11_readPlace_56 (by decide) ?_
  refine r_icmp_ne (pc := 57) C (tgt := 61) dX11_readPlace_57 (by decide) (fun c2 => ?_) (fun c2 => ?_)
  · have h := h.1 c2
    refine r_aload_n (pc := 61) C dX11_readPlace_61 1 rfl ?_
    refine r_lload_n (pc := 62) C dX11_readPlace_62 2 rfl ?_
    refine r_iconst (pc := 63) C (v := (0 : Int32)) dX11_readPlace_63 (by decide) ?_
    refine r_aload_n (pc := 64) C dX11_readPlace_64 1 rfl ?_
    obtain ⟨a3, ea3, h⟩ := h
    refine r_getr (pc := 65) C fL_X11_147 dX11_readPlace_65 o_v0 ea3 ?_
    obtain ⟨o_a3, h⟩ := h
    refine r_getNi (pc := 68) C fN_X11_190 dX11_readPlace_68 o_a3 ?_
    refine r_topi (fun x4 ex4 => ?_)
    have h := h x4 ex4
    refine r_callVv0 (pc := 71) C (rest := []) (a := v0) o_v0 [.long v1, .int (0 : Int32), .int x4] yV_X11_names g_1485 (c_X11_names h) dX11_readPlace_71 rfl rfl (Nat.le_of_ble_eq_true rfl) ⟨by decide, by decide⟩ ⟨by decide, by decide⟩ ⟨rfl, rfl⟩ (fun S5 h g6 => ?_)
    have h := h g6
    have o_a3 := gr_ob g6 o_a3
    have o_v0 := gr_ob g6 o_v0
    refine r_aload_n (pc := 74) C dX11_readPlace_74 1 rfl ?_
    obtain ⟨a8, ea8, h⟩ := h
    refine r_getr (pc := 75) C fL_X11_147 dX11_readPlace_75 o_v0 ea8 ?_
    obtain ⟨o_a8, h⟩ := h
    obtain ⟨a9, ea9, h⟩ := h
    refine r_getNr (pc := 78) C fN_X11_258 dX11_readPlace_78 o_a8 ea9 ?_
    refine r_aload_n (pc := 81) C dX11_readPlace_81 1 rfl ?_
    obtain ⟨a10, ea10, h⟩ := h
    refine r_getr (pc := 82) C fL_X11_147 dX11_readPlace_82 o_v0 ea10 ?_
    obtain ⟨o_a10, h⟩ := h
    refine r_getNi (pc := 85) C fN_X11_190 dX11_readPlace_85 o_a10 ?_
    refine r_topi (fun x11 ex11 => ?_)
    have h := h x11 ex11
    refine r_iload_n (pc := 88) C dX11_readPlace_88 3 rfl ?_
    obtain ⟨o_a9, h⟩ := h
    obtain ⟨i12, h⟩ := h
    refine r_zast (pc := 89) C dX11_readPlace_89 o_a9 i12 ?_
    refine r_heap (fun S13 eS13 => ?_)
    have h := h S13 eS13
    have o_a10 := ob_I eS13 o_a10
    have o_a3 := ob_I eS13 o_a3
    have o_a8 := ob_I eS13 o_a8
    have o_a9 := ob_I eS13 o_a9
    have o_v0 := ob_I eS13 o_v0
    refine r_aload_n (pc := 90) C dX11_readPlace_90 1 rfl ?_
    obtain ⟨a14, ea14, h⟩ := h
    refine r_getr (pc := 91) C fL_X11_147 dX11_readPlace_91 o_v0 ea14 ?_
    obtain ⟨o_a14, h⟩ := h
    obtain ⟨a15, ea15, h⟩ := h
    refine r_getNr (pc := 94) C fN_X11_262 dX11_readPlace_94 o_a14 ea15 ?_
    refine r_aload_n (pc := 97) C dX11_readPlace_97 1 rfl ?_
    obtain ⟨a16, ea16, h⟩ := h
    refine r_getr (pc := 98) C fL_X11_147 dX11_readPlace_98 o_v0 ea16 ?_
    obtain ⟨o_a16, h⟩ := h
    refine r_getNi (pc := 101) C fN_X11_190 dX11_readPlace_101 o_a16 ?_
    refine r_topi (fun x17 ex17 => ?_)
    have h := h x17 ex17
    refine r_iload (pc := 104) C dX11_readPlace_104 0 rfl ?_
    obtain ⟨o_a15, h⟩ := h
    obtain ⟨i18, h⟩ := h
    refine r_iast (pc := 106) C dX11_readPlace_106 o_a15 i18 ?_
    refine r_heap (fun S19 eS19 => ?_)
    have h := h S19 eS19
    have o_a10 := ob_I eS19 o_a10
    have o_a14 := ob_I eS19 o_a14
    have o_a15 := ob_I eS19 o_a15
    have o_a16 := ob_I eS19 o_a16
    have o_a3 := ob_I eS19 o_a3
    have o_a8 := ob_I eS19 o_a8
    have o_a9 := ob_I eS19 o_a9
    have o_v0 := ob_I eS19 o_v0
    refine r_aload_n (pc := 107) C dX11_readPlace_107 1 rfl ?_
    obtain ⟨a20, ea20, h⟩ := h
    refine r_getr (pc := 108) C fL_X11_147 dX11_readPlace_108 o_v0 ea20 ?_
    refine r_dup (pc := 111) C dX11_readPlace_111 rfl ?_
    obtain ⟨o_a20, h⟩ := h
    refine r_getNi (pc := 112) C fN_X11_190 dX11_readPlace_112 o_a20 ?_
    refine r_topi (fun x21 ex21 => ?_)
    have h := h x21 ex21
    refine r_iconst (pc := 115) C (v := (1 : Int32)) dX11_readPlace_115 (by decide) ?_
    refine r_iadd (pc := 116) C dX11_readPlace_116 ?_
    refine r_topi (fun x22 ex22 => ?_)
    have h := h x22 ex22
    refine r_putNi (pc := 117) C pfN_X11_190 dX11_readPlace_117 o_a20 ?_
    refine r_heap (fun S23 eS23 => ?_)
    have h := h S23 eS23
    have o_a10 := ob_I eS23 o_a10
    have o_a14 := ob_I eS23 o_a14
    have o_a15 := ob_I eS23 o_a15
    have o_a16 := ob_I eS23 o_a16
    have o_a20 := ob_I eS23 o_a20
    have o_a3 := ob_I eS23 o_a3
    have o_a8 := ob_I eS23 o_a8
    have o_a9 := ob_I eS23 o_a9
    have o_v0 := ob_I eS23 o_v0
    exact r_vret (pc := 120) C E ht dX11_readPlace_120 (by decide) (by decide) h
  · have h := h.2 c2
    exact r_vret (pc := 60) C E ht dX11_readPlace_60 (by decide) (by decide) h
def P_X11_readPlace_48 (Q : HS → Prop) (v0 : Nat) (v1 : Int64) (v3 : Int32) (S : HS) : Prop := P_X11_readPlace_50 Q v0 v1 v3 (-2 : Int32) S
set_option maxRecDepth 20000 in
set_option maxHeartbeats 4000000 in
theorem T_X11_readPlace_48 {X : CX} {Q : HS → Prop} (C : Cx X cX11_readPlace RX11 5 rm_X11_readPlace) (E : ReV X rm_X11_readPlace Q) (ht : (xh X).sig.returnType = none) (hn : (xh X).name = yX11_readPlace.name) {v0 : Nat} {v1 : Int64} {v3 : Int32} {S : HS} (h : P_X11_readPlace_48 Q v0 v1 v3 S) : WS X 5 0 0 48 [(0, .ref v0), (1, .long v1), (3, .int v3)] [] S := by
  refine r_bipush (pc := 48) C (v := (-2 : Int32)) dX11_readPlace_48 (by decide) ?_
  exact r_sub [0, 1, 2] rfl (T_X11_readPlace_50 C E ht hn h)
def P_X11_readPlace_0 (Q : HS → Prop) (v0 : Nat) (S : HS) : Prop := ob S v0 11 ∧ (∃ a1 : Nat, fR S v0 4 = some a1 ∧ (ob S a1 10 ∧ (∀ x2 : Int32, x2 = fI S a1 2 → (P_X11_begins v0 x2 (8 : Int32) (fun S3 => Gr S S3 → (P_X11_readFresh v0 (fun x8 S6 => Gr S3 S6 → (P_X11_eatsWord v0 42 (fun x11 S9 => Gr S6 S9 → bl x11 → (((¬ x11 = 0) → (P_X11_readPlace_48 Q v0 x8 x11 S9)) ∧ ((x11 = 0) → (P_X11_eatsWord v0 43 (fun x15 S13 => Gr S9 S13 → bl x15 → (((x15 = 0) → (P_X11_readPlace_48 Q v0 x8 x11 S13)) ∧ ((¬ x15 = 0) → (P_X11_readWhole v0 (0 : Int32) (9 : Int32) (fun x19 S17 => Gr S13 S17 → (P_X11_readPlace_50 Q v0 x8 x11 x19 S17)) S13)))) S9)))) S6)) S3)) S))))
set_option maxRecDepth 20000 in
set_option maxHeartbeats 4000000 in
theorem T_X11_readPlace_0 {X : CX} {Q : HS → Prop} (C : Cx X cX11_readPlace RX11 5 rm_X11_readPlace) (E : ReV X rm_X11_readPlace Q) (ht : (xh X).sig.returnType = none) (hn : (xh X).name = yX11_readPlace.name) {v0 : Nat} {S : HS} (h : P_X11_readPlace_0 Q v0 S) : WS X 5 0 0 0 [(0, .ref v0)] [] S := by
  refine r_aload_n (pc := 0) C dX11_readPlace_0 0 rfl ?_
  refine r_aload_n (pc := 1) C dX11_readPlace_1 0 rfl ?_
  obtain ⟨o_v0, h⟩ := h
  obtain ⟨a1, ea1, h⟩ := h
  refine r_getr (pc := 2) C fL_X11_147 dX11_readPlace_2 o_v0 ea1 ?_
  obtain ⟨o_a1, h⟩ := h
  refine r_getNi (pc := 5) C fN_X11_190 dX11_readPlace_5 o_a1 ?_
  refine r_topi (fun x2 ex2 => ?_)
  have h := h x2 ex2
  refine r_bipush (pc := 8) C (v := (8 : Int32)) dX11_readPlace_8 (by decide) ?_
  refine r_callVv0 (pc := 10) C (rest := []) (a := v0) o_v0 [.int x2, .int (8 : Int32)] yV_X11_begins g_1442 (c_X11_begins h) dX11_readPlace_10 rfl rfl (Nat.le_of_ble_eq_true rfl) ⟨by decide, by decide⟩ ⟨by decide, by decide⟩ ⟨rfl, rfl⟩ (fun S3 h g4 => ?_)
  have h := h g4
  have o_a1 := gr_ob g4 o_a1
  have o_v0 := gr_ob g4 o_v0
  refine r_aload_n (pc := 13) C dX11_readPlace_13 0 rfl ?_
  refine r_callVl0 (pc := 14) C (rest := []) (a := v0) o_v0 [] yV_X11_readFresh g_1463 (c_X11_readFresh h) dX11_readPlace_14 rfl rfl (Nat.le_of_ble_eq_true rfl) ⟨by decide, by decide⟩ ⟨by decide, by decide⟩ ⟨rfl, rfl⟩ (fun x8 S6 h g7 => ?_)
  have h := h g7
  have o_a1 := gr_ob g7 o_a1
  have o_v0 := gr_ob g7 o_v0
  refine r_lstore_n (pc := 17) C dX11_readPlace_17 rfl (by decide) (lv' := [(1, .long x8), (0, .ref v0)]) rfl ?_
  refine r_aload_n (pc := 18) C dX11_readPlace_18 1 rfl ?_
  refine r_lds (pc := 19) C 42 rfl dX11_readPlace_19 ?_
  refine r_callVi0 (pc := 21) C (rest := []) (a := v0) o_v0 [.ref (eK (xE X) 42)] yV_X11_eatsWord g_1481 (c_X11_eatsWord h) dX11_readPlace_21 rfl rfl (Nat.le_of_ble_eq_true rfl) ⟨by decide, by decide⟩ ⟨by decide, by decide⟩ ⟨rfl, rfl⟩ (fun x11 S9 h g10 => ?_)
  have bx11 := h.1
  have h := h.2 g10 bx11
  have o_a1 := gr_ob g10 o_a1
  have o_v0 := gr_ob g10 o_v0
  refine r_istore_n (pc := 24) C dX11_readPlace_24 rfl (by decide) (lv' := [(3, .int x11), (1, .long x8), (0, .ref v0)]) rfl ?_
  refine r_iload_n (pc := 25) C dX11_readPlace_25 0 rfl ?_
  refine r_if_ne (pc := 26) C (tgt := 48) dX11_readPlace_26 (by decide) (fun c12 => ?_) (fun c12 => ?_)
  · have h := h.1 c12
    exact r_sub [2, 1, 0] rfl (T_X11_readPlace_48 C E ht hn h)
  · have h := h.2 c12
    refine r_aload_n (pc := 29) C dX11_readPlace_29 2 rfl ?_
    refine r_lds (pc := 30) C 43 rfl dX11_readPlace_30 ?_
    refine r_callVi0 (pc := 32) C (rest := []) (a := v0) o_v0 [.ref (eK (xE X) 43)] yV_X11_eatsWord g_1481 (c_X11_eatsWord h) dX11_readPlace_32 rfl rfl (Nat.le_of_ble_eq_true rfl) ⟨by decide, by decide⟩ ⟨by decide, by decide⟩ ⟨rfl, rfl⟩ (fun x15 S13 h g14 => ?_)
    have bx15 := h.1
    have h := h.2 g14 bx15
    have o_a1 := gr_ob g14 o_a1
    have o_v0 := gr_ob g14 o_v0
    refine r_if_eq (pc := 35) C (tgt := 48) dX11_readPlace_35 (by decide) (fun c16 => ?_) (fun c16 => ?_)
    · have h := h.1 c16
      exact r_sub [2, 1, 0] rfl (T_X11_readPlace_48 C E ht hn h)
    · have h := h.2 c16
      refine r_aload_n (pc := 38) C dX11_readPlace_38 2 rfl ?_
      refine r_iconst (pc := 39) C (v := (0 : Int32)) dX11_readPlace_39 (by decide) ?_
      refine r_bipush (pc := 40) C (v := (9 : Int32)) dX11_readPlace_40 (by decide) ?_
      refine r_callVi0 (pc := 42) C (rest := []) (a := v0) o_v0 [.int (0 : Int32), .int (9 : Int32)] yV_X11_readWhole g_1430 (c_X11_readWhole h) dX11_readPlace_42 rfl rfl (Nat.le_of_ble_eq_true rfl) ⟨by decide, by decide⟩ ⟨by decide, by decide⟩ ⟨rfl, rfl⟩ (fun x19 S17 h g18 => ?_)
      have h := h g18
      have o_a1 := gr_ob g18 o_a1
      have o_v0 := gr_ob g18 o_v0
      refine r_goto (pc := 45) C (tgt := 50) dX11_readPlace_45 (by decide) ?_
      exact r_sub [2, 1, 0] rfl (T_X11_readPlace_50 C E ht hn h)
def P_X11_readPlace (v0 : Nat) (Q : HS → Prop) (S : HS) : Prop := P_X11_readPlace_0 Q v0 S
theorem c_X11_readPlace {l : Launch} {Ee : EE} {S : HS} {v0 : Nat} {Q : HS → Prop} (h : P_X11_readPlace v0 Q S) : MV l yX11_readPlace cX11_readPlace 5 none rm_X11_readPlace Ee S [.ref v0] Q :=
  openV (by decide) (Nat.le_of_ble_eq_true rfl) (fun X C E ht hn hE hl => by subst hE; exact r_sub [0] rfl (T_X11_readPlace_0 C E ht hn h))
