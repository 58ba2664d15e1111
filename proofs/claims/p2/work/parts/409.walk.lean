def rm_X11_laysWays : Room := { frames := 8, cells := 0, slots := 0, locals := 217 }
def P_X11_laysWays_85 (Q : HS → Prop) (X3 : Nat → Int32 → Int32 → Int32 → Int32 → HS → Prop) (X11 : Nat → Int32 → Int32 → Int32 → Int32 → Int32 → HS → Prop) (v0 : Nat) (v1 : Int32) (v2 : Int32) (v3 : Int32) (v4 : Int32) (v5 : Int32) (S : HS) : Prop := ∀ x1 : Int32, x1 = v5 + (1 : Int32) → (X11 v0 v1 v2 v3 v4 x1 S)
set_option maxRecDepth 20000 in
set_option maxHeartbeats 4000000 in
theorem T_X11_laysWays_85 {X : CX} {Q : HS → Prop} (C : Cx X cX11_laysWays RX11 7 rm_X11_laysWays) (E : ReV X rm_X11_laysWays Q) (ht : (xh X).sig.returnType = none) (hn : (xh X).name = yX11_laysWays.name) {X3 : Nat → Int32 → Int32 → Int32 → Int32 → HS → Prop} (hX3 : ∀ (v0 : Nat) (v1 : Int32) (v2 : Int32) (v3 : Int32) (v4 : Int32) (S : HS), X3 v0 v1 v2 v3 v4 S → WS X 7 0 0 3 [(0, .ref v0), (1, .int v1), (2, .int v2), (3, .int v3), (4, .int v4)] [] S) {X11 : Nat → Int32 → Int32 → Int32 → Int32 → Int32 → HS → Prop} (hX11 : ∀ (v0 : Nat) (v1 : Int32) (v2 : Int32) (v3 : Int32) (v4 : Int32) (v5 : Int32) (S : HS), X11 v0 v1 v2 v3 v4 v5 S → WS X 7 0 0 11 [(0, .ref v0), (1, .int v1), (2, .int v2), (3, .int v3), (4, .int v4), (5, .int v5)] [] S) {v0 : Nat} {v1 : Int32} {v2 : Int32} {v3 : Int32} {v4 : Int32} {v5 : Int32} {S : HS} (h : P_X11_laysWays_85 Q X3 X11 v0 v1 v2 v3 v4 v5 S) : WS X 7 0 0 85 [(0, .ref v0), (1, .int v1), (2, .int v2), (3, .int v3), (4, .int v4), (5, .int v5)] [] S := by
  obtain ⟨x1, ex1⟩ : ∃ z : Int32, z = v5 + (1 : Int32) := ⟨_, rfl⟩
  have h := h x1 ex1
  refine r_iinc (pc := 85) C (v := x1) (lv' := [(5, .int x1), (0, .ref v0), (1, .int v1), (2, .int v2), (3, .int v3), (4, .int v4)]) dX11_laysWays_85 5 rfl ex1.symm (by decide) rfl ?_
  refine r_goto (pc := 88) C (tgt := 11) dX11_laysWays_88 (by decide) ?_
  exact r_sub [1, 2, 3, 4, 5, 0] rfl (hX11 v0 v1 v2 v3 v4 x1 S h)
def P_X11_laysWays_51 (Q : HS → Prop) (X3 : Nat → Int32 → Int32 → Int32 → Int32 → HS → Prop) (X11 : Nat → Int32 → Int32 → Int32 → Int32 → Int32 → HS → Prop) (v0 : Nat) (v1 : Int32) (v2 : Int32) (v3 : Int32) (v4 : Int32) (v5 : Int32) (v6 : Int32) (s0 : Nat) (s1 : Int32) (s2 : Int64) (S : HS) : Prop := ob S s0 14 ∧ (vp_in s1 (hN S s0) ∧ (ob (sJ S s0 s1.toNatClampNeg s2) v0 11 ∧ (∃ a2 : Nat, fR (sJ S s0 s1.toNatClampNeg s2) v0 17 = some a2 ∧ (ob (sJ S s0 s1.toNatClampNeg s2) a2 13 ∧ (vp_in v6 (hN (sJ S s0 s1.toNatClampNeg s2) a2) ∧ (∃ a4 : Nat, fR (sI (sJ S s0 s1.toNatClampNeg s2) a2 v6.toNatClampNeg v4) v0 18 = some a4 ∧ (ob (sI (sJ S s0 s1.toNatClampNeg s2) a2 v6.toNatClampNeg v4) a4 13 ∧ (vp_in v6 (hN (sI (sJ S s0 s1.toNatClampNeg s2) a2 v6.toNatClampNeg v4) a4) ∧ (((v5 = v2) → (P_X11_laysWays_85 Q X3 X11 v0 v1 v2 v3 v4 v5 (sI (sI (sJ S s0 s1.toNatClampNeg s2) a2 v6.toNatClampNeg v4) a4 v6.toNatClampNeg (-1 : Int32)))) ∧ ((¬ v5 = v2) → (P_X11_tries v0 v1 v5 v4 v3 (fun S7 => Gr (sI (sI (sJ S s0 s1.toNatClampNeg s2) a2 v6.toNatClampNeg v4) a4 v6.toNatClampNeg (-1 : Int32)) S7 → (P_X11_laysWays_85 Q X3 X11 v0 v1 v2 v3 v4 v5 S7)) (sI (sI (sJ S s0 s1.toNatClampNeg s2) a2 v6.toNatClampNeg v4) a4 v6.toNatClampNeg (-1 : Int32)))))))))))))
set_option maxRecDepth 20000 in
set_option maxHeartbeats 4000000 in
theorem T_X11_laysWays_51 {X : CX} {Q : HS → Prop} (C : Cx X cX11_laysWays RX11 7 rm_X11_laysWays) (E : ReV X rm_X11_laysWays Q) (ht : (xh X).sig.returnType = none) (hn : (xh X).name = yX11_laysWays.name) {X3 : Nat → Int32 → Int32 → Int32 → Int32 → HS → Prop} (hX3 : ∀ (v0 : Nat) (v1 : Int32) (v2 : Int32) (v3 : Int32) (v4 : Int32) (S : HS), X3 v0 v1 v2 v3 v4 S → WS X 7 0 0 3 [(0, .ref v0), (1, .int v1), (2, .int v2), (3, .int v3), (4, .int v4)] [] S) {X11 : Nat → Int32 → Int32 → Int32 → Int32 → Int32 → HS → Prop} (hX11 : ∀ (v0 : Nat) (v1 : Int32) (v2 : Int32) (v3 : Int32) (v4 : Int32) (v5 : Int32) (S : HS), X11 v0 v1 v2 v3 v4 v5 S → WS X 7 0 0 11 [(0, .ref v0), (1, .int v1), (2, .int v2), (3, .int v3), (4, .int v4), (5, .int v5)] [] S) {v0 : Nat} {v1 : Int32} {v2 : Int32} {v3 : Int32} {v4 : Int32} {v5 : Int32} {v6 : Int32} {s0 : Nat} {s1 : Int32} {s2 : Int64} {S : HS} (h : P_X11_laysWays_51 Q X3 X11 v0 v1 v2 v3 v4 v5 v6 s0 s1 s2 S) : WS X 7 0 0 51 [(0, .ref v0), (1, .int v1), (2, .int v2), (3, .int v3), (4, .int v4), (5, .int v5), (6, .int v6)] [.long s2, .int s1, .ref s0] S := by
  obtain ⟨o_s0, h⟩ := h
  obtain ⟨i1, h⟩ := h
  refine r_last (pc := 51) C dX11_laysWays_51 o_s0 i1 ?_
  refine r_aload_n (pc := 52) C dX11_laysWays_52 0 rfl ?_
  obtain ⟨o_v0, h⟩ := h
  obtain ⟨a2, ea2, h⟩ := h
  refine r_getr (pc := 53) C fL_X11_21 dX11_laysWays_53 o_v0 ea2 ?_
  refine r_iload (pc := 56) C dX11_laysWays_56 6 rfl ?_
  refine r_iload (pc := 58) C dX11_laysWays_58 4 rfl ?_
  obtain ⟨o_a2, h⟩ := h
  obtain ⟨i3, h⟩ := h
  refine r_iast (pc := 60) C dX11_laysWays_60 o_a2 i3 ?_
  refine r_aload_n (pc := 61) C dX11_laysWays_61 0 rfl ?_
  obtain ⟨a4, ea4, h⟩ := h
  refine r_getr (pc := 62) C fL_X11_25 dX11_laysWays_62 o_v0 ea4 ?_
  refine r_iload (pc := 65) C dX11_laysWays_65 6 rfl ?_
  refine r_iconst (pc := 67) C (v := (-1 : Int32)) dX11_laysWays_67 (by decide) ?_
  obtain ⟨o_a4, h⟩ := h
  obtain ⟨i5, h⟩ := h
  refine r_iast (pc := 68) C dX11_laysWays_68 o_a4 i5 ?_
  refine r_iload (pc := 69) C dX11_laysWays_69 5 rfl ?_
  refine r_iload_n (pc := 71) C dX11_laysWays_71 2 rfl ?_
  refine r_icmp_eq (pc := 72) C (tgt := 85) dX11_laysWays_72 (by decide) (fun c6 => ?_) (fun c6 => ?_)
  · have h := h.1 c6
    exact r_sub [0, 1, 2, 3, 4, 5] rfl (T_X11_laysWays_85 C E ht hn hX3 hX11 h)
  · have h := h.2 c6
    refine r_aload_n (pc := 75) C dX11_laysWays_75 0 rfl ?_
    refine r_iload_n (pc := 76) C dX11_laysWays_76 1 rfl ?_
    refine r_iload (pc := 77) C dX11_laysWays_77 5 rfl ?_
    refine r_iload (pc := 79) C dX11_laysWays_79 4 rfl ?_
    refine r_iload_n (pc := 81) C dX11_laysWays_81 3 rfl ?_
    refine r_callVv0 (pc := 82) C (rest := []) (a := v0) o_v0 [.int v1, .int v5, .int v4, .int v3] yV_X11_tries g_1691 (c_X11_tries h) dX11_laysWays_82 rfl rfl (by decide) ⟨by decide, by decide⟩ ⟨by decide, by decide⟩ ⟨rfl, rfl⟩ (fun S7 h g8 => ?_)
    have h := h g8
    have o_a2 := gr_ob g8 o_a2
    have o_a4 := gr_ob g8 o_a4
    have o_s0 := gr_ob g8 o_s0
    have o_v0 := gr_ob g8 o_v0
    exact r_sub [0, 1, 2, 3, 4, 5] rfl (T_X11_laysWays_85 C E ht hn hX3 hX11 h)
def B_X11_laysWays_11 (Q : HS → Prop) (X3 : Nat → Int32 → Int32 → Int32 → Int32 → HS → Prop) (X11 : Nat → Int32 → Int32 → Int32 → Int32 → Int32 → HS → Prop) (v0 : Nat) (v1 : Int32) (v2 : Int32) (v3 : Int32) (v4 : Int32) (v5 : Int32) (S : HS) : Prop := ob S v0 11 ∧ (∃ a1 : Nat, fR S v0 3 = some a1 ∧ (ob S a1 10 ∧ (∀ x2 : Int32, x2 = fI S a1 2 → (((x2 ≤ v5) → (∀ x4 : Int32, x4 = v4 + (-1 : Int32) → (X3 v0 v1 v2 v3 x4 S))) ∧ ((¬ x2 ≤ v5) → (P_X11_spotOf v5 v4 (fun x7 S5 => Gr S S5 → (∃ a8 : Nat, fR S5 v0 16 = some a8 ∧ (((¬ v5 = v2) → (P_X11_laysWays_51 Q X3 X11 v0 v1 v2 v3 v4 v5 x7 a8 x7 (-1 : Int64) S5)) ∧ ((v5 = v2) → (P_X11_laysWays_51 Q X3 X11 v0 v1 v2 v3 v4 v5 x7 a8 x7 (0 : Int64) S5))))) S))))))
def P_X11_laysWays_11 (Q : HS → Prop) (X3 : Nat → Int32 → Int32 → Int32 → Int32 → HS → Prop) (v0 : Nat) (v1 : Int32) (v2 : Int32) (v3 : Int32) (v4 : Int32) (v5 : Int32) (S : HS) : Prop := ∀ X11 : Nat → Int32 → Int32 → Int32 → Int32 → Int32 → HS → Prop, (∀ (v0 : Nat) (v1 : Int32) (v2 : Int32) (v3 : Int32) (v4 : Int32) (v5 : Int32) (S : HS), B_X11_laysWays_11 Q X3 X11 v0 v1 v2 v3 v4 v5 S → X11 v0 v1 v2 v3 v4 v5 S) → X11 v0 v1 v2 v3 v4 v5 S
set_option maxRecDepth 20000 in
set_option maxHeartbeats 4000000 in
theorem TB_X11_laysWays_11 {X : CX} {Q : HS → Prop} (C : Cx X cX11_laysWays RX11 7 rm_X11_laysWays) (E : ReV X rm_X11_laysWays Q) (ht : (xh X).sig.returnType = none) (hn : (xh X).name = yX11_laysWays.name) {X3 : Nat → Int32 → Int32 → Int32 → Int32 → HS → Prop} (hX3 : ∀ (v0 : Nat) (v1 : Int32) (v2 : Int32) (v3 : Int32) (v4 : Int32) (S : HS), X3 v0 v1 v2 v3 v4 S → WS X 7 0 0 3 [(0, .ref v0), (1, .int v1), (2, .int v2), (3, .int v3), (4, .int v4)] [] S) {X11 : Nat → Int32 → Int32 → Int32 → Int32 → Int32 → HS → Prop} (hX11 : ∀ (v0 : Nat) (v1 : Int32) (v2 : Int32) (v3 : Int32) (v4 : Int32) (v5 : Int32) (S : HS), X11 v0 v1 v2 v3 v4 v5 S → WS X 7 0 0 11 [(0, .ref v0), (1, .int v1), (2, .int v2), (3, .int v3), (4, .int v4), (5, .int v5)] [] S) {v0 : Nat} {v1 : Int32} {v2 : Int32} {v3 : Int32} {v4 : Int32} {v5 : Int32} {S : HS} (h : B_X11_laysWays_11 Q X3 X11 v0 v1 v2 v3 v4 v5 S) : WS X 7 0 0 11 [(0, .ref v0), (1, .int v1), (2, .int v2), (3, .int v3), (4, .int v4), (5, .int v5)] [] S := by
  refine r_iload (pc := 11) C dX11_laysWays_11 5 rfl ?_
  refine r_aload_n (pc := 13) C dX11_laysWays_13 0 rfl ?_
  obtain ⟨o_v0, h⟩ := h
  obtain ⟨a1, ea1, h⟩ := h
  refine r_getr (pc := 14) C fL_X11_338 dX11_laysWays_14 o_v0 ea1 ?_
  obtain ⟨o_a1, h⟩ := h
  refine r_getNi (pc := 17) C fN_X11_190 dX11_laysWays_17 o_a1 ?_
  refine r_topi (fun x2 ex2 => ?_)
  have h := h x2 ex2
  refine r_icmp_ge (pc := 20) C (tgt := 91) dX11_laysWays_20 (by decide) (fun c3 => ?_) (fun c3 => ?_)
  · have h := h.1 c3
    obtain ⟨x4, ex4⟩ : ∃ z : Int32, z = v4 + (-1 : Int32) := ⟨_, rfl⟩
    have h := h x4 ex4
    refine r_iinc (pc := 91) C (v := x4) (lv' := [(4, .int x4), (0, .ref v0), (1, .int v1), (2, .int v2), (3, .int v3), (5, .int v5)]) dX11_laysWays_91 4 rfl ex4.symm (by decide) rfl ?_
    refine r_goto (pc := 94) C (tgt := 3) dX11_laysWays_94 (by decide) ?_
    exact r_sub [1, 2, 3, 4, 0] rfl (hX3 v0 v1 v2 v3 x4 S h)
  · have h := h.2 c3
    refine r_iload (pc := 23) C dX11_laysWays_23 5 rfl ?_
    refine r_iload (pc := 25) C dX11_laysWays_25 4 rfl ?_
    refine r_callSi0 (pc := 27) C (rest := []) rfl [.int v5, .int v4] yS_X11_spotOf g_1687 (c_X11_spotOf h) dX11_laysWays_27 rfl rfl (by decide) ⟨by decide, by decide⟩ ⟨by decide, by decide⟩ ⟨rfl, rfl⟩ (fun x7 S5 h g6 => ?_)
    have h := h g6
    have o_a1 := gr_ob g6 o_a1
    have o_v0 := gr_ob g6 o_v0
    refine r_istore (pc := 30) C dX11_laysWays_30 (by decide) (lv' := [(6, .int x7), (0, .ref v0), (1, .int v1), (2, .int v2), (3, .int v3), (4, .int v4), (5, .int v5)]) rfl ?_
    refine r_aload_n (pc := 32) C dX11_laysWays_32 1 rfl ?_
    obtain ⟨a8, ea8, h⟩ := h
    refine r_getr (pc := 33) C fL_X11_17 dX11_laysWays_33 o_v0 ea8 ?_
    refine r_iload (pc := 36) C dX11_laysWays_36 0 rfl ?_
    refine r_iload (pc := 38) C dX11_laysWays_38 6 rfl ?_
    refine r_iload_n (pc := 40) C dX11_laysWays_40 3 rfl ?_
    refine r_icmp_ne (pc := 41) C (tgt := 48) dX11_laysWays_41 (by decide) (fun c9 => ?_) (fun c9 => ?_)
    · have h := h.1 c9
      refine r_ldc2 (pc := 48) C (v := (-1 : Int64)) dX11_laysWays_48 g_1690 ?_
      exact r_sub [1, 2, 3, 4, 5, 6, 0] rfl (T_X11_laysWays_51 C E ht hn hX3 hX11 h)
    · have h := h.2 c9
      refine r_lconst (pc := 44) C (v := (0 : Int64)) dX11_laysWays_44 (by decide) ?_
      refine r_goto (pc := 45) C (tgt := 51) dX11_laysWays_45 (by decide) ?_
      exact r_sub [1, 2, 3, 4, 5, 6, 0] rfl (T_X11_laysWays_51 C E ht hn hX3 hX11 h)
theorem T_X11_laysWays_11 {X : CX} {Q : HS → Prop} (C : Cx X cX11_laysWays RX11 7 rm_X11_laysWays) (E : ReV X rm_X11_laysWays Q) (ht : (xh X).sig.returnType = none) (hn : (xh X).name = yX11_laysWays.name) {X3 : Nat → Int32 → Int32 → Int32 → Int32 → HS → Prop} (hX3 : ∀ (v0 : Nat) (v1 : Int32) (v2 : Int32) (v3 : Int32) (v4 : Int32) (S : HS), X3 v0 v1 v2 v3 v4 S → WS X 7 0 0 3 [(0, .ref v0), (1, .int v1), (2, .int v2), (3, .int v3), (4, .int v4)] [] S) {v0 : Nat} {v1 : Int32} {v2 : Int32} {v3 : Int32} {v4 : Int32} {v5 : Int32} {S : HS} (h : P_X11_laysWays_11 Q X3 v0 v1 v2 v3 v4 v5 S) : WS X 7 0 0 11 [(0, .ref v0), (1, .int v1), (2, .int v2), (3, .int v3), (4, .int v4), (5, .int v5)] [] S :=
  h (fun v0 v1 v2 v3 v4 v5 S => WS X 7 0 0 11 [(0, .ref v0), (1, .int v1), (2, .int v2), (3, .int v3), (4, .int v4), (5, .int v5)] [] S) (fun v0 v1 v2 v3 v4 v5 S hh => TB_X11_laysWays_11 C E ht hn hX3 (fun v0 v1 v2 v3 v4 v5 S z => z) hh)
def B_X11_laysWays_3 (Q : HS → Prop) (X3 : Nat → Int32 → Int32 → Int32 → Int32 → HS → Prop) (v0 : Nat) (v1 : Int32) (v2 : Int32) (v3 : Int32) (v4 : Int32) (S : HS) : Prop := ((v4 < 0) → (Q S)) ∧ ((¬ v4 < 0) → (P_X11_laysWays_11 Q X3 v0 v1 v2 v3 v4 (0 : Int32) S))
def P_X11_laysWays_3 (Q : HS → Prop) (v0 : Nat) (v1 : Int32) (v2 : Int32) (v3 : Int32) (v4 : Int32) (S : HS) : Prop := ∀ X3 : Nat → Int32 → Int32 → Int32 → Int32 → HS → Prop, (∀ (v0 : Nat) (v1 : Int32) (v2 : Int32) (v3 : Int32) (v4 : Int32) (S : HS), B_X11_laysWays_3 Q X3 v0 v1 v2 v3 v4 S → X3 v0 v1 v2 v3 v4 S) → X3 v0 v1 v2 v3 v4 S
set_option maxRecDepth 20000 in
set_option maxHeartbeats 4000000 in
theorem TB_X11_laysWays_3 {X : CX} {Q : HS → Prop} (C : Cx X cX11_laysWays RX11 7 rm_X11_laysWays) (E : ReV X rm_X11_laysWays Q) (ht : (xh X).sig.returnType = none) (hn : (xh X).name = yX11_laysWays.name) {X3 : Nat → Int32 → Int32 → Int32 → Int32 → HS → Prop} (hX3 : ∀ (v0 : Nat) (v1 : Int32) (v2 : Int32) (v3 : Int32) (v4 : Int32) (S : HS), X3 v0 v1 v2 v3 v4 S → WS X 7 0 0 3 [(0, .ref v0), (1, .int v1), (2, .int v2), (3, .int v3), (4, .int v4)] [] S) {v0 : Nat} {v1 : Int32} {v2 : Int32} {v3 : Int32} {v4 : Int32} {S : HS} (h : B_X11_laysWays_3 Q X3 v0 v1 v2 v3 v4 S) : WS X 7 0 0 3 [(0, .ref v0), (1, .int v1), (2, .int v2), (3, .int v3), (4, .int v4)] [] S := by
  refine r_iload (pc := 3) C dX11_laysWays_3 4 rfl ?_
  refine r_if_lt (pc := 5) C (tgt := 97) dX11_laysWays_5 (by decide) (fun c1 => ?_) (fun c1 => ?_)
  · have h := h.1 c1
    exact r_vret (pc := 97) C E ht dX11_laysWays_97 (by decide) (by decide) h
  · have h := h.2 c1
    refine r_iconst (pc := 8) C (v := (0 : Int32)) dX11_laysWays_8 (by decide) ?_
    refine r_istore (pc := 9) C dX11_laysWays_9 (by decide) (lv' := [(5, .int (0 : Int32)), (0, .ref v0), (1, .int v1), (2, .int v2), (3, .int v3), (4, .int v4)]) rfl ?_
    exact r_sub [1, 2, 3, 4, 5, 0] rfl (T_X11_laysWays_11 C E ht hn hX3 h)
theorem T_X11_laysWays_3 {X : CX} {Q : HS → Prop} (C : Cx X cX11_laysWays RX11 7 rm_X11_laysWays) (E : ReV X rm_X11_laysWays Q) (ht : (xh X).sig.returnType = none) (hn : (xh X).name = yX11_laysWays.name) {v0 : Nat} {v1 : Int32} {v2 : Int32} {v3 : Int32} {v4 : Int32} {S : HS} (h : P_X11_laysWays_3 Q v0 v1 v2 v3 v4 S) : WS X 7 0 0 3 [(0, .ref v0), (1, .int v1), (2, .int v2), (3, .int v3), (4, .int v4)] [] S :=
  h (fun v0 v1 v2 v3 v4 S => WS X 7 0 0 3 [(0, .ref v0), (1, .int v1), (2, .int v2), (3, .int v3), (4, .int v4)] [] S) (fun v0 v1 v2 v3 v4 S hh => TB_X11_laysWays_3 C E ht hn (fun v0 v1 v2 v3 v4 S z => z) hh)
def P_X11_laysWays_0 (Q : HS → Prop) (v0 : Nat) (v1 : Int32) (v2 : Int32) (v3 : Int32) (S : HS) : Prop := P_X11_laysWays_3 Q v0 v1 v2 v3 v3 S
set_option maxRecDepth 20000 in
set_option maxHeartbeats 4000000 in
theorem T_X11_laysWays_0 {X : CX} {Q : HS → Prop} (C : Cx X cX11_laysWays RX11 7 rm_X11_laysWays) (E : ReV X rm_X11_laysWays Q) (ht : (xh X).sig.returnType = none) (hn : (xh X).name = yX11_laysWays.name) {v0 : Nat} {v1 : Int32} {v2 : Int32} {v3 : Int32} {S : HS} (h : P_X11_laysWays_0 Q v0 v1 v2 v3 S) : WS X 7 0 0 0 [(0, .ref v0), (1, .int v1), (2, .int v2), (3, .int v3)] [] S := by
  refine r_iload_n (pc := 0) C dX11_laysWays_0 3 rfl ?_
  refine r_istore (pc := 1) C dX11_laysWays_1 (by decide) (lv' := [(4, .int v3), (0, .ref v0), (1, .int v1), (2, .int v2), (3, .int v3)]) rfl ?_
  exact r_sub [1, 2, 3, 4, 0] rfl (T_X11_laysWays_3 C E ht hn h)
def P_X11_laysWays (v0 : Nat) (v1 : Int32) (v2 : Int32) (v3 : Int32) (Q : HS → Prop) (S : HS) : Prop := P_X11_laysWays_0 Q v0 v1 v2 v3 S
theorem c_X11_laysWays {l : Launch} {Ee : EE} {S : HS} {v0 : Nat} {v1 : Int32} {v2 : Int32} {v3 : Int32} {Q : HS → Prop} (h : P_X11_laysWays v0 v1 v2 v3 Q S) : MV l yX11_laysWays cX11_laysWays 7 none rm_X11_laysWays Ee S [.ref v0, .int v1, .int v2, .int v3] Q :=
  openV (by decide) (by decide) (fun X C E ht hn hE hl => by subst hE; exact r_sub [0, 1, 2, 3] rfl (T_X11_laysWays_0 C E ht hn h))
def rm_X11_refusesWay : Room := { frames := 9, cells := 0, slots := 0, locals := 243 }
def P_X11_refusesWay_0 (Q : Int32 → HS → Prop) (v0 : Nat) (v1 : Int32) (v2 : Int32) (v3 : Int32) (v4 : Int32) (v5 : Int32) (S : HS) : Prop := ob S v0 11 ∧ (P_X11_isWalker v0 v1 (fun x3 S1 => Gr S S1 → bl x3 → (((x3 = 0) → (Q (1 : Int32) S1)) ∧ ((¬ x3 = 0) → (P_X11_isPlace v0 v2 (fun x7 S5 => Gr S1 S5 → bl x7 → (((x7 = 0) → (Q (1 : Int32) S5)) ∧ ((¬ x7 = 0) → (P_X11_isPlace v0 v3 (fun x11 S9 => Gr S5 S9 → bl x11 → (((¬ x11 = 0) → (P_X11_in v5 (0 : Int32) (400 : Int32) (fun x15 S13 => Gr S9 S13 → bl x15 → (((x15 = 0) → (Q (2 : Int32) S13)) ∧ ((¬ x15 = 0) → (P_X11_in v4 (0 : Int32) v5 (fun x19 S17 => Gr S13 S17 → bl x19 → (((¬ x19 = 0) → (P_X11_laysWays v0 v1 v3 v5 (fun S21 => Gr S17 S21 → (∃ a24 : Nat, fR S21 v0 16 = some a24 ∧ (P_X11_spotOf v2 v4 (fun x27 S25 => Gr S21 S25 → (ob S25 a24 14 ∧ (vp_in x27 (hN S25 a24) ∧ ∀ x29 : Int64, x29 = fJ S25 a24 x27.toNatClampNeg → (((¬ (lg_cmp x29 (-1 : Int64)) = 0) → (Q (0 : Int32) S25)) ∧ (((lg_cmp x29 (-1 : Int64)) = 0) → (Q (6 : Int32) S25)))))) S21))) S17)) ∧ ((x19 = 0) → (Q (2 : Int32) S17)))) S13)))) S9)) ∧ ((x11 = 0) → (Q (1 : Int32) S9)))) S5)))) S1)))) S)
set_option maxRecDepth 20000 in
set_option maxHeartbeats 4000000 in
theorem T_X11_refusesWay_0 {X : CX} {Q : Int32 → HS → Prop} (C : Cx X cX11_refusesWay RX11 6 rm_X11_refusesWay) (E : ReI X rm_X11_refusesWay Q) (ht : (xh X).sig.returnType = (some .int)) (hn : (xh X).name = yX11_refusesWay.name) {v0 : Nat} {v1 : Int32} {v2 : Int32} {v3 : Int32} {v4 : Int32} {v5 : Int32} {S : HS} (h : P_X11_refusesWay_0 Q v0 v1 v2 v3 v4 v5 S) : WS X 6 0 0 0 [(0, .ref v0), (1, .int v1), (2, .int v2), (3, .int v3), (4, .int v4), (5, .int v5)] [] S := by
  refine r_aload_n (pc := 0) C dX11_refusesWay_0 0 rfl ?_
  refine r_iload_n (pc := 1) C dX11_refusesWay_1 1 rfl ?_
  obtain ⟨o_v0, h⟩ := h
  refine r_callVi0 (pc := 2) C (rest := []) (a := v0) o_v0 [.int v1] yV_X11_isWalker g_1538 (c_X11_isWalker h) dX11_refusesWay_2 rfl rfl (by decide) ⟨by decide, by decide⟩ ⟨by decide, by decide⟩ ⟨rfl, rfl⟩ (fun x3 S1 h g2 => ?_)
  have bx3 := h.1
  have h := h.2 g2 bx3
  have o_v0 := gr_ob g2 o_v0
  refine r_if_eq (pc := 5) C (tgt := 24) dX11_refusesWay_5 (by decide) (fun c4 => ?_) (fun c4 => ?_)
  · have h := h.1 c4
    refine r_iconst (pc := 24) C (v := (1 : Int32)) dX11_refusesWay_24 (by decide) ?_
    exact r_iret (pc := 25) C E ht dX11_refusesWay_25 (by decide) (by decide) h
  · have h := h.2 c4
    refine r_aload_n (pc := 8) C dX11_refusesWay_8 0 rfl ?_
    refine r_iload_n (pc := 9) C dX11_refusesWay_9 2 rfl ?_
    refine r_callVi0 (pc := 10) C (rest := []) (a := v0) o_v0 [.int v2] yV_X11_isPlace g_1679 (c_X11_isPlace h) dX11_refusesWay_10 rfl rfl (by decide) ⟨by decide, by decide⟩ ⟨by decide, by decide⟩ ⟨rfl, rfl⟩ (fun x7 S5 h g6 => ?_)
    have bx7 := h.1
    have h := h.2 g6 bx7
    have o_v0 := gr_ob g6 o_v0
    refine r_if_eq (pc := 13) C (tgt := 24) dX11_refusesWay_13 (by decide) (fun c8 => ?_) (fun c8 => ?_)
    · have h := h.1 c8
      refine r_iconst (pc := 24) C (v := (1 : Int32)) dX11_refusesWay_24 (by decide) ?_
      exact r_iret (pc := 25) C E ht dX11_refusesWay_25 (by decide) (by decide) h
    · have h := h.2 c8
      refine r_aload_n (pc := 16) C dX11_refusesWay_16 0 rfl ?_
      refine r_iload_n (pc := 17) C dX11_refusesWay_17 3 rfl ?_
      refine r_callVi0 (pc := 18) C (rest := []) (a := v0) o_v0 [.int v3] yV_X11_isPlace g_1679 (c_X11_isPlace h) dX11_refusesWay_18 rfl rfl (by decide) ⟨by decide, by decide⟩ ⟨by decide, by decide⟩ ⟨rfl, rfl⟩ (fun x11 S9 h g10 => ?_)
      have bx11 := h.1
      have h := h.2 g10 bx11
      have o_v0 := gr_ob g10 o_v0
      refine r_if_ne (pc := 21) C (tgt := 26) dX11_refusesWay_21 (by decide) (fun c12 => ?_) (fun c12 => ?_)
      · have h := h.1 c12
        refine r_iload (pc := 26) C dX11_refusesWay_26 5 rfl ?_
        refine r_iconst (pc := 28) C (v := (0 : Int32)) dX11_refusesWay_28 (by decide) ?_
        refine r_sipush (pc := 29) C (v := (400 : Int32)) dX11_refusesWay_29 (by decide) ?_
        refine r_callSi0 (pc := 32) C (rest := []) rfl [.int v5, .int (0 : Int32), .int (400 : Int32)] yS_X11_in g_1434 (c_X11_in h) dX11_refusesWay_32 rfl rfl (by decide) ⟨by decide, by decide⟩ ⟨by decide, by decide⟩ ⟨rfl, rfl⟩ (fun x15 S13 h g14 => ?_)
        have bx15 := h.1
        have h := h.2 g14 bx15
        have o_v0 := gr_ob g14 o_v0
        refine r_if_eq (pc := 35) C (tgt := 49) dX11_refusesWay_35 (by decide) (fun c16 => ?_) (fun c16 => ?_)
        · have h := h.1 c16
          refine r_iconst (pc := 49) C (v := (2 : Int32)) dX11_refusesWay_49 (by decide) ?_
          exact r_iret (pc := 50) C E ht dX11_refusesWay_50 (by decide) (by decide) h
        · have h := h.2 c16
          refine r_iload (pc := 38) C dX11_refusesWay_38 4 rfl ?_
          refine r_iconst (pc := 40) C (v := (0 : Int32)) dX11_refusesWay_40 (by decide) ?_
          refine r_iload (pc := 41) C dX11_refusesWay_41 5 rfl ?_
          refine r_callSi0 (pc := 43) C (rest := []) rfl [.int v4, .int (0 : Int32), .int v5] yS_X11_in g_1434 (c_X11_in h) dX11_refusesWay_43 rfl rfl (by decide) ⟨by decide, by decide⟩ ⟨by decide, by decide⟩ ⟨rfl, rfl⟩ (fun x19 S17 h g18 => ?_)
          have bx19 := h.1
          have h := h.2 g18 bx19
          have o_v0 := gr_ob g18 o_v0
          refine r_if_ne (pc := 46) C (tgt := 51) dX11_refusesWay_46 (by decide) (fun c20 => ?_) (fun c20 => ?_)
          · have h := h.1 c20
            refine r_aload_n (pc := 51) C dX11_refusesWay_51 0 rfl ?_
            refine r_iload_n (pc := 52) C dX11_refusesWay_52 1 rfl ?_
            refine r_iload_n (pc := 53) C dX11_refusesWay_53 3 rfl ?_
            refine r_iload (pc := 54) C dX11_refusesWay_54 5 rfl ?_
            refine r_callVv0 (pc := 56) C (rest := []) (a := v0) o_v0 [.int v1, .int v3, .int v5] yV_X11_laysWays g_1683 (c_X11_laysWays h) dX11_refusesWay_56 rfl rfl (by decide) ⟨by decide, by decide⟩ ⟨by decide, by decide⟩ ⟨rfl, rfl⟩ (fun S21 h g22 => ?_)
            have h := h g22
            have o_v0 := gr_ob g22 o_v0
            refine r_aload_n (pc := 59) C dX11_refusesWay_59 0 rfl ?_
            obtain ⟨a24, ea24, h⟩ := h
            refine r_getr (pc := 60) C fL_X11_17 dX11_refusesWay_60 o_v0 ea24 ?_
            refine r_iload_n (pc := 63) C dX11_refusesWay_63 2 rfl ?_
            refine r_iload (pc := 64) C dX11_refusesWay_64 4 rfl ?_
            refine r_callSi0 (pc := 66) C (rest := [.ref a24]) rfl [.int v2, .int v4] yS_X11_spotOf g_1687 (c_X11_spotOf h) dX11_refusesWay_66 rfl rfl (by decide) ⟨by decide, by decide⟩ ⟨by decide, by decide⟩ ⟨rfl, rfl⟩ (fun x27 S25 h g26 => ?_)
            have h := h g26
            have o_v0 := gr_ob g26 o_v0
            obtain ⟨o_a24, h⟩ := h
            obtain ⟨i28, h⟩ := h
            refine r_lald (pc := 69) C dX11_refusesWay_69 o_a24 i28 ?_
            refine r_topl (fun x29 ex29 => ?_)
            have h := h x29 ex29
            refine r_ldc2 (pc := 70) C (v := (-1 : Int64)) dX11_refusesWay_70 g_1690 ?_
            refine r_lcmp (pc := 73) C dX11_refusesWay_73 ?_
            refine r_if_ne (pc := 74) C (tgt := 82) dX11_refusesWay_74 (by decide) (fun c30 => ?_) (fun c30 => ?_)
            · have h := h.1 c30
              refine r_iconst (pc := 82) C (v := (0 : Int32)) dX11_refusesWay_82 (by decide) ?_
              exact r_iret (pc := 83) C E ht dX11_refusesWay_83 (by decide) (by decide) h
            · have h := h.2 c30
              refine r_bipush (pc := 77) C (v := (6 : Int32)) dX11_refusesWay_77 (by decide) ?_
              refine r_goto (pc := 79) C (tgt := 83) dX11_refusesWay_79 (by decide) ?_
              exact r_iret (pc := 83) C E ht dX11_refusesWay_83 (by decide) (by decide) h
          · have h := h.2 c20
            refine r_iconst (pc := 49) C (v := (2 : Int32)) dX11_refusesWay_49 (by decide) ?_
            exact r_iret (pc := 50) C E ht dX11_refusesWay_50 (by decide) (by decide) h
      · have h := h.2 c12
        refine r_iconst (pc := 24) C (v := (1 : Int32)) dX11_refusesWay_24 (by decide) ?_
        exact r_iret (pc := 25) C E ht dX11_refusesWay_25 (by decide) (by decide) h
def P_X11_refusesWay (v0 : Nat) (v1 : Int32) (v2 : Int32) (v3 : Int32) (v4 : Int32) (v5 : Int32) (Q : Int32 → HS → Prop) (S : HS) : Prop := P_X11_refusesWay_0 Q v0 v1 v2 v3 v4 v5 S
theorem c_X11_refusesWay {l : Launch} {Ee : EE} {S : HS} {v0 : Nat} {v1 : Int32} {v2 : Int32} {v3 : Int32} {v4 : Int32} {v5 : Int32} {Q : Int32 → HS → Prop} (h : P_X11_refusesWay v0 v1 v2 v3 v4 v5 Q S) : MI l yX11_refusesWay cX11_refusesWay 6 (some .int) rm_X11_refusesWay Ee S [.ref v0, .int v1, .int v2, .int v3, .int v4, .int v5] Q :=
  openI (by decide) (by decide) (fun X C E ht hn hE hl => by subst hE; exact r_sub [0, 1, 2, 3, 4, 5] rfl (T_X11_refusesWay_0 C E ht hn h))
def rm_X11_least : Room := { frames := 10, cells := 0, slots := 0, locals := 268 }
def P_X11_least_0 (Q : Int64 → HS → Prop) (v0 : Nat) (v1 : Int32) (v2 : Int32) (v3 : Int32) (v4 : Int32) (v5 : Int32) (v6 : Int32) (S : HS) : Prop := ob S v0 11 ∧ (P_X11_refusesWay v0 v1 v2 v3 v4 v5 (fun x3 S1 => Gr (sI S v0 0 (0 : Int32)) S1 → (((x3 ≤ 0) → (∃ a5 : Nat, fR S1 v0 16 = some a5 ∧ (P_X11_spotOf v2 v4 (fun x8 S6 => Gr S1 S6 → (ob S6 a5 14 ∧ (vp_in x8 (hN S6 a5) ∧ ∀ x10 : Int64, x10 = fJ S6 a5 x8.toNatClampNeg → (P_X11_told v0 x10 (252000 : Int64) v6 (fun x13 S11 => Gr S6 S11 → (Q x13 S11)) S6)))) S1))) ∧ ((¬ x3 ≤ 0) → (P_X11_refused v0 x3 (fun x16 S14 => Gr S1 S14 → (Q x16.toInt64 S14)) S1)))) (sI S v0 0 (0 : Int32)))
set_option maxRecDepth 20000 in
set_option maxHeartbeats 4000000 in
theorem T_X11_least_0 {X : CX} {Q : Int64 → HS → Prop} (C : Cx X cX11_least RX11 8 rm_X11_least) (E : ReJ X rm_X11_least Q) (ht : (xh X).sig.returnType = (some .long)) (hn : (xh X).name = yX11_least.name) {v0 : Nat} {v1 : Int32} {v2 : Int32} {v3 : Int32} {v4 : Int32} {v5 : Int32} {v6 : Int32} {S : HS} (h : P_X11_least_0 Q v0 v1 v2 v3 v4 v5 v6 S) : WS X 8 0 0 0 [(0, .ref v0), (1, .int v1), (2, .int v2), (3, .int v3), (4, .int v4), (5, .int v5), (6, .int v6)] [] S := by
  refine r_aload_n (pc := 0) C dX11_least_0 0 rfl ?_
  refine r_iconst (pc := 1) C (v := (0 : Int32)) dX11_least_1 (by decide) ?_
  obtain ⟨o_v0, h⟩ := h
  refine r_puti (pc := 2) C pfL_X11_40 dX11_least_2 o_v0 ?_
  refine r_aload_n (pc := 5) C dX11_least_5 0 rfl ?_
  refine r_iload_n (pc := 6) C dX11_least_6 1 rfl ?_
  refine r_iload_n (pc := 7) C dX11_least_7 2 rfl ?_
  refine r_iload_n (pc := 8) C dX11_least_8 3 rfl ?_
  refine r_iload (pc := 9) C dX11_least_9 4 rfl ?_
  refine r_iload (pc := 11) C dX11_least_11 5 rfl ?_
  refine r_callVi0 (pc := 13) C (rest := []) (a := v0) o_v0 [.int v1, .int v2, .int v3, .int v4, .int v5] yV_X11_refusesWay g_1675 (c_X11_refusesWay h) dX11_least_13 rfl rfl (by decide) ⟨by decide, by decide⟩ ⟨by decide, by decide⟩ ⟨rfl, rfl⟩ (fun x3 S1 h g2 => ?_)
  have h := h g2
  have o_v0 := gr_ob g2 o_v0
  refine r_istore (pc := 16) C dX11_least_16 (by decide) (lv' := [(7, .int x3), (0, .ref v0), (1, .int v1), (2, .int v2), (3, .int v3), (4, .int v4), (5, .int v5), (6, .int v6)]) rfl ?_
  refine r_iload (pc := 18) C dX11_least_18 0 rfl ?_
  refine r_if_le (pc := 20) C (tgt := 33) dX11_least_20 (by decide) (fun c4 => ?_) (fun c4 => ?_)
  · have h := h.1 c4
    refine r_aload_n (pc := 33) C dX11_least_33 1 rfl ?_
    refine r_aload_n (pc := 34) C dX11_least_34 1 rfl ?_
    obtain ⟨a5, ea5, h⟩ := h
    refine r_getr (pc := 35) C fL_X11_17 dX11_least_35 o_v0 ea5 ?_
    refine r_iload_n (pc := 38) C dX11_least_38 3 rfl ?_
    refine r_iload (pc := 39) C dX11_least_39 5 rfl ?_
    refine r_callSi0 (pc := 41) C (rest := [.ref a5, .ref v0]) rfl [.int v2, .int v4] yS_X11_spotOf g_1687 (c_X11_spotOf h) dX11_least_41 rfl rfl (by decide) ⟨by decide, by decide⟩ ⟨by decide, by decide⟩ ⟨rfl, rfl⟩ (fun x8 S6 h g7 => ?_)
    have h := h g7
    have o_v0 := gr_ob g7 o_v0
    obtain ⟨o_a5, h⟩ := h
    obtain ⟨i9, h⟩ := h
    refine r_lald (pc := 44) C dX11_least_44 o_a5 i9 ?_
    refine r_topl (fun x10 ex10 => ?_)
    have h := h x10 ex10
    refine r_ldc2 (pc := 45) C (v := (252000 : Int64)) dX11_least_45 g_1602 ?_
    refine r_iload (pc := 48) C dX11_least_48 7 rfl ?_
    refine r_callVl0 (pc := 50) C (rest := []) (a := v0) o_v0 [.long x10, .long (252000 : Int64), .int v6] yV_X11_told g_1586 (c_X11_told h) dX11_least_50 rfl rfl (by decide) ⟨by decide, by decide⟩ ⟨by decide, by decide⟩ ⟨rfl, rfl⟩ (fun x13 S11 h g12 => ?_)
    have h := h g12
    have o_a5 := gr_ob g12 o_a5
    have o_v0 := gr_ob g12 o_v0
    exact r_lret (pc := 53) C E ht dX11_least_53 (by decide) (by decide) h
  · have h := h.2 c4
    refine r_aload_n (pc := 23) C dX11_least_23 1 rfl ?_
    refine r_iload (pc := 24) C dX11_least_24 0 rfl ?_
    refine r_callVi0 (pc := 26) C (rest := []) (a := v0) o_v0 [.int x3] yV_X11_refused g_1250 (c_X11_refused h) dX11_least_26 rfl rfl (by decide) ⟨by decide, by decide⟩ ⟨by decide, by decide⟩ ⟨rfl, rfl⟩ (fun x16 S14 h g15 => ?_)
    have h := h g15
    have o_v0 := gr_ob g15 o_v0
    refine r_i2l (pc := 29) C dX11_least_29 ?_
    refine r_goto (pc := 30) C (tgt := 53) dX11_least_30 (by decide) ?_
    exact r_lret (pc := 53) C E ht dX11_least_53 (by decide) (by decide) h
def P_X11_least (v0 : Nat) (v1 : Int32) (v2 : Int32) (v3 : Int32) (v4 : Int32) (v5 : Int32) (v6 : Int32) (Q : Int64 → HS → Prop) (S : HS) : Prop := P_X11_least_0 Q v0 v1 v2 v3 v4 v5 v6 S
theorem c_X11_least {l : Launch} {Ee : EE} {S : HS} {v0 : Nat} {v1 : Int32} {v2 : Int32} {v3 : Int32} {v4 : Int32} {v5 : Int32} {v6 : Int32} {Q : Int64 → HS → Prop} (h : P_X11_least v0 v1 v2 v3 v4 v5 v6 Q S) : MJ l yX11_least cX11_least 8 (some .long) rm_X11_least Ee S [.ref v0, .int v1, .int v2, .int v3, .int v4, .int v5, .int v6] Q :=
  openJ (by decide) (by decide) (fun X C E ht hn hE hl => by subst hE; exact r_sub [0, 1, 2, 3, 4, 5, 6] rfl (T_X11_least_0 C E ht hn h))
def rm_X11_led : Room := { frames := 1, cells := 0, slots := 0, locals := 20 }
def P_X11_led_80 (Q : Int32 → HS → Prop) (X9 : Nat → Int32 → Int32 → Int32 → HS → Prop) (v0 : Nat) (v1 : Int32) (v2 : Int32) (v3 : Int32) (S : HS) : Prop := ∀ x1 : Int32, x1 = v3 + (1 : Int32) → (X9 v0 v1 v2 x1 S)
set_option maxRecDepth 20000 in
set_option maxHeartbeats 4000000 in
theorem T_X11_led_80 {X : CX} {Q : Int32 → HS → Prop} (C : Cx X cX11_led RX11 4 rm_X11_led) (E : ReI X rm_X11_led Q) (ht : (xh X).sig.returnType = (some .int)) (hn : (xh X).name = yX11_led.name) {X9 : Nat → Int32 → Int32 → Int32 → HS → Prop} (hX9 : ∀ (v0 : Nat) (v1 : Int32) (v2 : Int32) (v3 : Int32) (S : HS), X9 v0 v1 v2 v3 S → WS X 4 0 0 9 [(0, .ref v0), (1, .int v1), (2, .int v2), (3, .int v3)] [] S) {v0 : Nat} {v1 : Int32} {v2 : Int32} {v3 : Int32} {S : HS} (h : P_X11_led_80 Q X9 v0 v1 v2 v3 S) : WS X 4 0 0 80 [(0, .ref v0), (1, .int v1), (2, .int v2), (3, .int v3)] [] S := by
  obtain ⟨x1, ex1⟩ : ∃ z : Int32, z = v3 + (1 : Int32) := ⟨_, rfl⟩
  have h := h x1 ex1
  refine r_iinc (pc := 80) C (v := x1) (lv' := [(3, .int x1), (0, .ref v0), (1, .int v1), (2, .int v2)]) dX11_led_80 3 rfl ex1.symm (by decide) rfl ?_
  refine r_goto (pc := 83) C (tgt := 9) dX11_led_83 (by decide) ?_
  exact r_sub [1, 2, 3, 0] rfl (hX9 v0 v1 v2 x1 S h)
def P_X11_led_70 (Q : Int32 → HS → Prop) (X9 : Nat → Int32 → Int32 → Int32 → HS → Prop) (v0 : Nat) (v1 : Int32) (v2 : Int32) (v3 : Int32) (S : HS) : Prop := ((¬ v2 = v1) → (∀ x2 : Int32, x2 = v2 + (1 : Int32) → (P_X11_led_80 Q X9 v0 v1 x2 v3 S))) ∧ ((v2 = v1) → (Q v3 S))
set_option maxRecDepth 20000 in
set_option maxHeartbeats 4000000 in
theorem T_X11_led_70 {X : CX} {Q : Int32 → HS → Prop} (C : Cx X cX11_led RX11 4 rm_X11_led) (E : ReI X rm_X11_led Q) (ht : (xh X).sig.returnType = (some .int)) (hn : (xh X).name = yX11_led.name) {X9 : Nat → Int32 → Int32 → Int32 → HS → Prop} (hX9 : ∀ (v0 : Nat) (v1 : Int32) (v2 : Int32) (v3 : Int32) (S : HS), X9 v0 v1 v2 v3 S → WS X 4 0 0 9 [(0, .ref v0), (1, .int v1), (2, .int v2), (3, .int v3)] [] S) {v0 : Nat} {v1 : Int32} {v2 : Int32} {v3 : Int32} {S : HS} (h : P_X11_led_70 Q X9 v0 v1 v2 v3 S) : WS X 4 0 0 70 [(0, .ref v0), (1, .int v1), (2, .int v2), (3, .int v3)] [] S := by
  refine r_iload_n (pc := 70) C dX11_led_70 2 rfl ?_
  refine r_iload_n (pc := 71) C dX11_led_71 1 rfl ?_
  refine r_icmp_ne (pc := 72) C (tgt := 77) dX11_led_72 (by decide) (fun c1 => ?_) (fun c1 => ?_)
  · have h := h.1 c1
    obtain ⟨x2, ex2⟩ : ∃ z : Int32, z = v2 + (1 : Int32) := ⟨_, rfl⟩
    have h := h x2 ex2
    refine r_iinc (pc := 77) C (v := x2) (lv' := [(2, .int x2), (0, .ref v0), (1, .int v1), (3, .int v3)]) dX11_led_77 2 rfl ex2.symm (by decide) rfl ?_
    exact r_sub [1, 2, 0, 3] rfl (T_X11_led_80 C E ht hn hX9 h)
  · have h := h.2 c1
    refine r_iload_n (pc := 75) C dX11_led_75 3 rfl ?_
    exact r_iret (pc := 76) C E ht dX11_led_76 (by decide) (by decide) h
def B_X11_led_9 (Q : Int32 → HS → Prop) (X9 : Nat → Int32 → Int32 → Int32 → HS → Prop) (v0 : Nat) (v1 : Int32) (v2 : Int32) (v3 : Int32) (S : HS) : Prop := ob S v0 11 ∧ (P_X11_isDay v0 (fun x3 S1 => Gr S S1 → bl x3 → (((x3 = 0) → (Q (0 : Int32) (sI S1 v0 0 (1 : Int32)))) ∧ ((¬ x3 = 0) → (∃ a5 : Nat, fR S1 v0 3 = some a5 ∧ (ob S1 a5 10 ∧ (∀ x6 : Int32, x6 = fI S1 a5 3 → (((x6 ≤ v3) → (Q (0 : Int32) (sI S1 v0 0 (1 : Int32)))) ∧ ((¬ x6 ≤ v3) → (∃ a8 : Nat, fR S1 v0 3 = some a8 ∧ (ob S1 a8 10 ∧ (∃ a9 : Nat, fR S1 a8 13 = some a9 ∧ (ob S1 a9 13 ∧ (vp_in v3 (hN S1 a9) ∧ ∀ x11 : Int32, x11 = fI S1 a9 v3.toNatClampNeg → (∃ a12 : Nat, fR S1 v0 21 = some a12 ∧ (ob S1 a12 14 ∧ (vp_in (0 : Int32) (hN S1 a12) ∧ ∀ x14 : Int64, x14 = fJ S1 a12 (0 : Int32).toNatClampNeg → ((((lg_cmp x11.toInt64 x14) = 0) → (P_X11_led_70 Q X9 v0 v1 v2 v3 S1)) ∧ ((¬ (lg_cmp x11.toInt64 x14) = 0) → (∃ a16 : Nat, fR S1 v0 3 = some a16 ∧ (ob S1 a16 10 ∧ (∃ a17 : Nat, fR S1 a16 14 = some a17 ∧ (ob S1 a17 13 ∧ (vp_in v3 (hN S1 a17) ∧ ∀ x19 : Int32, x19 = fI S1 a17 v3.toNatClampNeg → (∃ a20 : Nat, fR S1 v0 21 = some a20 ∧ (ob S1 a20 14 ∧ (vp_in (0 : Int32) (hN S1 a20) ∧ ∀ x22 : Int64, x22 = fJ S1 a20 (0 : Int32).toNatClampNeg → ((((lg_cmp x19.toInt64 x22) = 0) → (P_X11_led_70 Q X9 v0 v1 v2 v3 S1)) ∧ ((¬ (lg_cmp x19.toInt64 x22) = 0) → (P_X11_led_80 Q X9 v0 v1 v2 v3 S1))))))))))))))))))))))))))))) S)
def P_X11_led_9 (Q : Int32 → HS → Prop) (v0 : Nat) (v1 : Int32) (v2 : Int32) (v3 : Int32) (S : HS) : Prop := ∀ X9 : Nat → Int32 → Int32 → Int32 → HS → Prop, (∀ (v0 : Nat) (v1 : Int32) (v2 : Int32) (v3 : Int32) (S : HS), B_X11_led_9 Q X9 v0 v1 v2 v3 S → X9 v0 v1 v2 v3 S) → X9 v0 v1 v2 v3 S
set_option maxRecDepth 20000 in
set_option maxHeartbeats 4000000 in
theorem TB_X11_led_9 {X : CX} {Q : Int32 → HS → Prop} (C : Cx X cX11_led RX11 4 rm_X11_led) (E : ReI X rm_X11_led Q) (ht : (xh X).sig.returnType = (some .int)) (hn : (xh X).name = yX11_led.name) {X9 : Nat → Int32 → Int32 → Int32 → HS → Prop} (hX9 : ∀ (v0 : Nat) (v1 : Int32) (v2 : Int32) (v3 : Int32) (S : HS), X9 v0 v1 v2 v3 S → WS X 4 0 0 9 [(0, .ref v0), (1, .int v1), (2, .int v2), (3, .int v3)] [] S) {v0 : Nat} {v1 : Int32} {v2 : Int32} {v3 : Int32} {S : HS} (h : B_X11_led_9 Q X9 v0 v1 v2 v3 S) : WS X 4 0 0 9 [(0, .ref v0), (1, .int v1), (2, .int v2), (3, .int v3)] [] S := by
  refine r_aload_n (pc := 9) C dX11_led_9 0 rfl ?_
  obtain ⟨o_v0, h⟩ := h
  refine r_callVi0 (pc := 10) C (rest := []) (a := v0) o_v0 [] yV_X11_isDay g_1779 (c_X11_isDay h) dX11_led_10 rfl rfl (by decide) ⟨by decide, by decide⟩ ⟨by decide, by decide⟩ ⟨rfl, rfl⟩ (fun x3 S1 h g2 => ?_)
  have bx3 := h.1
  have h := h.2 g2 bx3
  have o_v0 := gr_ob g2 o_v0
  refine r_if_eq (pc := 13) C (tgt := 86) dX11_led_13 (by decide) (fun c4 => ?_) (fun c4 => ?_)
  · have h := h.1 c4
    refine r_aload_n (pc := 86) C dX11_led_86 0 rfl ?_
    refine r_iconst (pc := 87) C (v := (1 : Int32)) dX11_led_87 (by decide) ?_
    refine r_puti (pc := 88) C pfL_X11_40 dX11_led_88 o_v0 ?_
    refine r_iconst (pc := 91) C (v := (0 : Int32)) dX11_led_91 (by decide) ?_
    exact r_iret (pc := 92) C E ht dX11_led_92 (by decide) (by decide) h
  · have h := h.2 c4
    refine r_iload_n (pc := 16) C dX11_led_16 3 rfl ?_
    refine r_aload_n (pc := 17) C dX11_led_17 0 rfl ?_
    obtain ⟨a5, ea5, h⟩ := h
    refine r_getr (pc := 18) C fL_X11_338 dX11_led_18 o_v0 ea5 ?_
    obtain ⟨o_a5, h⟩ := h
    refine r_getNi (pc := 21) C fN_X11_264 dX11_led_21 o_a5 ?_
    refine r_topi (fun x6 ex6 => ?_)
    have h := h x6 ex6
    refine r_icmp_ge (pc := 24) C (tgt := 86) dX11_led_24 (by decide) (fun c7 => ?_) (fun c7 => ?_)
    · have h := h.1 c7
      refine r_aload_n (pc := 86) C dX11_led_86 0 rfl ?_
      refine r_iconst (pc := 87) C (v := (1 : Int32)) dX11_led_87 (by decide) ?_
      refine r_puti (pc := 88) C pfL_X11_40 dX11_led_88 o_v0 ?_
      refine r_iconst (pc := 91) C (v := (0 : Int32)) dX11_led_91 (by decide) ?_
      exact r_iret (pc := 92) C E ht dX11_led_92 (by decide) (by decide) h
    · have h := h.2 c7
      refine r_aload_n (pc := 27) C dX11_led_27 0 rfl ?_
      obtain ⟨a8, ea8, h⟩ := h
      refine r_getr (pc := 28) C fL_X11_338 dX11_led_28 o_v0 ea8 ?_
      obtain ⟨o_a8, h⟩ := h
      obtain ⟨a9, ea9, h⟩ := h
      refine r_getNr (pc := 31) C fN_X11_270 dX11_led_31 o_a8 ea9 ?_
      refine r_iload_n (pc := 34) C dX11_led_34 3 rfl ?_
      obtain ⟨o_a9, h⟩ := h
      obtain ⟨i10, h⟩ := h
      refine r_iald (pc := 35) C dX11_led_35 o_a9 i10 ?_
      refine r_topi (fun x11 ex11 => ?_)
      have h := h x11 ex11
      refine r_i2l (pc := 36) C dX11_led_36 ?_
      refine r_aload_n (pc := 37) C dX11_led_37 0 rfl ?_
      obtain ⟨a12, ea12, h⟩ := h
      refine r_getr (pc := 38) C fL_X11_31 dX11_led_38 o_v0 ea12 ?_
      refine r_iconst (pc := 41) C (v := (0 : Int32)) dX11_led_41 (by decide) ?_
      obtain ⟨o_a12, h⟩ := h
      obtain ⟨i13, h⟩ := h
      refine r_lald (pc := 42) C dX11_led_42 o_a12 i13 ?_
      refine r_topl (fun x14 ex14 => ?_)
      have h := h x14 ex14
      refine r_lcmp (pc := 43) C dX11_led_43 ?_
      refine r_if_eq (pc := 44) C (tgt := 70) dX11_led_44 (by decide) (fun c15 => ?_) (fun c15 => ?_)
      · have h := h.1 c15
        exact r_sub [0, 1, 2, 3] rfl (T_X11_led_70 C E ht hn hX9 h)
      · have h := h.2 c15
        refine r_aload_n (pc := 47) C dX11_led_47 0 rfl ?_
        obtain ⟨a16, ea16, h⟩ := h
        refine r_getr (pc := 48) C fL_X11_338 dX11_led_48 o_v0 ea16 ?_
        obtain ⟨o_a16, h⟩ := h
        obtain ⟨a17, ea17, h⟩ := h
        refine r_getNr (pc := 51) C fN_X11_273 dX11_led_51 o_a16 ea17 ?_
        refine r_iload_n (pc := 54) C dX11_led_54 3 rfl ?_
        obtain ⟨o_a17, h⟩ := h
        obtain ⟨i18, h⟩ := h
        refine r_iald (pc := 55) C dX11_led_55 o_a17 i18 ?_
        refine r_topi (fun x19 ex19 => ?_)
        have h := h x19 ex19
        refine r_i2l (pc := 56) C dX11_led_56 ?_
        refine r_aload_n (pc := 57) C dX11_led_57 0 rfl ?_
        obtain ⟨a20, ea20, h⟩ := h
        refine r_getr (pc := 58) C fL_X11_31 dX11_led_58 o_v0 ea20 ?_
        refine r_iconst (pc := 61) C (v := (0 : Int32)) dX11_led_61 (by decide) ?_
        obtain ⟨o_a20, h⟩ := h
        obtain ⟨i21, h⟩ := h
        refine r_lald (pc := 62) C dX11_led_62 o_a20 i21 ?_
        refine r_topl (fun x22 ex22 => ?_)
        have h := h x22 ex22
        refine r_lcmp (pc := 63) C dX11_led_63 ?_
        refine r_if_eq (pc := 64) C (tgt := 70) dX11_led_64 (by decide) (fun c23 => ?_) (fun c23 => ?_)
        · have h := h.1 c23
          exact r_sub [0, 1, 2, 3] rfl (T_X11_led_70 C E ht hn hX9 h)
        · have h := h.2 c23
          refine r_goto (pc := 67) C (tgt := 80) dX11_led_67 (by decide) ?_
          exact r_sub [0, 1, 2, 3] rfl (T_X11_led_80 C E ht hn hX9 h)
theorem T_X11_led_9 {X : CX} {Q : Int32 → HS → Prop} (C : Cx X cX11_led RX11 4 rm_X11_led) (E : ReI X rm_X11_led Q) (ht : (xh X).sig.returnType = (some .int)) (hn : (xh X).name = yX11_led.name) {v0 : Nat} {v1 : Int32} {v2 : Int32} {v3 : Int32} {S : HS} (h : P_X11_led_9 Q v0 v1 v2 v3 S) : WS X 4 0 0 9 [(0, .ref v0), (1, .int v1), (2, .int v2), (3, .int v3)] [] S :=
  h (fun v0 v1 v2 v3 S => WS X 4 0 0 9 [(0, .ref v0), (1, .int v1), (2, .int v2), (3, .int v3)] [] S) (fun v0 v1 v2 v3 S hh => TB_X11_led_9 C E ht hn (fun v0 v1 v2 v3 S z => z) hh)
def P_X11_led_0 (Q : Int32 → HS → Prop) (v0 : Nat) (v1 : Int32) (S : HS) : Prop := ob S v0 11 ∧ (P_X11_led_9 Q v0 v1 (0 : Int32) (0 : Int32) (sI S v0 0 (0 : Int32)))
set_option maxRecDepth 20000 in
set_option maxHeartbeats 4000000 in
theorem T_X11_led_0 {X : CX} {Q : Int32 → HS → Prop} (C : Cx X cX11_led RX11 4 rm_X11_led) (E : ReI X rm_X11_led Q) (ht : (xh X).sig.returnType = (some .int)) (hn : (xh X).name = yX11_led.name) {v0 : Nat} {v1 : Int32} {S : HS} (h : P_X11_led_0 Q v0 v1 S) : WS X 4 0 0 0 [(0, .ref v0), (1, .int v1)] [] S := by
  refine r_aload_n (pc := 0) C dX11_led_0 0 rfl ?_
  refine r_iconst (pc := 1) C (v := (0 : Int32)) dX11_led_1 (by decide) ?_
  obtain ⟨o_v0, h⟩ := h
  refine r_puti (pc := 2) C pfL_X11_40 dX11_led_2 o_v0 ?_
  refine r_iconst (pc := 5) C (v := (0 : Int32)) dX11_led_5 (by decide) ?_
  refine r_istore_n (pc := 6) C dX11_led_6 rfl (by decide) (lv' := [(2, .int (0 : Int32)), (0, .ref v0), (1, .int v1)]) rfl ?_
  refine r_iconst (pc := 7) C (v := (0 : Int32)) dX11_led_7 (by decide) ?_
  refine r_istore_n (pc := 8) C dX11_led_8 rfl (by decide) (lv' := [(3, .int (0 : Int32)), (2, .int (0 : Int32)), (0, .ref v0), (1, .int v1)]) rfl ?_
  exact r_sub [2, 3, 1, 0] rfl (T_X11_led_9 C E ht hn h)
def P_X11_led (v0 : Nat) (v1 : Int32) (Q : Int32 → HS → Prop) (S : HS) : Prop := P_X11_led_0 Q v0 v1 S
theorem c_X11_led {l : Launch} {Ee : EE} {S : HS} {v0 : Nat} {v1 : Int32} {Q : Int32 → HS → Prop} (h : P_X11_led v0 v1 Q S) : MI l yX11_led cX11_led 4 (some .int) rm_X11_led Ee S [.ref v0, .int v1] Q :=
  openI (by decide) (by decide) (fun X C E ht hn hE hl => by subst hE; exact r_sub [0, 1] rfl (T_X11_led_0 C E ht hn h))
def rm_X11_lee : Room := { frames := 5, cells := 0, slots := 0, locals := 138 }
def P_X11_lee_0 (Q : Int64 → HS → Prop) (v0 : Nat) (v1 : Int32) (v2 : Int32) (v3 : Int32) (v4 : Int32) (v5 : Int32) (v6 : Int32) (v7 : Int32) (S : HS) : Prop := ob S v0 11 ∧ (P_X11_refusesTwo v0 v1 v2 v3 v4 v5 v6 (fun x3 S1 => Gr (sI S v0 0 (0 : Int32)) S1 → (((x3 ≤ 0) → (P_X11_together v0 v1 v2 v3 v4 v5 v6 (fun x7 S5 => Gr S1 S5 → (P_X11_told v0 x7 (2520 : Int64) v7 (fun x10 S8 => Gr S5 S8 → (Q x10 S8)) S5)) S1)) ∧ ((¬ x3 ≤ 0) → (P_X11_refused v0 x3 (fun x13 S11 => Gr S1 S11 → (Q x13.toInt64 S11)) S1)))) (sI S v0 0 (0 : Int32)))
set_option maxRecDepth 20000 in
set_option maxHeartbeats 4000000 in
theorem T_X11_lee_0 {X : CX} {Q : Int64 → HS → Prop} (C : Cx X cX11_lee RX11 9 rm_X11_lee) (E : ReJ X rm_X11_lee Q) (ht : (xh X).sig.returnType = (some .long)) (hn : (xh X).name = yX11_lee.name) {v0 : Nat} {v1 : Int32} {v2 : Int32} {v3 : Int32} {v4 : Int32} {v5 : Int32} {v6 : Int32} {v7 : Int32} {S : HS} (h : P_X11_lee_0 Q v0 v1 v2 v3 v4 v5 v6 v7 S) : WS X 9 0 0 0 [(0, .ref v0), (1, .int v1), (2, .int v2), (3, .int v3), (4, .int v4), (5, .int v5), (6, .int v6), (7, .int v7)] [] S := by
  refine r_aload_n (pc := 0) C dX11_lee_0 0 rfl ?_
  refine r_iconst (pc := 1) C (v := (0 : Int32)) dX11_lee_1 (by decide) ?_
  obtain ⟨o_v0, h⟩ := h
  refine r_puti (pc := 2) C pfL_X11_40 dX11_lee_2 o_v0 ?_
  refine r_aload_n (pc := 5) C dX11_lee_5 0 rfl ?_
  refine r_iload_n (pc := 6) C dX11_lee_6 1 rfl ?_
  refine r_iload_n (pc := 7) C dX11_lee_7 2 rfl ?_
  refine r_iload_n (pc := 8) C dX11_lee_8 3 rfl ?_
  refine r_iload (pc := 9) C dX11_lee_9 4 rfl ?_
  refine r_iload (pc := 11) C dX11_lee_11 5 rfl ?_
  refine r_iload (pc := 13) C dX11_lee_13 6 rfl ?_
  refine r_callVi0 (pc := 15) C (rest := []) (a := v0) o_v0 [.int v1, .int v2, .int v3, .int v4, .int v5, .int v6] yV_X11_refusesTwo g_1659 (c_X11_refusesTwo h) dX11_lee_15 rfl rfl (by decide) ⟨by decide, by decide⟩ ⟨by decide, by decide⟩ ⟨rfl, rfl⟩ (fun x3 S1 h g2 => ?_)
  have h := h g2
  have o_v0 := gr_ob g2 o_v0
  refine r_istore (pc := 18) C dX11_lee_18 (by decide) (lv' := [(8, .int x3), (0, .ref v0), (1, .int v1), (2, .int v2), (3, .int v3), (4, .int v4), (5, .int v5), (6, .int v6), (7, .int v7)]) rfl ?_
  refine r_iload (pc := 20) C dX11_lee_20 0 rfl ?_
  refine r_if_le (pc := 22) C (tgt := 35) dX11_lee_22 (by decide) (fun c4 => ?_) (fun c4 => ?_)
  · have h := h.1 c4
    refine r_aload_n (pc := 35) C dX11_lee_35 1 rfl ?_
    refine r_aload_n (pc := 36) C dX11_lee_36 1 rfl ?_
    refine r_iload_n (pc := 37) C dX11_lee_37 2 rfl ?_
    refine r_iload_n (pc := 38) C dX11_lee_38 3 rfl ?_
    refine r_iload_n (pc := 39) C dX11_lee_39 4 rfl ?_
    refine r_iload (pc := 40) C dX11_lee_40 5 rfl ?_
    refine r_iload (pc := 42) C dX11_lee_42 6 rfl ?_
    refine r_iload (pc := 44) C dX11_lee_44 7 rfl ?_
    refine r_callVl0 (pc := 46) C (rest := [.ref v0]) (a := v0) o_v0 [.int v1, .int v2, .int v3, .int v4, .int v5, .int v6] yV_X11_together g_1663 (c_X11_together h) dX11_lee_46 rfl rfl (by decide) ⟨by decide, by decide⟩ ⟨by decide, by decide⟩ ⟨rfl, rfl⟩ (fun x7 S5 h g6 => ?_)
    have h := h g6
    have o_v0 := gr_ob g6 o_v0
    refine r_ldc2 (pc := 49) C (v := (2520 : Int64)) dX11_lee_49 g_1585 ?_
    refine r_iload (pc := 52) C dX11_lee_52 8 rfl ?_
    refine r_callVl0 (pc := 54) C (rest := []) (a := v0) o_v0 [.long x7, .long (2520 : Int64), .int v7] yV_X11_told g_1586 (c_X11_told h) dX11_lee_54 rfl rfl (by decide) ⟨by decide, by decide⟩ ⟨by decide, by decide⟩ ⟨rfl, rfl⟩ (fun x10 S8 h g9 => ?_)
    have h := h g9
    have o_v0 := gr_ob g9 o_v0
    exact r_lret (pc := 57) C E ht dX11_lee_57 (by decide) (by decide) h
  · have h := h.2 c4
    refine r_aload_n (pc := 25) C dX11_lee_25 1 rfl ?_
    refine r_iload (pc := 26) C dX11_lee_26 0 rfl ?_
    refine r_callVi0 (pc := 28) C (rest := []) (a := v0) o_v0 [.int x3] yV_X11_refused g_1250 (c_X11_refused h) dX11_lee_28 rfl rfl (by decide) ⟨by decide, by decide⟩ ⟨by decide, by decide⟩ ⟨rfl, rfl⟩ (fun x13 S11 h g12 => ?_)
    have h := h g12
    have o_v0 := gr_ob g12 o_v0
    refine r_i2l (pc := 31) C dX11_lee_31 ?_
    refine r_goto (pc := 32) C (tgt := 57) dX11_lee_32 (by decide) ?_
    exact r_lret (pc := 57) C E ht dX11_lee_57 (by decide) (by decide) h
def P_X11_lee (v0 : Nat) (v1 : Int32) (v2 : Int32) (v3 : Int32) (v4 : Int32) (v5 : Int32) (v6 : Int32) (v7 : Int32) (Q : Int64 → HS → Prop) (S : HS) : Prop := P_X11_lee_0 Q v0 v1 v2 v3 v4 v5 v6 v7 S
theorem c_X11_lee {l : Launch} {Ee : EE} {S : HS} {v0 : Nat} {v1 : Int32} {v2 : Int32} {v3 : Int32} {v4 : Int32} {v5 : Int32} {v6 : Int32} {v7 : Int32} {Q : Int64 → HS → Prop} (h : P_X11_lee v0 v1 v2 v3 v4 v5 v6 v7 Q S) : MJ l yX11_lee cX11_lee 9 (some .long) rm_X11_lee Ee S [.ref v0, .int v1, .int v2, .int v3, .int v4, .int v5, .int v6, .int v7] Q :=
  openJ (by decide) (by decide) (fun X C E ht hn hE hl => by subst hE; exact r_sub [0, 1, 2, 3, 4, 5, 6, 7] rfl (T_X11_lee_0 C E ht hn h))
def rm_X11_lies : Room := { frames := 6, cells := 0, slots := 0, locals := 165 }
def P_X11_lies_50 (Q : Int32 → HS → Prop) (X22 : Nat → Int32 → Int32 → HS → Prop) (v0 : Nat) (v2 : Int32) (s0 : Int32) (s1 : Int32) (S : HS) : Prop := ∀ x1 : Int32, x1 = s0 ||| s1 → (∀ x2 : Int32, x2 = v2 + (1 : Int32) → (X22 v0 x1 x2 S))
set_option maxRecDepth 20000 in
set_option maxHeartbeats 4000000 in
theorem T_X11_lies_50 {X : CX} {Q : Int32 → HS → Prop} (C : Cx X cX11_lies RX11 3 rm_X11_lies) (E : ReI X rm_X11_lies Q) (ht : (xh X).sig.returnType = (some .int)) (hn : (xh X).name = yX11_lies.name) {X22 : Nat → Int32 → Int32 → HS → Prop} (hX22 : ∀ (v0 : Nat) (v1 : Int32) (v2 : Int32) (S : HS), X22 v0 v1 v2 S → WS X 3 0 0 22 [(0, .ref v0), (1, .int v1), (2, .int v2)] [] S) {v0 : Nat} {v2 : Int32} {s0 : Int32} {s1 : Int32} {S : HS} (h : P_X11_lies_50 Q X22 v0 v2 s0 s1 S) : WS X 3 0 0 50 [(0, .ref v0), (2, .int v2)] [.int s1, .int s0] S := by
  refine r_ior (pc := 50) C dX11_lies_50 ?_
  refine r_topi (fun x1 ex1 => ?_)
  have h := h x1 ex1
  refine r_istore_n (pc := 51) C dX11_lies_51 rfl (by decide) (lv' := [(1, .int x1), (0, .ref v0), (2, .int v2)]) rfl ?_
  obtain ⟨x2, ex2⟩ : ∃ z : Int32, z = v2 + (1 : Int32) := ⟨_, rfl⟩
  have h := h x2 ex2
  refine r_iinc (pc := 52) C (v := x2) (lv' := [(2, .int x2), (1, .int x1), (0, .ref v0)]) dX11_lies_52 2 rfl ex2.symm (by decide) rfl ?_
  refine r_goto (pc := 55) C (tgt := 22) dX11_lies_55 (by decide) ?_
  exact r_sub [2, 1, 0] rfl (hX22 v0 x1 x2 S h)
def B_X11_lies_22 (Q : Int32 → HS → Prop) (X22 : Nat → Int32 → Int32 → HS → Prop) (v0 : Nat) (v1 : Int32) (v2 : Int32) (S : HS) : Prop := ob S v0 11 ∧ (∃ a1 : Nat, fR S v0 3 = some a1 ∧ (ob S a1 10 ∧ (∀ x2 : Int32, x2 = fI S a1 5 → (((x2 ≤ v2) → (P_X11_good v0 v1 (fun x6 S4 => Gr S S4 → (Q x6 S4)) S)) ∧ ((¬ x2 ≤ v2) → (P_X11_fitOf v0 v2 (-1 : Int32) (fun x9 S7 => Gr S S7 → (((¬ x9 = 0) → (P_X11_lies_50 Q X22 v0 v2 v1 (0 : Int32) S7)) ∧ ((x9 = 0) → (P_X11_lies_50 Q X22 v0 v2 v1 ((1 : Int32) <<< (v2 &&& 31)) S7)))) S))))))
def P_X11_lies_22 (Q : Int32 → HS → Prop) (v0 : Nat) (v1 : Int32) (v2 : Int32) (S : HS) : Prop := ∀ X22 : Nat → Int32 → Int32 → HS → Prop, (∀ (v0 : Nat) (v1 : Int32) (v2 : Int32) (S : HS), B_X11_lies_22 Q X22 v0 v1 v2 S → X22 v0 v1 v2 S) → X22 v0 v1 v2 S
set_option maxRecDepth 20000 in
set_option maxHeartbeats 4000000 in
theorem TB_X11_lies_22 {X : CX} {Q : Int32 → HS → Prop} (C : Cx X cX11_lies RX11 3 rm_X11_lies) (E : ReI X rm_X11_lies Q) (ht : (xh X).sig.returnType = (some .int)) (hn : (xh X).name = yX11_lies.name) {X22 : Nat → Int32 → Int32 → HS → Prop} (hX22 : ∀ (v0 : Nat) (v1 : Int32) (v2 : Int32) (S : HS), X22 v0 v1 v2 S → WS X 3 0 0 22 [(0, .ref v0), (1, .int v1), (2, .int v2)] [] S) {v0 : Nat} {v1 : Int32} {v2 : Int32} {S : HS} (h : B_X11_lies_22 Q X22 v0 v1 v2 S) : WS X 3 0 0 22 [(0, .ref v0), (1, .int v1), (2, .int v2)] [] S := by
  refine r_iload_n (pc := 22) C dX11_lies_22 2 rfl ?_
  refine r_aload_n (pc := 23) C dX11_lies_23 0 rfl ?_
  obtain ⟨o_v0, h⟩ := h
  obtain ⟨a1, ea1, h⟩ := h
  refine r_getr (pc := 24) C fL_X11_338 dX11_lies_24 o_v0 ea1 ?_
  obtain ⟨o_a1, h⟩ := h
  refine r_getNi (pc := 27) C fN_X11_323 dX11_lies_27 o_a1 ?_
  refine r_topi (fun x2 ex2 => ?_)
  have h := h x2 ex2
  refine r_icmp_ge (pc := 30) C (tgt := 58) dX11_lies_30 (by decide) (fun c3 => ?_) (fun c3 => ?_)
  · have h := h.1 c3
    refine r_aload_n (pc := 58) C dX11_lies_58 0 rfl ?_
    refine r_iload_n (pc := 59) C dX11_lies_59 1 rfl ?_
    refine r_callVi0 (pc := 60) C (rest := []) (a := v0) o_v0 [.int v1] yV_X11_good g_1518 (c_X11_good h) dX11_lies_60 rfl rfl (by decide) ⟨by decide, by decide⟩ ⟨by decide, by decide⟩ ⟨rfl, rfl⟩ (fun x6 S4 h g5 => ?_)
    have h := h g5
    have o_a1 := gr_ob g5 o_a1
    have o_v0 := gr_ob g5 o_v0
    exact r_iret (pc := 63) C E ht dX11_lies_63 (by decide) (by decide) h
  · have h := h.2 c3
    refine r_iload_n (pc := 33) C dX11_lies_33 1 rfl ?_
    refine r_aload_n (pc := 34) C dX11_lies_34 0 rfl ?_
    refine r_iload_n (pc := 35) C dX11_lies_35 2 rfl ?_
    refine r_iconst (pc := 36) C (v := (-1 : Int32)) dX11_lies_36 (by decide) ?_
    refine r_callVi0 (pc := 37) C (rest := [.int v1]) (a := v0) o_v0 [.int v2, .int (-1 : Int32)] yV_X11_fitOf g_1755 (c_X11_fitOf h) dX11_lies_37 rfl rfl (by decide) ⟨by decide, by decide⟩ ⟨by decide, by decide⟩ ⟨rfl, rfl⟩ (fun x9 S7 h g8 => ?_)
    have h := h g8
    have o_a1 := gr_ob g8 o_a1
    have o_v0 := gr_ob g8 o_v0
    refine r_if_ne (pc := 40) C (tgt := 49) dX11_lies_40 (by decide) (fun c10 => ?_) (fun c10 => ?_)
    · have h := h.1 c10
      refine r_iconst (pc := 49) C (v := (0 : Int32)) dX11_lies_49 (by decide) ?_
      exact r_sub [0, 2] rfl (T_X11_lies_50 C E ht hn hX22 h)
    · have h := h.2 c10
      refine r_iconst (pc := 43) C (v := (1 : Int32)) dX11_lies_43 (by decide) ?_
      refine r_iload_n (pc := 44) C dX11_lies_44 2 rfl ?_
      refine r_ishl (pc := 45) C dX11_lies_45 ?_
      refine r_goto (pc := 46) C (tgt := 50) dX11_lies_46 (by decide) ?_
      exact r_sub [0, 2] rfl (T_X11_lies_50 C E ht hn hX22 h)
theorem T_X11_lies_22 {X : CX} {Q : Int32 → HS → Prop} (C : Cx X cX11_lies RX11 3 rm_X11_lies) (E : ReI X rm_X11_lies Q) (ht : (xh X).sig.returnType = (some .int)) (hn : (xh X).name = yX11_lies.name) {v0 : Nat} {v1 : Int32} {v2 : Int32} {S : HS} (h : P_X11_lies_22 Q v0 v1 v2 S) : WS X 3 0 0 22 [(0, .ref v0), (1, .int v1), (2, .int v2)] [] S :=
  h (fun v0 v1 v2 S => WS X 3 0 0 22 [(0, .ref v0), (1, .int v1), (2, .int v2)] [] S) (fun v0 v1 v2 S hh => TB_X11_lies_22 C E ht hn (fun v0 v1 v2 S z => z) hh)
def P_X11_lies_0 (Q : Int32 → HS → Prop) (v0 : Nat) (S : HS) : Prop := ob S v0 11 ∧ ((fR (sI S v0 0 (0 : Int32)) v0 3 = none → (P_X11_refused v0 (1 : Int32) (fun x5 S3 => Gr (sI S v0 0 (0 : Int32)) S3 → (Q x5 S3)) (sI S v0 0 (0 : Int32)))) ∧ (∀ a1 : Nat, fR (sI S v0 0 (0 : Int32)) v0 3 = some a1 → (P_X11_lies_22 Q v0 (0 : Int32) (0 : Int32) (sI S v0 0 (0 : Int32)))))
set_option maxRecDepth 20000 in
set_option maxHeartbeats 4000000 in
theorem T_X11_lies_0 {X : CX} {Q : Int32 → HS → Prop} (C : Cx X cX11_lies RX11 3 rm_X11_lies) (E : ReI X rm_X11_lies Q) (ht : (xh X).sig.returnType = (some .int)) (hn : (xh X).name = yX11_lies.name) {v0 : Nat} {S : HS} (h : P_X11_lies_0 Q v0 S) : WS X 3 0 0 0 [(0, .ref v0)] [] S := by
  refine r_aload_n (pc := 0) C dX11_lies_0 0 rfl ?_
  refine r_iconst (pc := 1) C (v := (0 : Int32)) dX11_lies_1 (by decide) ?_
  obtain ⟨o_v0, h⟩ := h
  refine r_puti (pc := 2) C pfL_X11_40 dX11_lies_2 o_v0 ?_
  refine r_aload_n (pc := 5) C dX11_lies_5 0 rfl ?_
  rcases e2 : fR (sI S v0 0 (0 : Int32)) v0 3 with _ | a1
  · refine r_get0 (pc := 6) C fL_X11_338 dX11_lies_6 o_v0 e2 ?_
    refine r_ifnonnull0 (pc := 9) C dX11_lies_9 ?_
    have h := h.1 e2
    refine r_aload_n (pc := 12) C dX11_lies_12 0 rfl ?_
    refine r_iconst (pc := 13) C (v := (1 : Int32)) dX11_lies_13 (by decide) ?_
    refine r_callVi0 (pc := 14) C (rest := []) (a := v0) o_v0 [.int (1 : Int32)] yV_X11_refused g_1250 (c_X11_refused h) dX11_lies_14 rfl rfl (by decide) ⟨by decide, by decide⟩ ⟨by decide, by decide⟩ ⟨rfl, rfl⟩ (fun x5 S3 h g4 => ?_)
    have h := h g4
    have o_v0 := gr_ob g4 o_v0
    exact r_iret (pc := 17) C E ht dX11_lies_17 (by decide) (by decide) h
  · refine r_getr (pc := 6) C fL_X11_338 dX11_lies_6 o_v0 e2 ?_
    refine r_ifnonnull (pc := 9) C (tgt := 18) dX11_lies_9 (by decide) ?_
    have h := h.2 a1 e2
    refine r_iconst (pc := 18) C (v := (0 : Int32)) dX11_lies_18 (by decide) ?_
    refine r_istore_n (pc := 19) C dX11_lies_19 rfl (by decide) (lv' := [(1, .int (0 : Int32)), (0, .ref v0)]) rfl ?_
    refine r_iconst (pc := 20) C (v := (0 : Int32)) dX11_lies_20 (by decide) ?_
    refine r_istore_n (pc := 21) C dX11_lies_21 rfl (by decide) (lv' := [(2, .int (0 : Int32)), (1, .int (0 : Int32)), (0, .ref v0)]) rfl ?_
    exact r_sub [2, 1, 0] rfl (T_X11_lies_22 C E ht hn h)
def P_X11_lies (v0 : Nat) (Q : Int32 → HS → Prop) (S : HS) : Prop := P_X11_lies_0 Q v0 S
theorem c_X11_lies {l : Launch} {Ee : EE} {S : HS} {v0 : Nat} {Q : Int32 → HS → Prop} (h : P_X11_lies v0 Q S) : MI l yX11_lies cX11_lies 3 (some .int) rm_X11_lies Ee S [.ref v0] Q :=
  openI (by decide) (by decide) (fun X C E ht hn hE hl => by subst hE; exact r_sub [0] rfl (T_X11_lies_0 C E ht hn h))
def rm_X11_mark : Room := { frames := 1, cells := 0, slots := 0, locals := 21 }
def B_X11_mark_34 (Q : Int32 → HS → Prop) (X34 : Nat → Int32 → HS → Prop) (v0 : Nat) (v1 : Int32) (S : HS) : Prop := (((7 : Int32) ≤ v1) → (ob S v0 11 ∧ (∀ x2 : Int32, x2 = fI S v0 25 → (∀ x3 : Int32, x3 = x2 + (1 : Int32) → (∀ x4 : Int32, x4 = fI (sI S v0 25 x3) v0 25 → (P_X11_good v0 (x4 - (1 : Int32)) (fun x7 S5 => Gr (sI S v0 25 x3) S5 → (Q x7 S5)) (sI S v0 25 x3))))))) ∧ ((¬ (7 : Int32) ≤ v1) → (ob S v0 11 ∧ (∃ a8 : Nat, fR S v0 23 = some a8 ∧ (∀ x9 : Int32, x9 = fI S v0 25 → (∃ a10 : Nat, fR S v0 21 = some a10 ∧ (ob S a10 14 ∧ (vp_in v1 (hN S a10) ∧ ∀ x12 : Int64, x12 = fJ S a10 v1.toNatClampNeg → (ob S a8 14 ∧ (vp_in (((7 : Int32) * x9) + v1) (hN S a8) ∧ (∀ x14 : Int32, x14 = v1 + (1 : Int32) → (X34 v0 x14 (sJ S a8 (((7 : Int32) * x9) + v1).toNatClampNeg x12))))))))))))
def P_X11_mark_34 (Q : Int32 → HS → Prop) (v0 : Nat) (v1 : Int32) (S : HS) : Prop := ∀ X34 : Nat → Int32 → HS → Prop, (∀ (v0 : Nat) (v1 : Int32) (S : HS), B_X11_mark_34 Q X34 v0 v1 S → X34 v0 v1 S) → X34 v0 v1 S
set_option maxRecDepth 20000 in
set_option maxHeartbeats 4000000 in
theorem TB_X11_mark_34 {X : CX} {Q : Int32 → HS → Prop} (C : Cx X cX11_mark RX11 2 rm_X11_mark) (E : ReI X rm_X11_mark Q) (ht : (xh X).sig.returnType = (some .int)) (hn : (xh X).name = yX11_mark.name) {X34 : Nat → Int32 → HS → Prop} (hX34 : ∀ (v0 : Nat) (v1 : Int32) (S : HS), X34 v0 v1 S → WS X 2 0 0 34 [(0, .ref v0), (1, .int v1)] [] S) {v0 : Nat} {v1 : Int32} {S : HS} (h : B_X11_mark_34 Q X34 v0 v1 S) : WS X 2 0 0 34 [(0, .ref v0), (1, .int v1)] [] S := by
  refine r_iload_n (pc := 34) C dX11_mark_34 1 rfl ?_
  refine r_bipush (pc := 35) C (v := (7 : Int32)) dX11_mark_35 (by decide) ?_
  refine r_icmp_ge (pc := 37) C (tgt := 66) dX11_mark_37 (by decide) (fun c1 => ?_) (fun c1 => ?_)
  · have h := h.1 c1
    refine r_aload_n (pc := 66) C dX11_mark_66 0 rfl ?_
    refine r_dup (pc := 67) C dX11_mark_67 rfl ?_
    obtain ⟨o_v0, h⟩ := h
    refine r_geti (pc := 68) C fL_X11_343 dX11_mark_68 o_v0 ?_
    refine r_topi (fun x2 ex2 => ?_)
    have h := h x2 ex2
    refine r_iconst (pc := 71) C (v := (1 : Int32)) dX11_mark_71 (by decide) ?_
    refine r_iadd (pc := 72) C dX11_mark_72 ?_
    refine r_topi (fun x3 ex3 => ?_)
    have h := h x3 ex3
    refine r_puti (pc := 73) C pfL_X11_343 dX11_mark_73 o_v0 ?_
    refine r_aload_n (pc := 76) C dX11_mark_76 0 rfl ?_
    refine r_aload_n (pc := 77) C dX11_mark_77 0 rfl ?_
    refine r_geti (pc := 78) C fL_X11_343 dX11_mark_78 o_v0 ?_
    refine r_topi (fun x4 ex4 => ?_)
    have h := h x4 ex4
    refine r_iconst (pc := 81) C (v := (1 : Int32)) dX11_mark_81 (by decide) ?_
    refine r_isub (pc := 82) C dX11_mark_82 ?_
    refine r_callVi0 (pc := 83) C (rest := []) (a := v0) o_v0 [.int (x4 - (1 : Int32))] yV_X11_good g_1518 (c_X11_good h) dX11_mark_83 rfl rfl (by decide) ⟨by decide, by decide⟩ ⟨by decide, by decide⟩ ⟨rfl, rfl⟩ (fun x7 S5 h g6 => ?_)
    have h := h g6
    have o_v0 := gr_ob g6 o_v0
    exact r_iret (pc := 86) C E ht dX11_mark_86 (by decide) (by decide) h
  · have h := h.2 c1
    refine r_aload_n (pc := 40) C dX11_mark_40 0 rfl ?_
    obtain ⟨o_v0, h⟩ := h
    obtain ⟨a8, ea8, h⟩ := h
    refine r_getr (pc := 41) C fL_X11_37 dX11_mark_41 o_v0 ea8 ?_
    refine r_bipush (pc := 44) C (v := (7 : Int32)) dX11_mark_44 (by decide) ?_
    refine r_aload_n (pc := 46) C dX11_mark_46 0 rfl ?_
    refine r_geti (pc := 47) C fL_X11_343 dX11_mark_47 o_v0 ?_
    refine r_topi (fun x9 ex9 => ?_)
    have h := h x9 ex9
    refine r_imul (pc := 50) C dX11_mark_50 ?_
    refine r_iload_n (pc := 51) C dX11_mark_51 1 rfl ?_
    refine r_iadd (pc := 52) C dX11_mark_52 ?_
    refine r_aload_n (pc := 53) C dX11_mark_53 0 rfl ?_
    obtain ⟨a10, ea10, h⟩ := h
    refine r_getr (pc := 54) C fL_X11_31 dX11_mark_54 o_v0 ea10 ?_
    refine r_iload_n (pc := 57) C dX11_mark_57 1 rfl ?_
    obtain ⟨o_a10, h⟩ := h
    obtain ⟨i11, h⟩ := h
    refine r_lald (pc := 58) C dX11_mark_58 o_a10 i11 ?_
    refine r_topl (fun x12 ex12 => ?_)
    have h := h x12 ex12
    obtain ⟨o_a8, h⟩ := h
    obtain ⟨i13, h⟩ := h
    refine r_last (pc := 59) C dX11_mark_59 o_a8 i13 ?_
    obtain ⟨x14, ex14⟩ : ∃ z : Int32, z = v1 + (1 : Int32) := ⟨_, rfl⟩
    have h := h x14 ex14
    refine r_iinc (pc := 60) C (v := x14) (lv' := [(1, .int x14), (0, .ref v0)]) dX11_mark_60 1 rfl ex14.symm (by decide) rfl ?_
    refine r_goto (pc := 63) C (tgt := 34) dX11_mark_63 (by decide) ?_
    exact r_sub [1, 0] rfl (hX34 v0 x14 (sJ S a8 (((7 : Int32) * x9) + v1).toNatClampNeg x12) h)
theorem T_X11_mark_34 {X : CX} {Q : Int32 → HS → Prop} (C : Cx X cX11_mark RX11 2 rm_X11_mark) (E : ReI X rm_X11_mark Q) (ht : (xh X).sig.returnType = (some .int)) (hn : (xh X).name = yX11_mark.name) {v0 : Nat} {v1 : Int32} {S : HS} (h : P_X11_mark_34 Q v0 v1 S) : WS X 2 0 0 34 [(0, .ref v0), (1, .int v1)] [] S :=
  h (fun v0 v1 S => WS X 2 0 0 34 [(0, .ref v0), (1, .int v1)] [] S) (fun v0 v1 S hh => TB_X11_mark_34 C E ht hn (fun v0 v1 S z => z) hh)
def P_X11_mark_0 (Q : Int32 → HS → Prop) (v0 : Nat) (S : HS) : Prop := ob S v0 11 ∧ (P_X11_isDay v0 (fun x3 S1 => Gr (sI S v0 0 (0 : Int32)) S1 → bl x3 → (((¬ x3 = 0) → (∀ x5 : Int32, x5 = fI S1 v0 25 → (((¬ x5 = (3 : Int32)) → (P_X11_mark_34 Q v0 (0 : Int32) S1)) ∧ ((x5 = (3 : Int32)) → (P_X11_refused v0 (3 : Int32) (fun x9 S7 => Gr S1 S7 → (Q x9 S7)) S1))))) ∧ ((x3 = 0) → (P_X11_refused v0 (1 : Int32) (fun x12 S10 => Gr S1 S10 → (Q x12 S10)) S1)))) (sI S v0 0 (0 : Int32)))
set_option maxRecDepth 20000 in
set_option maxHeartbeats 4000000 in
theorem T_X11_mark_0 {X : CX} {Q : Int32 → HS → Prop} (C : Cx X cX11_mark RX11 2 rm_X11_mark) (E : ReI X rm_X11_mark Q) (ht : (xh X).sig.returnType = (some .int)) (hn : (xh X).name = yX11_mark.name) {v0 : Nat} {S : HS} (h : P_X11_mark_0 Q v0 S) : WS X 2 0 0 0 [(0, .ref v0)] [] S := by
  refine r_aload_n (pc := 0) C dX11_mark_0 0 rfl ?_
  refine r_iconst (pc := 1) C (v := (0 : Int32)) dX11_mark_1 (by decide) ?_
  obtain ⟨o_v0, h⟩ := h
  refine r_puti (pc := 2) C pfL_X11_40 dX11_mark_2 o_v0 ?_
  refine r_aload_n (pc := 5) C dX11_mark_5 0 rfl ?_
  refine r_callVi0 (pc := 6) C (rest := []) (a := v0) o_v0 [] yV_X11_isDay g_1779 (c_X11_isDay h) dX11_mark_6 rfl rfl (by decide) ⟨by decide, by decide⟩ ⟨by decide, by decide⟩ ⟨rfl, rfl⟩ (fun x3 S1 h g2 => ?_)
  have bx3 := h.1
  have h := h.2 g2 bx3
  have o_v0 := gr_ob g2 o_v0
  refine r_if_ne (pc := 9) C (tgt := 18) dX11_mark_9 (by decide) (fun c4 => ?_) (fun c4 => ?_)
  · have h := h.1 c4
    refine r_aload_n (pc := 18) C dX11_mark_18 0 rfl ?_
    refine r_geti (pc := 19) C fL_X11_343 dX11_mark_19 o_v0 ?_
    refine r_topi (fun x5 ex5 => ?_)
    have h := h x5 ex5
    refine r_iconst (pc := 22) C (v := (3 : Int32)) dX11_mark_22 (by decide) ?_
    refine r_icmp_ne (pc := 23) C (tgt := 32) dX11_mark_23 (by decide) (fun c6 => ?_) (fun c6 => ?_)
    · have h := h.1 c6
      refine r_iconst (pc := 32) C (v := (0 : Int32)) dX11_mark_32 (by decide) ?_
      refine r_istore_n (pc := 33) C dX11_mark_33 rfl (by decide) (lv' := [(1, .int (0 : Int32)), (0, .ref v0)]) rfl ?_
      exact r_sub [1, 0] rfl (T_X11_mark_34 C E ht hn h)
    · have h := h.2 c6
      refine r_aload_n (pc := 26) C dX11_mark_26 0 rfl ?_
      refine r_iconst (pc := 27) C (v := (3 : Int32)) dX11_mark_27 (by decide) ?_
      refine r_callVi0 (pc := 28) C (rest := []) (a := v0) o_v0 [.int (3 : Int32)] yV_X11_refused g_1250 (c_X11_refused h) dX11_mark_28 rfl rfl (by decide) ⟨by decide, by decide⟩ ⟨by decide, by decide⟩ ⟨rfl, rfl⟩ (fun x9 S7 h g8 => ?_)
      have h := h g8
      have o_v0 := gr_ob g8 o_v0
      exact r_iret (pc := 31) C E ht dX11_mark_31 (by decide) (by decide) h
  · have h := h.2 c4
    refine r_aload_n (pc := 12) C dX11_mark_12 0 rfl ?_
    refine r_iconst (pc := 13) C (v := (1 : Int32)) dX11_mark_13 (by decide) ?_
    refine r_callVi0 (pc := 14) C (rest := []) (a := v0) o_v0 [.int (1 : Int32)] yV_X11_refused g_1250 (c_X11_refused h) dX11_mark_14 rfl rfl (by decide) ⟨by decide, by decide⟩ ⟨by decide, by decide⟩ ⟨rfl, rfl⟩ (fun x12 S10 h g11 => ?_)
    have h := h g11
    have o_v0 := gr_ob g11 o_v0
    exact r_iret (pc := 17) C E ht dX11_mark_17 (by decide) (by decide) h
def P_X11_mark (v0 : Nat) (Q : Int32 → HS → Prop) (S : HS) : Prop := P_X11_mark_0 Q v0 S
theorem c_X11_mark {l : Launch} {Ee : EE} {S : HS} {v0 : Nat} {Q : Int32 → HS → Prop} (h : P_X11_mark v0 Q S) : MI l yX11_mark cX11_mark 2 (some .int) rm_X11_mark Ee S [.ref v0] Q :=
  openI (by decide) (by decide) (fun X C E ht hn hE hl => by subst hE; exact r_sub [0] rfl (T_X11_mark_0 C E ht hn h))
