def rm_X11_partsOf : Room := { frames := 4, cells := 0, slots := 0, locals := 109 }
def P_X11_partsOf_0 (Q : Int64 → HS → Prop) (v0 : Nat) (v1 : Int32) (v2 : Int32) (v3 : Int32) (v4 : Int32) (v5 : Int32) (v6 : Int32) (S : HS) : Prop := ob S v0 11 ∧ (P_X11_inTime v0 v1 v2 v3 v4 v5 v6 (0 : Int32) (0 : Int32) (fun x3 S1 => Gr S S1 → (∃ a4 : Nat, fR S1 v0 3 = some a4 ∧ (ob S1 a4 10 ∧ (∃ a5 : Nat, fR S1 a4 16 = some a5 ∧ (ob S1 a5 13 ∧ (vp_in v2 (hN S1 a5) ∧ ∀ x7 : Int32, x7 = fI S1 a5 v2.toNatClampNeg → (∃ a8 : Nat, fR S1 v0 3 = some a8 ∧ (ob S1 a8 10 ∧ (∃ a9 : Nat, fR S1 a8 17 = some a9 ∧ (ob S1 a9 13 ∧ (vp_in v2 (hN S1 a9) ∧ ∀ x11 : Int32, x11 = fI S1 a9 v2.toNatClampNeg → (¬ v5 = 0 ∧ ∀ x13 : Int32, x13 = (2520 : Int32) / v5 → (Q ((x3.toInt64 * ((x7 - x11).toInt64)) * x13.toInt64) S1))))))))))))) S)
set_option maxRecDepth 20000 in
set_option maxHeartbeats 4000000 in
theorem T_X11_partsOf_0 {X : CX} {Q : Int64 → HS → Prop} (C : Cx X cX11_partsOf RX11 7 rm_X11_partsOf) (E : ReJ X rm_X11_partsOf Q) (ht : (xh X).sig.returnType = (some .long)) (hn : (xh X).name = yX11_partsOf.name) {v0 : Nat} {v1 : Int32} {v2 : Int32} {v3 : Int32} {v4 : Int32} {v5 : Int32} {v6 : Int32} {S : HS} (h : P_X11_partsOf_0 Q v0 v1 v2 v3 v4 v5 v6 S) : WS X 7 0 0 0 [(0, .ref v0), (1, .int v1), (2, .int v2), (3, .int v3), (4, .int v4), (5, .int v5), (6, .int v6)] [] S := by
  refine r_aload_n (pc := 0) C dX11_partsOf_0 0 rfl ?_
  refine r_iload_n (pc := 1) C dX11_partsOf_1 1 rfl ?_
  refine r_iload_n (pc := 2) C dX11_partsOf_2 2 rfl ?_
  refine r_iload_n (pc := 3) C dX11_partsOf_3 3 rfl ?_
  refine r_iload (pc := 4) C dX11_partsOf_4 4 rfl ?_
  refine r_iload (pc := 6) C dX11_partsOf_6 5 rfl ?_
  refine r_iload (pc := 8) C dX11_partsOf_8 6 rfl ?_
  refine r_iconst (pc := 10) C (v := (0 : Int32)) dX11_partsOf_10 (by decide) ?_
  refine r_iconst (pc := 11) C (v := (0 : Int32)) dX11_partsOf_11 (by decide) ?_
  obtain ⟨o_v0, h⟩ := h
  refine r_callVi0 (pc := 12) C (rest := []) (a := v0) o_v0 [.int v1, .int v2, .int v3, .int v4, .int v5, .int v6, .int (0 : Int32), .int (0 : Int32)] yV_X11_inTime g_1558 (c_X11_inTime h) dX11_partsOf_12 rfl rfl (Nat.le_of_ble_eq_true rfl) ⟨by decide, by decide⟩ ⟨by decide, by decide⟩ ⟨rfl, rfl⟩ (fun x3 S1 h g2 => ?_)
  have h := h g2
  have o_v0 := gr_ob g2 o_v0
  refine r_i2l (pc := 15) C dX11_partsOf_15 ?_
  refine r_aload_n (pc := 16) C dX11_partsOf_16 0 rfl ?_
  obtain ⟨a4, ea4, h⟩ := h
  refine r_getr (pc := 17) C fL_X11_338 dX11_partsOf_17 o_v0 ea4 ?_
  obtain ⟨o_a4, h⟩ := h
  obtain ⟨a5, ea5, h⟩ := h
  refine r_getNr (pc := 20) C fN_X11_279 dX11_partsOf_20 o_a4 ea5 ?_
  refine r_iload_n (pc := 23) C dX11_partsOf_23 2 rfl ?_
  obtain ⟨o_a5, h⟩ := h
  obtain ⟨i6, h⟩ := h
  refine r_iald (pc := 24) C dX11_partsOf_24 o_a5 i6 ?_
  refine r_topi (fun x7 ex7 => ?_)
  have h := h x7 ex7
  refine r_aload_n (pc := 25) C dX11_partsOf_25 0 rfl ?_
  obtain ⟨a8, ea8, h⟩ := h
  refine r_getr (pc := 26) C fL_X11_338 dX11_partsOf_26 o_v0 ea8 ?_
  obtain ⟨o_a8, h⟩ := h
  obtain ⟨a9, ea9, h⟩ := h
  refine r_getNr (pc := 29) C fN_X11_282 dX11_partsOf_29 o_a8 ea9 ?_
  refine r_iload_n (pc := 32) C dX11_partsOf_32 2 rfl ?_
  obtain ⟨o_a9, h⟩ := h
  obtain ⟨i10, h⟩ := h
  refine r_iald (pc := 33) C dX11_partsOf_33 o_a9 i10 ?_
  refine r_topi (fun x11 ex11 => ?_)
  have h := h x11 ex11
  refine r_isub (pc := 34) C dX11_partsOf_34 ?_
  refine r_i2l (pc := 35) C dX11_partsOf_35 ?_
  refine r_lmul (pc := 36) C dX11_partsOf_36 ?_
  refine r_sipush (pc := 37) C (v := (2520 : Int32)) dX11_partsOf_37 (by decide) ?_
  refine r_iload (pc := 40) C dX11_partsOf_40 5 rfl ?_
  obtain ⟨q12, h⟩ := h
  refine r_idiv (pc := 42) C dX11_partsOf_42 q12 ?_
  refine r_topi (fun x13 ex13 => ?_)
  have h := h x13 ex13
  refine r_i2l (pc := 43) C dX11_partsOf_43 ?_
  refine r_lmul (pc := 44) C dX11_partsOf_44 ?_
  exact r_lret (pc := 45) C E ht dX11_partsOf_45 (by decide) (by decide) h
def P_X11_partsOf (v0 : Nat) (v1 : Int32) (v2 : Int32) (v3 : Int32) (v4 : Int32) (v5 : Int32) (v6 : Int32) (Q : Int64 → HS → Prop) (S : HS) : Prop := P_X11_partsOf_0 Q v0 v1 v2 v3 v4 v5 v6 S
theorem c_X11_partsOf {l : Launch} {Ee : EE} {S : HS} {v0 : Nat} {v1 : Int32} {v2 : Int32} {v3 : Int32} {v4 : Int32} {v5 : Int32} {v6 : Int32} {Q : Int64 → HS → Prop} (h : P_X11_partsOf v0 v1 v2 v3 v4 v5 v6 Q S) : MJ l yX11_partsOf cX11_partsOf 7 (some .long) rm_X11_partsOf Ee S [.ref v0, .int v1, .int v2, .int v3, .int v4, .int v5, .int v6] Q :=
  openJ (by decide) (Nat.le_of_ble_eq_true rfl) (fun X C E ht hn hE hl => by subst hE; exact r_sub [0, 1, 2, 3, 4, 5, 6] rfl (T_X11_partsOf_0 C E ht hn h))
def rm_X11_wetOf : Room := { frames := 5, cells := 0, slots := 0, locals := 135 }
def B_X11_wetOf_6 (Q : Int64 → HS → Prop) (X6 : Nat → Int32 → Int32 → Int32 → Int32 → Int32 → Int64 → Int32 → HS → Prop) (v0 : Nat) (v1 : Int32) (v2 : Int32) (v3 : Int32) (v4 : Int32) (v5 : Int32) (v6 : Int64) (v8 : Int32) (S : HS) : Prop := (((5 : Int32) ≤ v8) → (Q v6 S)) ∧ ((¬ (5 : Int32) ≤ v8) → (ob S v0 11 ∧ (P_X11_partsOf v0 v1 v2 v3 v4 v5 v8 (fun x4 S2 => Gr S S2 → (∀ x5 : Int64, x5 = v6 + x4 → (∀ x6 : Int32, x6 = v8 + (1 : Int32) → (X6 v0 v1 v2 v3 v4 v5 x5 x6 S2)))) S)))
def P_X11_wetOf_6 (Q : Int64 → HS → Prop) (v0 : Nat) (v1 : Int32) (v2 : Int32) (v3 : Int32) (v4 : Int32) (v5 : Int32) (v6 : Int64) (v8 : Int32) (S : HS) : Prop := ∀ X6 : Nat → Int32 → Int32 → Int32 → Int32 → Int32 → Int64 → Int32 → HS → Prop, (∀ (v0 : Nat) (v1 : Int32) (v2 : Int32) (v3 : Int32) (v4 : Int32) (v5 : Int32) (v6 : Int64) (v8 : Int32) (S : HS), B_X11_wetOf_6 Q X6 v0 v1 v2 v3 v4 v5 v6 v8 S → X6 v0 v1 v2 v3 v4 v5 v6 v8 S) → X6 v0 v1 v2 v3 v4 v5 v6 v8 S
set_option maxRecDepth 20000 in
set_option maxHeartbeats 4000000 in
theorem TB_X11_wetOf_6 {X : CX} {Q : Int64 → HS → Prop} (C : Cx X cX11_wetOf RX11 9 rm_X11_wetOf) (E : ReJ X rm_X11_wetOf Q) (ht : (xh X).sig.returnType = (some .long)) (hn : (xh X).name = yX11_wetOf.name) {X6 : Nat → Int32 → Int32 → Int32 → Int32 → Int32 → Int64 → Int32 → HS → Prop} (hX6 : ∀ (v0 : Nat) (v1 : Int32) (v2 : Int32) (v3 : Int32) (v4 : Int32) (v5 : Int32) (v6 : Int64) (v8 : Int32) (S : HS), X6 v0 v1 v2 v3 v4 v5 v6 v8 S → WS X 9 0 0 6 [(0, .ref v0), (1, .int v1), (2, .int v2), (3, .int v3), (4, .int v4), (5, .int v5), (6, .long v6), (8, .int v8)] [] S) {v0 : Nat} {v1 : Int32} {v2 : Int32} {v3 : Int32} {v4 : Int32} {v5 : Int32} {v6 : Int64} {v8 : Int32} {S : HS} (h : B_X11_wetOf_6 Q X6 v0 v1 v2 v3 v4 v5 v6 v8 S) : WS X 9 0 0 6 [(0, .ref v0), (1, .int v1), (2, .int v2), (3, .int v3), (4, .int v4), (5, .int v5), (6, .long v6), (8, .int v8)] [] S := by
  refine r_iload (pc := 6) C dX11_wetOf_6 7 rfl ?_
  refine r_iconst (pc := 8) C (v := (5 : Int32)) dX11_wetOf_8 (by decide) ?_
  refine r_icmp_ge (pc := 9) C (tgt := 36) dX11_wetOf_9 (by decide) (fun c1 => ?_) (fun c1 => ?_)
  · have h := h.1 c1
    refine r_lload (pc := 36) C dX11_wetOf_36 6 rfl ?_
    exact r_lret (pc := 38) C E ht dX11_wetOf_38 (by decide) (by decide) h
  · have h := h.2 c1
    refine r_lload (pc := 12) C dX11_wetOf_12 6 rfl ?_
    refine r_aload_n (pc := 14) C dX11_wetOf_14 0 rfl ?_
    refine r_iload_n (pc := 15) C dX11_wetOf_15 1 rfl ?_
    refine r_iload_n (pc := 16) C dX11_wetOf_16 2 rfl ?_
    refine r_iload_n (pc := 17) C dX11_wetOf_17 3 rfl ?_
    refine r_iload (pc := 18) C dX11_wetOf_18 4 rfl ?_
    refine r_iload (pc := 20) C dX11_wetOf_20 5 rfl ?_
    refine r_iload (pc := 22) C dX11_wetOf_22 7 rfl ?_
    obtain ⟨o_v0, h⟩ := h
    refine r_callVl0 (pc := 24) C (rest := [.long v6]) (a := v0) o_v0 [.int v1, .int v2, .int v3, .int v4, .int v5, .int v8] yV_X11_partsOf g_1554 (c_X11_partsOf h) dX11_wetOf_24 rfl rfl (Nat.le_of_ble_eq_true rfl) ⟨by decide, by decide⟩ ⟨by decide, by decide⟩ ⟨rfl, rfl⟩ (fun x4 S2 h g3 => ?_)
    have h := h g3
    have o_v0 := gr_ob g3 o_v0
    refine r_ladd (pc := 27) C dX11_wetOf_27 ?_
    refine r_topl (fun x5 ex5 => ?_)
    have h := h x5 ex5
    refine r_lstore (pc := 28) C dX11_wetOf_28 (by decide) (lv' := [(6, .long x5), (0, .ref v0), (1, .int v1), (2, .int v2), (3, .int v3), (4, .int v4), (5, .int v5), (8, .int v8)]) rfl ?_
    obtain ⟨x6, ex6⟩ : ∃ z : Int32, z = v8 + (1 : Int32) := ⟨_, rfl⟩
    have h := h x6 ex6
    refine r_iinc (pc := 30) C (v := x6) (lv' := [(8, .int x6), (6, .long x5), (0, .ref v0), (1, .int v1), (2, .int v2), (3, .int v3), (4, .int v4), (5, .int v5)]) dX11_wetOf_30 7 rfl ex6.symm (by decide) rfl ?_
    refine r_goto (pc := 33) C (tgt := 6) dX11_wetOf_33 (by decide) ?_
    exact r_sub [2, 3, 4, 5, 6, 7, 1, 0] rfl (hX6 v0 v1 v2 v3 v4 v5 x5 x6 S2 h)
theorem T_X11_wetOf_6 {X : CX} {Q : Int64 → HS → Prop} (C : Cx X cX11_wetOf RX11 9 rm_X11_wetOf) (E : ReJ X rm_X11_wetOf Q) (ht : (xh X).sig.returnType = (some .long)) (hn : (xh X).name = yX11_wetOf.name) {v0 : Nat} {v1 : Int32} {v2 : Int32} {v3 : Int32} {v4 : Int32} {v5 : Int32} {v6 : Int64} {v8 : Int32} {S : HS} (h : P_X11_wetOf_6 Q v0 v1 v2 v3 v4 v5 v6 v8 S) : WS X 9 0 0 6 [(0, .ref v0), (1, .int v1), (2, .int v2), (3, .int v3), (4, .int v4), (5, .int v5), (6, .long v6), (8, .int v8)] [] S :=
  h (fun v0 v1 v2 v3 v4 v5 v6 v8 S => WS X 9 0 0 6 [(0, .ref v0), (1, .int v1), (2, .int v2), (3, .int v3), (4, .int v4), (5, .int v5), (6, .long v6), (8, .int v8)] [] S) (fun v0 v1 v2 v3 v4 v5 v6 v8 S hh => TB_X11_wetOf_6 C E ht hn (fun v0 v1 v2 v3 v4 v5 v6 v8 S z => z) hh)
def P_X11_wetOf_0 (Q : Int64 → HS → Prop) (v0 : Nat) (v1 : Int32) (v2 : Int32) (v3 : Int32) (v4 : Int32) (v5 : Int32) (S : HS) : Prop := P_X11_wetOf_6 Q v0 v1 v2 v3 v4 v5 (0 : Int64) (0 : Int32) S
set_option maxRecDepth 20000 in
set_option maxHeartbeats 4000000 in
theorem T_X11_wetOf_0 {X : CX} {Q : Int64 → HS → Prop} (C : Cx X cX11_wetOf RX11 9 rm_X11_wetOf) (E : ReJ X rm_X11_wetOf Q) (ht : (xh X).sig.returnType = (some .long)) (hn : (xh X).name = yX11_wetOf.name) {v0 : Nat} {v1 : Int32} {v2 : Int32} {v3 : Int32} {v4 : Int32} {v5 : Int32} {S : HS} (h : P_X11_wetOf_0 Q v0 v1 v2 v3 v4 v5 S) : WS X 9 0 0 0 [(0, .ref v0), (1, .int v1), (2, .int v2), (3, .int v3), (4, .int v4), (5, .int v5)] [] S := by
  refine r_lconst (pc := 0) C (v := (0 : Int64)) dX11_wetOf_0 (by decide) ?_
  refine r_lstore (pc := 1) C dX11_wetOf_1 (by decide) (lv' := [(6, .long (0 : Int64)), (0, .ref v0), (1, .int v1), (2, .int v2), (3, .int v3), (4, .int v4), (5, .int v5)]) rfl ?_
  refine r_iconst (pc := 3) C (v := (0 : Int32)) dX11_wetOf_3 (by decide) ?_
  refine r_istore (pc := 4) C dX11_wetOf_4 (by decide) (lv' := [(8, .int (0 : Int32)), (6, .long (0 : Int64)), (0, .ref v0), (1, .int v1), (2, .int v2), (3, .int v3), (4, .int v4), (5, .int v5)]) rfl ?_
  exact r_sub [2, 3, 4, 5, 6, 7, 1, 0] rfl (T_X11_wetOf_6 C E ht hn h)
def P_X11_wetOf (v0 : Nat) (v1 : Int32) (v2 : Int32) (v3 : Int32) (v4 : Int32) (v5 : Int32) (Q : Int64 → HS → Prop) (S : HS) : Prop := P_X11_wetOf_0 Q v0 v1 v2 v3 v4 v5 S
theorem c_X11_wetOf {l : Launch} {Ee : EE} {S : HS} {v0 : Nat} {v1 : Int32} {v2 : Int32} {v3 : Int32} {v4 : Int32} {v5 : Int32} {Q : Int64 → HS → Prop} (h : P_X11_wetOf v0 v1 v2 v3 v4 v5 Q S) : MJ l yX11_wetOf cX11_wetOf 9 (some .long) rm_X11_wetOf Ee S [.ref v0, .int v1, .int v2, .int v3, .int v4, .int v5] Q :=
  openJ (by decide) (Nat.le_of_ble_eq_true rfl) (fun X C E ht hn hE hl => by subst hE; exact r_sub [0, 1, 2, 3, 4, 5] rfl (T_X11_wetOf_0 C E ht hn h))
def rm_X11_bestOf : Room := { frames := 6, cells := 0, slots := 0, locals := 163 }
def P_X11_bestOf_61 (Q : Int32 → HS → Prop) (X17 : Nat → Int32 → Int32 → Int32 → Int32 → Int32 → Int32 → HS → Prop) (v0 : Nat) (v1 : Int32) (v2 : Int32) (v3 : Int32) (v4 : Int32) (v5 : Int32) (v6 : Int32) (S : HS) : Prop := ∀ x1 : Int32, x1 = v6 + (1 : Int32) → (X17 v0 v1 v2 v3 v4 v5 x1 S)
set_option maxRecDepth 20000 in
set_option maxHeartbeats 4000000 in
theorem T_X11_bestOf_61 {X : CX} {Q : Int32 → HS → Prop} (C : Cx X cX11_bestOf RX11 7 rm_X11_bestOf) (E : ReI X rm_X11_bestOf Q) (ht : (xh X).sig.returnType = (some .int)) (hn : (xh X).name = yX11_bestOf.name) {X17 : Nat → Int32 → Int32 → Int32 → Int32 → Int32 → Int32 → HS → Prop} (hX17 : ∀ (v0 : Nat) (v1 : Int32) (v2 : Int32) (v3 : Int32) (v4 : Int32) (v5 : Int32) (v6 : Int32) (S : HS), X17 v0 v1 v2 v3 v4 v5 v6 S → WS X 7 0 0 17 [(0, .ref v0), (1, .int v1), (2, .int v2), (3, .int v3), (4, .int v4), (5, .int v5), (6, .int v6)] [] S) {v0 : Nat} {v1 : Int32} {v2 : Int32} {v3 : Int32} {v4 : Int32} {v5 : Int32} {v6 : Int32} {S : HS} (h : P_X11_bestOf_61 Q X17 v0 v1 v2 v3 v4 v5 v6 S) : WS X 7 0 0 61 [(0, .ref v0), (1, .int v1), (2, .int v2), (3, .int v3), (4, .int v4), (5, .int v5), (6, .int v6)] [] S := by
  obtain ⟨x1, ex1⟩ : ∃ z : Int32, z = v6 + (1 : Int32) := ⟨_, rfl⟩
  have h := h x1 ex1
  refine r_iinc (pc := 61) C (v := x1) (lv' := [(6, .int x1), (0, .ref v0), (1, .int v1), (2, .int v2), (3, .int v3), (4, .int v4), (5, .int v5)]) dX11_bestOf_61 6 rfl ex1.symm (by decide) rfl ?_
  refine r_goto (pc := 64) C (tgt := 17) dX11_bestOf_64 (by decide) ?_
  exact r_sub [1, 2, 3, 4, 5, 6, 0] rfl (hX17 v0 v1 v2 v3 v4 v5 x1 S h)
def B_X11_bestOf_17 (Q : Int32 → HS → Prop) (X17 : Nat → Int32 → Int32 → Int32 → Int32 → Int32 → Int32 → HS → Prop) (v0 : Nat) (v1 : Int32) (v2 : Int32) (v3 : Int32) (v4 : Int32) (v5 : Int32) (v6 : Int32) (S : HS) : Prop := ob S v0 11 ∧ (∃ a1 : Nat, fR S v0 3 = some a1 ∧ (ob S a1 10 ∧ (∃ a2 : Nat, fR S a1 25 = some a2 ∧ (ob S a2 13 ∧ (vp_in v1 (hN S a2) ∧ ∀ x4 : Int32, x4 = fI S a2 v1.toNatClampNeg → (((x4 < v6) → (Q v5 S)) ∧ ((¬ x4 < v6) → (P_X11_wetOf v0 v1 v2 v3 v4 v6 (fun x8 S6 => Gr S S6 → (P_X11_wetOf v0 v1 v2 v3 v4 v5 (fun x11 S9 => Gr S6 S9 → (((0 ≤ (lg_cmp x8 x11)) → (P_X11_bestOf_61 Q X17 v0 v1 v2 v3 v4 v5 v6 S9)) ∧ ((¬ 0 ≤ (lg_cmp x8 x11)) → (P_X11_bestOf_61 Q X17 v0 v1 v2 v3 v4 v6 v6 S9)))) S6)) S))))))))
def P_X11_bestOf_17 (Q : Int32 → HS → Prop) (v0 : Nat) (v1 : Int32) (v2 : Int32) (v3 : Int32) (v4 : Int32) (v5 : Int32) (v6 : Int32) (S : HS) : Prop := ∀ X17 : Nat → Int32 → Int32 → Int32 → Int32 → Int32 → Int32 → HS → Prop, (∀ (v0 : Nat) (v1 : Int32) (v2 : Int32) (v3 : Int32) (v4 : Int32) (v5 : Int32) (v6 : Int32) (S : HS), B_X11_bestOf_17 Q X17 v0 v1 v2 v3 v4 v5 v6 S → X17 v0 v1 v2 v3 v4 v5 v6 S) → X17 v0 v1 v2 v3 v4 v5 v6 S
set_option maxRecDepth 20000 in
set_option maxHeartbeats 4000000 in
theorem TB_X11_bestOf_17 {X : CX} {Q : Int32 → HS → Prop} (C : Cx X cX11_bestOf RX11 7 rm_X11_bestOf) (E : ReI X rm_X11_bestOf Q) (ht : (xh X).sig.returnType = (some .int)) (hn : (xh X).name = yX11_bestOf.name) {X17 : Nat → Int32 → Int32 → Int32 → Int32 → Int32 → Int32 → HS → Prop} (hX17 : ∀ (v0 : Nat) (v1 : Int32) (v2 : Int32) (v3 : Int32) (v4 : Int32) (v5 : Int32) (v6 : Int32) (S : HS), X17 v0 v1 v2 v3 v4 v5 v6 S → WS X 7 0 0 17 [(0, .ref v0), (1, .int v1), (2, .int v2), (3, .int v3), (4, .int v4), (5, .int v5), (6, .int v6)] [] S) {v0 : Nat} {v1 : Int32} {v2 : Int32} {v3 : Int32} {v4 : Int32} {v5 : Int32} {v6 : Int32} {S : HS} (h : B_X11_bestOf_17 Q X17 v0 v1 v2 v3 v4 v5 v6 S) : WS X 7 0 0 17 [(0, .ref v0), (1, .int v1), (2, .int v2), (3, .int v3), (4, .int v4), (5, .int v5), (6, .int v6)] [] S := by
  refine r_iload (pc := 17) C dX11_bestOf_17 6 rfl ?_
  refine r_aload_n (pc := 19) C dX11_bestOf_19 0 rfl ?_
  obtain ⟨o_v0, h⟩ := h
  obtain ⟨a1, ea1, h⟩ := h
  refine r_getr (pc := 20) C fL_X11_338 dX11_bestOf_20 o_v0 ea1 ?_
  obtain ⟨o_a1, h⟩ := h
  obtain ⟨a2, ea2, h⟩ := h
  refine r_getNr (pc := 23) C fN_X11_320 dX11_bestOf_23 o_a1 ea2 ?_
  refine r_iload_n (pc := 26) C dX11_bestOf_26 1 rfl ?_
  obtain ⟨o_a2, h⟩ := h
  obtain ⟨i3, h⟩ := h
  refine r_iald (pc := 27) C dX11_bestOf_27 o_a2 i3 ?_
  refine r_topi (fun x4 ex4 => ?_)
  have h := h x4 ex4
  refine r_icmp_gt (pc := 28) C (tgt := 67) dX11_bestOf_28 (by decide) (fun c5 => ?_) (fun c5 => ?_)
  · have h := h.1 c5
    refine r_iload (pc := 67) C dX11_bestOf_67 5 rfl ?_
    exact r_iret (pc := 69) C E ht dX11_bestOf_69 (by decide) (by decide) h
  · have h := h.2 c5
    refine r_aload_n (pc := 31) C dX11_bestOf_31 0 rfl ?_
    refine r_iload_n (pc := 32) C dX11_bestOf_32 1 rfl ?_
    refine r_iload_n (pc := 33) C dX11_bestOf_33 2 rfl ?_
    refine r_iload_n (pc := 34) C dX11_bestOf_34 3 rfl ?_
    refine r_iload (pc := 35) C dX11_bestOf_35 4 rfl ?_
    refine r_iload (pc := 37) C dX11_bestOf_37 6 rfl ?_
    refine r_callVl0 (pc := 39) C (rest := []) (a := v0) o_v0 [.int v1, .int v2, .int v3, .int v4, .int v6] yV_X11_wetOf g_1594 (c_X11_wetOf h) dX11_bestOf_39 rfl rfl (Nat.le_of_ble_eq_true rfl) ⟨by decide, by decide⟩ ⟨by decide, by decide⟩ ⟨rfl, rfl⟩ (fun x8 S6 h g7 => ?_)
    have h := h g7
    have o_a1 := gr_ob g7 o_a1
    have o_a2 := gr_ob g7 o_a2
    have o_v0 := gr_ob g7 o_v0
    refine r_aload_n (pc := 42) C dX11_bestOf_42 0 rfl ?_
    refine r_iload_n (pc := 43) C dX11_bestOf_43 1 rfl ?_
    refine r_iload_n (pc := 44) C dX11_bestOf_44 2 rfl ?_
    refine r_iload_n (pc := 45) C dX11_bestOf_45 3 rfl ?_
    refine r_iload (pc := 46) C dX11_bestOf_46 4 rfl ?_
    refine r_iload (pc := 48) C dX11_bestOf_48 5 rfl ?_
    refine r_callVl0 (pc := 50) C (rest := [.long x8]) (a := v0) o_v0 [.int v1, .int v2, .int v3, .int v4, .int v5] yV_X11_wetOf g_1594 (c_X11_wetOf h) dX11_bestOf_50 rfl rfl (Nat.le_of_ble_eq_true rfl) ⟨by decide, by decide⟩ ⟨by decide, by decide⟩ ⟨rfl, rfl⟩ (fun x11 S9 h g10 => ?_)
    have h := h g10
    have o_a1 := gr_ob g10 o_a1
    have o_a2 := gr_ob g10 o_a2
    have o_v0 := gr_ob g10 o_v0
    refine r_lcmp (pc := 53) C dX11_bestOf_53 ?_
    refine r_if_ge (pc := 54) C (tgt := 61) dX11_bestOf_54 (by decide) (fun c12 => ?_) (fun c12 => ?_)
    · have h := h.1 c12
      exact r_sub [0, 1, 2, 3, 4, 5, 6] rfl (T_X11_bestOf_61 C E ht hn hX17 h)
    · have h := h.2 c12
      refine r_iload (pc := 57) C dX11_bestOf_57 6 rfl ?_
      refine r_istore (pc := 59) C dX11_bestOf_59 (by decide) (lv' := [(5, .int v6), (0, .ref v0), (1, .int v1), (2, .int v2), (3, .int v3), (4, .int v4), (6, .int v6)]) rfl ?_
      exact r_sub [1, 2, 3, 4, 5, 0, 6] rfl (T_X11_bestOf_61 C E ht hn hX17 h)
theorem T_X11_bestOf_17 {X : CX} {Q : Int32 → HS → Prop} (C : Cx X cX11_bestOf RX11 7 rm_X11_bestOf) (E : ReI X rm_X11_bestOf Q) (ht : (xh X).sig.returnType = (some .int)) (hn : (xh X).name = yX11_bestOf.name) {v0 : Nat} {v1 : Int32} {v2 : Int32} {v3 : Int32} {v4 : Int32} {v5 : Int32} {v6 : Int32} {S : HS} (h : P_X11_bestOf_17 Q v0 v1 v2 v3 v4 v5 v6 S) : WS X 7 0 0 17 [(0, .ref v0), (1, .int v1), (2, .int v2), (3, .int v3), (4, .int v4), (5, .int v5), (6, .int v6)] [] S :=
  h (fun v0 v1 v2 v3 v4 v5 v6 S => WS X 7 0 0 17 [(0, .ref v0), (1, .int v1), (2, .int v2), (3, .int v3), (4, .int v4), (5, .int v5), (6, .int v6)] [] S) (fun v0 v1 v2 v3 v4 v5 v6 S hh => TB_X11_bestOf_17 C E ht hn (fun v0 v1 v2 v3 v4 v5 v6 S z => z) hh)
def P_X11_bestOf_0 (Q : Int32 → HS → Prop) (v0 : Nat) (v1 : Int32) (v2 : Int32) (v3 : Int32) (v4 : Int32) (S : HS) : Prop := ob S v0 11 ∧ (∃ a1 : Nat, fR S v0 3 = some a1 ∧ (ob S a1 10 ∧ (∃ a2 : Nat, fR S a1 24 = some a2 ∧ (ob S a2 13 ∧ (vp_in v1 (hN S a2) ∧ ∀ x4 : Int32, x4 = fI S a2 v1.toNatClampNeg → (∀ x5 : Int32, x5 = x4 + (1 : Int32) → (P_X11_bestOf_17 Q v0 v1 v2 v3 v4 x4 x5 S)))))))
set_option maxRecDepth 20000 in
set_option maxHeartbeats 4000000 in
theorem T_X11_bestOf_0 {X : CX} {Q : Int32 → HS → Prop} (C : Cx X cX11_bestOf RX11 7 rm_X11_bestOf) (E : ReI X rm_X11_bestOf Q) (ht : (xh X).sig.returnType = (some .int)) (hn : (xh X).name = yX11_bestOf.name) {v0 : Nat} {v1 : Int32} {v2 : Int32} {v3 : Int32} {v4 : Int32} {S : HS} (h : P_X11_bestOf_0 Q v0 v1 v2 v3 v4 S) : WS X 7 0 0 0 [(0, .ref v0), (1, .int v1), (2, .int v2), (3, .int v3), (4, .int v4)] [] S := by
  refine r_aload_n (pc := 0) C dX11_bestOf_0 0 rfl ?_
  obtain ⟨o_v0, h⟩ := h
  obtain ⟨a1, ea1, h⟩ := h
  refine r_getr (pc := 1) C fL_X11_338 dX11_bestOf_1 o_v0 ea1 ?_
  obtain ⟨o_a1, h⟩ := h
  obtain ⟨a2, ea2, h⟩ := h
  refine r_getNr (pc := 4) C fN_X11_317 dX11_bestOf_4 o_a1 ea2 ?_
  refine r_iload_n (pc := 7) C dX11_bestOf_7 1 rfl ?_
  obtain ⟨o_a2, h⟩ := h
  obtain ⟨i3, h⟩ := h
  refine r_iald (pc := 8) C dX11_bestOf_8 o_a2 i3 ?_
  refine r_topi (fun x4 ex4 => ?_)
  have h := h x4 ex4
  refine r_istore (pc := 9) C dX11_bestOf_9 (by decide) (lv' := [(5, .int x4), (0, .ref v0), (1, .int v1), (2, .int v2), (3, .int v3), (4, .int v4)]) rfl ?_
  refine r_iload (pc := 11) C dX11_bestOf_11 0 rfl ?_
  refine r_iconst (pc := 13) C (v := (1 : Int32)) dX11_bestOf_13 (by decide) ?_
  refine r_iadd (pc := 14) C dX11_bestOf_14 ?_
  refine r_topi (fun x5 ex5 => ?_)
  have h := h x5 ex5
  refine r_istore (pc := 15) C dX11_bestOf_15 (by decide) (lv' := [(6, .int x5), (5, .int x4), (0, .ref v0), (1, .int v1), (2, .int v2), (3, .int v3), (4, .int v4)]) rfl ?_
  exact r_sub [2, 3, 4, 5, 6, 1, 0] rfl (T_X11_bestOf_17 C E ht hn h)
def P_X11_bestOf (v0 : Nat) (v1 : Int32) (v2 : Int32) (v3 : Int32) (v4 : Int32) (Q : Int32 → HS → Prop) (S : HS) : Prop := P_X11_bestOf_0 Q v0 v1 v2 v3 v4 S
theorem c_X11_bestOf {l : Launch} {Ee : EE} {S : HS} {v0 : Nat} {v1 : Int32} {v2 : Int32} {v3 : Int32} {v4 : Int32} {Q : Int32 → HS → Prop} (h : P_X11_bestOf v0 v1 v2 v3 v4 Q S) : MI l yX11_bestOf cX11_bestOf 7 (some .int) rm_X11_bestOf Ee S [.ref v0, .int v1, .int v2, .int v3, .int v4] Q :=
  openI (by decide) (Nat.le_of_ble_eq_true rfl) (fun X C E ht hn hE hl => by subst hE; exact r_sub [0, 1, 2, 3, 4] rfl (T_X11_bestOf_0 C E ht hn h))
def rm_X11_isWalker : Room := { frames := 0, cells := 0, slots := 0, locals := 0 }
def P_X11_isWalker_0 (Q : Int32 → HS → Prop) (v0 : Nat) (v1 : Int32) (S : HS) : Prop := ob S v0 11 ∧ ((fR S v0 3 = none → (Q (0 : Int32) S)) ∧ (∀ a1 : Nat, fR S v0 3 = some a1 → (((v1 < 0) → (Q (0 : Int32) S)) ∧ ((¬ v1 < 0) → (∃ a4 : Nat, fR S v0 3 = some a4 ∧ (ob S a4 10 ∧ (∀ x5 : Int32, x5 = fI S a4 4 → (((x5 ≤ v1) → (Q (0 : Int32) S)) ∧ ((¬ x5 ≤ v1) → (Q (1 : Int32) S))))))))))
set_option maxRecDepth 20000 in
set_option maxHeartbeats 4000000 in
theorem T_X11_isWalker_0 {X : CX} {Q : Int32 → HS → Prop} (C : Cx X cX11_isWalker RX11 2 rm_X11_isWalker) (E : ReI X rm_X11_isWalker (fun r S => bl r ∧ Q r S)) (ht : (xh X).sig.returnType = (some .boolean)) (hn : (xh X).name = yX11_isWalker.name) {v0 : Nat} {v1 : Int32} {S : HS} (h : P_X11_isWalker_0 Q v0 v1 S) : WS X 2 0 0 0 [(0, .ref v0), (1, .int v1)] [] S := by
  refine r_aload_n (pc := 0) C dX11_isWalker_0 0 rfl ?_
  obtain ⟨o_v0, h⟩ := h
  rcases e2 : fR S v0 3 with _ | a1
  · refine r_get0 (pc := 1) C fL_X11_338 dX11_isWalker_1 o_v0 e2 ?_
    refine r_ifnull0 (pc := 4) C (tgt := 26) dX11_isWalker_4 (by decide) ?_
    have h := h.1 e2
    refine r_iconst (pc := 26) C (v := (0 : Int32)) dX11_isWalker_26 (by decide) ?_
    exact r_zret (pc := 27) C E ht dX11_isWalker_27 (by decide) (by decide) (Or.inl rfl) h
  · refine r_getr (pc := 1) C fL_X11_338 dX11_isWalker_1 o_v0 e2 ?_
    refine r_ifnull (pc := 4) C dX11_isWalker_4 ?_
    have h := h.2 a1 e2
    refine r_iload_n (pc := 7) C dX11_isWalker_7 1 rfl ?_
    refine r_if_lt (pc := 8) C (tgt := 26) dX11_isWalker_8 (by decide) (fun c3 => ?_) (fun c3 => ?_)
    · have h := h.1 c3
      refine r_iconst (pc := 26) C (v := (0 : Int32)) dX11_isWalker_26 (by decide) ?_
      exact r_zret (pc := 27) C E ht dX11_isWalker_27 (by decide) (by decide) (Or.inl rfl) h
    · have h := h.2 c3
      refine r_iload_n (pc := 11) C dX11_isWalker_11 1 rfl ?_
      refine r_aload_n (pc := 12) C dX11_isWalker_12 0 rfl ?_
      obtain ⟨a4, ea4, h⟩ := h
      refine r_getr (pc := 13) C fL_X11_338 dX11_isWalker_13 o_v0 ea4 ?_
      obtain ⟨o_a4, h⟩ := h
      refine r_getNi (pc := 16) C fN_X11_193 dX11_isWalker_16 o_a4 ?_
      refine r_topi (fun x5 ex5 => ?_)
      have h := h x5 ex5
      refine r_icmp_ge (pc := 19) C (tgt := 26) dX11_isWalker_19 (by decide) (fun c6 => ?_) (fun c6 => ?_)
      · have h := h.1 c6
        refine r_iconst (pc := 26) C (v := (0 : Int32)) dX11_isWalker_26 (by decide) ?_
        exact r_zret (pc := 27) C E ht dX11_isWalker_27 (by decide) (by decide) (Or.inl rfl) h
      · have h := h.2 c6
        refine r_iconst (pc := 22) C (v := (1 : Int32)) dX11_isWalker_22 (by decide) ?_
        refine r_goto (pc := 23) C (tgt := 27) dX11_isWalker_23 (by decide) ?_
        exact r_zret (pc := 27) C E ht dX11_isWalker_27 (by decide) (by decide) (Or.inr rfl) h
def P_X11_isWalker (v0 : Nat) (v1 : Int32) (Q : Int32 → HS → Prop) (S : HS) : Prop := P_X11_isWalker_0 Q v0 v1 S
theorem c_X11_isWalker {l : Launch} {Ee : EE} {S : HS} {v0 : Nat} {v1 : Int32} {Q : Int32 → HS → Prop} (h : P_X11_isWalker v0 v1 Q S) : MI l yX11_isWalker cX11_isWalker 2 (some .boolean) rm_X11_isWalker Ee S [.ref v0, .int v1] (fun r S => bl r ∧ Q r S) :=
  openI (by decide) (Nat.le_of_ble_eq_true rfl) (fun X C E ht hn hE hl => by subst hE; exact r_sub [0, 1] rfl (T_X11_isWalker_0 C E ht hn h))
def rm_X11_best : Room := { frames := 7, cells := 0, slots := 0, locals := 189 }
def P_X11_best_39 (Q : Int32 → HS → Prop) (v0 : Nat) (S : HS) : Prop := ob S v0 11 ∧ (P_X11_refused v0 (1 : Int32) (fun x3 S1 => Gr S S1 → (Q x3 S1)) S)
set_option maxRecDepth 20000 in
set_option maxHeartbeats 4000000 in
theorem T_X11_best_39 {X : CX} {Q : Int32 → HS → Prop} (C : Cx X cX11_best RX11 5 rm_X11_best) (E : ReI X rm_X11_best Q) (ht : (xh X).sig.returnType = (some .int)) (hn : (xh X).name = yX11_best.name) {v0 : Nat} {S : HS} (h : P_X11_best_39 Q v0 S) : WS X 5 0 0 39 [(0, .ref v0)] [] S := by
  refine r_aload_n (pc := 39) C dX11_best_39 0 rfl ?_
  refine r_iconst (pc := 40) C (v := (1 : Int32)) dX11_best_40 (by decide) ?_
  obtain ⟨o_v0, h⟩ := h
  refine r_callVi0 (pc := 41) C (rest := []) (a := v0) o_v0 [.int (1 : Int32)] yV_X11_refused g_1250 (c_X11_refused h) dX11_best_41 rfl rfl (Nat.le_of_ble_eq_true rfl) ⟨by decide, by decide⟩ ⟨by decide, by decide⟩ ⟨rfl, rfl⟩ (fun x3 S1 h g2 => ?_)
  have h := h g2
  have o_v0 := gr_ob g2 o_v0
  exact r_iret (pc := 44) C E ht dX11_best_44 (by decide) (by decide) h
def P_X11_best_0 (Q : Int32 → HS → Prop) (v0 : Nat) (v1 : Int32) (v2 : Int32) (v3 : Int32) (v4 : Int32) (S : HS) : Prop := ob S v0 11 ∧ (∀ S1 : HS, S1 = sI S v0 0 (0 : Int32) → (P_X11_isWalker v0 v1 (fun x4 S2 => Gr S1 S2 → bl x4 → (((x4 = 0) → (P_X11_best_39 Q v0 S2)) ∧ ((¬ x4 = 0) → (P_X11_isRoad v0 v2 (fun x8 S6 => Gr S2 S6 → bl x8 → (((x8 = 0) → (P_X11_best_39 Q v0 S6)) ∧ ((¬ x8 = 0) → (P_X11_in v3 (0 : Int32) (1 : Int32) (fun x12 S10 => Gr S6 S10 → bl x12 → (((x12 = 0) → (P_X11_best_39 Q v0 S10)) ∧ ((¬ x12 = 0) → (P_X11_isHour v0 v4 (fun x16 S14 => Gr S10 S14 → bl x16 → (((¬ x16 = 0) → (P_X11_bestOf v0 v1 v2 v3 v4 (fun x20 S18 => Gr S14 S18 → (P_X11_good v0 x20 (fun x23 S21 => Gr S18 S21 → (Q x23 S21)) S18)) S14)) ∧ ((x16 = 0) → (P_X11_best_39 Q v0 S14)))) S10)))) S6)))) S2)))) S1))
set_option maxRecDepth 20000 in
set_option maxHeartbeats 4000000 in
theorem T_X11_best_0 {X : CX} {Q : Int32 → HS → Prop} (C : Cx X cX11_best RX11 5 rm_X11_best) (E : ReI X rm_X11_best Q) (ht : (xh X).sig.returnType = (some .int)) (hn : (xh X).name = yX11_best.name) {v0 : Nat} {v1 : Int32} {v2 : Int32} {v3 : Int32} {v4 : Int32} {S : HS} (h : P_X11_best_0 Q v0 v1 v2 v3 v4 S) : WS X 5 0 0 0 [(0, .ref v0), (1, .int v1), (2, .int v2), (3, .int v3), (4, .int v4)] [] S := by
  refine r_aload_n (pc := 0) C dX11_best_0 0 rfl ?_
  refine r_iconst (pc := 1) C (v := (0 : Int32)) dX11_best_1 (by decide) ?_
  obtain ⟨o_v0, h⟩ := h
  refine r_puti (pc := 2) C pfL_X11_40 dX11_best_2 o_v0 ?_
  refine r_heap (fun S1 eS1 => ?_)
  have h := h S1 eS1
  have o_v0 := ob_I eS1 o_v0
  refine r_aload_n (pc := 5) C dX11_best_5 0 rfl ?_
  refine r_iload_n (pc := 6) C dX11_best_6 1 rfl ?_
  refine r_callVi0 (pc := 7) C (rest := []) (a := v0) o_v0 [.int v1] yV_X11_isWalker g_1538 (c_X11_isWalker h) dX11_best_7 rfl rfl (Nat.le_of_ble_eq_true rfl) ⟨by decide, by decide⟩ ⟨by decide, by decide⟩ ⟨rfl, rfl⟩ (fun x4 S2 h g3 => ?_)
  have bx4 := h.1
  have h := h.2 g3 bx4
  have o_v0 := gr_ob g3 o_v0
  refine r_if_eq (pc := 10) C (tgt := 39) dX11_best_10 (by decide) (fun c5 => ?_) (fun c5 => ?_)
  · have h := h.1 c5
    exact r_sub [0] rfl (T_X11_best_39 C E ht hn h)
  · have h := h.2 c5
    refine r_aload_n (pc := 13) C dX11_best_13 0 rfl ?_
    refine r_iload_n (pc := 14) C dX11_best_14 2 rfl ?_
    refine r_callVi0 (pc := 15) C (rest := []) (a := v0) o_v0 [.int v2] yV_X11_isRoad g_1542 (c_X11_isRoad h) dX11_best_15 rfl rfl (Nat.le_of_ble_eq_true rfl) ⟨by decide, by decide⟩ ⟨by decide, by decide⟩ ⟨rfl, rfl⟩ (fun x8 S6 h g7 => ?_)
    have bx8 := h.1
    have h := h.2 g7 bx8
    have o_v0 := gr_ob g7 o_v0
    refine r_if_eq (pc := 18) C (tgt := 39) dX11_best_18 (by decide) (fun c9 => ?_) (fun c9 => ?_)
    · have h := h.1 c9
      exact r_sub [0] rfl (T_X11_best_39 C E ht hn h)
    · have h := h.2 c9
      refine r_iload_n (pc := 21) C dX11_best_21 3 rfl ?_
      refine r_iconst (pc := 22) C (v := (0 : Int32)) dX11_best_22 (by decide) ?_
      refine r_iconst (pc := 23) C (v := (1 : Int32)) dX11_best_23 (by decide) ?_
      refine r_callSi0 (pc := 24) C (rest := []) rfl [.int v3, .int (0 : Int32), .int (1 : Int32)] yS_X11_in g_1434 (c_X11_in h) dX11_best_24 rfl rfl (Nat.le_of_ble_eq_true rfl) ⟨by decide, by decide⟩ ⟨by decide, by decide⟩ ⟨rfl, rfl⟩ (fun x12 S10 h g11 => ?_)
      have bx12 := h.1
      have h := h.2 g11 bx12
      have o_v0 := gr_ob g11 o_v0
      refine r_if_eq (pc := 27) C (tgt := 39) dX11_best_27 (by decide) (fun c13 => ?_) (fun c13 => ?_)
      · have h := h.1 c13
        exact r_sub [0] rfl (T_X11_best_39 C E ht hn h)
      · have h := h.2 c13
        refine r_aload_n (pc := 30) C dX11_best_30 0 rfl ?_
        refine r_iload (pc := 31) C dX11_best_31 4 rfl ?_
        refine r_callVi0 (pc := 33) C (rest := []) (a := v0) o_v0 [.int v4] yV_X11_isHour g_1546 (c_X11_isHour h) dX11_best_33 rfl rfl (Nat.le_of_ble_eq_true rfl) ⟨by decide, by decide⟩ ⟨by decide, by decide⟩ ⟨rfl, rfl⟩ (fun x16 S14 h g15 => ?_)
        have bx16 := h.1
        have h := h.2 g15 bx16
        have o_v0 := gr_ob g15 o_v0
        refine r_if_ne (pc := 36) C (tgt := 45) dX11_best_36 (by decide) (fun c17 => ?_) (fun c17 => ?_)
        · have h := h.1 c17
          refine r_aload_n (pc := 45) C dX11_best_45 0 rfl ?_
          refine r_aload_n (pc := 46) C dX11_best_46 0 rfl ?_
          refine r_iload_n (pc := 47) C dX11_best_47 1 rfl ?_
          refine r_iload_n (pc := 48) C dX11_best_48 2 rfl ?_
          refine r_iload_n (pc := 49) C dX11_best_49 3 rfl ?_
          refine r_iload (pc := 50) C dX11_best_50 4 rfl ?_
          refine r_callVi0 (pc := 52) C (rest := [.ref v0]) (a := v0) o_v0 [.int v1, .int v2, .int v3, .int v4] yV_X11_bestOf g_1627 (c_X11_bestOf h) dX11_best_52 rfl rfl (Nat.le_of_ble_eq_true rfl) ⟨by decide, by decide⟩ ⟨by decide, by decide⟩ ⟨rfl, rfl⟩ (fun x20 S18 h g19 => ?_)
          have h := h g19
          have o_v0 := gr_ob g19 o_v0
          refine r_callVi0 (pc := 55) C (rest := []) (a := v0) o_v0 [.int x20] yV_X11_good g_1518 (c_X11_good h) dX11_best_55 rfl rfl (Nat.le_of_ble_eq_true rfl) ⟨by decide, by decide⟩ ⟨by decide, by decide⟩ ⟨rfl, rfl⟩ (fun x23 S21 h g22 => ?_)
          have h := h g22
          have o_v0 := gr_ob g22 o_v0
          exact r_iret (pc := 58) C E ht dX11_best_58 (by decide) (by decide) h
        · have h := h.2 c17
          exact r_sub [0] rfl (T_X11_best_39 C E ht hn h)
def P_X11_best (v0 : Nat) (v1 : Int32) (v2 : Int32) (v3 : Int32) (v4 : Int32) (Q : Int32 → HS → Prop) (S : HS) : Prop := P_X11_best_0 Q v0 v1 v2 v3 v4 S
theorem c_X11_best {l : Launch} {Ee : EE} {S : HS} {v0 : Nat} {v1 : Int32} {v2 : Int32} {v3 : Int32} {v4 : Int32} {Q : Int32 → HS → Prop} (h : P_X11_best v0 v1 v2 v3 v4 Q S) : MI l yX11_best cX11_best 5 (some .int) rm_X11_best Ee S [.ref v0, .int v1, .int v2, .int v3, .int v4] Q :=
  openI (by decide) (Nat.le_of_ble_eq_true rfl) (fun X C E ht hn hE hl => by subst hE; exact r_sub [0, 1, 2, 3, 4] rfl (T_X11_best_0 C E ht hn h))
def rm_X11_canWait : Room := { frames := 0, cells := 0, slots := 0, locals := 0 }
def P_X11_canWait_0 (Q : Int32 → HS → Prop) (v0 : Nat) (v1 : Int32) (S : HS) : Prop := ob S v0 11 ∧ (∃ a1 : Nat, fR S v0 3 = some a1 ∧ (ob S a1 10 ∧ (∃ a2 : Nat, fR S a1 18 = some a2 ∧ (ob S a2 15 ∧ (vp_in v1 (hN S a2) ∧ ∀ x4 : Int32, x4 = fI S a2 v1.toNatClampNeg → (((¬ x4 = 0) → (Q (1 : Int32) S)) ∧ ((x4 = 0) → (∃ a6 : Nat, fR S v0 3 = some a6 ∧ (ob S a6 10 ∧ (∃ a7 : Nat, fR S a6 12 = some a7 ∧ (ob S a7 13 ∧ (vp_in v1 (hN S a7) ∧ ∀ x9 : Int32, x9 = fI S a7 v1.toNatClampNeg → (((x9 = (-2 : Int32)) → (Q (0 : Int32) S)) ∧ ((¬ x9 = (-2 : Int32)) → (Q (1 : Int32) S)))))))))))))))
set_option maxRecDepth 20000 in
set_option maxHeartbeats 4000000 in
theorem T_X11_canWait_0 {X : CX} {Q : Int32 → HS → Prop} (C : Cx X cX11_canWait RX11 2 rm_X11_canWait) (E : ReI X rm_X11_canWait (fun r S => bl r ∧ Q r S)) (ht : (xh X).sig.returnType = (some .boolean)) (hn : (xh X).name = yX11_canWait.name) {v0 : Nat} {v1 : Int32} {S : HS} (h : P_X11_canWait_0 Q v0 v1 S) : WS X 2 0 0 0 [(0, .ref v0), (1, .int v1)] [] S := by
  refine r_aload_n (pc := 0) C dX11_canWait_0 0 rfl ?_
  obtain ⟨o_v0, h⟩ := h
  obtain ⟨a1, ea1, h⟩ := h
  refine r_getr (pc := 1) C fL_X11_338 dX11_canWait_1 o_v0 ea1 ?_
  obtain ⟨o_a1, h⟩ := h
  obtain ⟨a2, ea2, h⟩ := h
  refine r_getNr (pc := 4) C fN_X11_258 dX11_canWait_4 o_a1 ea2 ?_
  refine r_iload_n (pc := 7) C dX11_canWait_7 1 rfl ?_
  obtain ⟨o_a2, h⟩ := h
  obtain ⟨i3, h⟩ := h
  refine r_zald (pc := 8) C dX11_canWait_8 o_a2 i3 ?_
  refine r_topi (fun x4 ex4 => ?_)
  have h := h x4 ex4
  refine r_if_ne (pc := 9) C (tgt := 26) dX11_canWait_9 (by decide) (fun c5 => ?_) (fun c5 => ?_)
  · have h := h.1 c5
    refine r_iconst (pc := 26) C (v := (1 : Int32)) dX11_canWait_26 (by decide) ?_
    refine r_goto (pc := 27) C (tgt := 31) dX11_canWait_27 (by decide) ?_
    exact r_zret (pc := 31) C E ht dX11_canWait_31 (by decide) (by decide) (Or.inr rfl) h
  · have h := h.2 c5
    refine r_aload_n (pc := 12) C dX11_canWait_12 0 rfl ?_
    obtain ⟨a6, ea6, h⟩ := h
    refine r_getr (pc := 13) C fL_X11_338 dX11_canWait_13 o_v0 ea6 ?_
    obtain ⟨o_a6, h⟩ := h
    obtain ⟨a7, ea7, h⟩ := h
    refine r_getNr (pc := 16) C fN_X11_262 dX11_canWait_16 o_a6 ea7 ?_
    refine r_iload_n (pc := 19) C dX11_canWait_19 1 rfl ?_
    obtain ⟨o_a7, h⟩ := h
    obtain ⟨i8, h⟩ := h
    refine r_iald (pc := 20) C dX11_canWait_20 o_a7 i8 ?_
    refine r_topi (fun x9 ex9 => ?_)
    have h := h x9 ex9
    refine r_bipush (pc := 21) C (v := (-2 : Int32)) dX11_canWait_21 (by decide) ?_
    refine r_icmp_eq (pc := 23) C (tgt := 30) dX11_canWait_23 (by decide) (fun c10 => ?_) (fun c10 => ?_)
    · have h := h.1 c10
      refine r_iconst (pc := 30) C (v := (0 : Int32)) dX11_canWait_30 (by decide) ?_
      exact r_zret (pc := 31) C E ht dX11_canWait_31 (by decide) (by decide) (Or.inl rfl) h
    · have h := h.2 c10
      refine r_iconst (pc := 26) C (v := (1 : Int32)) dX11_canWait_26 (by decide) ?_
      refine r_goto (pc := 27) C (tgt := 31) dX11_canWait_27 (by decide) ?_
      exact r_zret (pc := 31) C E ht dX11_canWait_31 (by decide) (by decide) (Or.inr rfl) h
def P_X11_canWait (v0 : Nat) (v1 : Int32) (Q : Int32 → HS → Prop) (S : HS) : Prop := P_X11_canWait_0 Q v0 v1 S
theorem c_X11_canWait {l : Launch} {Ee : EE} {S : HS} {v0 : Nat} {v1 : Int32} {Q : Int32 → HS → Prop} (h : P_X11_canWait v0 v1 Q S) : MI l yX11_canWait cX11_canWait 2 (some .boolean) rm_X11_canWait Ee S [.ref v0, .int v1] (fun r S => bl r ∧ Q r S) :=
  openI (by decide) (Nat.le_of_ble_eq_true rfl) (fun X C E ht hn hE hl => by subst hE; exact r_sub [0, 1] rfl (T_X11_canWait_0 C E ht hn h))
def rm_X11_isPlace : Room := { frames := 0, cells := 0, slots := 0, locals := 0 }
def P_X11_isPlace_0 (Q : Int32 → HS → Prop) (v0 : Nat) (v1 : Int32) (S : HS) : Prop := ob S v0 11 ∧ ((fR S v0 3 = none → (Q (0 : Int32) S)) ∧ (∀ a1 : Nat, fR S v0 3 = some a1 → (((v1 < 0) → (Q (0 : Int32) S)) ∧ ((¬ v1 < 0) → (∃ a4 : Nat, fR S v0 3 = some a4 ∧ (ob S a4 10 ∧ (∀ x5 : Int32, x5 = fI S a4 2 → (((x5 ≤ v1) → (Q (0 : Int32) S)) ∧ ((¬ x5 ≤ v1) → (Q (1 : Int32) S))))))))))
set_option maxRecDepth 20000 in
set_option maxHeartbeats 4000000 in
theorem T_X11_isPlace_0 {X : CX} {Q : Int32 → HS → Prop} (C : Cx X cX11_isPlace RX11 2 rm_X11_isPlace) (E : ReI X rm_X11_isPlace (fun r S => bl r ∧ Q r S)) (ht : (xh X).sig.returnType = (some .boolean)) (hn : (xh X).name = yX11_isPlace.name) {v0 : Nat} {v1 : Int32} {S : HS} (h : P_X11_isPlace_0 Q v0 v1 S) : WS X 2 0 0 0 [(0, .ref v0), (1, .int v1)] [] S := by
  refine r_aload_n (pc := 0) C dX11_isPlace_0 0 rfl ?_
  obtain ⟨o_v0, h⟩ := h
  rcases e2 : fR S v0 3 with _ | a1
  · refine r_get0 (pc := 1) C fL_X11_338 dX11_isPlace_1 o_v0 e2 ?_
    refine r_ifnull0 (pc := 4) C (tgt := 26) dX11_isPlace_4 (by decide) ?_
    have h := h.1 e2
    refine r_iconst (pc := 26) C (v := (0 : Int32)) dX11_isPlace_26 (by decide) ?_
    exact r_zret (pc := 27) C E ht dX11_isPlace_27 (by decide) (by decide) (Or.inl rfl) h
  · refine r_getr (pc := 1) C fL_X11_338 dX11_isPlace_1 o_v0 e2 ?_
    refine r_ifnull (pc := 4) C dX11_isPlace_4 ?_
    have h := h.2 a1 e2
    refine r_iload_n (pc := 7) C dX11_isPlace_7 1 rfl ?_
    refine r_if_lt (pc := 8) C (tgt := 26) dX11_isPlace_8 (by decide) (fun c3 => ?_) (fun c3 => ?_)
    · have h := h.1 c3
      refine r_iconst (pc := 26) C (v := (0 : Int32)) dX11_isPlace_26 (by decide) ?_
      exact r_zret (pc := 27) C E ht dX11_isPlace_27 (by decide) (by decide) (Or.inl rfl) h
    · have h := h.2 c3
      refine r_iload_n (pc := 11) C dX11_isPlace_11 1 rfl ?_
      refine r_aload_n (pc := 12) C dX11_isPlace_12 0 rfl ?_
      obtain ⟨a4, ea4, h⟩ := h
      refine r_getr (pc := 13) C fL_X11_338 dX11_isPlace_13 o_v0 ea4 ?_
      obtain ⟨o_a4, h⟩ := h
      refine r_getNi (pc := 16) C fN_X11_190 dX11_isPlace_16 o_a4 ?_
      refine r_topi (fun x5 ex5 => ?_)
      have h := h x5 ex5
      refine r_icmp_ge (pc := 19) C (tgt := 26) dX11_isPlace_19 (by decide) (fun c6 => ?_) (fun c6 => ?_)
      · have h := h.1 c6
        refine r_iconst (pc := 26) C (v := (0 : Int32)) dX11_isPlace_26 (by decide) ?_
        exact r_zret (pc := 27) C E ht dX11_isPlace_27 (by decide) (by decide) (Or.inl rfl) h
      · have h := h.2 c6
        refine r_iconst (pc := 22) C (v := (1 : Int32)) dX11_isPlace_22 (by decide) ?_
        refine r_goto (pc := 23) C (tgt := 27) dX11_isPlace_23 (by decide) ?_
        exact r_zret (pc := 27) C E ht dX11_isPlace_27 (by decide) (by decide) (Or.inr rfl) h
def P_X11_isPlace (v0 : Nat) (v1 : Int32) (Q : Int32 → HS → Prop) (S : HS) : Prop := P_X11_isPlace_0 Q v0 v1 S
theorem c_X11_isPlace {l : Launch} {Ee : EE} {S : HS} {v0 : Nat} {v1 : Int32} {Q : Int32 → HS → Prop} (h : P_X11_isPlace v0 v1 Q S) : MI l yX11_isPlace cX11_isPlace 2 (some .boolean) rm_X11_isPlace Ee S [.ref v0, .int v1] (fun r S => bl r ∧ Q r S) :=
  openI (by decide) (Nat.le_of_ble_eq_true rfl) (fun X C E ht hn hE hl => by subst hE; exact r_sub [0, 1] rfl (T_X11_isPlace_0 C E ht hn h))
def rm_X11_day : Room := { frames := 1, cells := 0, slots := 0, locals := 22 }
def P_X11_day_21 (Q : Int32 → HS → Prop) (v0 : Nat) (S : HS) : Prop := ob S v0 11 ∧ (P_X11_refused v0 (1 : Int32) (fun x3 S1 => Gr S S1 → (Q x3 S1)) S)
set_option maxRecDepth 20000 in
set_option maxHeartbeats 4000000 in
theorem T_X11_day_21 {X : CX} {Q : Int32 → HS → Prop} (C : Cx X cX11_day RX11 7 rm_X11_day) (E : ReI X rm_X11_day Q) (ht : (xh X).sig.returnType = (some .int)) (hn : (xh X).name = yX11_day.name) {v0 : Nat} {S : HS} (h : P_X11_day_21 Q v0 S) : WS X 7 0 0 21 [(0, .ref v0)] [] S := by
  refine r_aload_n (pc := 21) C dX11_day_21 0 rfl ?_
  refine r_iconst (pc := 22) C (v := (1 : Int32)) dX11_day_22 (by decide) ?_
  obtain ⟨o_v0, h⟩ := h
  refine r_callVi0 (pc := 23) C (rest := []) (a := v0) o_v0 [.int (1 : Int32)] yV_X11_refused g_1250 (c_X11_refused h) dX11_day_23 rfl rfl (Nat.le_of_ble_eq_true rfl) ⟨by decide, by decide⟩ ⟨by decide, by decide⟩ ⟨rfl, rfl⟩ (fun x3 S1 h g2 => ?_)
  have h := h g2
  have o_v0 := gr_ob g2 o_v0
  exact r_iret (pc := 26) C E ht dX11_day_26 (by decide) (by decide) h
def P_X11_day_50 (Q : Int32 → HS → Prop) (v0 : Nat) (S : HS) : Prop := ob S v0 11 ∧ (P_X11_refused v0 (2 : Int32) (fun x3 S1 => Gr S S1 → (Q x3 S1)) S)
set_option maxRecDepth 20000 in
set_option maxHeartbeats 4000000 in
theorem T_X11_day_50 {X : CX} {Q : Int32 → HS → Prop} (C : Cx X cX11_day RX11 7 rm_X11_day) (E : ReI X rm_X11_day Q) (ht : (xh X).sig.returnType = (some .int)) (hn : (xh X).name = yX11_day.name) {v0 : Nat} {S : HS} (h : P_X11_day_50 Q v0 S) : WS X 7 0 0 50 [(0, .ref v0)] [] S := by
  refine r_aload_n (pc := 50) C dX11_day_50 0 rfl ?_
  refine r_iconst (pc := 51) C (v := (2 : Int32)) dX11_day_51 (by decide) ?_
  obtain ⟨o_v0, h⟩ := h
  refine r_callVi0 (pc := 52) C (rest := []) (a := v0) o_v0 [.int (2 : Int32)] yV_X11_refused g_1250 (c_X11_refused h) dX11_day_52 rfl rfl (Nat.le_of_ble_eq_true rfl) ⟨by decide, by decide⟩ ⟨by decide, by decide⟩ ⟨rfl, rfl⟩ (fun x3 S1 h g2 => ?_)
  have h := h g2
  have o_v0 := gr_ob g2 o_v0
  exact r_iret (pc := 55) C E ht dX11_day_55 (by decide) (by decide) h
def P_X11_day_134 (Q : Int32 → HS → Prop) (X73 : Nat → Int32 → Int32 → Int32 → Int32 → HS → Prop) (v0 : Nat) (v2 : Int32) (v3 : Int32) (v5 : Int32) (v6 : Int32) (s0 : Nat) (s1 : Int32) (s2 : Int32) (S : HS) : Prop := ob S s0 11 ∧ (∀ x1 : Int32, x1 = s1 ||| s2 → (∀ S2 : HS, S2 = sI S s0 20 x1 → (∀ x3 : Int32, x3 = v6 + (1 : Int32) → (X73 v0 v2 v3 v5 x3 S2))))
set_option maxRecDepth 20000 in
set_option maxHeartbeats 4000000 in
theorem T_X11_day_134 {X : CX} {Q : Int32 → HS → Prop} (C : Cx X cX11_day RX11 7 rm_X11_day) (E : ReI X rm_X11_day Q) (ht : (xh X).sig.returnType = (some .int)) (hn : (xh X).name = yX11_day.name) {X73 : Nat → Int32 → Int32 → Int32 → Int32 → HS → Prop} (hX73 : ∀ (v0 : Nat) (v2 : Int32) (v3 : Int32) (v5 : Int32) (v6 : Int32) (S : HS), X73 v0 v2 v3 v5 v6 S → WS X 7 0 0 73 [(0, .ref v0), (2, .int v2), (3, .int v3), (5, .int v5), (6, .int v6)] [] S) {v0 : Nat} {v2 : Int32} {v3 : Int32} {v5 : Int32} {v6 : Int32} {s0 : Nat} {s1 : Int32} {s2 : Int32} {S : HS} (h : P_X11_day_134 Q X73 v0 v2 v3 v5 v6 s0 s1 s2 S) : WS X 7 0 0 134 [(0, .ref v0), (2, .int v2), (3, .int v3), (5, .int v5), (6, .int v6)] [.int s2, .int s1, .ref s0] S := by
  refine r_ior (pc := 134) C dX11_day_134 ?_
  obtain ⟨o_s0, h⟩ := h
  refine r_topi (fun x1 ex1 => ?_)
  have h := h x1 ex1
  refine r_puti (pc := 135) C pfL_X11_475 dX11_day_135 o_s0 ?_
  refine r_heap (fun S2 eS2 => ?_)
  have h := h S2 eS2
  have o_s0 := ob_I eS2 o_s0
  obtain ⟨x3, ex3⟩ : ∃ z : Int32, z = v6 + (1 : Int32) := ⟨_, rfl⟩
  have h := h x3 ex3
  refine r_iinc (pc := 138) C (v := x3) (lv' := [(6, .int x3), (0, .ref v0), (2, .int v2), (3, .int v3), (5, .int v5)]) dX11_day_138 4 rfl ex3.symm (by decide) rfl ?_
  refine r_goto (pc := 141) C (tgt := 73) dX11_day_141 (by decide) ?_
  exact r_sub [1, 2, 3, 4, 0] rfl (hX73 v0 v2 v3 v5 x3 S2 h)
def B_X11_day_147 (Q : Int32 → HS → Prop) (X147 : Nat → Int32 → Int32 → Int32 → HS → Prop) (v0 : Nat) (v2 : Int32) (v3 : Int32) (v6 : Int32) (S : HS) : Prop := (((7 : Int32) ≤ v6) → (ob S v0 11 ∧ (∃ a2 : Nat, fR S v0 21 = some a2 ∧ (ob S a2 14 ∧ (∀ x4 : Int64, x4 = v2.toInt64 → (vp_in (0 : Int32) (hN S a2) ∧ (∀ S5 : HS, S5 = sJ S a2 (0 : Int32).toNatClampNeg x4 → (∃ a6 : Nat, fR S5 v0 21 = some a6 ∧ (ob S5 a6 14 ∧ (∀ x8 : Int64, x8 = v3.toInt64 → (vp_in (1 : Int32) (hN S5 a6) ∧ (∀ S9 : HS, S9 = sJ S5 a6 (1 : Int32).toNatClampNeg x8 → (∀ S10 : HS, S10 = sI S9 v0 24 (0 : Int32) → (∀ S11 : HS, S11 = sI S10 v0 25 (0 : Int32) → (∀ x12 : Int32, x12 = fI S11 v0 20 → (P_X11_good v0 x12 (fun x15 S13 => Gr S11 S13 → (Q x15 S13)) S11)))))))))))))))) ∧ ((¬ (7 : Int32) ≤ v6) → (ob S v0 11 ∧ (∃ a16 : Nat, fR S v0 21 = some a16 ∧ (ob S a16 14 ∧ (vp_in v6 (hN S a16) ∧ (∀ S18 : HS, S18 = sJ S a16 v6.toNatClampNeg (0 : Int64) → (∀ x19 : Int32, x19 = v6 + (1 : Int32) → (X147 v0 v2 v3 x19 S18))))))))
def P_X11_day_147 (Q : Int32 → HS → Prop) (v0 : Nat) (v2 : Int32) (v3 : Int32) (v6 : Int32) (S : HS) : Prop := ∀ X147 : Nat → Int32 → Int32 → Int32 → HS → Prop, (∀ (v0 : Nat) (v2 : Int32) (v3 : Int32) (v6 : Int32) (S : HS), B_X11_day_147 Q X147 v0 v2 v3 v6 S → X147 v0 v2 v3 v6 S) → X147 v0 v2 v3 v6 S
set_option maxRecDepth 20000 in
set_option maxHeartbeats 4000000 in
theorem TB_X11_day_147 {X : CX} {Q : Int32 → HS → Prop} (C : Cx X cX11_day RX11 7 rm_X11_day) (E : ReI X rm_X11_day Q) (ht : (xh X).sig.returnType = (some .int)) (hn : (xh X).name = yX11_day.name) {X147 : Nat → Int32 → Int32 → Int32 → HS → Prop} (hX147 : ∀ (v0 : Nat) (v2 : Int32) (v3 : Int32) (v6 : Int32) (S : HS), X147 v0 v2 v3 v6 S → WS X 7 0 0 147 [(0, .ref v0), (2, .int v2), (3, .int v3), (6, .int v6)] [] S) {v0 : Nat} {v2 : Int32} {v3 : Int32} {v6 : Int32} {S : HS} (h : B_X11_day_147 Q X147 v0 v2 v3 v6 S) : WS X 7 0 0 147 [(0, .ref v0), (2, .int v2), (3, .int v3), (6, .int v6)] [] S := by
  refine r_iload (pc := 147) C dX11_day_147 3 rfl ?_
  refine r_bipush (pc := 149) C (v := (7 : Int32)) dX11_day_149 (by decide) ?_
  refine r_icmp_ge (pc := 151) C (tgt := 168) dX11_day_151 (by decide) (fun c1 => ?_) (fun c1 => ?_)
  · have h := h.1 c1
    refine r_aload_n (pc := 168) C dX11_day_168 0 rfl ?_
    obtain ⟨o_v0, h⟩ := h
    obtain ⟨a2, ea2, h⟩ := h
    refine r_getr (pc := 169) C fL_X11_31 dX11_day_169 o_v0 ea2 ?_
    refine r_iconst (pc := 172) C (v := (0 : Int32)) dX11_day_172 (by decide) ?_
    refine r_iload_n (pc := 173) C dX11_day_173 1 rfl ?_
    refine r_i2l (pc := 174) C dX11_day_174 ?_
    obtain ⟨o_a2, h⟩ := h
    refine r_topl (fun x4 ex4 => ?_)
    have h := h x4 ex4
    obtain ⟨i3, h⟩ := h
    refine r_last (pc := 175) C dX11_day_175 o_a2 i3 ?_
    refine r_heap (fun S5 eS5 => ?_)
    have h := h S5 eS5
    have o_a2 := ob_J eS5 o_a2
    have o_v0 := ob_J eS5 o_v0
    refine r_aload_n (pc := 176) C dX11_day_176 0 rfl ?_
    obtain ⟨a6, ea6, h⟩ := h
    refine r_getr (pc := 177) C fL_X11_31 dX11_day_177 o_v0 ea6 ?_
    refine r_iconst (pc := 180) C (v := (1 : Int32)) dX11_day_180 (by decide) ?_
    refine r_iload_n (pc := 181) C dX11_day_181 2 rfl ?_
    refine r_i2l (pc := 182) C dX11_day_182 ?_
    obtain ⟨o_a6, h⟩ := h
    refine r_topl (fun x8 ex8 => ?_)
    have h := h x8 ex8
    obtain ⟨i7, h⟩ := h
    refine r_last (pc := 183) C dX11_day_183 o_a6 i7 ?_
    refine r_heap (fun S9 eS9 => ?_)
    have h := h S9 eS9
    have o_a2 := ob_J eS9 o_a2
    have o_a6 := ob_J eS9 o_a6
    have o_v0 := ob_J eS9 o_v0
    refine r_aload_n (pc := 184) C dX11_day_184 0 rfl ?_
    refine r_iconst (pc := 185) C (v := (0 : Int32)) dX11_day_185 (by decide) ?_
    refine r_puti (pc := 186) C pfL_X11_340 dX11_day_186 o_v0 ?_
    refine r_heap (fun S10 eS10 => ?_)
    have h := h S10 eS10
    have o_a2 := ob_I eS10 o_a2
    have o_a6 := ob_I eS10 o_a6
    have o_v0 := ob_I eS10 o_v0
    refine r_aload_n (pc := 189) C dX11_day_189 0 rfl ?_
    refine r_iconst (pc := 190) C (v := (0 : Int32)) dX11_day_190 (by decide) ?_
    refine r_puti (pc := 191) C pfL_X11_343 dX11_day_191 o_v0 ?_
    refine r_heap (fun S11 eS11 => ?_)
    have h := h S11 eS11
    have o_a2 := ob_I eS11 o_a2
    have o_a6 := ob_I eS11 o_a6
    have o_v0 := ob_I eS11 o_v0
    refine r_aload_n (pc := 194) C dX11_day_194 0 rfl ?_
    refine r_aload_n (pc := 195) C dX11_day_195 0 rfl ?_
    refine r_geti (pc := 196) C fL_X11_475 dX11_day_196 o_v0 ?_
    refine r_topi (fun x12 ex12 => ?_)
    have h := h x12 ex12
    refine r_callVi0 (pc := 199) C (rest := []) (a := v0) o_v0 [.int x12] yV_X11_good g_1518 (c_X11_good h) dX11_day_199 rfl rfl (Nat.le_of_ble_eq_true rfl) ⟨by decide, by decide⟩ ⟨by decide, by decide⟩ ⟨rfl, rfl⟩ (fun x15 S13 h g14 => ?_)
    have h := h g14
    have o_a2 := gr_ob g14 o_a2
    have o_a6 := gr_ob g14 o_a6
    have o_v0 := gr_ob g14 o_v0
    exact r_iret (pc := 202) C E ht dX11_day_202 (by decide) (by decide) h
  · have h := h.2 c1
    refine r_aload_n (pc := 154) C dX11_day_154 0 rfl ?_
    obtain ⟨o_v0, h⟩ := h
    obtain ⟨a16, ea16, h⟩ := h
    refine r_getr (pc := 155) C fL_X11_31 dX11_day_155 o_v0 ea16 ?_
    refine r_iload (pc := 158) C dX11_day_158 3 rfl ?_
    refine r_lconst (pc := 160) C (v := (0 : Int64)) dX11_day_160 (by decide) ?_
    obtain ⟨o_a16, h⟩ := h
    obtain ⟨i17, h⟩ := h
    refine r_last (pc := 161) C dX11_day_161 o_a16 i17 ?_
    refine r_heap (fun S18 eS18 => ?_)
    have h := h S18 eS18
    have o_a16 := ob_J eS18 o_a16
    have o_v0 := ob_J eS18 o_v0
    obtain ⟨x19, ex19⟩ : ∃ z : Int32, z = v6 + (1 : Int32) := ⟨_, rfl⟩
    have h := h x19 ex19
    refine r_iinc (pc := 162) C (v := x19) (lv' := [(6, .int x19), (0, .ref v0), (2, .int v2), (3, .int v3)]) dX11_day_162 3 rfl ex19.symm (by decide) rfl ?_
    refine r_goto (pc := 165) C (tgt := 147) dX11_day_165 (by decide) ?_
    exact r_sub [1, 2, 3, 0] rfl (hX147 v0 v2 v3 x19 S18 h)
theorem T_X11_day_147 {X : CX} {Q : Int32 → HS → Prop} (C : Cx X cX11_day RX11 7 rm_X11_day) (E : ReI X rm_X11_day Q) (ht : (xh X).sig.returnType = (some .int)) (hn : (xh X).name = yX11_day.name) {v0 : Nat} {v2 : Int32} {v3 : Int32} {v6 : Int32} {S : HS} (h : P_X11_day_147 Q v0 v2 v3 v6 S) : WS X 7 0 0 147 [(0, .ref v0), (2, .int v2), (3, .int v3), (6, .int v6)] [] S :=
  h (fun v0 v2 v3 v6 S => WS X 7 0 0 147 [(0, .ref v0), (2, .int v2), (3, .int v3), (6, .int v6)] [] S) (fun v0 v2 v3 v6 S hh => TB_X11_day_147 C E ht hn (fun v0 v2 v3 v6 S z => z) hh)
def B_X11_day_73 (Q : Int32 → HS → Prop) (X73 : Nat → Int32 → Int32 → Int32 → Int32 → HS → Prop) (v0 : Nat) (v2 : Int32) (v3 : Int32) (v5 : Int32) (v6 : Int32) (S : HS) : Prop := ob S v0 11 ∧ (∃ a1 : Nat, fR S v0 3 = some a1 ∧ (ob S a1 10 ∧ (∀ x2 : Int32, x2 = fI S a1 1 → (((x2 ≤ v6) → (P_X11_day_147 Q v0 v2 v3 (0 : Int32) S)) ∧ ((¬ x2 ≤ v6) → (∀ x4 : Int64, x4 = (((75 : Int64) * v5.toInt64) + (74 : Int64)) - (((75 : Int64) * v5.toInt64) + (74 : Int64)) / (65537 : Int64) * (65537 : Int64) → (∀ x5 : Int32, x5 = x4.toInt32 → (∀ x6 : Int32, x6 = fI S v0 20 → (∀ x7 : Int32, x7 = x5 - x5 / (100 : Int32) * (100 : Int32) → (∃ a8 : Nat, fR S v0 3 = some a8 ∧ (ob S a8 10 ∧ (∃ a9 : Nat, fR S a8 11 = some a9 ∧ (ob S a9 13 ∧ (vp_in v6 (hN S a9) ∧ ∀ x11 : Int32, x11 = fI S a9 v6.toNatClampNeg → (((x11 ≤ x7) → (P_X11_day_134 Q X73 v0 v2 v3 x5 v6 v0 x6 (0 : Int32) S)) ∧ ((¬ x11 ≤ x7) → (P_X11_day_134 Q X73 v0 v2 v3 x5 v6 v0 x6 ((1 : Int32) <<< (v6 &&& 31)) S)))))))))))))))))
def P_X11_day_73 (Q : Int32 → HS → Prop) (v0 : Nat) (v2 : Int32) (v3 : Int32) (v5 : Int32) (v6 : Int32) (S : HS) : Prop := ∀ X73 : Nat → Int32 → Int32 → Int32 → Int32 → HS → Prop, (∀ (v0 : Nat) (v2 : Int32) (v3 : Int32) (v5 : Int32) (v6 : Int32) (S : HS), B_X11_day_73 Q X73 v0 v2 v3 v5 v6 S → X73 v0 v2 v3 v5 v6 S) → X73 v0 v2 v3 v5 v6 S
set_option maxRecDepth 20000 in
set_option maxHeartbeats 4000000 in
theorem TB_X11_day_73 {X : CX} {Q : Int32 → HS → Prop} (C : Cx X cX11_day RX11 7 rm_X11_day) (E : ReI X rm_X11_day Q) (ht : (xh X).sig.returnType = (some .int)) (hn : (xh X).name = yX11_day.name) {X73 : Nat → Int32 → Int32 → Int32 → Int32 → HS → Prop} (hX73 : ∀ (v0 : Nat) (v2 : Int32) (v3 : Int32) (v5 : Int32) (v6 : Int32) (S : HS), X73 v0 v2 v3 v5 v6 S → WS X 7 0 0 73 [(0, .ref v0), (2, .int v2), (3, .int v3), (5, .int v5), (6, .int v6)] [] S) {v0 : Nat} {v2 : Int32} {v3 : Int32} {v5 : Int32} {v6 : Int32} {S : HS} (h : B_X11_day_73 Q X73 v0 v2 v3 v5 v6 S) : WS X 7 0 0 73 [(0, .ref v0), (2, .int v2), (3, .int v3), (5, .int v5), (6, .int v6)] [] S := by
  refine r_iload (pc := 73) C dX11_day_73 4 rfl ?_
  refine r_aload_n (pc := 75) C dX11_day_75 0 rfl ?_
  obtain ⟨o_v0, h⟩ := h
  obtain ⟨a1, ea1, h⟩ := h
  refine r_getr (pc := 76) C fL_X11_338 dX11_day_76 o_v0 ea1 ?_
  obtain ⟨o_a1, h⟩ := h
  refine r_getNi (pc := 79) C fN_X11_219 dX11_day_79 o_a1 ?_
  refine r_topi (fun x2 ex2 => ?_)
  have h := h x2 ex2
  refine r_icmp_ge (pc := 82) C (tgt := 144) dX11_day_82 (by decide) (fun c3 => ?_) (fun c3 => ?_)
  · have h := h.1 c3
    refine r_iconst (pc := 144) C (v := (0 : Int32)) dX11_day_144 (by decide) ?_
    refine r_istore (pc := 145) C dX11_day_145 (by decide) (lv' := [(6, .int (0 : Int32)), (0, .ref v0), (2, .int v2), (3, .int v3), (5, .int v5)]) rfl ?_
    exact r_sub [1, 2, 3, 0] rfl (T_X11_day_147 C E ht hn h)
  · have h := h.2 c3
    refine r_ldc2 (pc := 85) C (v := (75 : Int64)) dX11_day_85 g_1772 ?_
    refine r_iload (pc := 88) C dX11_day_88 3 rfl ?_
    refine r_i2l (pc := 90) C dX11_day_90 ?_
    refine r_lmul (pc := 91) C dX11_day_91 ?_
    refine r_ldc2 (pc := 92) C (v := (74 : Int64)) dX11_day_92 g_1773 ?_
    refine r_ladd (pc := 95) C dX11_day_95 ?_
    refine r_ldc2 (pc := 96) C (v := (65537 : Int64)) dX11_day_96 g_1774 ?_
    refine r_lrem (pc := 99) C dX11_day_99 (by decide) ?_
    refine r_topl (fun x4 ex4 => ?_)
    have h := h x4 ex4
    refine r_l2i (pc := 100) C dX11_day_100 ?_
    refine r_topi (fun x5 ex5 => ?_)
    have h := h x5 ex5
    refine r_istore (pc := 101) C dX11_day_101 (by decide) (lv' := [(5, .int x5), (0, .ref v0), (2, .int v2), (3, .int v3), (6, .int v6)]) rfl ?_
    refine r_aload_n (pc := 103) C dX11_day_103 1 rfl ?_
    refine r_dup (pc := 104) C dX11_day_104 rfl ?_
    refine r_geti (pc := 105) C fL_X11_475 dX11_day_105 o_v0 ?_
    refine r_topi (fun x6 ex6 => ?_)
    have h := h x6 ex6
    refine r_iload (pc := 108) C dX11_day_108 0 rfl ?_
    refine r_bipush (pc := 110) C (v := (100 : Int32)) dX11_day_110 (by decide) ?_
    refine r_irem (pc := 112) C dX11_day_112 (by decide) ?_
    refine r_topi (fun x7 ex7 => ?_)
    have h := h x7 ex7
    refine r_aload_n (pc := 113) C dX11_day_113 1 rfl ?_
    obtain ⟨a8, ea8, h⟩ := h
    refine r_getr (pc := 114) C fL_X11_338 dX11_day_114 o_v0 ea8 ?_
    obtain ⟨o_a8, h⟩ := h
    obtain ⟨a9, ea9, h⟩ := h
    refine r_getNr (pc := 117) C fN_X11_246 dX11_day_117 o_a8 ea9 ?_
    refine r_iload (pc := 120) C dX11_day_120 4 rfl ?_
    obtain ⟨o_a9, h⟩ := h
    obtain ⟨i10, h⟩ := h
    refine r_iald (pc := 122) C dX11_day_122 o_a9 i10 ?_
    refine r_topi (fun x11 ex11 => ?_)
    have h := h x11 ex11
    refine r_icmp_ge (pc := 123) C (tgt := 133) dX11_day_123 (by decide) (fun c12 => ?_) (fun c12 => ?_)
    · have h := h.1 c12
      refine r_iconst (pc := 133) C (v := (0 : Int32)) dX11_day_133 (by decide) ?_
      exact r_sub [1, 2, 3, 0, 4] rfl (T_X11_day_134 C E ht hn hX73 h)
    · have h := h.2 c12
      refine r_iconst (pc := 126) C (v := (1 : Int32)) dX11_day_126 (by decide) ?_
      refine r_iload (pc := 127) C dX11_day_127 4 rfl ?_
      refine r_ishl (pc := 129) C dX11_day_129 ?_
      refine r_goto (pc := 130) C (tgt := 134) dX11_day_130 (by decide) ?_
      exact r_sub [1, 2, 3, 0, 4] rfl (T_X11_day_134 C E ht hn hX73 h)
theorem T_X11_day_73 {X : CX} {Q : Int32 → HS → Prop} (C : Cx X cX11_day RX11 7 rm_X11_day) (E : ReI X rm_X11_day Q) (ht : (xh X).sig.returnType = (some .int)) (hn : (xh X).name = yX11_day.name) {v0 : Nat} {v2 : Int32} {v3 : Int32} {v5 : Int32} {v6 : Int32} {S : HS} (h : P_X11_day_73 Q v0 v2 v3 v5 v6 S) : WS X 7 0 0 73 [(0, .ref v0), (2, .int v2), (3, .int v3), (5, .int v5), (6, .int v6)] [] S :=
  h (fun v0 v2 v3 v5 v6 S => WS X 7 0 0 73 [(0, .ref v0), (2, .int v2), (3, .int v3), (5, .int v5), (6, .int v6)] [] S) (fun v0 v2 v3 v5 v6 S hh => TB_X11_day_73 C E ht hn (fun v0 v2 v3 v5 v6 S z => z) hh)
def P_X11_day_0 (Q : Int32 → HS → Prop) (v0 : Nat) (v1 : Int32) (v2 : Int32) (v3 : Int32) (v4 : Int32) (S : HS) : Prop := ob S v0 11 ∧ (∀ S1 : HS, S1 = sI S v0 0 (0 : Int32) → (P_X11_isWalker v0 v1 (fun x4 S2 => Gr S1 S2 → bl x4 → (((x4 = 0) → (P_X11_day_21 Q v0 S2)) ∧ ((¬ x4 = 0) → (P_X11_isPlace v0 v2 (fun x8 S6 => Gr S2 S6 → bl x8 → (((¬ x8 = 0) → (P_X11_in v3 (0 : Int32) (400 : Int32) (fun x12 S10 => Gr S6 S10 → bl x12 → (((x12 = 0) → (P_X11_day_50 Q v0 S10)) ∧ ((¬ x12 = 0) → (P_X11_in v4 (0 : Int32) (65536 : Int32) (fun x16 S14 => Gr S10 S14 → bl x16 → (((¬ x16 = 0) → (∀ S18 : HS, S18 = sI S14 v0 19 v1 → (∀ S19 : HS, S19 = sI S18 v0 20 (0 : Int32) → (P_X11_day_73 Q v0 v2 v3 v4 (0 : Int32) S19)))) ∧ ((x16 = 0) → (P_X11_day_50 Q v0 S14)))) S10)))) S6)) ∧ ((x8 = 0) → (P_X11_day_21 Q v0 S6)))) S2)))) S1))
set_option maxRecDepth 20000 in
set_option maxHeartbeats 4000000 in
theorem T_X11_day_0 {X : CX} {Q : Int32 → HS → Prop} (C : Cx X cX11_day RX11 7 rm_X11_day) (E : ReI X rm_X11_day Q) (ht : (xh X).sig.returnType = (some .int)) (hn : (xh X).name = yX11_day.name) {v0 : Nat} {v1 : Int32} {v2 : Int32} {v3 : Int32} {v4 : Int32} {S : HS} (h : P_X11_day_0 Q v0 v1 v2 v3 v4 S) : WS X 7 0 0 0 [(0, .ref v0), (1, .int v1), (2, .int v2), (3, .int v3), (4, .int v4)] [] S := by
  refine r_aload_n (pc := 0) C dX11_day_0 0 rfl ?_
  refine r_iconst (pc := 1) C (v := (0 : Int32)) dX11_day_1 (by decide) ?_
  obtain ⟨o_v0, h⟩ := h
  refine r_puti (pc := 2) C pfL_X11_40 dX11_day_2 o_v0 ?_
  refine r_heap (fun S1 eS1 => ?_)
  have h := h S1 eS1
  have o_v0 := ob_I eS1 o_v0
  refine r_aload_n (pc := 5) C dX11_day_5 0 rfl ?_
  refine r_iload_n (pc := 6) C dX11_day_6 1 rfl ?_
  refine r_callVi0 (pc := 7) C (rest := []) (a := v0) o_v0 [.int v1] yV_X11_isWalker g_1538 (c_X11_isWalker h) dX11_day_7 rfl rfl (Nat.le_of_ble_eq_true rfl) ⟨by decide, by decide⟩ ⟨by decide, by decide⟩ ⟨rfl, rfl⟩ (fun x4 S2 h g3 => ?_)
  have bx4 := h.1
  have h := h.2 g3 bx4
  have o_v0 := gr_ob g3 o_v0
  refine r_if_eq (pc := 10) C (tgt := 21) dX11_day_10 (by decide) (fun c5 => ?_) (fun c5 => ?_)
  · have h := h.1 c5
    exact r_sub [0] rfl (T_X11_day_21 C E ht hn h)
  · have h := h.2 c5
    refine r_aload_n (pc := 13) C dX11_day_13 0 rfl ?_
    refine r_iload_n (pc := 14) C dX11_day_14 2 rfl ?_
    refine r_callVi0 (pc := 15) C (rest := []) (a := v0) o_v0 [.int v2] yV_X11_isPlace g_1679 (c_X11_isPlace h) dX11_day_15 rfl rfl (Nat.le_of_ble_eq_true rfl) ⟨by decide, by decide⟩ ⟨by decide, by decide⟩ ⟨rfl, rfl⟩ (fun x8 S6 h g7 => ?_)
    have bx8 := h.1
    have h := h.2 g7 bx8
    have o_v0 := gr_ob g7 o_v0
    refine r_if_ne (pc := 18) C (tgt := 27) dX11_day_18 (by decide) (fun c9 => ?_) (fun c9 => ?_)
    · have h := h.1 c9
      refine r_iload_n (pc := 27) C dX11_day_27 3 rfl ?_
      refine r_iconst (pc := 28) C (v := (0 : Int32)) dX11_day_28 (by decide) ?_
      refine r_sipush (pc := 29) C (v := (400 : Int32)) dX11_day_29 (by decide) ?_
      refine r_callSi0 (pc := 32) C (rest := []) rfl [.int v3, .int (0 : Int32), .int (400 : Int32)] yS_X11_in g_1434 (c_X11_in h) dX11_day_32 rfl rfl (Nat.le_of_ble_eq_true rfl) ⟨by decide, by decide⟩ ⟨by decide, by decide⟩ ⟨rfl, rfl⟩ (fun x12 S10 h g11 => ?_)
      have bx12 := h.1
      have h := h.2 g11 bx12
      have o_v0 := gr_ob g11 o_v0
      refine r_if_eq (pc := 35) C (tgt := 50) dX11_day_35 (by decide) (fun c13 => ?_) (fun c13 => ?_)
      · have h := h.1 c13
        exact r_sub [0] rfl (T_X11_day_50 C E ht hn h)
      · have h := h.2 c13
        refine r_iload (pc := 38) C dX11_day_38 4 rfl ?_
        refine r_iconst (pc := 40) C (v := (0 : Int32)) dX11_day_40 (by decide) ?_
        refine r_ldcw (pc := 41) C (v := (65536 : Int32)) dX11_day_41 g_1771 ?_
        refine r_callSi0 (pc := 44) C (rest := []) rfl [.int v4, .int (0 : Int32), .int (65536 : Int32)] yS_X11_in g_1434 (c_X11_in h) dX11_day_44 rfl rfl (Nat.le_of_ble_eq_true rfl) ⟨by decide, by decide⟩ ⟨by decide, by decide⟩ ⟨rfl, rfl⟩ (fun x16 S14 h g15 => ?_)
        have bx16 := h.1
        have h := h.2 g15 bx16
        have o_v0 := gr_ob g15 o_v0
        refine r_if_ne (pc := 47) C (tgt := 56) dX11_day_47 (by decide) (fun c17 => ?_) (fun c17 => ?_)
        · have h := h.1 c17
          refine r_aload_n (pc := 56) C dX11_day_56 0 rfl ?_
          refine r_iload_n (pc := 57) C dX11_day_57 1 rfl ?_
          refine r_puti (pc := 58) C pfL_X11_28 dX11_day_58 o_v0 ?_
          refine r_heap (fun S18 eS18 => ?_)
          have h := h S18 eS18
          have o_v0 := ob_I eS18 o_v0
          refine r_aload_n (pc := 61) C dX11_day_61 0 rfl ?_
          refine r_iconst (pc := 62) C (v := (0 : Int32)) dX11_day_62 (by decide) ?_
          refine r_puti (pc := 63) C pfL_X11_475 dX11_day_63 o_v0 ?_
          refine r_heap (fun S19 eS19 => ?_)
          have h := h S19 eS19
          have o_v0 := ob_I eS19 o_v0
          refine r_iload (pc := 66) C dX11_day_66 4 rfl ?_
          refine r_istore (pc := 68) C dX11_day_68 (by decide) (lv' := [(5, .int v4), (0, .ref v0), (1, .int v1), (2, .int v2), (3, .int v3), (4, .int v4)]) rfl ?_
          refine r_iconst (pc := 70) C (v := (0 : Int32)) dX11_day_70 (by decide) ?_
          refine r_istore (pc := 71) C dX11_day_71 (by decide) (lv' := [(6, .int (0 : Int32)), (5, .int v4), (0, .ref v0), (1, .int v1), (2, .int v2), (3, .int v3), (4, .int v4)]) rfl ?_
          exact r_sub [2, 4, 5, 1, 0] rfl (T_X11_day_73 C E ht hn h)
        · have h := h.2 c17
          exact r_sub [0] rfl (T_X11_day_50 C E ht hn h)
    · have h := h.2 c9
      exact r_sub [0] rfl (T_X11_day_21 C E ht hn h)
def P_X11_day (v0 : Nat) (v1 : Int32) (v2 : Int32) (v3 : Int32) (v4 : Int32) (Q : Int32 → HS → Prop) (S : HS) : Prop := P_X11_day_0 Q v0 v1 v2 v3 v4 S
theorem c_X11_day {l : Launch} {Ee : EE} {S : HS} {v0 : Nat} {v1 : Int32} {v2 : Int32} {v3 : Int32} {v4 : Int32} {Q : Int32 → HS → Prop} (h : P_X11_day v0 v1 v2 v3 v4 Q S) : MI l yX11_day cX11_day 7 (some .int) rm_X11_day Ee S [.ref v0, .int v1, .int v2, .int v3, .int v4] Q :=
  openI (by decide) (Nat.le_of_ble_eq_true rfl) (fun X C E ht hn hE hl => by subst hE; exact r_sub [0, 1, 2, 3, 4] rfl (T_X11_day_0 C E ht hn h))
def rm_X11_wetAtBest : Room := { frames := 7, cells := 0, slots := 0, locals := 189 }
def P_X11_wetAtBest_0 (Q : Int64 → HS → Prop) (v0 : Nat) (v1 : Int32) (v2 : Int32) (v3 : Int32) (v4 : Int32) (S : HS) : Prop := ob S v0 11 ∧ (P_X11_bestOf v0 v1 v2 v3 v4 (fun x3 S1 => Gr S S1 → (P_X11_wetOf v0 v1 v2 v3 v4 x3 (fun x6 S4 => Gr S1 S4 → (Q x6 S4)) S1)) S)
set_option maxRecDepth 20000 in
set_option maxHeartbeats 4000000 in
theorem T_X11_wetAtBest_0 {X : CX} {Q : Int64 → HS → Prop} (C : Cx X cX11_wetAtBest RX11 5 rm_X11_wetAtBest) (E : ReJ X rm_X11_wetAtBest Q) (ht : (xh X).sig.returnType = (some .long)) (hn : (xh X).name = yX11_wetAtBest.name) {v0 : Nat} {v1 : Int32} {v2 : Int32} {v3 : Int32} {v4 : Int32} {S : HS} (h : P_X11_wetAtBest_0 Q v0 v1 v2 v3 v4 S) : WS X 5 0 0 0 [(0, .ref v0), (1, .int v1), (2, .int v2), (3, .int v3), (4, .int v4)] [] S := by
  refine r_aload_n (pc := 0) C dX11_wetAtBest_0 0 rfl ?_
  refine r_iload_n (pc := 1) C dX11_wetAtBest_1 1 rfl ?_
  refine r_iload_n (pc := 2) C dX11_wetAtBest_2 2 rfl ?_
  refine r_iload_n (pc := 3) C dX11_wetAtBest_3 3 rfl ?_
  refine r_iload (pc := 4) C dX11_wetAtBest_4 4 rfl ?_
  refine r_aload_n (pc := 6) C dX11_wetAtBest_6 0 rfl ?_
  refine r_iload_n (pc := 7) C dX11_wetAtBest_7 1 rfl ?_
  refine r_iload_n (pc := 8) C dX11_wetAtBest_8 2 rfl ?_
  refine r_iload_n (pc := 9) C dX11_wetAtBest_9 3 rfl ?_
  refine r_iload (pc := 10) C dX11_wetAtBest_10 4 rfl ?_
  obtain ⟨o_v0, h⟩ := h
  refine r_callVi0 (pc := 12) C (rest := [.int v4, .int v3, .int v2, .int v1, .ref v0]) (a := v0) o_v0 [.int v1, .int v2, .int v3, .int v4] yV_X11_bestOf g_1627 (c_X11_bestOf h) dX11_wetAtBest_12 rfl rfl (Nat.le_of_ble_eq_true rfl) ⟨by decide, by decide⟩ ⟨by decide, by decide⟩ ⟨rfl, rfl⟩ (fun x3 S1 h g2 => ?_)
  have h := h g2
  have o_v0 := gr_ob g2 o_v0
  refine r_callVl0 (pc := 15) C (rest := []) (a := v0) o_v0 [.int v1, .int v2, .int v3, .int v4, .int x3] yV_X11_wetOf g_1594 (c_X11_wetOf h) dX11_wetAtBest_15 rfl rfl (Nat.le_of_ble_eq_true rfl) ⟨by decide, by decide⟩ ⟨by decide, by decide⟩ ⟨rfl, rfl⟩ (fun x6 S4 h g5 => ?_)
  have h := h g5
  have o_v0 := gr_ob g5 o_v0
  exact r_lret (pc := 18) C E ht dX11_wetAtBest_18 (by decide) (by decide) h
def P_X11_wetAtBest (v0 : Nat) (v1 : Int32) (v2 : Int32) (v3 : Int32) (v4 : Int32) (Q : Int64 → HS → Prop) (S : HS) : Prop := P_X11_wetAtBest_0 Q v0 v1 v2 v3 v4 S
theorem c_X11_wetAtBest {l : Launch} {Ee : EE} {S : HS} {v0 : Nat} {v1 : Int32} {v2 : Int32} {v3 : Int32} {v4 : Int32} {Q : Int64 → HS → Prop} (h : P_X11_wetAtBest v0 v1 v2 v3 v4 Q S) : MJ l yX11_wetAtBest cX11_wetAtBest 5 (some .long) rm_X11_wetAtBest Ee S [.ref v0, .int v1, .int v2, .int v3, .int v4] Q :=
  openJ (by decide) (Nat.le_of_ble_eq_true rfl) (fun X C E ht hn hE hl => by subst hE; exact r_sub [0, 1, 2, 3, 4] rfl (T_X11_wetAtBest_0 C E ht hn h))
def rm_X11_driest : Room := { frames := 8, cells := 0, slots := 0, locals := 213 }
def P_X11_driest_30 (Q : Int32 → HS → Prop) (v0 : Nat) (S : HS) : Prop := ob S v0 11 ∧ (P_X11_refused v0 (1 : Int32) (fun x3 S1 => Gr S S1 → (Q x3 S1)) S)
set_option maxRecDepth 20000 in
set_option maxHeartbeats 4000000 in
theorem T_X11_driest_30 {X : CX} {Q : Int32 → HS → Prop} (C : Cx X cX11_driest RX11 10 rm_X11_driest) (E : ReI X rm_X11_driest Q) (ht : (xh X).sig.returnType = (some .int)) (hn : (xh X).name = yX11_driest.name) {v0 : Nat} {S : HS} (h : P_X11_driest_30 Q v0 S) : WS X 10 0 0 30 [(0, .ref v0)] [] S := by
  refine r_aload_n (pc := 30) C dX11_driest_30 0 rfl ?_
  refine r_iconst (pc := 31) C (v := (1 : Int32)) dX11_driest_31 (by decide) ?_
  obtain ⟨o_v0, h⟩ := h
  refine r_callVi0 (pc := 32) C (rest := []) (a := v0) o_v0 [.int (1 : Int32)] yV_X11_refused g_1250 (c_X11_refused h) dX11_driest_32 rfl rfl (Nat.le_of_ble_eq_true rfl) ⟨by decide, by decide⟩ ⟨by decide, by decide⟩ ⟨rfl, rfl⟩ (fun x3 S1 h g2 => ?_)
  have h := h g2
  have o_v0 := gr_ob g2 o_v0
  exact r_iret (pc := 35) C E ht dX11_driest_35 (by decide) (by decide) h
def P_X11_driest_105 (Q : Int32 → HS → Prop) (X45 : Nat → Int32 → Int32 → Int32 → Int32 → Int64 → Int32 → HS → Prop) (v0 : Nat) (v1 : Int32) (v2 : Int32) (v3 : Int32) (v4 : Int32) (v5 : Int64) (v7 : Int32) (S : HS) : Prop := ∀ x1 : Int32, x1 = v7 + (1 : Int32) → (X45 v0 v1 v2 v3 v4 v5 x1 S)
set_option maxRecDepth 20000 in
set_option maxHeartbeats 4000000 in
theorem T_X11_driest_105 {X : CX} {Q : Int32 → HS → Prop} (C : Cx X cX11_driest RX11 10 rm_X11_driest) (E : ReI X rm_X11_driest Q) (ht : (xh X).sig.returnType = (some .int)) (hn : (xh X).name = yX11_driest.name) {X45 : Nat → Int32 → Int32 → Int32 → Int32 → Int64 → Int32 → HS → Prop} (hX45 : ∀ (v0 : Nat) (v1 : Int32) (v2 : Int32) (v3 : Int32) (v4 : Int32) (v5 : Int64) (v7 : Int32) (S : HS), X45 v0 v1 v2 v3 v4 v5 v7 S → WS X 10 0 0 45 [(0, .ref v0), (1, .int v1), (2, .int v2), (3, .int v3), (4, .int v4), (5, .long v5), (7, .int v7)] [] S) {v0 : Nat} {v1 : Int32} {v2 : Int32} {v3 : Int32} {v4 : Int32} {v5 : Int64} {v7 : Int32} {S : HS} (h : P_X11_driest_105 Q X45 v0 v1 v2 v3 v4 v5 v7 S) : WS X 10 0 0 105 [(0, .ref v0), (1, .int v1), (2, .int v2), (3, .int v3), (4, .int v4), (5, .long v5), (7, .int v7)] [] S := by
  obtain ⟨x1, ex1⟩ : ∃ z : Int32, z = v7 + (1 : Int32) := ⟨_, rfl⟩
  have h := h x1 ex1
  refine r_iinc (pc := 105) C (v := x1) (lv' := [(7, .int x1), (0, .ref v0), (1, .int v1), (2, .int v2), (3, .int v3), (4, .int v4), (5, .long v5)]) dX11_driest_105 6 rfl ex1.symm (by decide) rfl ?_
  refine r_goto (pc := 108) C (tgt := 45) dX11_driest_108 (by decide) ?_
  exact r_sub [1, 2, 3, 4, 5, 6, 0] rfl (hX45 v0 v1 v2 v3 v4 v5 x1 S h)
def P_X11_driest_97 (Q : Int32 → HS → Prop) (X45 : Nat → Int32 → Int32 → Int32 → Int32 → Int64 → Int32 → HS → Prop) (v0 : Nat) (v1 : Int32) (v2 : Int32) (v3 : Int32) (v7 : Int32) (v8 : Int64) (S : HS) : Prop := P_X11_driest_105 Q X45 v0 v1 v2 v3 v7 v8 v7 S
set_option maxRecDepth 20000 in
set_option maxHeartbeats 4000000 in
theorem T_X11_driest_97 {X : CX} {Q : Int32 → HS → Prop} (C : Cx X cX11_driest RX11 10 rm_X11_driest) (E : ReI X rm_X11_driest Q) (ht : (xh X).sig.returnType = (some .int)) (hn : (xh X).name = yX11_driest.name) {X45 : Nat → Int32 → Int32 → Int32 → Int32 → Int64 → Int32 → HS → Prop} (hX45 : ∀ (v0 : Nat) (v1 : Int32) (v2 : Int32) (v3 : Int32) (v4 : Int32) (v5 : Int64) (v7 : Int32) (S : HS), X45 v0 v1 v2 v3 v4 v5 v7 S → WS X 10 0 0 45 [(0, .ref v0), (1, .int v1), (2, .int v2), (3, .int v3), (4, .int v4), (5, .long v5), (7, .int v7)] [] S) {v0 : Nat} {v1 : Int32} {v2 : Int32} {v3 : Int32} {v7 : Int32} {v8 : Int64} {S : HS} (h : P_X11_driest_97 Q X45 v0 v1 v2 v3 v7 v8 S) : WS X 10 0 0 97 [(0, .ref v0), (1, .int v1), (2, .int v2), (3, .int v3), (7, .int v7), (8, .long v8)] [] S := by
  refine r_iload (pc := 97) C dX11_driest_97 4 rfl ?_
  refine r_istore (pc := 99) C dX11_driest_99 (by decide) (lv' := [(4, .int v7), (0, .ref v0), (1, .int v1), (2, .int v2), (3, .int v3), (7, .int v7), (8, .long v8)]) rfl ?_
  refine r_lload (pc := 101) C dX11_driest_101 6 rfl ?_
  refine r_lstore (pc := 103) C dX11_driest_103 (by decide) (lv' := [(5, .long v8), (4, .int v7), (0, .ref v0), (1, .int v1), (2, .int v2), (3, .int v3), (7, .int v7), (8, .long v8)]) rfl ?_
  exact r_sub [2, 3, 4, 5, 1, 0, 6] rfl (T_X11_driest_105 C E ht hn hX45 h)
def B_X11_driest_45 (Q : Int32 → HS → Prop) (X45 : Nat → Int32 → Int32 → Int32 → Int32 → Int64 → Int32 → HS → Prop) (v0 : Nat) (v1 : Int32) (v2 : Int32) (v3 : Int32) (v4 : Int32) (v5 : Int64) (v7 : Int32) (S : HS) : Prop := ob S v0 11 ∧ (∃ a1 : Nat, fR S v0 3 = some a1 ∧ (ob S a1 10 ∧ (∀ x2 : Int32, x2 = fI S a1 1 → (((x2 ≤ v7) → (((¬ v4 = (-1 : Int32)) → (P_X11_good v0 v4 (fun x7 S5 => Gr S S5 → (Q x7 S5)) S)) ∧ ((v4 = (-1 : Int32)) → (P_X11_refused v0 (6 : Int32) (fun x10 S8 => Gr S S8 → (Q x10 S8)) S)))) ∧ ((¬ x2 ≤ v7) → (P_X11_wetAtBest v0 v1 v2 v3 v7 (fun x13 S11 => Gr S S11 → (∃ a14 : Nat, fR S11 v0 3 = some a14 ∧ (ob S11 a14 10 ∧ (∃ a15 : Nat, fR S11 a14 11 = some a15 ∧ (ob S11 a15 13 ∧ (vp_in v7 (hN S11 a15) ∧ ∀ x17 : Int32, x17 = fI S11 a15 v7.toNatClampNeg → (∀ x18 : Int64, x18 = x13 * x17.toInt64 → (((v4 = (-1 : Int32)) → (P_X11_driest_97 Q X45 v0 v1 v2 v3 v7 x18 S11)) ∧ ((¬ v4 = (-1 : Int32)) → ((((lg_cmp x18 v5) < 0) → (P_X11_driest_97 Q X45 v0 v1 v2 v3 v7 x18 S11)) ∧ ((¬ (lg_cmp x18 v5) < 0) → (P_X11_driest_105 Q X45 v0 v1 v2 v3 v4 v5 v7 S11)))))))))))) S))))))
def P_X11_driest_45 (Q : Int32 → HS → Prop) (v0 : Nat) (v1 : Int32) (v2 : Int32) (v3 : Int32) (v4 : Int32) (v5 : Int64) (v7 : Int32) (S : HS) : Prop := ∀ X45 : Nat → Int32 → Int32 → Int32 → Int32 → Int64 → Int32 → HS → Prop, (∀ (v0 : Nat) (v1 : Int32) (v2 : Int32) (v3 : Int32) (v4 : Int32) (v5 : Int64) (v7 : Int32) (S : HS), B_X11_driest_45 Q X45 v0 v1 v2 v3 v4 v5 v7 S → X45 v0 v1 v2 v3 v4 v5 v7 S) → X45 v0 v1 v2 v3 v4 v5 v7 S
set_option maxRecDepth 20000 in
set_option maxHeartbeats 4000000 in
theorem TB_X11_driest_45 {X : CX} {Q : Int32 → HS → Prop} (C : Cx X cX11_driest RX11 10 rm_X11_driest) (E : ReI X rm_X11_driest Q) (ht : (xh X).sig.returnType = (some .int)) (hn : (xh X).name = yX11_driest.name) {X45 : Nat → Int32 → Int32 → Int32 → Int32 → Int64 → Int32 → HS → Prop} (hX45 : ∀ (v0 : Nat) (v1 : Int32) (v2 : Int32) (v3 : Int32) (v4 : Int32) (v5 : Int64) (v7 : Int32) (S : HS), X45 v0 v1 v2 v3 v4 v5 v7 S → WS X 10 0 0 45 [(0, .ref v0), (1, .int v1), (2, .int v2), (3, .int v3), (4, .int v4), (5, .long v5), (7, .int v7)] [] S) {v0 : Nat} {v1 : Int32} {v2 : Int32} {v3 : Int32} {v4 : Int32} {v5 : Int64} {v7 : Int32} {S : HS} (h : B_X11_driest_45 Q X45 v0 v1 v2 v3 v4 v5 v7 S) : WS X 10 0 0 45 [(0, .ref v0), (1, .int v1), (2, .int v2), (3, .int v3), (4, .int v4), (5, .long v5), (7, .int v7)] [] S := by
  refine r_iload (pc := 45) C dX11_driest_45 6 rfl ?_
  refine r_aload_n (pc := 47) C dX11_driest_47 0 rfl ?_
  obtain ⟨o_v0, h⟩ := h
  obtain ⟨a1, ea1, h⟩ := h
  refine r_getr (pc := 48) C fL_X11_338 dX11_driest_48 o_v0 ea1 ?_
  obtain ⟨o_a1, h⟩ := h
  refine r_getNi (pc := 51) C fN_X11_219 dX11_driest_51 o_a1 ?_
  refine r_topi (fun x2 ex2 => ?_)
  have h := h x2 ex2
  refine r_icmp_ge (pc := 54) C (tgt := 111) dX11_driest_54 (by decide) (fun c3 => ?_) (fun c3 => ?_)
  · have h := h.1 c3
    refine r_iload (pc := 111) C dX11_driest_111 4 rfl ?_
    refine r_iconst (pc := 113) C (v := (-1 : Int32)) dX11_driest_113 (by decide) ?_
    refine r_icmp_ne (pc := 114) C (tgt := 126) dX11_driest_114 (by decide) (fun c4 => ?_) (fun c4 => ?_)
    · have h := h.1 c4
      refine r_aload_n (pc := 126) C dX11_driest_126 0 rfl ?_
      refine r_iload (pc := 127) C dX11_driest_127 4 rfl ?_
      refine r_callVi0 (pc := 129) C (rest := []) (a := v0) o_v0 [.int v4] yV_X11_good g_1518 (c_X11_good h) dX11_driest_129 rfl rfl (Nat.le_of_ble_eq_true rfl) ⟨by decide, by decide⟩ ⟨by decide, by decide⟩ ⟨rfl, rfl⟩ (fun x7 S5 h g6 => ?_)
      have h := h g6
      have o_a1 := gr_ob g6 o_a1
      have o_v0 := gr_ob g6 o_v0
      exact r_iret (pc := 132) C E ht dX11_driest_132 (by decide) (by decide) h
    · have h := h.2 c4
      refine r_aload_n (pc := 117) C dX11_driest_117 0 rfl ?_
      refine r_bipush (pc := 118) C (v := (6 : Int32)) dX11_driest_118 (by decide) ?_
      refine r_callVi0 (pc := 120) C (rest := []) (a := v0) o_v0 [.int (6 : Int32)] yV_X11_refused g_1250 (c_X11_refused h) dX11_driest_120 rfl rfl (Nat.le_of_ble_eq_true rfl) ⟨by decide, by decide⟩ ⟨by decide, by decide⟩ ⟨rfl, rfl⟩ (fun x10 S8 h g9 => ?_)
      have h := h g9
      have o_a1 := gr_ob g9 o_a1
      have o_v0 := gr_ob g9 o_v0
      refine r_goto (pc := 123) C (tgt := 132) dX11_driest_123 (by decide) ?_
      exact r_iret (pc := 132) C E ht dX11_driest_132 (by decide) (by decide) h
  · have h := h.2 c3
    refine r_aload_n (pc := 57) C dX11_driest_57 0 rfl ?_
    refine r_iload_n (pc := 58) C dX11_driest_58 1 rfl ?_
    refine r_iload_n (pc := 59) C dX11_driest_59 2 rfl ?_
    refine r_iload_n (pc := 60) C dX11_driest_60 3 rfl ?_
    refine r_iload (pc := 61) C dX11_driest_61 6 rfl ?_
    refine r_callVl0 (pc := 63) C (rest := []) (a := v0) o_v0 [.int v1, .int v2, .int v3, .int v7] yV_X11_wetAtBest g_1647 (c_X11_wetAtBest h) dX11_driest_63 rfl rfl (Nat.le_of_ble_eq_true rfl) ⟨by decide, by decide⟩ ⟨by decide, by decide⟩ ⟨rfl, rfl⟩ (fun x13 S11 h g12 => ?_)
    have h := h g12
    have o_a1 := gr_ob g12 o_a1
    have o_v0 := gr_ob g12 o_v0
    refine r_aload_n (pc := 66) C dX11_driest_66 0 rfl ?_
    obtain ⟨a14, ea14, h⟩ := h
    refine r_getr (pc := 67) C fL_X11_338 dX11_driest_67 o_v0 ea14 ?_
    obtain ⟨o_a14, h⟩ := h
    obtain ⟨a15, ea15, h⟩ := h
    refine r_getNr (pc := 70) C fN_X11_246 dX11_driest_70 o_a14 ea15 ?_
    refine r_iload (pc := 73) C dX11_driest_73 6 rfl ?_
    obtain ⟨o_a15, h⟩ := h
    obtain ⟨i16, h⟩ := h
    refine r_iald (pc := 75) C dX11_driest_75 o_a15 i16 ?_
    refine r_topi (fun x17 ex17 => ?_)
    have h := h x17 ex17
    refine r_i2l (pc := 76) C dX11_driest_76 ?_
    refine r_lmul (pc := 77) C dX11_driest_77 ?_
    refine r_topl (fun x18 ex18 => ?_)
    have h := h x18 ex18
    refine r_lstore (pc := 78) C dX11_driest_78 (by decide) (lv' := [(8, .long x18), (0, .ref v0), (1, .int v1), (2, .int v2), (3, .int v3), (4, .int v4), (5, .long v5), (7, .int v7)]) rfl ?_
    refine r_iload (pc := 80) C dX11_driest_80 5 rfl ?_
    refine r_iconst (pc := 82) C (v := (-1 : Int32)) dX11_driest_82 (by decide) ?_
    refine r_icmp_eq (pc := 83) C (tgt := 97) dX11_driest_83 (by decide) (fun c19 => ?_) (fun c19 => ?_)
    · have h := h.1 c19
      exact r_sub [1, 2, 3, 4, 7, 0] rfl (T_X11_driest_97 C E ht hn hX45 h)
    · have h := h.2 c19
      refine r_lload (pc := 86) C dX11_driest_86 0 rfl ?_
      refine r_lload (pc := 88) C dX11_driest_88 6 rfl ?_
      refine r_lcmp (pc := 90) C dX11_driest_90 ?_
      refine r_if_lt (pc := 91) C (tgt := 97) dX11_driest_91 (by decide) (fun c20 => ?_) (fun c20 => ?_)
      · have h := h.1 c20
        exact r_sub [1, 2, 3, 4, 7, 0] rfl (T_X11_driest_97 C E ht hn hX45 h)
      · have h := h.2 c20
        refine r_goto (pc := 94) C (tgt := 105) dX11_driest_94 (by decide) ?_
        exact r_sub [1, 2, 3, 4, 5, 6, 7] rfl (T_X11_driest_105 C E ht hn hX45 h)
theorem T_X11_driest_45 {X : CX} {Q : Int32 → HS → Prop} (C : Cx X cX11_driest RX11 10 rm_X11_driest) (E : ReI X rm_X11_driest Q) (ht : (xh X).sig.returnType = (some .int)) (hn : (xh X).name = yX11_driest.name) {v0 : Nat} {v1 : Int32} {v2 : Int32} {v3 : Int32} {v4 : Int32} {v5 : Int64} {v7 : Int32} {S : HS} (h : P_X11_driest_45 Q v0 v1 v2 v3 v4 v5 v7 S) : WS X 10 0 0 45 [(0, .ref v0), (1, .int v1), (2, .int v2), (3, .int v3), (4, .int v4), (5, .long v5), (7, .int v7)] [] S :=
  h (fun v0 v1 v2 v3 v4 v5 v7 S => WS X 10 0 0 45 [(0, .ref v0), (1, .int v1), (2, .int v2), (3, .int v3), (4, .int v4), (5, .long v5), (7, .int v7)] [] S) (fun v0 v1 v2 v3 v4 v5 v7 S hh => TB_X11_driest_45 C E ht hn (fun v0 v1 v2 v3 v4 v5 v7 S z => z) hh)
def P_X11_driest_0 (Q : Int32 → HS → Prop) (v0 : Nat) (v1 : Int32) (v2 : Int32) (v3 : Int32) (S : HS) : Prop := ob S v0 11 ∧ (∀ S1 : HS, S1 = sI S v0 0 (0 : Int32) → (P_X11_isWalker v0 v1 (fun x4 S2 => Gr S1 S2 → bl x4 → (((x4 = 0) → (P_X11_driest_30 Q v0 S2)) ∧ ((¬ x4 = 0) → (P_X11_isRoad v0 v2 (fun x8 S6 => Gr S2 S6 → bl x8 → (((x8 = 0) → (P_X11_driest_30 Q v0 S6)) ∧ ((¬ x8 = 0) → (P_X11_in v3 (0 : Int32) (1 : Int32) (fun x12 S10 => Gr S6 S10 → bl x12 → (((¬ x12 = 0) → (P_X11_driest_45 Q v0 v1 v2 v3 (-1 : Int32) (0 : Int64) (0 : Int32) S10)) ∧ ((x12 = 0) → (P_X11_driest_30 Q v0 S10)))) S6)))) S2)))) S1))
set_option maxRecDepth 20000 in
set_option maxHeartbeats 4000000 in
theorem T_X11_driest_0 {X : CX} {Q : Int32 → HS → Prop} (C : Cx X cX11_driest RX11 10 rm_X11_driest) (E : ReI X rm_X11_driest Q) (ht : (xh X).sig.returnType = (some .int)) (hn : (xh X).name = yX11_driest.name) {v0 : Nat} {v1 : Int32} {v2 : Int32} {v3 : Int32} {S : HS} (h : P_X11_driest_0 Q v0 v1 v2 v3 S) : WS X 10 0 0 0 [(0, .ref v0), (1, .int v1), (2, .int v2), (3, .int v3)] [] S := by
  refine r_aload_n (pc := 0) C dX11_driest_0 0 rfl ?_
  refine r_iconst (pc := 1) C (v := (0 : Int32)) dX11_driest_1 (by decide) ?_
  obtain ⟨o_v0, h⟩ := h
  refine r_puti (pc := 2) C pfL_X11_40 dX11_driest_2 o_v0 ?_
  refine r_heap (fun S1 eS1 => ?_)
  have h := h S1 eS1
  have o_v0 := ob_I eS1 o_v0
  refine r_aload_n (pc := 5) C dX11_driest_5 0 rfl ?_
  refine r_iload_n (pc := 6) C dX11_driest_6 1 rfl ?_
  refine r_callVi0 (pc := 7) C (rest := []) (a := v0) o_v0 [.int v1] yV_X11_isWalker g_1538 (c_X11_isWalker h) dX11_driest_7 rfl rfl (Nat.le_of_ble_eq_true rfl) ⟨by decide, by decide⟩ ⟨by decide, by decide⟩ ⟨rfl, rfl⟩ (fun x4 S2 h g3 => ?_)
  have bx4 := h.1
  have h := h.2 g3 bx4
  have o_v0 := gr_ob g3 o_v0
  refine r_if_eq (pc := 10) C (tgt := 30) dX11_driest_10 (by decide) (fun c5 => ?_) (fun c5 => ?_)
  · have h := h.1 c5
    exact r_sub [0] rfl (T_X11_driest_30 C E ht hn h)
  · have h := h.2 c5
    refine r_aload_n (pc := 13) C dX11_driest_13 0 rfl ?_
    refine r_iload_n (pc := 14) C dX11_driest_14 2 rfl ?_
    refine r_callVi0 (pc := 15) C (rest := []) (a := v0) o_v0 [.int v2] yV_X11_isRoad g_1542 (c_X11_isRoad h) dX11_driest_15 rfl rfl (Nat.le_of_ble_eq_true rfl) ⟨by decide, by decide⟩ ⟨by decide, by decide⟩ ⟨rfl, rfl⟩ (fun x8 S6 h g7 => ?_)
    have bx8 := h.1
    have h := h.2 g7 bx8
    have o_v0 := gr_ob g7 o_v0
    refine r_if_eq (pc := 18) C (tgt := 30) dX11_driest_18 (by decide) (fun c9 => ?_) (fun c9 => ?_)
    · have h := h.1 c9
      exact r_sub [0] rfl (T_X11_driest_30 C E ht hn h)
    · have h := h.2 c9
      refine r_iload_n (pc := 21) C dX11_driest_21 3 rfl ?_
      refine r_iconst (pc := 22) C (v := (0 : Int32)) dX11_driest_22 (by decide) ?_
      refine r_iconst (pc := 23) C (v := (1 : Int32)) dX11_driest_23 (by decide) ?_
      refine r_callSi0 (pc := 24) C (rest := []) rfl [.int v3, .int (0 : Int32), .int (1 : Int32)] yS_X11_in g_1434 (c_X11_in h) dX11_driest_24 rfl rfl (Nat.le_of_ble_eq_true rfl) ⟨by decide, by decide⟩ ⟨by decide, by decide⟩ ⟨rfl, rfl⟩ (fun x12 S10 h g11 => ?_)
      have bx12 := h.1
      have h := h.2 g11 bx12
      have o_v0 := gr_ob g11 o_v0
      refine r_if_ne (pc := 27) C (tgt := 36) dX11_driest_27 (by decide) (fun c13 => ?_) (fun c13 => ?_)
      · have h := h.1 c13
        refine r_iconst (pc := 36) C (v := (-1 : Int32)) dX11_driest_36 (by decide) ?_
        refine r_istore (pc := 37) C dX11_driest_37 (by decide) (lv' := [(4, .int (-1 : Int32)), (0, .ref v0), (1, .int v1), (2, .int v2), (3, .int v3)]) rfl ?_
        refine r_lconst (pc := 39) C (v := (0 : Int64)) dX11_driest_39 (by decide) ?_
        refine r_lstore (pc := 40) C dX11_driest_40 (by decide) (lv' := [(5, .long (0 : Int64)), (4, .int (-1 : Int32)), (0, .ref v0), (1, .int v1), (2, .int v2), (3, .int v3)]) rfl ?_
        refine r_iconst (pc := 42) C (v := (0 : Int32)) dX11_driest_42 (by decide) ?_
        refine r_istore (pc := 43) C dX11_driest_43 (by decide) (lv' := [(7, .int (0 : Int32)), (5, .long (0 : Int64)), (4, .int (-1 : Int32)), (0, .ref v0), (1, .int v1), (2, .int v2), (3, .int v3)]) rfl ?_
        exact r_sub [3, 4, 5, 6, 2, 1, 0] rfl (T_X11_driest_45 C E ht hn h)
      · have h := h.2 c13
        exact r_sub [0] rfl (T_X11_driest_30 C E ht hn h)
def P_X11_driest (v0 : Nat) (v1 : Int32) (v2 : Int32) (v3 : Int32) (Q : Int32 → HS → Prop) (S : HS) : Prop := P_X11_driest_0 Q v0 v1 v2 v3 S
theorem c_X11_driest {l : Launch} {Ee : EE} {S : HS} {v0 : Nat} {v1 : Int32} {v2 : Int32} {v3 : Int32} {Q : Int32 → HS → Prop} (h : P_X11_driest v0 v1 v2 v3 Q S) : MI l yX11_driest cX11_driest 10 (some .int) rm_X11_driest Ee S [.ref v0, .int v1, .int v2, .int v3] Q :=
  openI (by decide) (Nat.le_of_ble_eq_true rfl) (fun X C E ht hn hE hl => by subst hE; exact r_sub [0, 1, 2, 3] rfl (T_X11_driest_0 C E ht hn h))
def rm_X11_drips : Room := { frames := 1, cells := 0, slots := 0, locals := 21 }
def P_X11_drips_0 (Q : Int64 → HS → Prop) (v0 : Nat) (v1 : Int32) (v2 : Int32) (S : HS) : Prop := ob S v0 11 ∧ (∃ a1 : Nat, fR S v0 3 = some a1 ∧ (ob S a1 10 ∧ (∃ a2 : Nat, fR S a1 12 = some a2 ∧ (ob S a2 13 ∧ (vp_in v2 (hN S a2) ∧ ∀ x4 : Int32, x4 = fI S a2 v2.toNatClampNeg → (∃ a5 : Nat, fR S v0 3 = some a5 ∧ (ob S a5 10 ∧ (∃ a6 : Nat, fR S a5 21 = some a6 ∧ (ob S a6 13 ∧ (vp_in v1 (hN S a6) ∧ ∀ x8 : Int32, x8 = fI S a6 v1.toNatClampNeg → (∃ a9 : Nat, fR S v0 3 = some a9 ∧ (ob S a9 10 ∧ (P_X10_shield a9 v1 (fun x12 S10 => Gr S S10 → (P_X11_less x8 x12 (fun x15 S13 => Gr S10 S13 → (Q ((x4.toInt64 * x15.toInt64) * (2520 : Int64)) S13)) S10)) S)))))))))))))
set_option maxRecDepth 20000 in
set_option maxHeartbeats 4000000 in
theorem T_X11_drips_0 {X : CX} {Q : Int64 → HS → Prop} (C : Cx X cX11_drips RX11 3 rm_X11_drips) (E : ReJ X rm_X11_drips Q) (ht : (xh X).sig.returnType = (some .long)) (hn : (xh X).name = yX11_drips.name) {v0 : Nat} {v1 : Int32} {v2 : Int32} {S : HS} (h : P_X11_drips_0 Q v0 v1 v2 S) : WS X 3 0 0 0 [(0, .ref v0), (1, .int v1), (2, .int v2)] [] S := by
  refine r_aload_n (pc := 0) C dX11_drips_0 0 rfl ?_
  obtain ⟨o_v0, h⟩ := h
  obtain ⟨a1, ea1, h⟩ := h
  refine r_getr (pc := 1) C fL_X11_338 dX11_drips_1 o_v0 ea1 ?_
  obtain ⟨o_a1, h⟩ := h
  obtain ⟨a2, ea2, h⟩ := h
  refine r_getNr (pc := 4) C fN_X11_262 dX11_drips_4 o_a1 ea2 ?_
  refine r_iload_n (pc := 7) C dX11_drips_7 2 rfl ?_
  obtain ⟨o_a2, h⟩ := h
  obtain ⟨i3, h⟩ := h
  refine r_iald (pc := 8) C dX11_drips_8 o_a2 i3 ?_
  refine r_topi (fun x4 ex4 => ?_)
  have h := h x4 ex4
  refine r_i2l (pc := 9) C dX11_drips_9 ?_
  refine r_aload_n (pc := 10) C dX11_drips_10 0 rfl ?_
  obtain ⟨a5, ea5, h⟩ := h
  refine r_getr (pc := 11) C fL_X11_338 dX11_drips_11 o_v0 ea5 ?_
  obtain ⟨o_a5, h⟩ := h
  obtain ⟨a6, ea6, h⟩ := h
  refine r_getNr (pc := 14) C fN_X11_308 dX11_drips_14 o_a5 ea6 ?_
  refine r_iload_n (pc := 17) C dX11_drips_17 1 rfl ?_
  obtain ⟨o_a6, h⟩ := h
  obtain ⟨i7, h⟩ := h
  refine r_iald (pc := 18) C dX11_drips_18 o_a6 i7 ?_
  refine r_topi (fun x8 ex8 => ?_)
  have h := h x8 ex8
  refine r_aload_n (pc := 19) C dX11_drips_19 0 rfl ?_
  obtain ⟨a9, ea9, h⟩ := h
  refine r_getr (pc := 20) C fL_X11_338 dX11_drips_20 o_v0 ea9 ?_
  refine r_iload_n (pc := 23) C dX11_drips_23 1 rfl ?_
  obtain ⟨o_a9, h⟩ := h
  refine r_callVi0 (pc := 24) C (rest := [.int x8, .long x4.toInt64]) (a := a9) o_a9 [.int v1] yV_X10_shield g_1578 (c_X10_shield h) dX11_drips_24 rfl rfl (Nat.le_of_ble_eq_true rfl) ⟨by decide, by decide⟩ ⟨by decide, by decide⟩ ⟨rfl, rfl⟩ (fun x12 S10 h g11 => ?_)
  have h := h g11
  have o_a1 := gr_ob g11 o_a1
  have o_a2 := gr_ob g11 o_a2
  have o_a5 := gr_ob g11 o_a5
  have o_a6 := gr_ob g11 o_a6
  have o_a9 := gr_ob g11 o_a9
  have o_v0 := gr_ob g11 o_v0
  refine r_callSi0 (pc := 27) C (rest := [.long x4.toInt64]) rfl [.int x8, .int x12] yS_X11_less g_1582 (c_X11_less h) dX11_drips_27 rfl rfl (Nat.le_of_ble_eq_true rfl) ⟨by decide, by decide⟩ ⟨by decide, by decide⟩ ⟨rfl, rfl⟩ (fun x15 S13 h g14 => ?_)
  have h := h g14
  have o_a1 := gr_ob g14 o_a1
  have o_a2 := gr_ob g14 o_a2
  have o_a5 := gr_ob g14 o_a5
  have o_a6 := gr_ob g14 o_a6
  have o_a9 := gr_ob g14 o_a9
  have o_v0 := gr_ob g14 o_v0
  refine r_i2l (pc := 30) C dX11_drips_30 ?_
  refine r_lmul (pc := 31) C dX11_drips_31 ?_
  refine r_ldc2 (pc := 32) C (v := (2520 : Int64)) dX11_drips_32 g_1585 ?_
  refine r_lmul (pc := 35) C dX11_drips_35 ?_
  exact r_lret (pc := 36) C E ht dX11_drips_36 (by decide) (by decide) h
def P_X11_drips (v0 : Nat) (v1 : Int32) (v2 : Int32) (Q : Int64 → HS → Prop) (S : HS) : Prop := P_X11_drips_0 Q v0 v1 v2 S
theorem c_X11_drips {l : Launch} {Ee : EE} {S : HS} {v0 : Nat} {v1 : Int32} {v2 : Int32} {Q : Int64 → HS → Prop} (h : P_X11_drips v0 v1 v2 Q S) : MJ l yX11_drips cX11_drips 3 (some .long) rm_X11_drips Ee S [.ref v0, .int v1, .int v2] Q :=
  openJ (by decide) (Nat.le_of_ble_eq_true rfl) (fun X C E ht hn hE hl => by subst hE; exact r_sub [0, 1, 2] rfl (T_X11_drips_0 C E ht hn h))
def rm_X11_eatsSign : Room := { frames := 2, cells := 0, slots := 0, locals := 43 }
def P_X11_eatsSign_21 (Q : Int32 → HS → Prop) (v0 : Nat) (s0 : Int32) (S : HS) : Prop := ((s0 = 0) → (bl s0 ∧ Q s0 S)) ∧ ((¬ s0 = 0) → (ob S v0 11 ∧ (P_X11_goesOn v0 (fun S2 => Gr S S2 → (bl s0 ∧ Q s0 S2)) S)))
set_option maxRecDepth 20000 in
set_option maxHeartbeats 4000000 in
theorem T_X11_eatsSign_21 {X : CX} {Q : Int32 → HS → Prop} (C : Cx X cX11_eatsSign RX11 3 rm_X11_eatsSign) (E : ReI X rm_X11_eatsSign (fun r S => bl r ∧ Q r S)) (ht : (xh X).sig.returnType = (some .boolean)) (hn : (xh X).name = yX11_eatsSign.name) {v0 : Nat} {s0 : Int32} {S : HS} (h : P_X11_eatsSign_21 Q v0 s0 S) : WS X 3 0 0 21 [(0, .ref v0)] [.int s0] S := by
  refine r_istore_n (pc := 21) C dX11_eatsSign_21 rfl (by decide) (lv' := [(2, .int s0), (0, .ref v0)]) rfl ?_
  refine r_iload_n (pc := 22) C dX11_eatsSign_22 0 rfl ?_
  refine r_if_eq (pc := 23) C (tgt := 30) dX11_eatsSign_23 (by decide) (fun c1 => ?_) (fun c1 => ?_)
  · have h := h.1 c1
    refine r_iload_n (pc := 30) C dX11_eatsSign_30 0 rfl ?_
    exact r_zret (pc := 31) C E ht dX11_eatsSign_31 (by decide) (by decide) h.1 h.2
  · have h := h.2 c1
    refine r_aload_n (pc := 26) C dX11_eatsSign_26 1 rfl ?_
    obtain ⟨o_v0, h⟩ := h
    refine r_callVv0 (pc := 27) C (rest := []) (a := v0) o_v0 [] yV_X11_goesOn g_1380 (c_X11_goesOn h) dX11_eatsSign_27 rfl rfl (Nat.le_of_ble_eq_true rfl) ⟨by decide, by decide⟩ ⟨by decide, by decide⟩ ⟨rfl, rfl⟩ (fun S2 h g3 => ?_)
    have h := h g3
    have o_v0 := gr_ob g3 o_v0
    refine r_iload_n (pc := 30) C dX11_eatsSign_30 0 rfl ?_
    exact r_zret (pc := 31) C E ht dX11_eatsSign_31 (by decide) (by decide) h.1 h.2
def P_X11_eatsSign_20 (Q : Int32 → HS → Prop) (v0 : Nat) (S : HS) : Prop := P_X11_eatsSign_21 Q v0 (0 : Int32) S
set_option maxRecDepth 20000 in
set_option maxHeartbeats 4000000 in
theorem T_X11_eatsSign_20 {X : CX} {Q : Int32 → HS → Prop} (C : Cx X cX11_eatsSign RX11 3 rm_X11_eatsSign) (E : ReI X rm_X11_eatsSign (fun r S => bl r ∧ Q r S)) (ht : (xh X).sig.returnType = (some .boolean)) (hn : (xh X).name = yX11_eatsSign.name) {v0 : Nat} {S : HS} (h : P_X11_eatsSign_20 Q v0 S) : WS X 3 0 0 20 [(0, .ref v0)] [] S := by
  refine r_iconst (pc := 20) C (v := (0 : Int32)) dX11_eatsSign_20 (by decide) ?_
  exact r_sub [0] rfl (T_X11_eatsSign_21 C E ht hn h)
def P_X11_eatsSign_0 (Q : Int32 → HS → Prop) (v0 : Nat) (v1 : Int32) (S : HS) : Prop := ob S v0 11 ∧ (∀ x1 : Int32, x1 = fI S v0 9 → (((¬ x1 = (4 : Int32)) → (P_X11_eatsSign_20 Q v0 S)) ∧ ((x1 = (4 : Int32)) → (∀ x3 : Int32, x3 = fI S v0 11 → (((¬ x3 = v1) → (P_X11_eatsSign_20 Q v0 S)) ∧ ((x3 = v1) → (P_X11_eatsSign_21 Q v0 (1 : Int32) S)))))))
set_option maxRecDepth 20000 in
set_option maxHeartbeats 4000000 in
theorem T_X11_eatsSign_0 {X : CX} {Q : Int32 → HS → Prop} (C : Cx X cX11_eatsSign RX11 3 rm_X11_eatsSign) (E : ReI X rm_X11_eatsSign (fun r S => bl r ∧ Q r S)) (ht : (xh X).sig.returnType = (some .boolean)) (hn : (xh X).name = yX11_eatsSign.name) {v0 : Nat} {v1 : Int32} {S : HS} (h : P_X11_eatsSign_0 Q v0 v1 S) : WS X 3 0 0 0 [(0, .ref v0), (1, .int v1)] [] S := by
  refine r_aload_n (pc := 0) C dX11_eatsSign_0 0 rfl ?_
  obtain ⟨o_v0, h⟩ := h
  refine r_geti (pc := 1) C fL_X11_68 dX11_eatsSign_1 o_v0 ?_
  refine r_topi (fun x1 ex1 => ?_)
  have h := h x1 ex1
  refine r_iconst (pc := 4) C (v := (4 : Int32)) dX11_eatsSign_4 (by decide) ?_
  refine r_icmp_ne (pc := 5) C (tgt := 20) dX11_eatsSign_5 (by decide) (fun c2 => ?_) (fun c2 => ?_)
  · have h := h.1 c2
    exact r_sub [0] rfl (T_X11_eatsSign_20 C E ht hn h)
  · have h := h.2 c2
    refine r_aload_n (pc := 8) C dX11_eatsSign_8 0 rfl ?_
    refine r_geti (pc := 9) C fL_X11_80 dX11_eatsSign_9 o_v0 ?_
    refine r_topi (fun x3 ex3 => ?_)
    have h := h x3 ex3
    refine r_iload_n (pc := 12) C dX11_eatsSign_12 1 rfl ?_
    refine r_icmp_ne (pc := 13) C (tgt := 20) dX11_eatsSign_13 (by decide) (fun c4 => ?_) (fun c4 => ?_)
    · have h := h.1 c4
      exact r_sub [0] rfl (T_X11_eatsSign_20 C E ht hn h)
    · have h := h.2 c4
      refine r_iconst (pc := 16) C (v := (1 : Int32)) dX11_eatsSign_16 (by decide) ?_
      refine r_goto (pc := 17) C (tgt := 21) dX11_eatsSign_17 (by decide) ?_
      exact r_sub [0] rfl (T_X11_eatsSign_21 C E ht hn h)
def P_X11_eatsSign (v0 : Nat) (v1 : Int32) (Q : Int32 → HS → Prop) (S : HS) : Prop := P_X11_eatsSign_0 Q v0 v1 S
theorem c_X11_eatsSign {l : Launch} {Ee : EE} {S : HS} {v0 : Nat} {v1 : Int32} {Q : Int32 → HS → Prop} (h : P_X11_eatsSign v0 v1 Q S) : MI l yX11_eatsSign cX11_eatsSign 3 (some .boolean) rm_X11_eatsSign Ee S [.ref v0, .int v1] (fun r S => bl r ∧ Q r S) :=
  openI (by decide) (Nat.le_of_ble_eq_true rfl) (fun X C E ht hn hE hl => by subst hE; exact r_sub [0, 1] rfl (T_X11_eatsSign_0 C E ht hn h))
def rm_X11_wordOf : Room := { frames := 5, cells := 0, slots := 0, locals := 120 }
def B_X11_wordOf_4 (Q : Int64 → HS → Prop) (X4 : Nat → Int64 → Int32 → HS → Prop) (v0 : Nat) (v1 : Int64) (v3 : Int32) (S : HS) : Prop := v0 < 54 ∧ ∀ x1 : Int32, x1 = nI (sLen.getD v0 0) → (((x1 ≤ v3) → (Q v1 S)) ∧ ((¬ x1 ≤ v3) → (v0 < 54 ∧ vp_in v3 (sLen.getD v0 0) ∧ ∀ x3 : Int32, x3 = sch v0 v3 → (∀ x4 : Int64, x4 = ((32 : Int64) * v1) + (((x3 - (97 : Int32)) + (1 : Int32)).toInt64) → (∀ x5 : Int32, x5 = v3 + (1 : Int32) → (X4 v0 x4 x5 S))))))
def P_X11_wordOf_4 (Q : Int64 → HS → Prop) (v0 : Nat) (v1 : Int64) (v3 : Int32) (S : HS) : Prop := ∀ X4 : Nat → Int64 → Int32 → HS → Prop, (∀ (v0 : Nat) (v1 : Int64) (v3 : Int32) (S : HS), B_X11_wordOf_4 Q X4 v0 v1 v3 S → X4 v0 v1 v3 S) → X4 v0 v1 v3 S
set_option maxRecDepth 20000 in
set_option maxHeartbeats 4000000 in
theorem TB_X11_wordOf_4 {X : CX} {Q : Int64 → HS → Prop} (C : Cx X cX11_wordOf RX11 4 rm_X11_wordOf) (E : ReJ X rm_X11_wordOf Q) (ht : (xh X).sig.returnType = (some .long)) (hn : (xh X).name = yX11_wordOf.name) {X4 : Nat → Int64 → Int32 → HS → Prop} (hX4 : ∀ (v0 : Nat) (v1 : Int64) (v3 : Int32) (S : HS), X4 v0 v1 v3 S → WS X 4 0 0 4 [(0, .ref (eK (xE X) v0)), (1, .long v1), (3, .int v3)] [] S) {v0 : Nat} {v1 : Int64} {v3 : Int32} {S : HS} (h : B_X11_wordOf_4 Q X4 v0 v1 v3 S) : WS X 4 0 0 4 [(0, .ref (eK (xE X) v0)), (1, .long v1), (3, .int v3)] [] S := by
  refine r_iload_n (pc := 4) C dX11_wordOf_4 2 rfl ?_
  refine r_aload_n (pc := 5) C dX11_wordOf_5 0 rfl ?_
  obtain ⟨hw, h⟩ := h
  refine r_slen (pc := 6) C g_1411 dX11_wordOf_6 hw (by decide) (by decide) (by decide) (by decide) (Nat.le_of_ble_eq_true rfl) ?_
  refine r_topi (fun x1 ex1 => ?_)
  have h := h x1 ex1
  refine r_icmp_ge (pc := 9) C (tgt := 36) dX11_wordOf_9 (by decide) (fun c2 => ?_) (fun c2 => ?_)
  · have h := h.1 c2
    refine r_lload_n (pc := 36) C dX11_wordOf_36 1 rfl ?_
    exact r_lret (pc := 37) C E ht dX11_wordOf_37 (by decide) (by decide) h
  · have h := h.2 c2
    refine r_ldc2 (pc := 12) C (v := (32 : Int64)) dX11_wordOf_12 g_1391 ?_
    refine r_lload_n (pc := 15) C dX11_wordOf_15 1 rfl ?_
    refine r_lmul (pc := 16) C dX11_wordOf_16 ?_
    refine r_aload_n (pc := 17) C dX11_wordOf_17 0 rfl ?_
    refine r_iload_n (pc := 18) C dX11_wordOf_18 2 rfl ?_
    obtain ⟨hw, hw2, h⟩ := h
    refine r_schar (pc := 19) C g_1412 dX11_wordOf_19 hw hw2 (by decide) (by decide) (by decide) (by decide) (Nat.le_of_ble_eq_true rfl) ?_
    refine r_topi (fun x3 ex3 => ?_)
    have h := h x3 ex3
    refine r_bipush (pc := 22) C (v := (97 : Int32)) dX11_wordOf_22 (by decide) ?_
    refine r_isub (pc := 24) C dX11_wordOf_24 ?_
    refine r_iconst (pc := 25) C (v := (1 : Int32)) dX11_wordOf_25 (by decide) ?_
    refine r_iadd (pc := 26) C dX11_wordOf_26 ?_
    refine r_i2l (pc := 27) C dX11_wordOf_27 ?_
    refine r_ladd (pc := 28) C dX11_wordOf_28 ?_
    refine r_topl (fun x4 ex4 => ?_)
    have h := h x4 ex4
    refine r_lstore_n (pc := 29) C dX11_wordOf_29 rfl (by decide) (lv' := [(1, .long x4), (0, .ref (eK (xE X) v0)), (3, .int v3)]) rfl ?_
    obtain ⟨x5, ex5⟩ : ∃ z : Int32, z = v3 + (1 : Int32) := ⟨_, rfl⟩
    have h := h x5 ex5
    refine r_iinc (pc := 30) C (v := x5) (lv' := [(3, .int x5), (1, .long x4), (0, .ref (eK (xE X) v0))]) dX11_wordOf_30 2 rfl ex5.symm (by decide) rfl ?_
    refine r_goto (pc := 33) C (tgt := 4) dX11_wordOf_33 (by decide) ?_
    exact r_sub [2, 1, 0] rfl (hX4 v0 x4 x5 S h)
theorem T_X11_wordOf_4 {X : CX} {Q : Int64 → HS → Prop} (C : Cx X cX11_wordOf RX11 4 rm_X11_wordOf) (E : ReJ X rm_X11_wordOf Q) (ht : (xh X).sig.returnType = (some .long)) (hn : (xh X).name = yX11_wordOf.name) {v0 : Nat} {v1 : Int64} {v3 : Int32} {S : HS} (h : P_X11_wordOf_4 Q v0 v1 v3 S) : WS X 4 0 0 4 [(0, .ref (eK (xE X) v0)), (1, .long v1), (3, .int v3)] [] S :=
  h (fun v0 v1 v3 S => WS X 4 0 0 4 [(0, .ref (eK (xE X) v0)), (1, .long v1), (3, .int v3)] [] S) (fun v0 v1 v3 S hh => TB_X11_wordOf_4 C E ht hn (fun v0 v1 v3 S z => z) hh)
def P_X11_wordOf_0 (Q : Int64 → HS → Prop) (v0 : Nat) (S : HS) : Prop := P_X11_wordOf_4 Q v0 (0 : Int64) (0 : Int32) S
set_option maxRecDepth 20000 in
set_option maxHeartbeats 4000000 in
theorem T_X11_wordOf_0 {X : CX} {Q : Int64 → HS → Prop} (C : Cx X cX11_wordOf RX11 4 rm_X11_wordOf) (E : ReJ X rm_X11_wordOf Q) (ht : (xh X).sig.returnType = (some .long)) (hn : (xh X).name = yX11_wordOf.name) {v0 : Nat} {S : HS} (h : P_X11_wordOf_0 Q v0 S) : WS X 4 0 0 0 [(0, .ref (eK (xE X) v0))] [] S := by
  refine r_lconst (pc := 0) C (v := (0 : Int64)) dX11_wordOf_0 (by decide) ?_
  refine r_lstore_n (pc := 1) C dX11_wordOf_1 rfl (by decide) (lv' := [(1, .long (0 : Int64)), (0, .ref (eK (xE X) v0))]) rfl ?_
  refine r_iconst (pc := 2) C (v := (0 : Int32)) dX11_wordOf_2 (by decide) ?_
  refine r_istore_n (pc := 3) C dX11_wordOf_3 rfl (by decide) (lv' := [(3, .int (0 : Int32)), (1, .long (0 : Int64)), (0, .ref (eK (xE X) v0))]) rfl ?_
  exact r_sub [2, 1, 0] rfl (T_X11_wordOf_4 C E ht hn h)
def P_X11_wordOf (v0 : Nat) (Q : Int64 → HS → Prop) (S : HS) : Prop := P_X11_wordOf_0 Q v0 S
theorem c_X11_wordOf {l : Launch} {Ee : EE} {S : HS} {v0 : Nat} {Q : Int64 → HS → Prop} (h : P_X11_wordOf v0 Q S) : MJ l yX11_wordOf cX11_wordOf 4 (some .long) rm_X11_wordOf Ee S [.ref (eK Ee v0)] Q :=
  openJ (by decide) (Nat.le_of_ble_eq_true rfl) (fun X C E ht hn hE hl => by subst hE; exact r_sub [0] rfl (T_X11_wordOf_0 C E ht hn h))
def rm_X11_isWord : Room := { frames := 6, cells := 0, slots := 0, locals := 143 }
def P_X11_isWord_0 (Q : Int32 → HS → Prop) (v0 : Nat) (v1 : Nat) (S : HS) : Prop := ob S v0 11 ∧ (∀ x1 : Int32, x1 = fI S v0 9 → (((¬ x1 = (2 : Int32)) → (Q (0 : Int32) S)) ∧ ((x1 = (2 : Int32)) → (∀ x3 : Int64, x3 = fJ S v0 15 → (P_X11_wordOf v1 (fun x6 S4 => Gr S S4 → (((¬ (lg_cmp x3 x6) = 0) → (Q (0 : Int32) S4)) ∧ (((lg_cmp x3 x6) = 0) → (Q (1 : Int32) S4)))) S)))))
set_option maxRecDepth 20000 in
set_option maxHeartbeats 4000000 in
theorem T_X11_isWord_0 {X : CX} {Q : Int32 → HS → Prop} (C : Cx X cX11_isWord RX11 2 rm_X11_isWord) (E : ReI X rm_X11_isWord (fun r S => bl r ∧ Q r S)) (ht : (xh X).sig.returnType = (some .boolean)) (hn : (xh X).name = yX11_isWord.name) {v0 : Nat} {v1 : Nat} {S : HS} (h : P_X11_isWord_0 Q v0 v1 S) : WS X 2 0 0 0 [(0, .ref v0), (1, .ref (eK (xE X) v1))] [] S := by
  refine r_aload_n (pc := 0) C dX11_isWord_0 0 rfl ?_
  obtain ⟨o_v0, h⟩ := h
  refine r_geti (pc := 1) C fL_X11_68 dX11_isWord_1 o_v0 ?_
  refine r_topi (fun x1 ex1 => ?_)
  have h := h x1 ex1
  refine r_iconst (pc := 4) C (v := (2 : Int32)) dX11_isWord_4 (by decide) ?_
  refine r_icmp_ne (pc := 5) C (tgt := 24) dX11_isWord_5 (by decide) (fun c2 => ?_) (fun c2 => ?_)
  · have h := h.1 c2
    refine r_iconst (pc := 24) C (v := (0 : Int32)) dX11_isWord_24 (by decide) ?_
    exact r_zret (pc := 25) C E ht dX11_isWord_25 (by decide) (by decide) (Or.inl rfl) h
  · have h := h.2 c2
    refine r_aload_n (pc := 8) C dX11_isWord_8 0 rfl ?_
    refine r_getl (pc := 9) C fL_X11_87 dX11_isWord_9 o_v0 ?_
    refine r_topl (fun x3 ex3 => ?_)
    have h := h x3 ex3
    refine r_aload_n (pc := 12) C dX11_isWord_12 1 rfl ?_
    refine r_callSl0 (pc := 13) C (rest := [.long x3]) rfl [.ref (eK (xE X) v1)] yS_X11_wordOf g_1408 (c_X11_wordOf h) dX11_isWord_13 rfl rfl (Nat.le_of_ble_eq_true rfl) ⟨by decide, by decide⟩ ⟨by decide, by decide⟩ ⟨rfl, rfl⟩ (fun x6 S4 h g5 => ?_)
    have h := h g5
    have o_v0 := gr_ob g5 o_v0
    refine r_lcmp (pc := 16) C dX11_isWord_16 ?_
    refine r_if_ne (pc := 17) C (tgt := 24) dX11_isWord_17 (by decide) (fun c7 => ?_) (fun c7 => ?_)
    · have h := h.1 c7
      refine r_iconst (pc := 24) C (v := (0 : Int32)) dX11_isWord_24 (by decide) ?_
      exact r_zret (pc := 25) C E ht dX11_isWord_25 (by decide) (by decide) (Or.inl rfl) h
    · have h := h.2 c7
      refine r_iconst (pc := 20) C (v := (1 : Int32)) dX11_isWord_20 (by decide) ?_
      refine r_goto (pc := 21) C (tgt := 25) dX11_isWord_21 (by decide) ?_
      exact r_zret (pc := 25) C E ht dX11_isWord_25 (by decide) (by decide) (Or.inr rfl) h
def P_X11_isWord (v0 : Nat) (v1 : Nat) (Q : Int32 → HS → Prop) (S : HS) : Prop := P_X11_isWord_0 Q v0 v1 S
theorem c_X11_isWord {l : Launch} {Ee : EE} {S : HS} {v0 : Nat} {v1 : Nat} {Q : Int32 → HS → Prop} (h : P_X11_isWord v0 v1 Q S) : MI l yX11_isWord cX11_isWord 2 (some .boolean) rm_X11_isWord Ee S [.ref v0, .ref (eK Ee v1)] (fun r S => bl r ∧ Q r S) :=
  openI (by decide) (Nat.le_of_ble_eq_true rfl) (fun X C E ht hn hE hl => by subst hE; exact r_sub [0, 1] rfl (T_X11_isWord_0 C E ht hn h))
def rm_X11_eatsWord : Room := { frames := 7, cells := 0, slots := 0, locals := 164 }
def P_X11_eatsWord_0 (Q : Int32 → HS → Prop) (v0 : Nat) (v1 : Nat) (S : HS) : Prop := ob S v0 11 ∧ (P_X11_isWord v0 v1 (fun x3 S1 => Gr S S1 → bl x3 → (((x3 = 0) → (bl x3 ∧ Q x3 S1)) ∧ ((¬ x3 = 0) → (P_X11_goesOn v0 (fun S5 => Gr S1 S5 → (bl x3 ∧ Q x3 S5)) S1)))) S)
set_option maxRecDepth 20000 in
set_option maxHeartbeats 4000000 in
theorem T_X11_eatsWord_0 {X : CX} {Q : Int32 → HS → Prop} (C : Cx X cX11_eatsWord RX11 3 rm_X11_eatsWord) (E : ReI X rm_X11_eatsWord (fun r S => bl r ∧ Q r S)) (ht : (xh X).sig.returnType = (some .boolean)) (hn : (xh X).name = yX11_eatsWord.name) {v0 : Nat} {v1 : Nat} {S : HS} (h : P_X11_eatsWord_0 Q v0 v1 S) : WS X 3 0 0 0 [(0, .ref v0), (1, .ref (eK (xE X) v1))] [] S := by
  refine r_aload_n (pc := 0) C dX11_eatsWord_0 0 rfl ?_
  refine r_aload_n (pc := 1) C dX11_eatsWord_1 1 rfl ?_
  obtain ⟨o_v0, h⟩ := h
  refine r_callVi0 (pc := 2) C (rest := []) (a := v0) o_v0 [.ref (eK (xE X) v1)] yV_X11_isWord g_1404 (c_X11_isWord h) dX11_eatsWord_2 rfl rfl (Nat.le_of_ble_eq_true rfl) ⟨by decide, by decide⟩ ⟨by decide, by decide⟩ ⟨rfl, rfl⟩ (fun x3 S1 h g2 => ?_)
  have bx3 := h.1
  have h := h.2 g2 bx3
  have o_v0 := gr_ob g2 o_v0
  refine r_istore_n (pc := 5) C dX11_eatsWord_5 rfl (by decide) (lv' := [(2, .int x3), (0, .ref v0), (1, .ref (eK (xE X) v1))]) rfl ?_
  refine r_iload_n (pc := 6) C dX11_eatsWord_6 0 rfl ?_
  refine r_if_eq (pc := 7) C (tgt := 14) dX11_eatsWord_7 (by decide) (fun c4 => ?_) (fun c4 => ?_)
  · have h := h.1 c4
    refine r_iload_n (pc := 14) C dX11_eatsWord_14 0 rfl ?_
    exact r_zret (pc := 15) C E ht dX11_eatsWord_15 (by decide) (by decide) h.1 h.2
  · have h := h.2 c4
    refine r_aload_n (pc := 10) C dX11_eatsWord_10 1 rfl ?_
    refine r_callVv0 (pc := 11) C (rest := []) (a := v0) o_v0 [] yV_X11_goesOn g_1380 (c_X11_goesOn h) dX11_eatsWord_11 rfl rfl (Nat.le_of_ble_eq_true rfl) ⟨by decide, by decide⟩ ⟨by decide, by decide⟩ ⟨rfl, rfl⟩ (fun S5 h g6 => ?_)
    have h := h g6
    have o_v0 := gr_ob g6 o_v0
    refine r_iload_n (pc := 14) C dX11_eatsWord_14 0 rfl ?_
    exact r_zret (pc := 15) C E ht dX11_eatsWord_15 (by decide) (by decide) h.1 h.2
def P_X11_eatsWord (v0 : Nat) (v1 : Nat) (Q : Int32 → HS → Prop) (S : HS) : Prop := P_X11_eatsWord_0 Q v0 v1 S
theorem c_X11_eatsWord {l : Launch} {Ee : EE} {S : HS} {v0 : Nat} {v1 : Nat} {Q : Int32 → HS → Prop} (h : P_X11_eatsWord v0 v1 Q S) : MI l yX11_eatsWord cX11_eatsWord 3 (some .boolean) rm_X11_eatsWord Ee S [.ref v0, .ref (eK Ee v1)] (fun r S => bl r ∧ Q r S) :=
  openI (by decide) (Nat.le_of_ble_eq_true rfl) (fun X C E ht hn hE hl => by subst hE; exact r_sub [0, 1] rfl (T_X11_eatsWord_0 C E ht hn h))
def rm_X11_even : Room := { frames := 6, cells := 0, slots := 0, locals := 163 }
def P_X11_even_39 (Q : Int32 → HS → Prop) (v0 : Nat) (S : HS) : Prop := ob S v0 11 ∧ (P_X11_refused v0 (1 : Int32) (fun x3 S1 => Gr S S1 → (Q x3 S1)) S)
set_option maxRecDepth 20000 in
set_option maxHeartbeats 4000000 in
theorem T_X11_even_39 {X : CX} {Q : Int32 → HS → Prop} (C : Cx X cX11_even RX11 7 rm_X11_even) (E : ReI X rm_X11_even Q) (ht : (xh X).sig.returnType = (some .int)) (hn : (xh X).name = yX11_even.name) {v0 : Nat} {S : HS} (h : P_X11_even_39 Q v0 S) : WS X 7 0 0 39 [(0, .ref v0)] [] S := by
  refine r_aload_n (pc := 39) C dX11_even_39 0 rfl ?_
  refine r_iconst (pc := 40) C (v := (1 : Int32)) dX11_even_40 (by decide) ?_
  obtain ⟨o_v0, h⟩ := h
  refine r_callVi0 (pc := 41) C (rest := []) (a := v0) o_v0 [.int (1 : Int32)] yV_X11_refused g_1250 (c_X11_refused h) dX11_even_41 rfl rfl (Nat.le_of_ble_eq_true rfl) ⟨by decide, by decide⟩ ⟨by decide, by decide⟩ ⟨rfl, rfl⟩ (fun x3 S1 h g2 => ?_)
  have h := h g2
  have o_v0 := gr_ob g2 o_v0
  exact r_iret (pc := 44) C E ht dX11_even_44 (by decide) (by decide) h
def P_X11_even_111 (Q : Int32 → HS → Prop) (X59 : Nat → Int32 → Int32 → Int32 → Int32 → Int32 → Int32 → HS → Prop) (v0 : Nat) (v1 : Int32) (v2 : Int32) (v3 : Int32) (v4 : Int32) (v6 : Int32) (s0 : Int32) (S : HS) : Prop := ∀ x1 : Int32, x1 = v6 + (1 : Int32) → (X59 v0 v1 v2 v3 v4 s0 x1 S)
set_option maxRecDepth 20000 in
set_option maxHeartbeats 4000000 in
theorem T_X11_even_111 {X : CX} {Q : Int32 → HS → Prop} (C : Cx X cX11_even RX11 7 rm_X11_even) (E : ReI X rm_X11_even Q) (ht : (xh X).sig.returnType = (some .int)) (hn : (xh X).name = yX11_even.name) {X59 : Nat → Int32 → Int32 → Int32 → Int32 → Int32 → Int32 → HS → Prop} (hX59 : ∀ (v0 : Nat) (v1 : Int32) (v2 : Int32) (v3 : Int32) (v4 : Int32) (v5 : Int32) (v6 : Int32) (S : HS), X59 v0 v1 v2 v3 v4 v5 v6 S → WS X 7 0 0 59 [(0, .ref v0), (1, .int v1), (2, .int v2), (3, .int v3), (4, .int v4), (5, .int v5), (6, .int v6)] [] S) {v0 : Nat} {v1 : Int32} {v2 : Int32} {v3 : Int32} {v4 : Int32} {v6 : Int32} {s0 : Int32} {S : HS} (h : P_X11_even_111 Q X59 v0 v1 v2 v3 v4 v6 s0 S) : WS X 7 0 0 111 [(0, .ref v0), (1, .int v1), (2, .int v2), (3, .int v3), (4, .int v4), (6, .int v6)] [.int s0] S := by
  refine r_istore (pc := 111) C dX11_even_111 (by decide) (lv' := [(5, .int s0), (0, .ref v0), (1, .int v1), (2, .int v2), (3, .int v3), (4, .int v4), (6, .int v6)]) rfl ?_
  obtain ⟨x1, ex1⟩ : ∃ z : Int32, z = v6 + (1 : Int32) := ⟨_, rfl⟩
  have h := h x1 ex1
  refine r_iinc (pc := 113) C (v := x1) (lv' := [(6, .int x1), (5, .int s0), (0, .ref v0), (1, .int v1), (2, .int v2), (3, .int v3), (4, .int v4)]) dX11_even_113 6 rfl ex1.symm (by decide) rfl ?_
  refine r_goto (pc := 116) C (tgt := 59) dX11_even_116 (by decide) ?_
  exact r_sub [2, 3, 4, 5, 6, 1, 0] rfl (hX59 v0 v1 v2 v3 v4 s0 x1 S h)
def P_X11_even_110 (Q : Int32 → HS → Prop) (X59 : Nat → Int32 → Int32 → Int32 → Int32 → Int32 → Int32 → HS → Prop) (v0 : Nat) (v1 : Int32) (v2 : Int32) (v3 : Int32) (v4 : Int32) (v6 : Int32) (S : HS) : Prop := P_X11_even_111 Q X59 v0 v1 v2 v3 v4 v6 (0 : Int32) S
set_option maxRecDepth 20000 in
set_option maxHeartbeats 4000000 in
theorem T_X11_even_110 {X : CX} {Q : Int32 → HS → Prop} (C : Cx X cX11_even RX11 7 rm_X11_even) (E : ReI X rm_X11_even Q) (ht : (xh X).sig.returnType = (some .int)) (hn : (xh X).name = yX11_even.name) {X59 : Nat → Int32 → Int32 → Int32 → Int32 → Int32 → Int32 → HS → Prop} (hX59 : ∀ (v0 : Nat) (v1 : Int32) (v2 : Int32) (v3 : Int32) (v4 : Int32) (v5 : Int32) (v6 : Int32) (S : HS), X59 v0 v1 v2 v3 v4 v5 v6 S → WS X 7 0 0 59 [(0, .ref v0), (1, .int v1), (2, .int v2), (3, .int v3), (4, .int v4), (5, .int v5), (6, .int v6)] [] S) {v0 : Nat} {v1 : Int32} {v2 : Int32} {v3 : Int32} {v4 : Int32} {v6 : Int32} {S : HS} (h : P_X11_even_110 Q X59 v0 v1 v2 v3 v4 v6 S) : WS X 7 0 0 110 [(0, .ref v0), (1, .int v1), (2, .int v2), (3, .int v3), (4, .int v4), (6, .int v6)] [] S := by
  refine r_iconst (pc := 110) C (v := (0 : Int32)) dX11_even_110 (by decide) ?_
  exact r_sub [0, 1, 2, 3, 4, 5] rfl (T_X11_even_111 C E ht hn hX59 h)
def P_X11_even_130 (Q : Int32 → HS → Prop) (s0 : Nat) (s1 : Int32) (S : HS) : Prop := ob S s0 11 ∧ (P_X11_good s0 s1 (fun x3 S1 => Gr S S1 → (Q x3 S1)) S)
set_option maxRecDepth 20000 in
set_option maxHeartbeats 4000000 in
theorem T_X11_even_130 {X : CX} {Q : Int32 → HS → Prop} (C : Cx X cX11_even RX11 7 rm_X11_even) (E : ReI X rm_X11_even Q) (ht : (xh X).sig.returnType = (some .int)) (hn : (xh X).name = yX11_even.name) {s0 : Nat} {s1 : Int32} {S : HS} (h : P_X11_even_130 Q s0 s1 S) : WS X 7 0 0 130 [] [.int s1, .ref s0] S := by
  obtain ⟨o_s0, h⟩ := h
  refine r_callVi0 (pc := 130) C (rest := []) (a := s0) o_s0 [.int s1] yV_X11_good g_1518 (c_X11_good h) dX11_even_130 rfl rfl (Nat.le_of_ble_eq_true rfl) ⟨by decide, by decide⟩ ⟨by decide, by decide⟩ ⟨rfl, rfl⟩ (fun x3 S1 h g2 => ?_)
  have h := h g2
  have o_s0 := gr_ob g2 o_s0
  exact r_iret (pc := 133) C E ht dX11_even_133 (by decide) (by decide) h
def B_X11_even_59 (Q : Int32 → HS → Prop) (X59 : Nat → Int32 → Int32 → Int32 → Int32 → Int32 → Int32 → HS → Prop) (v0 : Nat) (v1 : Int32) (v2 : Int32) (v3 : Int32) (v4 : Int32) (v5 : Int32) (v6 : Int32) (S : HS) : Prop := ob S v0 11 ∧ (∃ a1 : Nat, fR S v0 3 = some a1 ∧ (ob S a1 10 ∧ (∃ a2 : Nat, fR S a1 25 = some a2 ∧ (ob S a2 13 ∧ (vp_in v1 (hN S a2) ∧ ∀ x4 : Int32, x4 = fI S a2 v1.toNatClampNeg → (((x4 ≤ v6) → (((v5 = 0) → (P_X11_even_130 Q v0 (0 : Int32) S)) ∧ ((¬ v5 = 0) → (P_X11_even_130 Q v0 (1 : Int32) S)))) ∧ ((¬ x4 ≤ v6) → (((v5 = 0) → (P_X11_even_110 Q X59 v0 v1 v2 v3 v4 v6 S)) ∧ ((¬ v5 = 0) → (P_X11_wetOf v0 v1 v2 v3 v4 v6 (fun x10 S8 => Gr S S8 → (P_X11_wetOf v0 v1 v2 v3 v4 (v6 + (1 : Int32)) (fun x13 S11 => Gr S8 S11 → (((¬ (lg_cmp x10 x13) = 0) → (P_X11_even_110 Q X59 v0 v1 v2 v3 v4 v6 S11)) ∧ (((lg_cmp x10 x13) = 0) → (P_X11_even_111 Q X59 v0 v1 v2 v3 v4 v6 (1 : Int32) S11)))) S8)) S))))))))))
def P_X11_even_59 (Q : Int32 → HS → Prop) (v0 : Nat) (v1 : Int32) (v2 : Int32) (v3 : Int32) (v4 : Int32) (v5 : Int32) (v6 : Int32) (S : HS) : Prop := ∀ X59 : Nat → Int32 → Int32 → Int32 → Int32 → Int32 → Int32 → HS → Prop, (∀ (v0 : Nat) (v1 : Int32) (v2 : Int32) (v3 : Int32) (v4 : Int32) (v5 : Int32) (v6 : Int32) (S : HS), B_X11_even_59 Q X59 v0 v1 v2 v3 v4 v5 v6 S → X59 v0 v1 v2 v3 v4 v5 v6 S) → X59 v0 v1 v2 v3 v4 v5 v6 S
set_option maxRecDepth 20000 in
set_option maxHeartbeats 4000000 in
theorem TB_X11_even_59 {X : CX} {Q : Int32 → HS → Prop} (C : Cx X cX11_even RX11 7 rm_X11_even) (E : ReI X rm_X11_even Q) (ht : (xh X).sig.returnType = (some .int)) (hn : (xh X).name = yX11_even.name) {X59 : Nat → Int32 → Int32 → Int32 → Int32 → Int32 → Int32 → HS → Prop} (hX59 : ∀ (v0 : Nat) (v1 : Int32) (v2 : Int32) (v3 : Int32) (v4 : Int32) (v5 : Int32) (v6 : Int32) (S : HS), X59 v0 v1 v2 v3 v4 v5 v6 S → WS X 7 0 0 59 [(0, .ref v0), (1, .int v1), (2, .int v2), (3, .int v3), (4, .int v4), (5, .int v5), (6, .int v6)] [] S) {v0 : Nat} {v1 : Int32} {v2 : Int32} {v3 : Int32} {v4 : Int32} {v5 : Int32} {v6 : Int32} {S : HS} (h : B_X11_even_59 Q X59 v0 v1 v2 v3 v4 v5 v6 S) : WS X 7 0 0 59 [(0, .ref v0), (1, .int v1), (2, .int v2), (3, .int v3), (4, .int v4), (5, .int v5), (6, .int v6)] [] S := by
  refine r_iload (pc := 59) C dX11_even_59 6 rfl ?_
  refine r_aload_n (pc := 61) C dX11_even_61 0 rfl ?_
  obtain ⟨o_v0, h⟩ := h
  obtain ⟨a1, ea1, h⟩ := h
  refine r_getr (pc := 62) C fL_X11_338 dX11_even_62 o_v0 ea1 ?_
  obtain ⟨o_a1, h⟩ := h
  obtain ⟨a2, ea2, h⟩ := h
  refine r_getNr (pc := 65) C fN_X11_320 dX11_even_65 o_a1 ea2 ?_
  refine r_iload_n (pc := 68) C dX11_even_68 1 rfl ?_
  obtain ⟨o_a2, h⟩ := h
  obtain ⟨i3, h⟩ := h
  refine r_iald (pc := 69) C dX11_even_69 o_a2 i3 ?_
  refine r_topi (fun x4 ex4 => ?_)
  have h := h x4 ex4
  refine r_icmp_ge (pc := 70) C (tgt := 119) dX11_even_70 (by decide) (fun c5 => ?_) (fun c5 => ?_)
  · have h := h.1 c5
    refine r_aload_n (pc := 119) C dX11_even_119 0 rfl ?_
    refine r_iload (pc := 120) C dX11_even_120 5 rfl ?_
    refine r_if_eq (pc := 122) C (tgt := 129) dX11_even_122 (by decide) (fun c6 => ?_) (fun c6 => ?_)
    · have h := h.1 c6
      refine r_iconst (pc := 129) C (v := (0 : Int32)) dX11_even_129 (by decide) ?_
      exact r_sub [] rfl (T_X11_even_130 C E ht hn h)
    · have h := h.2 c6
      refine r_iconst (pc := 125) C (v := (1 : Int32)) dX11_even_125 (by decide) ?_
      refine r_goto (pc := 126) C (tgt := 130) dX11_even_126 (by decide) ?_
      exact r_sub [] rfl (T_X11_even_130 C E ht hn h)
  · have h := h.2 c5
    refine r_iload (pc := 73) C dX11_even_73 5 rfl ?_
    refine r_if_eq (pc := 75) C (tgt := 110) dX11_even_75 (by decide) (fun c7 => ?_) (fun c7 => ?_)
    · have h := h.1 c7
      exact r_sub [0, 1, 2, 3, 4, 6] rfl (T_X11_even_110 C E ht hn hX59 h)
    · have h := h.2 c7
      refine r_aload_n (pc := 78) C dX11_even_78 0 rfl ?_
      refine r_iload_n (pc := 79) C dX11_even_79 1 rfl ?_
      refine r_iload_n (pc := 80) C dX11_even_80 2 rfl ?_
      refine r_iload_n (pc := 81) C dX11_even_81 3 rfl ?_
      refine r_iload (pc := 82) C dX11_even_82 4 rfl ?_
      refine r_iload (pc := 84) C dX11_even_84 6 rfl ?_
      refine r_callVl0 (pc := 86) C (rest := []) (a := v0) o_v0 [.int v1, .int v2, .int v3, .int v4, .int v6] yV_X11_wetOf g_1594 (c_X11_wetOf h) dX11_even_86 rfl rfl (Nat.le_of_ble_eq_true rfl) ⟨by decide, by decide⟩ ⟨by decide, by decide⟩ ⟨rfl, rfl⟩ (fun x10 S8 h g9 => ?_)
      have h := h g9
      have o_a1 := gr_ob g9 o_a1
      have o_a2 := gr_ob g9 o_a2
      have o_v0 := gr_ob g9 o_v0
      refine r_aload_n (pc := 89) C dX11_even_89 0 rfl ?_
      refine r_iload_n (pc := 90) C dX11_even_90 1 rfl ?_
      refine r_iload_n (pc := 91) C dX11_even_91 2 rfl ?_
      refine r_iload_n (pc := 92) C dX11_even_92 3 rfl ?_
      refine r_iload (pc := 93) C dX11_even_93 4 rfl ?_
      refine r_iload (pc := 95) C dX11_even_95 6 rfl ?_
      refine r_iconst (pc := 97) C (v := (1 : Int32)) dX11_even_97 (by decide) ?_
      refine r_iadd (pc := 98) C dX11_even_98 ?_
      refine r_callVl0 (pc := 99) C (rest := [.long x10]) (a := v0) o_v0 [.int v1, .int v2, .int v3, .int v4, .int (v6 + (1 : Int32))] yV_X11_wetOf g_1594 (c_X11_wetOf h) dX11_even_99 rfl rfl (Nat.le_of_ble_eq_true rfl) ⟨by decide, by decide⟩ ⟨by decide, by decide⟩ ⟨rfl, rfl⟩ (fun x13 S11 h g12 => ?_)
      have h := h g12
      have o_a1 := gr_ob g12 o_a1
      have o_a2 := gr_ob g12 o_a2
      have o_v0 := gr_ob g12 o_v0
      refine r_lcmp (pc := 102) C dX11_even_102 ?_
      refine r_if_ne (pc := 103) C (tgt := 110) dX11_even_103 (by decide) (fun c14 => ?_) (fun c14 => ?_)
      · have h := h.1 c14
        exact r_sub [0, 1, 2, 3, 4, 6] rfl (T_X11_even_110 C E ht hn hX59 h)
      · have h := h.2 c14
        refine r_iconst (pc := 106) C (v := (1 : Int32)) dX11_even_106 (by decide) ?_
        refine r_goto (pc := 107) C (tgt := 111) dX11_even_107 (by decide) ?_
        exact r_sub [0, 1, 2, 3, 4, 6] rfl (T_X11_even_111 C E ht hn hX59 h)
theorem T_X11_even_59 {X : CX} {Q : Int32 → HS → Prop} (C : Cx X cX11_even RX11 7 rm_X11_even) (E : ReI X rm_X11_even Q) (ht : (xh X).sig.returnType = (some .int)) (hn : (xh X).name = yX11_even.name) {v0 : Nat} {v1 : Int32} {v2 : Int32} {v3 : Int32} {v4 : Int32} {v5 : Int32} {v6 : Int32} {S : HS} (h : P_X11_even_59 Q v0 v1 v2 v3 v4 v5 v6 S) : WS X 7 0 0 59 [(0, .ref v0), (1, .int v1), (2, .int v2), (3, .int v3), (4, .int v4), (5, .int v5), (6, .int v6)] [] S :=
  h (fun v0 v1 v2 v3 v4 v5 v6 S => WS X 7 0 0 59 [(0, .ref v0), (1, .int v1), (2, .int v2), (3, .int v3), (4, .int v4), (5, .int v5), (6, .int v6)] [] S) (fun v0 v1 v2 v3 v4 v5 v6 S hh => TB_X11_even_59 C E ht hn (fun v0 v1 v2 v3 v4 v5 v6 S z => z) hh)
def P_X11_even_0 (Q : Int32 → HS → Prop) (v0 : Nat) (v1 : Int32) (v2 : Int32) (v3 : Int32) (v4 : Int32) (S : HS) : Prop := ob S v0 11 ∧ (∀ S1 : HS, S1 = sI S v0 0 (0 : Int32) → (P_X11_isWalker v0 v1 (fun x4 S2 => Gr S1 S2 → bl x4 → (((x4 = 0) → (P_X11_even_39 Q v0 S2)) ∧ ((¬ x4 = 0) → (P_X11_isRoad v0 v2 (fun x8 S6 => Gr S2 S6 → bl x8 → (((x8 = 0) → (P_X11_even_39 Q v0 S6)) ∧ ((¬ x8 = 0) → (P_X11_in v3 (0 : Int32) (1 : Int32) (fun x12 S10 => Gr S6 S10 → bl x12 → (((x12 = 0) → (P_X11_even_39 Q v0 S10)) ∧ ((¬ x12 = 0) → (P_X11_isHour v0 v4 (fun x16 S14 => Gr S10 S14 → bl x16 → (((¬ x16 = 0) → (∃ a18 : Nat, fR S14 v0 3 = some a18 ∧ (ob S14 a18 10 ∧ (∃ a19 : Nat, fR S14 a18 24 = some a19 ∧ (ob S14 a19 13 ∧ (vp_in v1 (hN S14 a19) ∧ ∀ x21 : Int32, x21 = fI S14 a19 v1.toNatClampNeg → (P_X11_even_59 Q v0 v1 v2 v3 v4 (1 : Int32) x21 S14))))))) ∧ ((x16 = 0) → (P_X11_even_39 Q v0 S14)))) S10)))) S6)))) S2)))) S1))
set_option maxRecDepth 20000 in
set_option maxHeartbeats 4000000 in
theorem T_X11_even_0 {X : CX} {Q : Int32 → HS → Prop} (C : Cx X cX11_even RX11 7 rm_X11_even) (E : ReI X rm_X11_even Q) (ht : (xh X).sig.returnType = (some .int)) (hn : (xh X).name = yX11_even.name) {v0 : Nat} {v1 : Int32} {v2 : Int32} {v3 : Int32} {v4 : Int32} {S : HS} (h : P_X11_even_0 Q v0 v1 v2 v3 v4 S) : WS X 7 0 0 0 [(0, .ref v0), (1, .int v1), (2, .int v2), (3, .int v3), (4, .int v4)] [] S := by
  refine r_aload_n (pc := 0) C dX11_even_0 0 rfl ?_
  refine r_iconst (pc := 1) C (v := (0 : Int32)) dX11_even_1 (by decide) ?_
  obtain ⟨o_v0, h⟩ := h
  refine r_puti (pc := 2) C pfL_X11_40 dX11_even_2 o_v0 ?_
  refine r_heap (fun S1 eS1 => ?_)
  have h := h S1 eS1
  have o_v0 := ob_I eS1 o_v0
  refine r_aload_n (pc := 5) C dX11_even_5 0 rfl ?_
  refine r_iload_n (pc := 6) C dX11_even_6 1 rfl ?_
  refine r_callVi0 (pc := 7) C (rest := []) (a := v0) o_v0 [.int v1] yV_X11_isWalker g_1538 (c_X11_isWalker h) dX11_even_7 rfl rfl (Nat.le_of_ble_eq_true rfl) ⟨by decide, by decide⟩ ⟨by decide, by decide⟩ ⟨rfl, rfl⟩ (fun x4 S2 h g3 => ?_)
  have bx4 := h.1
  have h := h.2 g3 bx4
  have o_v0 := gr_ob g3 o_v0
  refine r_if_eq (pc := 10) C (tgt := 39) dX11_even_10 (by decide) (fun c5 => ?_) (fun c5 => ?_)
  · have h := h.1 c5
    exact r_sub [0] rfl (T_X11_even_39 C E ht hn h)
  · have h := h.2 c5
    refine r_aload_n (pc := 13) C dX11_even_13 0 rfl ?_
    refine r_iload_n (pc := 14) C dX11_even_14 2 rfl ?_
    refine r_callVi0 (pc := 15) C (rest := []) (a := v0) o_v0 [.int v2] yV_X11_isRoad g_1542 (c_X11_isRoad h) dX11_even_15 rfl rfl (Nat.le_of_ble_eq_true rfl) ⟨by decide, by decide⟩ ⟨by decide, by decide⟩ ⟨rfl, rfl⟩ (fun x8 S6 h g7 => ?_)
    have bx8 := h.1
    have h := h.2 g7 bx8
    have o_v0 := gr_ob g7 o_v0
    refine r_if_eq (pc := 18) C (tgt := 39) dX11_even_18 (by decide) (fun c9 => ?_) (fun c9 => ?_)
    · have h := h.1 c9
      exact r_sub [0] rfl (T_X11_even_39 C E ht hn h)
    · have h := h.2 c9
      refine r_iload_n (pc := 21) C dX11_even_21 3 rfl ?_
      refine r_iconst (pc := 22) C (v := (0 : Int32)) dX11_even_22 (by decide) ?_
      refine r_iconst (pc := 23) C (v := (1 : Int32)) dX11_even_23 (by decide) ?_
      refine r_callSi0 (pc := 24) C (rest := []) rfl [.int v3, .int (0 : Int32), .int (1 : Int32)] yS_X11_in g_1434 (c_X11_in h) dX11_even_24 rfl rfl (Nat.le_of_ble_eq_true rfl) ⟨by decide, by decide⟩ ⟨by decide, by decide⟩ ⟨rfl, rfl⟩ (fun x12 S10 h g11 => ?_)
      have bx12 := h.1
      have h := h.2 g11 bx12
      have o_v0 := gr_ob g11 o_v0
      refine r_if_eq (pc := 27) C (tgt := 39) dX11_even_27 (by decide) (fun c13 => ?_) (fun c13 => ?_)
      · have h := h.1 c13
        exact r_sub [0] rfl (T_X11_even_39 C E ht hn h)
      · have h := h.2 c13
        refine r_aload_n (pc := 30) C dX11_even_30 0 rfl ?_
        refine r_iload (pc := 31) C dX11_even_31 4 rfl ?_
        refine r_callVi0 (pc := 33) C (rest := []) (a := v0) o_v0 [.int v4] yV_X11_isHour g_1546 (c_X11_isHour h) dX11_even_33 rfl rfl (Nat.le_of_ble_eq_true rfl) ⟨by decide, by decide⟩ ⟨by decide, by decide⟩ ⟨rfl, rfl⟩ (fun x16 S14 h g15 => ?_)
        have bx16 := h.1
        have h := h.2 g15 bx16
        have o_v0 := gr_ob g15 o_v0
        refine r_if_ne (pc := 36) C (tgt := 45) dX11_even_36 (by decide) (fun c17 => ?_) (fun c17 => ?_)
        · have h := h.1 c17
          refine r_iconst (pc := 45) C (v := (1 : Int32)) dX11_even_45 (by decide) ?_
          refine r_istore (pc := 46) C dX11_even_46 (by decide) (lv' := [(5, .int (1 : Int32)), (0, .ref v0), (1, .int v1), (2, .int v2), (3, .int v3), (4, .int v4)]) rfl ?_
          refine r_aload_n (pc := 48) C dX11_even_48 1 rfl ?_
          obtain ⟨a18, ea18, h⟩ := h
          refine r_getr (pc := 49) C fL_X11_338 dX11_even_49 o_v0 ea18 ?_
          obtain ⟨o_a18, h⟩ := h
          obtain ⟨a19, ea19, h⟩ := h
          refine r_getNr (pc := 52) C fN_X11_317 dX11_even_52 o_a18 ea19 ?_
          refine r_iload_n (pc := 55) C dX11_even_55 2 rfl ?_
          obtain ⟨o_a19, h⟩ := h
          obtain ⟨i20, h⟩ := h
          refine r_iald (pc := 56) C dX11_even_56 o_a19 i20 ?_
          refine r_topi (fun x21 ex21 => ?_)
          have h := h x21 ex21
          refine r_istore (pc := 57) C dX11_even_57 (by decide) (lv' := [(6, .int x21), (5, .int (1 : Int32)), (0, .ref v0), (1, .int v1), (2, .int v2), (3, .int v3), (4, .int v4)]) rfl ?_
          exact r_sub [2, 3, 4, 5, 6, 1, 0] rfl (T_X11_even_59 C E ht hn h)
        · have h := h.2 c17
          exact r_sub [0] rfl (T_X11_even_39 C E ht hn h)
def P_X11_even (v0 : Nat) (v1 : Int32) (v2 : Int32) (v3 : Int32) (v4 : Int32) (Q : Int32 → HS → Prop) (S : HS) : Prop := P_X11_even_0 Q v0 v1 v2 v3 v4 S
theorem c_X11_even {l : Launch} {Ee : EE} {S : HS} {v0 : Nat} {v1 : Int32} {v2 : Int32} {v3 : Int32} {v4 : Int32} {Q : Int32 → HS → Prop} (h : P_X11_even v0 v1 v2 v3 v4 Q S) : MI l yX11_even cX11_even 7 (some .int) rm_X11_even Ee S [.ref v0, .int v1, .int v2, .int v3, .int v4] Q :=
  openI (by decide) (Nat.le_of_ble_eq_true rfl) (fun X C E ht hn hE hl => by subst hE; exact r_sub [0, 1, 2, 3, 4] rfl (T_X11_even_0 C E ht hn h))
def rm_X11_isSpeed : Room := { frames := 1, cells := 0, slots := 0, locals := 22 }
def P_X11_isSpeed_0 (Q : Int32 → HS → Prop) (v0 : Nat) (v1 : Int32) (v2 : Int32) (S : HS) : Prop := ob S v0 11 ∧ (∃ a1 : Nat, fR S v0 3 = some a1 ∧ (ob S a1 10 ∧ (∃ a2 : Nat, fR S a1 24 = some a2 ∧ (ob S a2 13 ∧ (vp_in v1 (hN S a2) ∧ ∀ x4 : Int32, x4 = fI S a2 v1.toNatClampNeg → (∃ a5 : Nat, fR S v0 3 = some a5 ∧ (ob S a5 10 ∧ (∃ a6 : Nat, fR S a5 25 = some a6 ∧ (ob S a6 13 ∧ (vp_in v1 (hN S a6) ∧ ∀ x8 : Int32, x8 = fI S a6 v1.toNatClampNeg → (P_X11_in v2 x4 x8 (fun x11 S9 => Gr S S9 → bl x11 → (bl x11 ∧ Q x11 S9)) S)))))))))))
set_option maxRecDepth 20000 in
set_option maxHeartbeats 4000000 in
theorem T_X11_isSpeed_0 {X : CX} {Q : Int32 → HS → Prop} (C : Cx X cX11_isSpeed RX11 3 rm_X11_isSpeed) (E : ReI X rm_X11_isSpeed (fun r S => bl r ∧ Q r S)) (ht : (xh X).sig.returnType = (some .boolean)) (hn : (xh X).name = yX11_isSpeed.name) {v0 : Nat} {v1 : Int32} {v2 : Int32} {S : HS} (h : P_X11_isSpeed_0 Q v0 v1 v2 S) : WS X 3 0 0 0 [(0, .ref v0), (1, .int v1), (2, .int v2)] [] S := by
  refine r_iload_n (pc := 0) C dX11_isSpeed_0 2 rfl ?_
  refine r_aload_n (pc := 1) C dX11_isSpeed_1 0 rfl ?_
  obtain ⟨o_v0, h⟩ := h
  obtain ⟨a1, ea1, h⟩ := h
  refine r_getr (pc := 2) C fL_X11_338 dX11_isSpeed_2 o_v0 ea1 ?_
  obtain ⟨o_a1, h⟩ := h
  obtain ⟨a2, ea2, h⟩ := h
  refine r_getNr (pc := 5) C fN_X11_317 dX11_isSpeed_5 o_a1 ea2 ?_
  refine r_iload_n (pc := 8) C dX11_isSpeed_8 1 rfl ?_
  obtain ⟨o_a2, h⟩ := h
  obtain ⟨i3, h⟩ := h
  refine r_iald (pc := 9) C dX11_isSpeed_9 o_a2 i3 ?_
  refine r_topi (fun x4 ex4 => ?_)
  have h := h x4 ex4
  refine r_aload_n (pc := 10) C dX11_isSpeed_10 0 rfl ?_
  obtain ⟨a5, ea5, h⟩ := h
  refine r_getr (pc := 11) C fL_X11_338 dX11_isSpeed_11 o_v0 ea5 ?_
  obtain ⟨o_a5, h⟩ := h
  obtain ⟨a6, ea6, h⟩ := h
  refine r_getNr (pc := 14) C fN_X11_320 dX11_isSpeed_14 o_a5 ea6 ?_
  refine r_iload_n (pc := 17) C dX11_isSpeed_17 1 rfl ?_
  obtain ⟨o_a6, h⟩ := h
  obtain ⟨i7, h⟩ := h
  refine r_iald (pc := 18) C dX11_isSpeed_18 o_a6 i7 ?_
  refine r_topi (fun x8 ex8 => ?_)
  have h := h x8 ex8
  refine r_callSi0 (pc := 19) C (rest := []) rfl [.int v2, .int x4, .int x8] yS_X11_in g_1434 (c_X11_in h) dX11_isSpeed_19 rfl rfl (Nat.le_of_ble_eq_true rfl) ⟨by decide, by decide⟩ ⟨by decide, by decide⟩ ⟨rfl, rfl⟩ (fun x11 S9 h g10 => ?_)
  have bx11 := h.1
  have h := h.2 g10 bx11
  have o_a1 := gr_ob g10 o_a1
  have o_a2 := gr_ob g10 o_a2
  have o_a5 := gr_ob g10 o_a5
  have o_a6 := gr_ob g10 o_a6
  have o_v0 := gr_ob g10 o_v0
  exact r_zret (pc := 22) C E ht dX11_isSpeed_22 (by decide) (by decide) h.1 h.2
def P_X11_isSpeed (v0 : Nat) (v1 : Int32) (v2 : Int32) (Q : Int32 → HS → Prop) (S : HS) : Prop := P_X11_isSpeed_0 Q v0 v1 v2 S
theorem c_X11_isSpeed {l : Launch} {Ee : EE} {S : HS} {v0 : Nat} {v1 : Int32} {v2 : Int32} {Q : Int32 → HS → Prop} (h : P_X11_isSpeed v0 v1 v2 Q S) : MI l yX11_isSpeed cX11_isSpeed 3 (some .boolean) rm_X11_isSpeed Ee S [.ref v0, .int v1, .int v2] (fun r S => bl r ∧ Q r S) :=
  openI (by decide) (Nat.le_of_ble_eq_true rfl) (fun X C E ht hn hE hl => by subst hE; exact r_sub [0, 1, 2] rfl (T_X11_isSpeed_0 C E ht hn h))
