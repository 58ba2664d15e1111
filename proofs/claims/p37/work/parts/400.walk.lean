def rm_X0_end : Room := { frames := 0, cells := 0, slots := 0, locals := 0 }
def P_X0_end_0 (Q : HS → Prop) (v0 : Nat) (S : HS) : Prop := ob S v0 0 ∧ (∀ S1 : HS, S1 = sI S v0 0 (-1 : Int32) → (∀ S2 : HS, S2 = sI S1 v0 2 (0 : Int32) → (∀ S3 : HS, S3 = sI S2 v0 3 (0 : Int32) → (Q S3))))
set_option maxRecDepth 20000 in
set_option maxHeartbeats 4000000 in
theorem T_X0_end_0 {X : CX} {Q : HS → Prop} (C : Cx X cX0_end RX0 1 rm_X0_end) (E : ReV X rm_X0_end Q) (ht : (xh X).sig.returnType = none) (hn : (xh X).name = yX0_end.name) {v0 : Nat} {S : HS} (h : P_X0_end_0 Q v0 S) : WS X 1 0 0 0 [(0, .ref v0)] [] S := by
  refine r_aload_n (pc := 0) C dX0_end_0 0 rfl ?_
  refine r_iconst (pc := 1) C (v := (-1 : Int32)) dX0_end_1 (by decide) ?_
  obtain ⟨o_v0, h⟩ := h
  refine r_puti (pc := 2) C pfL_X0_9 dX0_end_2 o_v0 ?_
  refine r_heap (fun S1 eS1 => ?_)
  have h := h S1 eS1
  have o_v0 := ob_I eS1 o_v0
  refine r_aload_n (pc := 5) C dX0_end_5 0 rfl ?_
  refine r_iconst (pc := 6) C (v := (0 : Int32)) dX0_end_6 (by decide) ?_
  refine r_puti (pc := 7) C pfL_X0_29 dX0_end_7 o_v0 ?_
  refine r_heap (fun S2 eS2 => ?_)
  have h := h S2 eS2
  have o_v0 := ob_I eS2 o_v0
  refine r_aload_n (pc := 10) C dX0_end_10 0 rfl ?_
  refine r_iconst (pc := 11) C (v := (0 : Int32)) dX0_end_11 (by decide) ?_
  refine r_puti (pc := 12) C pfL_X0_32 dX0_end_12 o_v0 ?_
  refine r_heap (fun S3 eS3 => ?_)
  have h := h S3 eS3
  have o_v0 := ob_I eS3 o_v0
  exact r_vret (pc := 15) C E ht dX0_end_15 (by decide) (by decide) h
def P_X0_end (v0 : Nat) (Q : HS → Prop) (S : HS) : Prop := P_X0_end_0 Q v0 S
theorem c_X0_end {l : Launch} {Ee : EE} {S : HS} {v0 : Nat} {Q : HS → Prop} (h : P_X0_end v0 Q S) : MV l yX0_end cX0_end 1 none rm_X0_end Ee S [.ref v0] Q :=
  openV (by decide) (Nat.le_of_ble_eq_true rfl) (fun X C E ht hn hE hl => by subst hE; exact r_sub [0] rfl (T_X0_end_0 C E ht hn h))
def rm_X0_begin : Room := { frames := 1, cells := 0, slots := 0, locals := 20 }
def B_X0_begin_28 (Q : HS → Prop) (X28 : Nat → Int32 → HS → Prop) (v0 : Nat) (v4 : Int32) (S : HS) : Prop := (((5 : Int32) ≤ v4) → (Q S)) ∧ ((¬ (5 : Int32) ≤ v4) → (ob S v0 0 ∧ (∃ a2 : Nat, fR S v0 4 = some a2 ∧ (ob S a2 2 ∧ (∃ a3 : Nat, fR S a2 2 = some a3 ∧ (ob S a3 14 ∧ (vp_in v4 (hN S a3) ∧ (∀ S5 : HS, S5 = sJ S a3 v4.toNatClampNeg (0 : Int64) → (∀ x6 : Int32, x6 = v4 + (1 : Int32) → (X28 v0 x6 S5))))))))))
def P_X0_begin_28 (Q : HS → Prop) (v0 : Nat) (v4 : Int32) (S : HS) : Prop := ∀ X28 : Nat → Int32 → HS → Prop, (∀ (v0 : Nat) (v4 : Int32) (S : HS), B_X0_begin_28 Q X28 v0 v4 S → X28 v0 v4 S) → X28 v0 v4 S
set_option maxRecDepth 20000 in
set_option maxHeartbeats 4000000 in
theorem TB_X0_begin_28 {X : CX} {Q : HS → Prop} (C : Cx X cX0_begin RX0 5 rm_X0_begin) (E : ReV X rm_X0_begin Q) (ht : (xh X).sig.returnType = none) (hn : (xh X).name = yX0_begin.name) {X28 : Nat → Int32 → HS → Prop} (hX28 : ∀ (v0 : Nat) (v4 : Int32) (S : HS), X28 v0 v4 S → WS X 5 0 0 28 [(0, .ref v0), (4, .int v4)] [] S) {v0 : Nat} {v4 : Int32} {S : HS} (h : B_X0_begin_28 Q X28 v0 v4 S) : WS X 5 0 0 28 [(0, .ref v0), (4, .int v4)] [] S := by
  refine r_iload (pc := 28) C dX0_begin_28 1 rfl ?_
  refine r_iconst (pc := 30) C (v := (5 : Int32)) dX0_begin_30 (by decide) ?_
  refine r_icmp_ge (pc := 31) C (tgt := 51) dX0_begin_31 (by decide) (fun c1 => ?_) (fun c1 => ?_)
  · have h := h.1 c1
    exact r_vret (pc := 51) C E ht dX0_begin_51 (by decide) (by decide) h
  · have h := h.2 c1
    refine r_aload_n (pc := 34) C dX0_begin_34 0 rfl ?_
    obtain ⟨o_v0, h⟩ := h
    obtain ⟨a2, ea2, h⟩ := h
    refine r_getr (pc := 35) C fL_X0_18 dX0_begin_35 o_v0 ea2 ?_
    obtain ⟨o_a2, h⟩ := h
    obtain ⟨a3, ea3, h⟩ := h
    refine r_getr (pc := 38) C fL_X0_44 dX0_begin_38 o_a2 ea3 ?_
    refine r_iload (pc := 41) C dX0_begin_41 1 rfl ?_
    refine r_lconst (pc := 43) C (v := (0 : Int64)) dX0_begin_43 (by decide) ?_
    obtain ⟨o_a3, h⟩ := h
    obtain ⟨i4, h⟩ := h
    refine r_last (pc := 44) C dX0_begin_44 o_a3 i4 ?_
    refine r_heap (fun S5 eS5 => ?_)
    have h := h S5 eS5
    have o_a2 := ob_J eS5 o_a2
    have o_a3 := ob_J eS5 o_a3
    have o_v0 := ob_J eS5 o_v0
    obtain ⟨x6, ex6⟩ : ∃ z : Int32, z = v4 + (1 : Int32) := ⟨_, rfl⟩
    have h := h x6 ex6
    refine r_iinc (pc := 45) C (v := x6) (lv' := [(4, .int x6), (0, .ref v0)]) dX0_begin_45 1 rfl ex6.symm (by decide) rfl ?_
    refine r_goto (pc := 48) C (tgt := 28) dX0_begin_48 (by decide) ?_
    exact r_sub [1, 0] rfl (hX28 v0 x6 S5 h)
theorem T_X0_begin_28 {X : CX} {Q : HS → Prop} (C : Cx X cX0_begin RX0 5 rm_X0_begin) (E : ReV X rm_X0_begin Q) (ht : (xh X).sig.returnType = none) (hn : (xh X).name = yX0_begin.name) {v0 : Nat} {v4 : Int32} {S : HS} (h : P_X0_begin_28 Q v0 v4 S) : WS X 5 0 0 28 [(0, .ref v0), (4, .int v4)] [] S :=
  h (fun v0 v4 S => WS X 5 0 0 28 [(0, .ref v0), (4, .int v4)] [] S) (fun v0 v4 S hh => TB_X0_begin_28 C E ht hn (fun v0 v4 S z => z) hh)
def P_X0_begin_0 (Q : HS → Prop) (v0 : Nat) (v1 : Int32) (v2 : Int32) (v3 : Int32) (S : HS) : Prop := ob S v0 0 ∧ (P_X0_end v0 (fun S1 => Gr S S1 → (∀ S4 : HS, S4 = sI S1 v0 0 v1 → (∃ a5 : Nat, fR S4 v0 4 = some a5 ∧ (ob S4 a5 2 ∧ (∀ S6 : HS, S6 = sI S4 a5 0 v2 → (∃ a7 : Nat, fR S6 v0 4 = some a7 ∧ (ob S6 a7 2 ∧ (∀ S8 : HS, S8 = sI S6 a7 1 v3 → (P_X0_begin_28 Q v0 (0 : Int32) S8))))))))) S)
set_option maxRecDepth 20000 in
set_option maxHeartbeats 4000000 in
theorem T_X0_begin_0 {X : CX} {Q : HS → Prop} (C : Cx X cX0_begin RX0 5 rm_X0_begin) (E : ReV X rm_X0_begin Q) (ht : (xh X).sig.returnType = none) (hn : (xh X).name = yX0_begin.name) {v0 : Nat} {v1 : Int32} {v2 : Int32} {v3 : Int32} {S : HS} (h : P_X0_begin_0 Q v0 v1 v2 v3 S) : WS X 5 0 0 0 [(0, .ref v0), (1, .int v1), (2, .int v2), (3, .int v3)] [] S := by
  refine r_aload_n (pc := 0) C dX0_begin_0 0 rfl ?_
  obtain ⟨o_v0, h⟩ := h
  refine r_callVv0 (pc := 1) C (rest := []) (a := v0) o_v0 [] yV_X0_end g_971 (c_X0_end h) dX0_begin_1 rfl rfl (Nat.le_of_ble_eq_true rfl) ⟨by decide, by decide⟩ ⟨by decide, by decide⟩ ⟨rfl, rfl⟩ (fun S1 h g2 => ?_)
  have h := h g2
  have o_v0 := gr_ob g2 o_v0
  refine r_aload_n (pc := 4) C dX0_begin_4 0 rfl ?_
  refine r_iload_n (pc := 5) C dX0_begin_5 1 rfl ?_
  refine r_puti (pc := 6) C pfL_X0_9 dX0_begin_6 o_v0 ?_
  refine r_heap (fun S4 eS4 => ?_)
  have h := h S4 eS4
  have o_v0 := ob_I eS4 o_v0
  refine r_aload_n (pc := 9) C dX0_begin_9 0 rfl ?_
  obtain ⟨a5, ea5, h⟩ := h
  refine r_getr (pc := 10) C fL_X0_18 dX0_begin_10 o_v0 ea5 ?_
  refine r_iload_n (pc := 13) C dX0_begin_13 2 rfl ?_
  obtain ⟨o_a5, h⟩ := h
  refine r_puti (pc := 14) C pfL_X0_38 dX0_begin_14 o_a5 ?_
  refine r_heap (fun S6 eS6 => ?_)
  have h := h S6 eS6
  have o_a5 := ob_I eS6 o_a5
  have o_v0 := ob_I eS6 o_v0
  refine r_aload_n (pc := 17) C dX0_begin_17 0 rfl ?_
  obtain ⟨a7, ea7, h⟩ := h
  refine r_getr (pc := 18) C fL_X0_18 dX0_begin_18 o_v0 ea7 ?_
  refine r_iload_n (pc := 21) C dX0_begin_21 3 rfl ?_
  obtain ⟨o_a7, h⟩ := h
  refine r_puti (pc := 22) C pfL_X0_41 dX0_begin_22 o_a7 ?_
  refine r_heap (fun S8 eS8 => ?_)
  have h := h S8 eS8
  have o_a5 := ob_I eS8 o_a5
  have o_a7 := ob_I eS8 o_a7
  have o_v0 := ob_I eS8 o_v0
  refine r_iconst (pc := 25) C (v := (0 : Int32)) dX0_begin_25 (by decide) ?_
  refine r_istore (pc := 26) C dX0_begin_26 (by decide) (lv' := [(4, .int (0 : Int32)), (0, .ref v0), (1, .int v1), (2, .int v2), (3, .int v3)]) rfl ?_
  exact r_sub [1, 0] rfl (T_X0_begin_28 C E ht hn h)
def P_X0_begin (v0 : Nat) (v1 : Int32) (v2 : Int32) (v3 : Int32) (Q : HS → Prop) (S : HS) : Prop := P_X0_begin_0 Q v0 v1 v2 v3 S
theorem c_X0_begin {l : Launch} {Ee : EE} {S : HS} {v0 : Nat} {v1 : Int32} {v2 : Int32} {v3 : Int32} {Q : HS → Prop} (h : P_X0_begin v0 v1 v2 v3 Q S) : MV l yX0_begin cX0_begin 5 none rm_X0_begin Ee S [.ref v0, .int v1, .int v2, .int v3] Q :=
  openV (by decide) (Nat.le_of_ble_eq_true rfl) (fun X C E ht hn hE hl => by subst hE; exact r_sub [0, 1, 2, 3] rfl (T_X0_begin_0 C E ht hn h))
def rm_X0_draw : Room := { frames := 0, cells := 0, slots := 0, locals := 0 }
def P_X0_draw_60 (Q : HS → Prop) (X10 : Nat → Nat → Int32 → Int32 → HS → Prop) (v0 : Nat) (v1 : Nat) (v3 : Int32) (v4 : Int32) (S : HS) : Prop := ∀ x1 : Int32, x1 = v4 + (1 : Int32) → (X10 v0 v1 v3 x1 S)
set_option maxRecDepth 20000 in
set_option maxHeartbeats 4000000 in
theorem T_X0_draw_60 {X : CX} {Q : HS → Prop} (C : Cx X cX0_draw RX0 5 rm_X0_draw) (E : ReV X rm_X0_draw Q) (ht : (xh X).sig.returnType = none) (hn : (xh X).name = yX0_draw.name) {X10 : Nat → Nat → Int32 → Int32 → HS → Prop} (hX10 : ∀ (v0 : Nat) (v1 : Nat) (v3 : Int32) (v4 : Int32) (S : HS), X10 v0 v1 v3 v4 S → WS X 5 0 0 10 [(0, .ref v0), (1, .ref v1), (3, .int v3), (4, .int v4)] [] S) {v0 : Nat} {v1 : Nat} {v3 : Int32} {v4 : Int32} {S : HS} (h : P_X0_draw_60 Q X10 v0 v1 v3 v4 S) : WS X 5 0 0 60 [(0, .ref v0), (1, .ref v1), (3, .int v3), (4, .int v4)] [] S := by
  obtain ⟨x1, ex1⟩ : ∃ z : Int32, z = v4 + (1 : Int32) := ⟨_, rfl⟩
  have h := h x1 ex1
  refine r_iinc (pc := 60) C (v := x1) (lv' := [(4, .int x1), (0, .ref v0), (1, .ref v1), (3, .int v3)]) dX0_draw_60 3 rfl ex1.symm (by decide) rfl ?_
  refine r_goto (pc := 63) C (tgt := 10) dX0_draw_63 (by decide) ?_
  exact r_sub [1, 2, 3, 0] rfl (hX10 v0 v1 v3 x1 S h)
def B_X0_draw_10 (Q : HS → Prop) (X10 : Nat → Nat → Int32 → Int32 → HS → Prop) (v0 : Nat) (v1 : Nat) (v3 : Int32) (v4 : Int32) (S : HS) : Prop := ob S v1 8 ∧ (∀ x1 : Int32, x1 = fI S v1 1 → (((x1 ≤ v4) → (Q S)) ∧ ((¬ x1 ≤ v4) → (∀ x3 : Int32, x3 = (((75 : Int32) * v3) + (74 : Int32)) - (((75 : Int32) * v3) + (74 : Int32)) / (65537 : Int32) * (65537 : Int32) → (∀ x4 : Int32, x4 = x3 - x3 / (100 : Int32) * (100 : Int32) → (∃ a5 : Nat, fR S v1 6 = some a5 ∧ (ob S a5 17 ∧ (vp_in v4 (hN S a5) ∧ ∃ a7 : Nat, fR S a5 v4.toNatClampNeg = some a7 ∧ (ob S a7 3 ∧ (∀ x8 : Int32, x8 = fI S a7 4 → (((x8 ≤ x4) → (P_X0_draw_60 Q X10 v0 v1 x3 v4 S)) ∧ ((¬ x8 ≤ x4) → (ob S v0 0 ∧ (∀ x10 : Int32, x10 = fI S v0 1 → (∀ x11 : Int32, x11 = x10 ||| ((1 : Int32) <<< (v4 &&& 31)) → (∀ S12 : HS, S12 = sI S v0 1 x11 → (P_X0_draw_60 Q X10 v0 v1 x3 v4 S12)))))))))))))))))
def P_X0_draw_10 (Q : HS → Prop) (v0 : Nat) (v1 : Nat) (v3 : Int32) (v4 : Int32) (S : HS) : Prop := ∀ X10 : Nat → Nat → Int32 → Int32 → HS → Prop, (∀ (v0 : Nat) (v1 : Nat) (v3 : Int32) (v4 : Int32) (S : HS), B_X0_draw_10 Q X10 v0 v1 v3 v4 S → X10 v0 v1 v3 v4 S) → X10 v0 v1 v3 v4 S
set_option maxRecDepth 20000 in
set_option maxHeartbeats 4000000 in
theorem TB_X0_draw_10 {X : CX} {Q : HS → Prop} (C : Cx X cX0_draw RX0 5 rm_X0_draw) (E : ReV X rm_X0_draw Q) (ht : (xh X).sig.returnType = none) (hn : (xh X).name = yX0_draw.name) {X10 : Nat → Nat → Int32 → Int32 → HS → Prop} (hX10 : ∀ (v0 : Nat) (v1 : Nat) (v3 : Int32) (v4 : Int32) (S : HS), X10 v0 v1 v3 v4 S → WS X 5 0 0 10 [(0, .ref v0), (1, .ref v1), (3, .int v3), (4, .int v4)] [] S) {v0 : Nat} {v1 : Nat} {v3 : Int32} {v4 : Int32} {S : HS} (h : B_X0_draw_10 Q X10 v0 v1 v3 v4 S) : WS X 5 0 0 10 [(0, .ref v0), (1, .ref v1), (3, .int v3), (4, .int v4)] [] S := by
  refine r_iload (pc := 10) C dX0_draw_10 3 rfl ?_
  refine r_aload_n (pc := 12) C dX0_draw_12 1 rfl ?_
  obtain ⟨o_v1, h⟩ := h
  refine r_geti (pc := 13) C fL_X0_51 dX0_draw_13 o_v1 ?_
  refine r_topi (fun x1 ex1 => ?_)
  have h := h x1 ex1
  refine r_icmp_ge (pc := 16) C (tgt := 66) dX0_draw_16 (by decide) (fun c2 => ?_) (fun c2 => ?_)
  · have h := h.1 c2
    exact r_vret (pc := 66) C E ht dX0_draw_66 (by decide) (by decide) h
  · have h := h.2 c2
    refine r_bipush (pc := 19) C (v := (75 : Int32)) dX0_draw_19 (by decide) ?_
    refine r_iload_n (pc := 21) C dX0_draw_21 2 rfl ?_
    refine r_imul (pc := 22) C dX0_draw_22 ?_
    refine r_bipush (pc := 23) C (v := (74 : Int32)) dX0_draw_23 (by decide) ?_
    refine r_iadd (pc := 25) C dX0_draw_25 ?_
    refine r_ldc (pc := 26) C (v := (65537 : Int32)) dX0_draw_26 g_976 ?_
    refine r_irem (pc := 28) C dX0_draw_28 (by decide) ?_
    refine r_topi (fun x3 ex3 => ?_)
    have h := h x3 ex3
    refine r_istore_n (pc := 29) C dX0_draw_29 rfl (by decide) (lv' := [(3, .int x3), (0, .ref v0), (1, .ref v1), (4, .int v4)]) rfl ?_
    refine r_iload_n (pc := 30) C dX0_draw_30 0 rfl ?_
    refine r_bipush (pc := 31) C (v := (100 : Int32)) dX0_draw_31 (by decide) ?_
    refine r_irem (pc := 33) C dX0_draw_33 (by decide) ?_
    refine r_topi (fun x4 ex4 => ?_)
    have h := h x4 ex4
    refine r_aload_n (pc := 34) C dX0_draw_34 2 rfl ?_
    obtain ⟨a5, ea5, h⟩ := h
    refine r_getr (pc := 35) C fL_X0_57 dX0_draw_35 o_v1 ea5 ?_
    refine r_iload (pc := 38) C dX0_draw_38 3 rfl ?_
    obtain ⟨o_a5, h⟩ := h
    obtain ⟨i6, a7, ea7, h⟩ := h
    refine r_aald17 (pc := 40) C dX0_draw_40 o_a5 i6 ea7 ?_
    obtain ⟨o_a7, h⟩ := h
    refine r_geti (pc := 41) C fL_X0_61 dX0_draw_41 o_a7 ?_
    refine r_topi (fun x8 ex8 => ?_)
    have h := h x8 ex8
    refine r_icmp_ge (pc := 44) C (tgt := 60) dX0_draw_44 (by decide) (fun c9 => ?_) (fun c9 => ?_)
    · have h := h.1 c9
      exact r_sub [1, 2, 0, 3] rfl (T_X0_draw_60 C E ht hn hX10 h)
    · have h := h.2 c9
      refine r_aload_n (pc := 47) C dX0_draw_47 1 rfl ?_
      refine r_dup (pc := 48) C dX0_draw_48 rfl ?_
      obtain ⟨o_v0, h⟩ := h
      refine r_geti (pc := 49) C fL_X0_48 dX0_draw_49 o_v0 ?_
      refine r_topi (fun x10 ex10 => ?_)
      have h := h x10 ex10
      refine r_iconst (pc := 52) C (v := (1 : Int32)) dX0_draw_52 (by decide) ?_
      refine r_iload (pc := 53) C dX0_draw_53 3 rfl ?_
      refine r_ishl (pc := 55) C dX0_draw_55 ?_
      refine r_ior (pc := 56) C dX0_draw_56 ?_
      refine r_topi (fun x11 ex11 => ?_)
      have h := h x11 ex11
      refine r_puti (pc := 57) C pfL_X0_48 dX0_draw_57 o_v0 ?_
      refine r_heap (fun S12 eS12 => ?_)
      have h := h S12 eS12
      have o_a5 := ob_I eS12 o_a5
      have o_a7 := ob_I eS12 o_a7
      have o_v0 := ob_I eS12 o_v0
      have o_v1 := ob_I eS12 o_v1
      exact r_sub [1, 2, 0, 3] rfl (T_X0_draw_60 C E ht hn hX10 h)
theorem T_X0_draw_10 {X : CX} {Q : HS → Prop} (C : Cx X cX0_draw RX0 5 rm_X0_draw) (E : ReV X rm_X0_draw Q) (ht : (xh X).sig.returnType = none) (hn : (xh X).name = yX0_draw.name) {v0 : Nat} {v1 : Nat} {v3 : Int32} {v4 : Int32} {S : HS} (h : P_X0_draw_10 Q v0 v1 v3 v4 S) : WS X 5 0 0 10 [(0, .ref v0), (1, .ref v1), (3, .int v3), (4, .int v4)] [] S :=
  h (fun v0 v1 v3 v4 S => WS X 5 0 0 10 [(0, .ref v0), (1, .ref v1), (3, .int v3), (4, .int v4)] [] S) (fun v0 v1 v3 v4 S hh => TB_X0_draw_10 C E ht hn (fun v0 v1 v3 v4 S z => z) hh)
def P_X0_draw_0 (Q : HS → Prop) (v0 : Nat) (v1 : Nat) (v2 : Int32) (S : HS) : Prop := ob S v0 0 ∧ (∀ S1 : HS, S1 = sI S v0 1 (0 : Int32) → (P_X0_draw_10 Q v0 v1 v2 (0 : Int32) S1))
set_option maxRecDepth 20000 in
set_option maxHeartbeats 4000000 in
theorem T_X0_draw_0 {X : CX} {Q : HS → Prop} (C : Cx X cX0_draw RX0 5 rm_X0_draw) (E : ReV X rm_X0_draw Q) (ht : (xh X).sig.returnType = none) (hn : (xh X).name = yX0_draw.name) {v0 : Nat} {v1 : Nat} {v2 : Int32} {S : HS} (h : P_X0_draw_0 Q v0 v1 v2 S) : WS X 5 0 0 0 [(0, .ref v0), (1, .ref v1), (2, .int v2)] [] S := by
  refine r_iload_n (pc := 0) C dX0_draw_0 2 rfl ?_
  refine r_istore_n (pc := 1) C dX0_draw_1 rfl (by decide) (lv' := [(3, .int v2), (0, .ref v0), (1, .ref v1), (2, .int v2)]) rfl ?_
  refine r_aload_n (pc := 2) C dX0_draw_2 1 rfl ?_
  refine r_iconst (pc := 3) C (v := (0 : Int32)) dX0_draw_3 (by decide) ?_
  obtain ⟨o_v0, h⟩ := h
  refine r_puti (pc := 4) C pfL_X0_48 dX0_draw_4 o_v0 ?_
  refine r_heap (fun S1 eS1 => ?_)
  have h := h S1 eS1
  have o_v0 := ob_I eS1 o_v0
  refine r_iconst (pc := 7) C (v := (0 : Int32)) dX0_draw_7 (by decide) ?_
  refine r_istore (pc := 8) C dX0_draw_8 (by decide) (lv' := [(4, .int (0 : Int32)), (3, .int v2), (0, .ref v0), (1, .ref v1), (2, .int v2)]) rfl ?_
  exact r_sub [2, 3, 1, 0] rfl (T_X0_draw_10 C E ht hn h)
def P_X0_draw (v0 : Nat) (v1 : Nat) (v2 : Int32) (Q : HS → Prop) (S : HS) : Prop := P_X0_draw_0 Q v0 v1 v2 S
theorem c_X0_draw {l : Launch} {Ee : EE} {S : HS} {v0 : Nat} {v1 : Nat} {v2 : Int32} {Q : HS → Prop} (h : P_X0_draw v0 v1 v2 Q S) : MV l yX0_draw cX0_draw 5 none rm_X0_draw Ee S [.ref v0, .ref v1, .int v2] Q :=
  openV (by decide) (Nat.le_of_ble_eq_true rfl) (fun X C E ht hn hE hl => by subst hE; exact r_sub [0, 1, 2] rfl (T_X0_draw_0 C E ht hn h))
def rm_X2_init : Room := { frames := 1, cells := 1, slots := 5, locals := 20 }
def P_X2_init_0 (Q : HS → Prop) (v0 : Nat) (S : HS) : Prop := ∀ a1 : Nat, a1 ∉ hL S → ∀ S2 : HS, S2 = nW S a1 14 5 → (ob S2 v0 2 ∧ (∀ S3 : HS, S3 = sR S2 v0 2 (some a1) → (Q S3)))
set_option maxRecDepth 20000 in
set_option maxHeartbeats 4000000 in
theorem T_X2_init_0 {X : CX} {Q : HS → Prop} (C : Cx X cX2_init RX2 1 rm_X2_init) (E : ReV X rm_X2_init Q) (ht : (xh X).sig.returnType = none) (hn : (xh X).name = yX2_init.name) {v0 : Nat} {S : HS} (h : P_X2_init_0 Q v0 S) : WS X 1 0 0 0 [(0, .ref v0)] [] S := by
  refine r_aload_n (pc := 0) C dX2_init_0 0 rfl ?_
  refine r_objinit (pc := 1) C g_342 dX2_init_1 (by decide) (Nat.le_of_ble_eq_true rfl) ?_
  refine r_aload_n (pc := 4) C dX2_init_4 0 rfl ?_
  refine r_iconst (pc := 5) C (v := (5 : Int32)) dX2_init_5 (by decide) ?_
  refine r_newa14 (pc := 6) C (N := 5) g_266 dX2_init_6 (by decide) (by decide) (by decide) (by decide) (by decide) (fun a1 q4 => ?_)
  refine r_heap (fun S2 eS2 => ?_)
  have h := h a1 q4 S2 eS2
  have g5 := gr_of_new eS2 q4
  have o_a1 := ob_of_new eS2
  obtain ⟨o_v0, h⟩ := h
  refine r_putFr (pc := 8) C pfL_X2_9 hn dX2_init_8 o_v0 ?_
  refine r_heap (fun S3 eS3 => ?_)
  have h := h S3 eS3
  have o_a1 := ob_R eS3 o_a1
  have o_v0 := ob_R eS3 o_v0
  exact r_vret (pc := 11) C E ht dX2_init_11 (by decide) (by decide) h
def P_X2_init (v0 : Nat) (Q : HS → Prop) (S : HS) : Prop := P_X2_init_0 Q v0 S
theorem c_X2_init {l : Launch} {Ee : EE} {S : HS} {v0 : Nat} {Q : HS → Prop} (h : P_X2_init v0 Q S) : MV l yX2_init cX2_init 1 none rm_X2_init Ee S [.ref v0] Q :=
  openV (by decide) (Nat.le_of_ble_eq_true rfl) (fun X C E ht hn hE hl => by subst hE; exact r_sub [0] rfl (T_X2_init_0 C E ht hn h))
def rm_X0_init : Room := { frames := 2, cells := 42, slots := 179, locals := 40 }
def B_X0_init_69 (Q : HS → Prop) (X69 : Nat → Int32 → Nat → Nat → HS → Prop) (v0 : Nat) (v1 : Int32) (kk : Nat) (nn : Nat) (S : HS) : Prop := ob S v0 0 ∧ (∃ a1 : Nat, fR S v0 6 = some a1 ∧ (ob S a1 16 ∧ ((((nI (hN S a1)) ≤ v1) → (kk ≤ rm_X0_init.cells ∧ nn ≤ rm_X0_init.slots ∧ Q S)) ∧ ((¬ (nI (hN S a1)) ≤ v1) → (∃ a3 : Nat, fR S v0 6 = some a3 ∧ (kk + 1 ≤ rm_X0_init.cells ∧ nn + 3 ≤ rm_X0_init.slots ∧ ∀ a4 : Nat, a4 ∉ hL S → ∀ S5 : HS, S5 = nW S a4 2 0 → (kk + 1 + 1 ≤ rm_X0_init.cells ∧ nn + 3 + 5 ≤ rm_X0_init.slots ∧ (P_X2_init a4 (fun S6 => Gr S5 S6 → (ob S6 a3 16 ∧ (vp_in v1 (hN S6 a3) ∧ (∀ S10 : HS, S10 = sR S6 a3 v1.toNatClampNeg (some a4) → (∀ x11 : Int32, x11 = v1 + (1 : Int32) → (X69 v0 x11 (kk + 1 + 1) (nn + 3 + 5) S10)))))) S5))))))))
def P_X0_init_69 (Q : HS → Prop) (v0 : Nat) (v1 : Int32) (kk : Nat) (nn : Nat) (S : HS) : Prop := ∀ X69 : Nat → Int32 → Nat → Nat → HS → Prop, (∀ (v0 : Nat) (v1 : Int32) (kk : Nat) (nn : Nat) (S : HS), B_X0_init_69 Q X69 v0 v1 kk nn S → X69 v0 v1 kk nn S) → X69 v0 v1 kk nn S
set_option maxRecDepth 20000 in
set_option maxHeartbeats 4000000 in
theorem TB_X0_init_69 {X : CX} {Q : HS → Prop} (C : Cx X cX0_init RX0 2 rm_X0_init) (E : ReV X rm_X0_init Q) (ht : (xh X).sig.returnType = none) (hn : (xh X).name = yX0_init.name) {X69 : Nat → Int32 → Nat → Nat → HS → Prop} (hX69 : ∀ (v0 : Nat) (v1 : Int32) (kk : Nat) (nn : Nat) (S : HS), X69 v0 v1 kk nn S → WS X 2 kk nn 69 [(0, .ref v0), (1, .int v1)] [] S) {v0 : Nat} {v1 : Int32} {kk : Nat} {nn : Nat} {S : HS} (h : B_X0_init_69 Q X69 v0 v1 kk nn S) : WS X 2 kk nn 69 [(0, .ref v0), (1, .int v1)] [] S := by
  refine r_iload_n (pc := 69) C dX0_init_69 1 rfl ?_
  refine r_aload_n (pc := 70) C dX0_init_70 0 rfl ?_
  obtain ⟨o_v0, h⟩ := h
  obtain ⟨a1, ea1, h⟩ := h
  refine r_getr (pc := 71) C fL_X0_26 dX0_init_71 o_v0 ea1 ?_
  obtain ⟨o_a1, h⟩ := h
  refine r_alen16 (pc := 74) C dX0_init_74 o_a1 ?_
  refine r_icmp_ge (pc := 75) C (tgt := 97) dX0_init_75 (by decide) (fun c2 => ?_) (fun c2 => ?_)
  · have h := h.1 c2
    obtain ⟨hk, hk2, h⟩ := h
    exact r_vret (pc := 97) C E ht dX0_init_97 hk hk2 h
  · have h := h.2 c2
    refine r_aload_n (pc := 78) C dX0_init_78 0 rfl ?_
    obtain ⟨a3, ea3, h⟩ := h
    refine r_getr (pc := 79) C fL_X0_26 dX0_init_79 o_v0 ea3 ?_
    refine r_iload_n (pc := 82) C dX0_init_82 1 rfl ?_
    obtain ⟨hk, hk2, h⟩ := h
    refine r_new (pc := 83) C nc_X0_15 dX0_init_83 hk hk2 (fun a4 q12 => ?_)
    refine r_heap (fun S5 eS5 => ?_)
    have h := h a4 q12 S5 eS5
    have g13 := gr_of_new eS5 q12
    have o_a4 := ob_of_new eS5
    have o_a1 := gr_ob g13 o_a1
    have o_v0 := gr_ob g13 o_v0
    refine r_dup (pc := 86) C dX0_init_86 rfl ?_
    obtain ⟨hk, hk2, h⟩ := h
    refine r_callNv (pc := 87) C (rest := [.ref a4, .int v1, .ref a3]) (a := a4) [] yI_X2_init (List.mem_of_getElem? (i := 6) rfl) (c_X2_init h) dX0_init_87 rfl rfl (Nat.le_of_ble_eq_true rfl) ⟨by decide, by decide⟩ ⟨hk, hk2⟩ (fun S6 h g7 => ?_)
    have h := h g7
    have o_a1 := gr_ob g7 o_a1
    have o_a4 := gr_ob g7 o_a4
    have o_v0 := gr_ob g7 o_v0
    obtain ⟨o_a3, h⟩ := h
    obtain ⟨i9, h⟩ := h
    refine r_aast16 (pc := 90) C dX0_init_90 o_a3 i9 o_a4 ?_
    refine r_heap (fun S10 eS10 => ?_)
    have h := h S10 eS10
    have o_a1 := ob_R eS10 o_a1
    have o_a3 := ob_R eS10 o_a3
    have o_a4 := ob_R eS10 o_a4
    have o_v0 := ob_R eS10 o_v0
    obtain ⟨x11, ex11⟩ : ∃ z : Int32, z = v1 + (1 : Int32) := ⟨_, rfl⟩
    have h := h x11 ex11
    refine r_iinc (pc := 91) C (v := x11) (lv' := [(1, .int x11), (0, .ref v0)]) dX0_init_91 1 rfl ex11.symm (by decide) rfl ?_
    refine r_goto (pc := 94) C (tgt := 69) dX0_init_94 (by decide) ?_
    exact r_sub [1, 0] rfl (hX69 v0 x11 (kk + 1 + 1) (nn + 3 + 5) S10 h)
theorem T_X0_init_69 {X : CX} {Q : HS → Prop} (C : Cx X cX0_init RX0 2 rm_X0_init) (E : ReV X rm_X0_init Q) (ht : (xh X).sig.returnType = none) (hn : (xh X).name = yX0_init.name) {v0 : Nat} {v1 : Int32} {kk : Nat} {nn : Nat} {S : HS} (h : P_X0_init_69 Q v0 v1 kk nn S) : WS X 2 kk nn 69 [(0, .ref v0), (1, .int v1)] [] S :=
  h (fun v0 v1 kk nn S => WS X 2 kk nn 69 [(0, .ref v0), (1, .int v1)] [] S) (fun v0 v1 kk nn S hh => TB_X0_init_69 C E ht hn (fun v0 v1 kk nn S z => z) hh)
def B_X0_init_39 (Q : HS → Prop) (X39 : Nat → Int32 → Nat → Nat → HS → Prop) (v0 : Nat) (v1 : Int32) (kk : Nat) (nn : Nat) (S : HS) : Prop := ob S v0 0 ∧ (∃ a1 : Nat, fR S v0 5 = some a1 ∧ (ob S a1 16 ∧ ((((nI (hN S a1)) ≤ v1) → (P_X0_init_69 Q v0 (0 : Int32) kk nn S)) ∧ ((¬ (nI (hN S a1)) ≤ v1) → (∃ a3 : Nat, fR S v0 5 = some a3 ∧ (kk + 1 ≤ rm_X0_init.cells ∧ nn + 3 ≤ rm_X0_init.slots ∧ ∀ a4 : Nat, a4 ∉ hL S → ∀ S5 : HS, S5 = nW S a4 2 0 → (kk + 1 + 1 ≤ rm_X0_init.cells ∧ nn + 3 + 5 ≤ rm_X0_init.slots ∧ (P_X2_init a4 (fun S6 => Gr S5 S6 → (ob S6 a3 16 ∧ (vp_in v1 (hN S6 a3) ∧ (∀ S10 : HS, S10 = sR S6 a3 v1.toNatClampNeg (some a4) → (∀ x11 : Int32, x11 = v1 + (1 : Int32) → (X39 v0 x11 (kk + 1 + 1) (nn + 3 + 5) S10)))))) S5))))))))
def P_X0_init_39 (Q : HS → Prop) (v0 : Nat) (v1 : Int32) (kk : Nat) (nn : Nat) (S : HS) : Prop := ∀ X39 : Nat → Int32 → Nat → Nat → HS → Prop, (∀ (v0 : Nat) (v1 : Int32) (kk : Nat) (nn : Nat) (S : HS), B_X0_init_39 Q X39 v0 v1 kk nn S → X39 v0 v1 kk nn S) → X39 v0 v1 kk nn S
set_option maxRecDepth 20000 in
set_option maxHeartbeats 4000000 in
theorem TB_X0_init_39 {X : CX} {Q : HS → Prop} (C : Cx X cX0_init RX0 2 rm_X0_init) (E : ReV X rm_X0_init Q) (ht : (xh X).sig.returnType = none) (hn : (xh X).name = yX0_init.name) {X39 : Nat → Int32 → Nat → Nat → HS → Prop} (hX39 : ∀ (v0 : Nat) (v1 : Int32) (kk : Nat) (nn : Nat) (S : HS), X39 v0 v1 kk nn S → WS X 2 kk nn 39 [(0, .ref v0), (1, .int v1)] [] S) {v0 : Nat} {v1 : Int32} {kk : Nat} {nn : Nat} {S : HS} (h : B_X0_init_39 Q X39 v0 v1 kk nn S) : WS X 2 kk nn 39 [(0, .ref v0), (1, .int v1)] [] S := by
  refine r_iload_n (pc := 39) C dX0_init_39 1 rfl ?_
  refine r_aload_n (pc := 40) C dX0_init_40 0 rfl ?_
  obtain ⟨o_v0, h⟩ := h
  obtain ⟨a1, ea1, h⟩ := h
  refine r_getr (pc := 41) C fL_X0_22 dX0_init_41 o_v0 ea1 ?_
  obtain ⟨o_a1, h⟩ := h
  refine r_alen16 (pc := 44) C dX0_init_44 o_a1 ?_
  refine r_icmp_ge (pc := 45) C (tgt := 67) dX0_init_45 (by decide) (fun c2 => ?_) (fun c2 => ?_)
  · have h := h.1 c2
    refine r_iconst (pc := 67) C (v := (0 : Int32)) dX0_init_67 (by decide) ?_
    refine r_istore_n (pc := 68) C dX0_init_68 rfl (by decide) (lv' := [(1, .int (0 : Int32)), (0, .ref v0)]) rfl ?_
    exact r_sub [1, 0] rfl (T_X0_init_69 C E ht hn h)
  · have h := h.2 c2
    refine r_aload_n (pc := 48) C dX0_init_48 0 rfl ?_
    obtain ⟨a3, ea3, h⟩ := h
    refine r_getr (pc := 49) C fL_X0_22 dX0_init_49 o_v0 ea3 ?_
    refine r_iload_n (pc := 52) C dX0_init_52 1 rfl ?_
    obtain ⟨hk, hk2, h⟩ := h
    refine r_new (pc := 53) C nc_X0_15 dX0_init_53 hk hk2 (fun a4 q12 => ?_)
    refine r_heap (fun S5 eS5 => ?_)
    have h := h a4 q12 S5 eS5
    have g13 := gr_of_new eS5 q12
    have o_a4 := ob_of_new eS5
    have o_a1 := gr_ob g13 o_a1
    have o_v0 := gr_ob g13 o_v0
    refine r_dup (pc := 56) C dX0_init_56 rfl ?_
    obtain ⟨hk, hk2, h⟩ := h
    refine r_callNv (pc := 57) C (rest := [.ref a4, .int v1, .ref a3]) (a := a4) [] yI_X2_init (List.mem_of_getElem? (i := 6) rfl) (c_X2_init h) dX0_init_57 rfl rfl (Nat.le_of_ble_eq_true rfl) ⟨by decide, by decide⟩ ⟨hk, hk2⟩ (fun S6 h g7 => ?_)
    have h := h g7
    have o_a1 := gr_ob g7 o_a1
    have o_a4 := gr_ob g7 o_a4
    have o_v0 := gr_ob g7 o_v0
    obtain ⟨o_a3, h⟩ := h
    obtain ⟨i9, h⟩ := h
    refine r_aast16 (pc := 60) C dX0_init_60 o_a3 i9 o_a4 ?_
    refine r_heap (fun S10 eS10 => ?_)
    have h := h S10 eS10
    have o_a1 := ob_R eS10 o_a1
    have o_a3 := ob_R eS10 o_a3
    have o_a4 := ob_R eS10 o_a4
    have o_v0 := ob_R eS10 o_v0
    obtain ⟨x11, ex11⟩ : ∃ z : Int32, z = v1 + (1 : Int32) := ⟨_, rfl⟩
    have h := h x11 ex11
    refine r_iinc (pc := 61) C (v := x11) (lv' := [(1, .int x11), (0, .ref v0)]) dX0_init_61 1 rfl ex11.symm (by decide) rfl ?_
    refine r_goto (pc := 64) C (tgt := 39) dX0_init_64 (by decide) ?_
    exact r_sub [1, 0] rfl (hX39 v0 x11 (kk + 1 + 1) (nn + 3 + 5) S10 h)
theorem T_X0_init_39 {X : CX} {Q : HS → Prop} (C : Cx X cX0_init RX0 2 rm_X0_init) (E : ReV X rm_X0_init Q) (ht : (xh X).sig.returnType = none) (hn : (xh X).name = yX0_init.name) {v0 : Nat} {v1 : Int32} {kk : Nat} {nn : Nat} {S : HS} (h : P_X0_init_39 Q v0 v1 kk nn S) : WS X 2 kk nn 39 [(0, .ref v0), (1, .int v1)] [] S :=
  h (fun v0 v1 kk nn S => WS X 2 kk nn 39 [(0, .ref v0), (1, .int v1)] [] S) (fun v0 v1 kk nn S hh => TB_X0_init_39 C E ht hn (fun v0 v1 kk nn S z => z) hh)
def P_X0_init_0 (Q : HS → Prop) (v0 : Nat) (kk : Nat) (nn : Nat) (S : HS) : Prop := ob S v0 0 ∧ (∀ S1 : HS, S1 = sI S v0 0 (-1 : Int32) → (kk + 1 ≤ rm_X0_init.cells ∧ nn + 3 ≤ rm_X0_init.slots ∧ ∀ a2 : Nat, a2 ∉ hL S1 → ∀ S3 : HS, S3 = nW S1 a2 2 0 → (kk + 1 + 1 ≤ rm_X0_init.cells ∧ nn + 3 + 5 ≤ rm_X0_init.slots ∧ (P_X2_init a2 (fun S4 => Gr S3 S4 → (∀ S7 : HS, S7 = sR S4 v0 4 (some a2) → (kk + 1 + 1 + 1 ≤ rm_X0_init.cells ∧ nn + 3 + 5 + 16 ≤ rm_X0_init.slots ∧ ∀ a8 : Nat, a8 ∉ hL S7 → ∀ S9 : HS, S9 = nW S7 a8 16 16 → (∀ S10 : HS, S10 = sR S9 v0 5 (some a8) → (kk + 1 + 1 + 1 + 1 ≤ rm_X0_init.cells ∧ nn + 3 + 5 + 16 + 3 ≤ rm_X0_init.slots ∧ ∀ a11 : Nat, a11 ∉ hL S10 → ∀ S12 : HS, S12 = nW S10 a11 16 3 → (∀ S13 : HS, S13 = sR S12 v0 6 (some a11) → (P_X0_init_39 Q v0 (0 : Int32) (kk + 1 + 1 + 1 + 1) (nn + 3 + 5 + 16 + 3) S13))))))) S3))))
set_option maxRecDepth 20000 in
set_option maxHeartbeats 4000000 in
theorem T_X0_init_0 {X : CX} {Q : HS → Prop} (C : Cx X cX0_init RX0 2 rm_X0_init) (E : ReV X rm_X0_init Q) (ht : (xh X).sig.returnType = none) (hn : (xh X).name = yX0_init.name) {v0 : Nat} {kk : Nat} {nn : Nat} {S : HS} (h : P_X0_init_0 Q v0 kk nn S) : WS X 2 kk nn 0 [(0, .ref v0)] [] S := by
  refine r_aload_n (pc := 0) C dX0_init_0 0 rfl ?_
  refine r_objinit (pc := 1) C g_336 dX0_init_1 (by decide) (Nat.le_of_ble_eq_true rfl) ?_
  refine r_aload_n (pc := 4) C dX0_init_4 0 rfl ?_
  refine r_iconst (pc := 5) C (v := (-1 : Int32)) dX0_init_5 (by decide) ?_
  obtain ⟨o_v0, h⟩ := h
  refine r_puti (pc := 6) C pfL_X0_9 dX0_init_6 o_v0 ?_
  refine r_heap (fun S1 eS1 => ?_)
  have h := h S1 eS1
  have o_v0 := ob_I eS1 o_v0
  refine r_aload_n (pc := 9) C dX0_init_9 0 rfl ?_
  obtain ⟨hk, hk2, h⟩ := h
  refine r_new (pc := 10) C nc_X0_15 dX0_init_10 hk hk2 (fun a2 q18 => ?_)
  refine r_heap (fun S3 eS3 => ?_)
  have h := h a2 q18 S3 eS3
  have g19 := gr_of_new eS3 q18
  have o_a2 := ob_of_new eS3
  have o_v0 := gr_ob g19 o_v0
  refine r_dup (pc := 13) C dX0_init_13 rfl ?_
  obtain ⟨hk, hk2, h⟩ := h
  refine r_callNv (pc := 14) C (rest := [.ref a2, .ref v0]) (a := a2) [] yI_X2_init (List.mem_of_getElem? (i := 6) rfl) (c_X2_init h) dX0_init_14 rfl rfl (Nat.le_of_ble_eq_true rfl) ⟨by decide, by decide⟩ ⟨hk, hk2⟩ (fun S4 h g5 => ?_)
  have h := h g5
  have o_a2 := gr_ob g5 o_a2
  have o_v0 := gr_ob g5 o_v0
  refine r_putFr (pc := 17) C pfL_X0_18 hn dX0_init_17 o_v0 ?_
  refine r_heap (fun S7 eS7 => ?_)
  have h := h S7 eS7
  have o_a2 := ob_R eS7 o_a2
  have o_v0 := ob_R eS7 o_v0
  refine r_aload_n (pc := 20) C dX0_init_20 0 rfl ?_
  refine r_bipush (pc := 21) C (v := (16 : Int32)) dX0_init_21 (by decide) ?_
  obtain ⟨hk, hk2, h⟩ := h
  refine r_newa16 (pc := 23) C (N := 16) g_337 dX0_init_23 (by decide) (by decide) (by decide) hk hk2 (fun a8 q16 => ?_)
  refine r_heap (fun S9 eS9 => ?_)
  have h := h a8 q16 S9 eS9
  have g17 := gr_of_new eS9 q16
  have o_a8 := ob_of_new eS9
  have o_a2 := gr_ob g17 o_a2
  have o_v0 := gr_ob g17 o_v0
  refine r_putFr (pc := 26) C pfL_X0_22 hn dX0_init_26 o_v0 ?_
  refine r_heap (fun S10 eS10 => ?_)
  have h := h S10 eS10
  have o_a2 := ob_R eS10 o_a2
  have o_a8 := ob_R eS10 o_a8
  have o_v0 := ob_R eS10 o_v0
  refine r_aload_n (pc := 29) C dX0_init_29 0 rfl ?_
  refine r_iconst (pc := 30) C (v := (3 : Int32)) dX0_init_30 (by decide) ?_
  obtain ⟨hk, hk2, h⟩ := h
  refine r_newa16 (pc := 31) C (N := 3) g_337 dX0_init_31 (by decide) (by decide) (by decide) hk hk2 (fun a11 q14 => ?_)
  refine r_heap (fun S12 eS12 => ?_)
  have h := h a11 q14 S12 eS12
  have g15 := gr_of_new eS12 q14
  have o_a11 := ob_of_new eS12
  have o_a2 := gr_ob g15 o_a2
  have o_a8 := gr_ob g15 o_a8
  have o_v0 := gr_ob g15 o_v0
  refine r_putFr (pc := 34) C pfL_X0_26 hn dX0_init_34 o_v0 ?_
  refine r_heap (fun S13 eS13 => ?_)
  have h := h S13 eS13
  have o_a11 := ob_R eS13 o_a11
  have o_a2 := ob_R eS13 o_a2
  have o_a8 := ob_R eS13 o_a8
  have o_v0 := ob_R eS13 o_v0
  refine r_iconst (pc := 37) C (v := (0 : Int32)) dX0_init_37 (by decide) ?_
  refine r_istore_n (pc := 38) C dX0_init_38 rfl (by decide) (lv' := [(1, .int (0 : Int32)), (0, .ref v0)]) rfl ?_
  exact r_sub [1, 0] rfl (T_X0_init_39 C E ht hn h)
def P_X0_init (v0 : Nat) (Q : HS → Prop) (S : HS) : Prop := P_X0_init_0 Q v0 0 0 S
theorem c_X0_init {l : Launch} {Ee : EE} {S : HS} {v0 : Nat} {Q : HS → Prop} (h : P_X0_init v0 Q S) : MV l yX0_init cX0_init 2 none rm_X0_init Ee S [.ref v0] Q :=
  openV (by decide) (Nat.le_of_ble_eq_true rfl) (fun X C E ht hn hE hl => by subst hE; exact r_sub [0] rfl (T_X0_init_0 C E ht hn h))
def rm_X0_isOn : Room := { frames := 0, cells := 0, slots := 0, locals := 0 }
def P_X0_isOn_0 (Q : Int32 → HS → Prop) (v0 : Nat) (S : HS) : Prop := ob S v0 0 ∧ (∀ x1 : Int32, x1 = fI S v0 0 → (((x1 = (-1 : Int32)) → (Q (0 : Int32) S)) ∧ ((¬ x1 = (-1 : Int32)) → (Q (1 : Int32) S))))
set_option maxRecDepth 20000 in
set_option maxHeartbeats 4000000 in
theorem T_X0_isOn_0 {X : CX} {Q : Int32 → HS → Prop} (C : Cx X cX0_isOn RX0 1 rm_X0_isOn) (E : ReI X rm_X0_isOn (fun r S => bl r ∧ Q r S)) (ht : (xh X).sig.returnType = (some .boolean)) (hn : (xh X).name = yX0_isOn.name) {v0 : Nat} {S : HS} (h : P_X0_isOn_0 Q v0 S) : WS X 1 0 0 0 [(0, .ref v0)] [] S := by
  refine r_aload_n (pc := 0) C dX0_isOn_0 0 rfl ?_
  obtain ⟨o_v0, h⟩ := h
  refine r_geti (pc := 1) C fL_X0_9 dX0_isOn_1 o_v0 ?_
  refine r_topi (fun x1 ex1 => ?_)
  have h := h x1 ex1
  refine r_iconst (pc := 4) C (v := (-1 : Int32)) dX0_isOn_4 (by decide) ?_
  refine r_icmp_eq (pc := 5) C (tgt := 12) dX0_isOn_5 (by decide) (fun c2 => ?_) (fun c2 => ?_)
  · have h := h.1 c2
    refine r_iconst (pc := 12) C (v := (0 : Int32)) dX0_isOn_12 (by decide) ?_
    exact r_zret (pc := 13) C E ht dX0_isOn_13 (by decide) (by decide) (Or.inl rfl) h
  · have h := h.2 c2
    refine r_iconst (pc := 8) C (v := (1 : Int32)) dX0_isOn_8 (by decide) ?_
    refine r_goto (pc := 9) C (tgt := 13) dX0_isOn_9 (by decide) ?_
    exact r_zret (pc := 13) C E ht dX0_isOn_13 (by decide) (by decide) (Or.inr rfl) h
def P_X0_isOn (v0 : Nat) (Q : Int32 → HS → Prop) (S : HS) : Prop := P_X0_isOn_0 Q v0 S
theorem c_X0_isOn {l : Launch} {Ee : EE} {S : HS} {v0 : Nat} {Q : Int32 → HS → Prop} (h : P_X0_isOn v0 Q S) : MI l yX0_isOn cX0_isOn 1 (some .boolean) rm_X0_isOn Ee S [.ref v0] (fun r S => bl r ∧ Q r S) :=
  openI (by decide) (Nat.le_of_ble_eq_true rfl) (fun X C E ht hn hE hl => by subst hE; exact r_sub [0] rfl (T_X0_isOn_0 C E ht hn h))
def rm_X2_copy : Room := { frames := 0, cells := 0, slots := 0, locals := 0 }
def B_X2_copy_18 (Q : HS → Prop) (X18 : Nat → Nat → Int32 → HS → Prop) (v0 : Nat) (v1 : Nat) (v2 : Int32) (S : HS) : Prop := (((5 : Int32) ≤ v2) → (Q S)) ∧ ((¬ (5 : Int32) ≤ v2) → (ob S v0 2 ∧ (∃ a2 : Nat, fR S v0 2 = some a2 ∧ (ob S v1 2 ∧ (∃ a3 : Nat, fR S v1 2 = some a3 ∧ (ob S a3 14 ∧ (vp_in v2 (hN S a3) ∧ ∀ x5 : Int64, x5 = fJ S a3 v2.toNatClampNeg → (ob S a2 14 ∧ (vp_in v2 (hN S a2) ∧ (∀ S7 : HS, S7 = sJ S a2 v2.toNatClampNeg x5 → (∀ x8 : Int32, x8 = v2 + (1 : Int32) → (X18 v0 v1 x8 S7))))))))))))
def P_X2_copy_18 (Q : HS → Prop) (v0 : Nat) (v1 : Nat) (v2 : Int32) (S : HS) : Prop := ∀ X18 : Nat → Nat → Int32 → HS → Prop, (∀ (v0 : Nat) (v1 : Nat) (v2 : Int32) (S : HS), B_X2_copy_18 Q X18 v0 v1 v2 S → X18 v0 v1 v2 S) → X18 v0 v1 v2 S
set_option maxRecDepth 20000 in
set_option maxHeartbeats 4000000 in
theorem TB_X2_copy_18 {X : CX} {Q : HS → Prop} (C : Cx X cX2_copy RX2 3 rm_X2_copy) (E : ReV X rm_X2_copy Q) (ht : (xh X).sig.returnType = none) (hn : (xh X).name = yX2_copy.name) {X18 : Nat → Nat → Int32 → HS → Prop} (hX18 : ∀ (v0 : Nat) (v1 : Nat) (v2 : Int32) (S : HS), X18 v0 v1 v2 S → WS X 3 0 0 18 [(0, .ref v0), (1, .ref v1), (2, .int v2)] [] S) {v0 : Nat} {v1 : Nat} {v2 : Int32} {S : HS} (h : B_X2_copy_18 Q X18 v0 v1 v2 S) : WS X 3 0 0 18 [(0, .ref v0), (1, .ref v1), (2, .int v2)] [] S := by
  refine r_iload_n (pc := 18) C dX2_copy_18 2 rfl ?_
  refine r_iconst (pc := 19) C (v := (5 : Int32)) dX2_copy_19 (by decide) ?_
  refine r_icmp_ge (pc := 20) C (tgt := 41) dX2_copy_20 (by decide) (fun c1 => ?_) (fun c1 => ?_)
  · have h := h.1 c1
    exact r_vret (pc := 41) C E ht dX2_copy_41 (by decide) (by decide) h
  · have h := h.2 c1
    refine r_aload_n (pc := 23) C dX2_copy_23 0 rfl ?_
    obtain ⟨o_v0, h⟩ := h
    obtain ⟨a2, ea2, h⟩ := h
    refine r_getr (pc := 24) C fL_X2_9 dX2_copy_24 o_v0 ea2 ?_
    refine r_iload_n (pc := 27) C dX2_copy_27 2 rfl ?_
    refine r_aload_n (pc := 28) C dX2_copy_28 1 rfl ?_
    obtain ⟨o_v1, h⟩ := h
    obtain ⟨a3, ea3, h⟩ := h
    refine r_getr (pc := 29) C fL_X2_9 dX2_copy_29 o_v1 ea3 ?_
    refine r_iload_n (pc := 32) C dX2_copy_32 2 rfl ?_
    obtain ⟨o_a3, h⟩ := h
    obtain ⟨i4, h⟩ := h
    refine r_lald (pc := 33) C dX2_copy_33 o_a3 i4 ?_
    refine r_topl (fun x5 ex5 => ?_)
    have h := h x5 ex5
    obtain ⟨o_a2, h⟩ := h
    obtain ⟨i6, h⟩ := h
    refine r_last (pc := 34) C dX2_copy_34 o_a2 i6 ?_
    refine r_heap (fun S7 eS7 => ?_)
    have h := h S7 eS7
    have o_a2 := ob_J eS7 o_a2
    have o_a3 := ob_J eS7 o_a3
    have o_v0 := ob_J eS7 o_v0
    have o_v1 := ob_J eS7 o_v1
    obtain ⟨x8, ex8⟩ : ∃ z : Int32, z = v2 + (1 : Int32) := ⟨_, rfl⟩
    have h := h x8 ex8
    refine r_iinc (pc := 35) C (v := x8) (lv' := [(2, .int x8), (0, .ref v0), (1, .ref v1)]) dX2_copy_35 2 rfl ex8.symm (by decide) rfl ?_
    refine r_goto (pc := 38) C (tgt := 18) dX2_copy_38 (by decide) ?_
    exact r_sub [1, 2, 0] rfl (hX18 v0 v1 x8 S7 h)
theorem T_X2_copy_18 {X : CX} {Q : HS → Prop} (C : Cx X cX2_copy RX2 3 rm_X2_copy) (E : ReV X rm_X2_copy Q) (ht : (xh X).sig.returnType = none) (hn : (xh X).name = yX2_copy.name) {v0 : Nat} {v1 : Nat} {v2 : Int32} {S : HS} (h : P_X2_copy_18 Q v0 v1 v2 S) : WS X 3 0 0 18 [(0, .ref v0), (1, .ref v1), (2, .int v2)] [] S :=
  h (fun v0 v1 v2 S => WS X 3 0 0 18 [(0, .ref v0), (1, .ref v1), (2, .int v2)] [] S) (fun v0 v1 v2 S hh => TB_X2_copy_18 C E ht hn (fun v0 v1 v2 S z => z) hh)
def P_X2_copy_0 (Q : HS → Prop) (v0 : Nat) (v1 : Nat) (S : HS) : Prop := ob S v1 2 ∧ (∀ x1 : Int32, x1 = fI S v1 0 → (ob S v0 2 ∧ (∀ S2 : HS, S2 = sI S v0 0 x1 → (∀ x3 : Int32, x3 = fI S2 v1 1 → (∀ S4 : HS, S4 = sI S2 v0 1 x3 → (P_X2_copy_18 Q v0 v1 (0 : Int32) S4))))))
set_option maxRecDepth 20000 in
set_option maxHeartbeats 4000000 in
theorem T_X2_copy_0 {X : CX} {Q : HS → Prop} (C : Cx X cX2_copy RX2 3 rm_X2_copy) (E : ReV X rm_X2_copy Q) (ht : (xh X).sig.returnType = none) (hn : (xh X).name = yX2_copy.name) {v0 : Nat} {v1 : Nat} {S : HS} (h : P_X2_copy_0 Q v0 v1 S) : WS X 3 0 0 0 [(0, .ref v0), (1, .ref v1)] [] S := by
  refine r_aload_n (pc := 0) C dX2_copy_0 0 rfl ?_
  refine r_aload_n (pc := 1) C dX2_copy_1 1 rfl ?_
  obtain ⟨o_v1, h⟩ := h
  refine r_geti (pc := 2) C fL_X2_15 dX2_copy_2 o_v1 ?_
  refine r_topi (fun x1 ex1 => ?_)
  have h := h x1 ex1
  obtain ⟨o_v0, h⟩ := h
  refine r_puti (pc := 5) C pfL_X2_15 dX2_copy_5 o_v0 ?_
  refine r_heap (fun S2 eS2 => ?_)
  have h := h S2 eS2
  have o_v0 := ob_I eS2 o_v0
  have o_v1 := ob_I eS2 o_v1
  refine r_aload_n (pc := 8) C dX2_copy_8 0 rfl ?_
  refine r_aload_n (pc := 9) C dX2_copy_9 1 rfl ?_
  refine r_geti (pc := 10) C fL_X2_19 dX2_copy_10 o_v1 ?_
  refine r_topi (fun x3 ex3 => ?_)
  have h := h x3 ex3
  refine r_puti (pc := 13) C pfL_X2_19 dX2_copy_13 o_v0 ?_
  refine r_heap (fun S4 eS4 => ?_)
  have h := h S4 eS4
  have o_v0 := ob_I eS4 o_v0
  have o_v1 := ob_I eS4 o_v1
  refine r_iconst (pc := 16) C (v := (0 : Int32)) dX2_copy_16 (by decide) ?_
  refine r_istore_n (pc := 17) C dX2_copy_17 rfl (by decide) (lv' := [(2, .int (0 : Int32)), (0, .ref v0), (1, .ref v1)]) rfl ?_
  exact r_sub [1, 2, 0] rfl (T_X2_copy_18 C E ht hn h)
def P_X2_copy (v0 : Nat) (v1 : Nat) (Q : HS → Prop) (S : HS) : Prop := P_X2_copy_0 Q v0 v1 S
theorem c_X2_copy {l : Launch} {Ee : EE} {S : HS} {v0 : Nat} {v1 : Nat} {Q : HS → Prop} (h : P_X2_copy v0 v1 Q S) : MV l yX2_copy cX2_copy 3 none rm_X2_copy Ee S [.ref v0, .ref v1] Q :=
  openV (by decide) (Nat.le_of_ble_eq_true rfl) (fun X C E ht hn hE hl => by subst hE; exact r_sub [0, 1] rfl (T_X2_copy_0 C E ht hn h))
def rm_X0_keepForUndo : Room := { frames := 1, cells := 0, slots := 0, locals := 22 }
def P_X0_keepForUndo_58 (Q : HS → Prop) (v0 : Nat) (S : HS) : Prop := ob S v0 0 ∧ (∃ a1 : Nat, fR S v0 5 = some a1 ∧ (∀ x2 : Int32, x2 = fI S v0 2 → (ob S a1 16 ∧ (vp_in x2 (hN S a1) ∧ ∃ a4 : Nat, fR S a1 x2.toNatClampNeg = some a4 ∧ (∃ a5 : Nat, fR S v0 4 = some a5 ∧ (ob S a4 2 ∧ (P_X2_copy a4 a5 (fun S6 => Gr S S6 → (∀ x9 : Int32, x9 = fI S6 v0 2 → (∀ x10 : Int32, x10 = x9 + (1 : Int32) → (∀ S11 : HS, S11 = sI S6 v0 2 x10 → (Q S11))))) S)))))))
set_option maxRecDepth 20000 in
set_option maxHeartbeats 4000000 in
theorem T_X0_keepForUndo_58 {X : CX} {Q : HS → Prop} (C : Cx X cX0_keepForUndo RX0 3 rm_X0_keepForUndo) (E : ReV X rm_X0_keepForUndo Q) (ht : (xh X).sig.returnType = none) (hn : (xh X).name = yX0_keepForUndo.name) {v0 : Nat} {S : HS} (h : P_X0_keepForUndo_58 Q v0 S) : WS X 3 0 0 58 [(0, .ref v0)] [] S := by
  refine r_aload_n (pc := 58) C dX0_keepForUndo_58 0 rfl ?_
  obtain ⟨o_v0, h⟩ := h
  obtain ⟨a1, ea1, h⟩ := h
  refine r_getr (pc := 59) C fL_X0_22 dX0_keepForUndo_59 o_v0 ea1 ?_
  refine r_aload_n (pc := 62) C dX0_keepForUndo_62 0 rfl ?_
  refine r_geti (pc := 63) C fL_X0_29 dX0_keepForUndo_63 o_v0 ?_
  refine r_topi (fun x2 ex2 => ?_)
  have h := h x2 ex2
  obtain ⟨o_a1, h⟩ := h
  obtain ⟨i3, a4, ea4, h⟩ := h
  refine r_aald16 (pc := 66) C dX0_keepForUndo_66 o_a1 i3 ea4 ?_
  refine r_aload_n (pc := 67) C dX0_keepForUndo_67 0 rfl ?_
  obtain ⟨a5, ea5, h⟩ := h
  refine r_getr (pc := 68) C fL_X0_18 dX0_keepForUndo_68 o_v0 ea5 ?_
  obtain ⟨o_a4, h⟩ := h
  refine r_callVv0 (pc := 71) C (rest := []) (a := a4) o_a4 [.ref a5] yV_X2_copy g_990 (c_X2_copy h) dX0_keepForUndo_71 rfl rfl (Nat.le_of_ble_eq_true rfl) ⟨by decide, by decide⟩ ⟨by decide, by decide⟩ ⟨rfl, rfl⟩ (fun S6 h g7 => ?_)
  have h := h g7
  have o_a1 := gr_ob g7 o_a1
  have o_a4 := gr_ob g7 o_a4
  have o_v0 := gr_ob g7 o_v0
  refine r_aload_n (pc := 74) C dX0_keepForUndo_74 0 rfl ?_
  refine r_dup (pc := 75) C dX0_keepForUndo_75 rfl ?_
  refine r_geti (pc := 76) C fL_X0_29 dX0_keepForUndo_76 o_v0 ?_
  refine r_topi (fun x9 ex9 => ?_)
  have h := h x9 ex9
  refine r_iconst (pc := 79) C (v := (1 : Int32)) dX0_keepForUndo_79 (by decide) ?_
  refine r_iadd (pc := 80) C dX0_keepForUndo_80 ?_
  refine r_topi (fun x10 ex10 => ?_)
  have h := h x10 ex10
  refine r_puti (pc := 81) C pfL_X0_29 dX0_keepForUndo_81 o_v0 ?_
  refine r_heap (fun S11 eS11 => ?_)
  have h := h S11 eS11
  have o_a1 := ob_I eS11 o_a1
  have o_a4 := ob_I eS11 o_a4
  have o_v0 := ob_I eS11 o_v0
  exact r_vret (pc := 84) C E ht dX0_keepForUndo_84 (by decide) (by decide) h
def B_X0_keepForUndo_18 (Q : HS → Prop) (X18 : Nat → Nat → Int32 → HS → Prop) (v0 : Nat) (v1 : Nat) (v2 : Int32) (S : HS) : Prop := (((16 : Int32) ≤ v2) → (ob S v0 0 ∧ (∃ a2 : Nat, fR S v0 5 = some a2 ∧ (ob S a2 16 ∧ (ob S v1 2 ∧ (vp_in (15 : Int32) (hN S a2) ∧ (∀ S4 : HS, S4 = sR S a2 (15 : Int32).toNatClampNeg (some v1) → (∀ S5 : HS, S5 = sI S4 v0 2 (15 : Int32) → (P_X0_keepForUndo_58 Q v0 S5))))))))) ∧ ((¬ (16 : Int32) ≤ v2) → (ob S v0 0 ∧ (∃ a6 : Nat, fR S v0 5 = some a6 ∧ (∃ a7 : Nat, fR S v0 5 = some a7 ∧ (ob S a7 16 ∧ (vp_in v2 (hN S a7) ∧ ∃ a9 : Nat, fR S a7 v2.toNatClampNeg = some a9 ∧ (ob S a6 16 ∧ (ob S a9 2 ∧ (vp_in (v2 - (1 : Int32)) (hN S a6) ∧ (∀ S11 : HS, S11 = sR S a6 (v2 - (1 : Int32)).toNatClampNeg (some a9) → (∀ x12 : Int32, x12 = v2 + (1 : Int32) → (X18 v0 v1 x12 S11))))))))))))
def P_X0_keepForUndo_18 (Q : HS → Prop) (v0 : Nat) (v1 : Nat) (v2 : Int32) (S : HS) : Prop := ∀ X18 : Nat → Nat → Int32 → HS → Prop, (∀ (v0 : Nat) (v1 : Nat) (v2 : Int32) (S : HS), B_X0_keepForUndo_18 Q X18 v0 v1 v2 S → X18 v0 v1 v2 S) → X18 v0 v1 v2 S
set_option maxRecDepth 20000 in
set_option maxHeartbeats 4000000 in
theorem TB_X0_keepForUndo_18 {X : CX} {Q : HS → Prop} (C : Cx X cX0_keepForUndo RX0 3 rm_X0_keepForUndo) (E : ReV X rm_X0_keepForUndo Q) (ht : (xh X).sig.returnType = none) (hn : (xh X).name = yX0_keepForUndo.name) {X18 : Nat → Nat → Int32 → HS → Prop} (hX18 : ∀ (v0 : Nat) (v1 : Nat) (v2 : Int32) (S : HS), X18 v0 v1 v2 S → WS X 3 0 0 18 [(0, .ref v0), (1, .ref v1), (2, .int v2)] [] S) {v0 : Nat} {v1 : Nat} {v2 : Int32} {S : HS} (h : B_X0_keepForUndo_18 Q X18 v0 v1 v2 S) : WS X 3 0 0 18 [(0, .ref v0), (1, .ref v1), (2, .int v2)] [] S := by
  refine r_iload_n (pc := 18) C dX0_keepForUndo_18 2 rfl ?_
  refine r_bipush (pc := 19) C (v := (16 : Int32)) dX0_keepForUndo_19 (by decide) ?_
  refine r_icmp_ge (pc := 21) C (tgt := 44) dX0_keepForUndo_21 (by decide) (fun c1 => ?_) (fun c1 => ?_)
  · have h := h.1 c1
    refine r_aload_n (pc := 44) C dX0_keepForUndo_44 0 rfl ?_
    obtain ⟨o_v0, h⟩ := h
    obtain ⟨a2, ea2, h⟩ := h
    refine r_getr (pc := 45) C fL_X0_22 dX0_keepForUndo_45 o_v0 ea2 ?_
    refine r_bipush (pc := 48) C (v := (15 : Int32)) dX0_keepForUndo_48 (by decide) ?_
    refine r_aload_n (pc := 50) C dX0_keepForUndo_50 1 rfl ?_
    obtain ⟨o_a2, h⟩ := h
    obtain ⟨o_v1, h⟩ := h
    obtain ⟨i3, h⟩ := h
    refine r_aast16 (pc := 51) C dX0_keepForUndo_51 o_a2 i3 o_v1 ?_
    refine r_heap (fun S4 eS4 => ?_)
    have h := h S4 eS4
    have o_a2 := ob_R eS4 o_a2
    have o_v0 := ob_R eS4 o_v0
    have o_v1 := ob_R eS4 o_v1
    refine r_aload_n (pc := 52) C dX0_keepForUndo_52 0 rfl ?_
    refine r_bipush (pc := 53) C (v := (15 : Int32)) dX0_keepForUndo_53 (by decide) ?_
    refine r_puti (pc := 55) C pfL_X0_29 dX0_keepForUndo_55 o_v0 ?_
    refine r_heap (fun S5 eS5 => ?_)
    have h := h S5 eS5
    have o_a2 := ob_I eS5 o_a2
    have o_v0 := ob_I eS5 o_v0
    have o_v1 := ob_I eS5 o_v1
    exact r_sub [0] rfl (T_X0_keepForUndo_58 C E ht hn h)
  · have h := h.2 c1
    refine r_aload_n (pc := 24) C dX0_keepForUndo_24 0 rfl ?_
    obtain ⟨o_v0, h⟩ := h
    obtain ⟨a6, ea6, h⟩ := h
    refine r_getr (pc := 25) C fL_X0_22 dX0_keepForUndo_25 o_v0 ea6 ?_
    refine r_iload_n (pc := 28) C dX0_keepForUndo_28 2 rfl ?_
    refine r_iconst (pc := 29) C (v := (1 : Int32)) dX0_keepForUndo_29 (by decide) ?_
    refine r_isub (pc := 30) C dX0_keepForUndo_30 ?_
    refine r_aload_n (pc := 31) C dX0_keepForUndo_31 0 rfl ?_
    obtain ⟨a7, ea7, h⟩ := h
    refine r_getr (pc := 32) C fL_X0_22 dX0_keepForUndo_32 o_v0 ea7 ?_
    refine r_iload_n (pc := 35) C dX0_keepForUndo_35 2 rfl ?_
    obtain ⟨o_a7, h⟩ := h
    obtain ⟨i8, a9, ea9, h⟩ := h
    refine r_aald16 (pc := 36) C dX0_keepForUndo_36 o_a7 i8 ea9 ?_
    obtain ⟨o_a6, h⟩ := h
    obtain ⟨o_a9, h⟩ := h
    obtain ⟨i10, h⟩ := h
    refine r_aast16 (pc := 37) C dX0_keepForUndo_37 o_a6 i10 o_a9 ?_
    refine r_heap (fun S11 eS11 => ?_)
    have h := h S11 eS11
    have o_a6 := ob_R eS11 o_a6
    have o_a7 := ob_R eS11 o_a7
    have o_a9 := ob_R eS11 o_a9
    have o_v0 := ob_R eS11 o_v0
    obtain ⟨x12, ex12⟩ : ∃ z : Int32, z = v2 + (1 : Int32) := ⟨_, rfl⟩
    have h := h x12 ex12
    refine r_iinc (pc := 38) C (v := x12) (lv' := [(2, .int x12), (0, .ref v0), (1, .ref v1)]) dX0_keepForUndo_38 2 rfl ex12.symm (by decide) rfl ?_
    refine r_goto (pc := 41) C (tgt := 18) dX0_keepForUndo_41 (by decide) ?_
    exact r_sub [1, 2, 0] rfl (hX18 v0 v1 x12 S11 h)
theorem T_X0_keepForUndo_18 {X : CX} {Q : HS → Prop} (C : Cx X cX0_keepForUndo RX0 3 rm_X0_keepForUndo) (E : ReV X rm_X0_keepForUndo Q) (ht : (xh X).sig.returnType = none) (hn : (xh X).name = yX0_keepForUndo.name) {v0 : Nat} {v1 : Nat} {v2 : Int32} {S : HS} (h : P_X0_keepForUndo_18 Q v0 v1 v2 S) : WS X 3 0 0 18 [(0, .ref v0), (1, .ref v1), (2, .int v2)] [] S :=
  h (fun v0 v1 v2 S => WS X 3 0 0 18 [(0, .ref v0), (1, .ref v1), (2, .int v2)] [] S) (fun v0 v1 v2 S hh => TB_X0_keepForUndo_18 C E ht hn (fun v0 v1 v2 S z => z) hh)
def P_X0_keepForUndo_0 (Q : HS → Prop) (v0 : Nat) (S : HS) : Prop := ob S v0 0 ∧ (∀ x1 : Int32, x1 = fI S v0 2 → (((x1 < (16 : Int32)) → (P_X0_keepForUndo_58 Q v0 S)) ∧ ((¬ x1 < (16 : Int32)) → (∃ a3 : Nat, fR S v0 5 = some a3 ∧ (ob S a3 16 ∧ (vp_in (0 : Int32) (hN S a3) ∧ ∃ a5 : Nat, fR S a3 (0 : Int32).toNatClampNeg = some a5 ∧ (P_X0_keepForUndo_18 Q v0 a5 (1 : Int32) S)))))))
set_option maxRecDepth 20000 in
set_option maxHeartbeats 4000000 in
theorem T_X0_keepForUndo_0 {X : CX} {Q : HS → Prop} (C : Cx X cX0_keepForUndo RX0 3 rm_X0_keepForUndo) (E : ReV X rm_X0_keepForUndo Q) (ht : (xh X).sig.returnType = none) (hn : (xh X).name = yX0_keepForUndo.name) {v0 : Nat} {S : HS} (h : P_X0_keepForUndo_0 Q v0 S) : WS X 3 0 0 0 [(0, .ref v0)] [] S := by
  refine r_aload_n (pc := 0) C dX0_keepForUndo_0 0 rfl ?_
  obtain ⟨o_v0, h⟩ := h
  refine r_geti (pc := 1) C fL_X0_29 dX0_keepForUndo_1 o_v0 ?_
  refine r_topi (fun x1 ex1 => ?_)
  have h := h x1 ex1
  refine r_bipush (pc := 4) C (v := (16 : Int32)) dX0_keepForUndo_4 (by decide) ?_
  refine r_icmp_lt (pc := 6) C (tgt := 58) dX0_keepForUndo_6 (by decide) (fun c2 => ?_) (fun c2 => ?_)
  · have h := h.1 c2
    exact r_sub [0] rfl (T_X0_keepForUndo_58 C E ht hn h)
  · have h := h.2 c2
    refine r_aload_n (pc := 9) C dX0_keepForUndo_9 0 rfl ?_
    obtain ⟨a3, ea3, h⟩ := h
    refine r_getr (pc := 10) C fL_X0_22 dX0_keepForUndo_10 o_v0 ea3 ?_
    refine r_iconst (pc := 13) C (v := (0 : Int32)) dX0_keepForUndo_13 (by decide) ?_
    obtain ⟨o_a3, h⟩ := h
    obtain ⟨i4, a5, ea5, h⟩ := h
    refine r_aald16 (pc := 14) C dX0_keepForUndo_14 o_a3 i4 ea5 ?_
    refine r_astore_n (pc := 15) C dX0_keepForUndo_15 rfl (by decide) (lv' := [(1, .ref a5), (0, .ref v0)]) rfl ?_
    refine r_iconst (pc := 16) C (v := (1 : Int32)) dX0_keepForUndo_16 (by decide) ?_
    refine r_istore_n (pc := 17) C dX0_keepForUndo_17 rfl (by decide) (lv' := [(2, .int (1 : Int32)), (1, .ref a5), (0, .ref v0)]) rfl ?_
    exact r_sub [2, 1, 0] rfl (T_X0_keepForUndo_18 C E ht hn h)
def P_X0_keepForUndo (v0 : Nat) (Q : HS → Prop) (S : HS) : Prop := P_X0_keepForUndo_0 Q v0 S
theorem c_X0_keepForUndo {l : Launch} {Ee : EE} {S : HS} {v0 : Nat} {Q : HS → Prop} (h : P_X0_keepForUndo v0 Q S) : MV l yX0_keepForUndo cX0_keepForUndo 3 none rm_X0_keepForUndo Ee S [.ref v0] Q :=
  openV (by decide) (Nat.le_of_ble_eq_true rfl) (fun X C E ht hn hE hl => by subst hE; exact r_sub [0] rfl (T_X0_keepForUndo_0 C E ht hn h))
def rm_X0_rainsIn : Room := { frames := 0, cells := 0, slots := 0, locals := 0 }
def P_X0_rainsIn_0 (Q : Int32 → HS → Prop) (v0 : Nat) (v1 : Int32) (S : HS) : Prop := ((v1 < 0) → (Q (0 : Int32) S)) ∧ ((¬ v1 < 0) → ((((6 : Int32) ≤ v1) → (Q (0 : Int32) S)) ∧ ((¬ (6 : Int32) ≤ v1) → (ob S v0 0 ∧ (∀ x3 : Int32, x3 = fI S v0 1 → (((¬ ((x3 >>> (v1 &&& 31)) &&& (1 : Int32)) = (1 : Int32)) → (Q (0 : Int32) S)) ∧ ((((x3 >>> (v1 &&& 31)) &&& (1 : Int32)) = (1 : Int32)) → (Q (1 : Int32) S))))))))
set_option maxRecDepth 20000 in
set_option maxHeartbeats 4000000 in
theorem T_X0_rainsIn_0 {X : CX} {Q : Int32 → HS → Prop} (C : Cx X cX0_rainsIn RX0 2 rm_X0_rainsIn) (E : ReI X rm_X0_rainsIn (fun r S => bl r ∧ Q r S)) (ht : (xh X).sig.returnType = (some .boolean)) (hn : (xh X).name = yX0_rainsIn.name) {v0 : Nat} {v1 : Int32} {S : HS} (h : P_X0_rainsIn_0 Q v0 v1 S) : WS X 2 0 0 0 [(0, .ref v0), (1, .int v1)] [] S := by
  refine r_iload_n (pc := 0) C dX0_rainsIn_0 1 rfl ?_
  refine r_if_lt (pc := 1) C (tgt := 26) dX0_rainsIn_1 (by decide) (fun c1 => ?_) (fun c1 => ?_)
  · have h := h.1 c1
    refine r_iconst (pc := 26) C (v := (0 : Int32)) dX0_rainsIn_26 (by decide) ?_
    exact r_zret (pc := 27) C E ht dX0_rainsIn_27 (by decide) (by decide) (Or.inl rfl) h
  · have h := h.2 c1
    refine r_iload_n (pc := 4) C dX0_rainsIn_4 1 rfl ?_
    refine r_bipush (pc := 5) C (v := (6 : Int32)) dX0_rainsIn_5 (by decide) ?_
    refine r_icmp_ge (pc := 7) C (tgt := 26) dX0_rainsIn_7 (by decide) (fun c2 => ?_) (fun c2 => ?_)
    · have h := h.1 c2
      refine r_iconst (pc := 26) C (v := (0 : Int32)) dX0_rainsIn_26 (by decide) ?_
      exact r_zret (pc := 27) C E ht dX0_rainsIn_27 (by decide) (by decide) (Or.inl rfl) h
    · have h := h.2 c2
      refine r_aload_n (pc := 10) C dX0_rainsIn_10 0 rfl ?_
      obtain ⟨o_v0, h⟩ := h
      refine r_geti (pc := 11) C fL_X0_48 dX0_rainsIn_11 o_v0 ?_
      refine r_topi (fun x3 ex3 => ?_)
      have h := h x3 ex3
      refine r_iload_n (pc := 14) C dX0_rainsIn_14 1 rfl ?_
      refine r_ishr (pc := 15) C dX0_rainsIn_15 ?_
      refine r_iconst (pc := 16) C (v := (1 : Int32)) dX0_rainsIn_16 (by decide) ?_
      refine r_iand (pc := 17) C dX0_rainsIn_17 ?_
      refine r_iconst (pc := 18) C (v := (1 : Int32)) dX0_rainsIn_18 (by decide) ?_
      refine r_icmp_ne (pc := 19) C (tgt := 26) dX0_rainsIn_19 (by decide) (fun c4 => ?_) (fun c4 => ?_)
      · have h := h.1 c4
        refine r_iconst (pc := 26) C (v := (0 : Int32)) dX0_rainsIn_26 (by decide) ?_
        exact r_zret (pc := 27) C E ht dX0_rainsIn_27 (by decide) (by decide) (Or.inl rfl) h
      · have h := h.2 c4
        refine r_iconst (pc := 22) C (v := (1 : Int32)) dX0_rainsIn_22 (by decide) ?_
        refine r_goto (pc := 23) C (tgt := 27) dX0_rainsIn_23 (by decide) ?_
        exact r_zret (pc := 27) C E ht dX0_rainsIn_27 (by decide) (by decide) (Or.inr rfl) h
def P_X0_rainsIn (v0 : Nat) (v1 : Int32) (Q : Int32 → HS → Prop) (S : HS) : Prop := P_X0_rainsIn_0 Q v0 v1 S
theorem c_X0_rainsIn {l : Launch} {Ee : EE} {S : HS} {v0 : Nat} {v1 : Int32} {Q : Int32 → HS → Prop} (h : P_X0_rainsIn v0 v1 Q S) : MI l yX0_rainsIn cX0_rainsIn 2 (some .boolean) rm_X0_rainsIn Ee S [.ref v0, .int v1] (fun r S => bl r ∧ Q r S) :=
  openI (by decide) (Nat.le_of_ble_eq_true rfl) (fun X C E ht hn hE hl => by subst hE; exact r_sub [0, 1] rfl (T_X0_rainsIn_0 C E ht hn h))
def rm_X0_returnTo : Room := { frames := 1, cells := 0, slots := 0, locals := 22 }
def P_X0_returnTo_0 (Q : Int32 → HS → Prop) (v0 : Nat) (v1 : Int32) (S : HS) : Prop := ((v1 < 0) → (Q (0 : Int32) S)) ∧ ((¬ v1 < 0) → (ob S v0 0 ∧ (∀ x2 : Int32, x2 = fI S v0 3 → (((v1 < x2) → (∃ a4 : Nat, fR S v0 4 = some a4 ∧ (∃ a5 : Nat, fR S v0 6 = some a5 ∧ (ob S a5 16 ∧ (vp_in v1 (hN S a5) ∧ ∃ a7 : Nat, fR S a5 v1.toNatClampNeg = some a7 ∧ (ob S a4 2 ∧ (P_X2_copy a4 a7 (fun S8 => Gr S S8 → (∀ S11 : HS, S11 = sI S8 v0 2 (0 : Int32) → (Q (1 : Int32) S11))) S))))))) ∧ ((¬ v1 < x2) → (Q (0 : Int32) S))))))
set_option maxRecDepth 20000 in
set_option maxHeartbeats 4000000 in
theorem T_X0_returnTo_0 {X : CX} {Q : Int32 → HS → Prop} (C : Cx X cX0_returnTo RX0 2 rm_X0_returnTo) (E : ReI X rm_X0_returnTo (fun r S => bl r ∧ Q r S)) (ht : (xh X).sig.returnType = (some .boolean)) (hn : (xh X).name = yX0_returnTo.name) {v0 : Nat} {v1 : Int32} {S : HS} (h : P_X0_returnTo_0 Q v0 v1 S) : WS X 2 0 0 0 [(0, .ref v0), (1, .int v1)] [] S := by
  refine r_iload_n (pc := 0) C dX0_returnTo_0 1 rfl ?_
  refine r_if_lt (pc := 1) C (tgt := 12) dX0_returnTo_1 (by decide) (fun c1 => ?_) (fun c1 => ?_)
  · have h := h.1 c1
    refine r_iconst (pc := 12) C (v := (0 : Int32)) dX0_returnTo_12 (by decide) ?_
    exact r_zret (pc := 13) C E ht dX0_returnTo_13 (by decide) (by decide) (Or.inl rfl) h
  · have h := h.2 c1
    refine r_iload_n (pc := 4) C dX0_returnTo_4 1 rfl ?_
    refine r_aload_n (pc := 5) C dX0_returnTo_5 0 rfl ?_
    obtain ⟨o_v0, h⟩ := h
    refine r_geti (pc := 6) C fL_X0_32 dX0_returnTo_6 o_v0 ?_
    refine r_topi (fun x2 ex2 => ?_)
    have h := h x2 ex2
    refine r_icmp_lt (pc := 9) C (tgt := 14) dX0_returnTo_9 (by decide) (fun c3 => ?_) (fun c3 => ?_)
    · have h := h.1 c3
      refine r_aload_n (pc := 14) C dX0_returnTo_14 0 rfl ?_
      obtain ⟨a4, ea4, h⟩ := h
      refine r_getr (pc := 15) C fL_X0_18 dX0_returnTo_15 o_v0 ea4 ?_
      refine r_aload_n (pc := 18) C dX0_returnTo_18 0 rfl ?_
      obtain ⟨a5, ea5, h⟩ := h
      refine r_getr (pc := 19) C fL_X0_26 dX0_returnTo_19 o_v0 ea5 ?_
      refine r_iload_n (pc := 22) C dX0_returnTo_22 1 rfl ?_
      obtain ⟨o_a5, h⟩ := h
      obtain ⟨i6, a7, ea7, h⟩ := h
      refine r_aald16 (pc := 23) C dX0_returnTo_23 o_a5 i6 ea7 ?_
      obtain ⟨o_a4, h⟩ := h
      refine r_callVv0 (pc := 24) C (rest := []) (a := a4) o_a4 [.ref a7] yV_X2_copy g_990 (c_X2_copy h) dX0_returnTo_24 rfl rfl (Nat.le_of_ble_eq_true rfl) ⟨by decide, by decide⟩ ⟨by decide, by decide⟩ ⟨rfl, rfl⟩ (fun S8 h g9 => ?_)
      have h := h g9
      have o_a4 := gr_ob g9 o_a4
      have o_a5 := gr_ob g9 o_a5
      have o_v0 := gr_ob g9 o_v0
      refine r_aload_n (pc := 27) C dX0_returnTo_27 0 rfl ?_
      refine r_iconst (pc := 28) C (v := (0 : Int32)) dX0_returnTo_28 (by decide) ?_
      refine r_puti (pc := 29) C pfL_X0_29 dX0_returnTo_29 o_v0 ?_
      refine r_heap (fun S11 eS11 => ?_)
      have h := h S11 eS11
      have o_a4 := ob_I eS11 o_a4
      have o_a5 := ob_I eS11 o_a5
      have o_v0 := ob_I eS11 o_v0
      refine r_iconst (pc := 32) C (v := (1 : Int32)) dX0_returnTo_32 (by decide) ?_
      exact r_zret (pc := 33) C E ht dX0_returnTo_33 (by decide) (by decide) (Or.inr rfl) h
    · have h := h.2 c3
      refine r_iconst (pc := 12) C (v := (0 : Int32)) dX0_returnTo_12 (by decide) ?_
      exact r_zret (pc := 13) C E ht dX0_returnTo_13 (by decide) (by decide) (Or.inl rfl) h
def P_X0_returnTo (v0 : Nat) (v1 : Int32) (Q : Int32 → HS → Prop) (S : HS) : Prop := P_X0_returnTo_0 Q v0 v1 S
theorem c_X0_returnTo {l : Launch} {Ee : EE} {S : HS} {v0 : Nat} {v1 : Int32} {Q : Int32 → HS → Prop} (h : P_X0_returnTo v0 v1 Q S) : MI l yX0_returnTo cX0_returnTo 2 (some .boolean) rm_X0_returnTo Ee S [.ref v0, .int v1] (fun r S => bl r ∧ Q r S) :=
  openI (by decide) (Nat.le_of_ble_eq_true rfl) (fun X C E ht hn hE hl => by subst hE; exact r_sub [0, 1] rfl (T_X0_returnTo_0 C E ht hn h))
def rm_X0_setMark : Room := { frames := 1, cells := 0, slots := 0, locals := 22 }
def P_X0_setMark_0 (Q : Int32 → HS → Prop) (v0 : Nat) (S : HS) : Prop := ob S v0 0 ∧ (∀ x1 : Int32, x1 = fI S v0 3 → (((x1 < (3 : Int32)) → (∃ a3 : Nat, fR S v0 6 = some a3 ∧ (∀ x4 : Int32, x4 = fI S v0 3 → (ob S a3 16 ∧ (vp_in x4 (hN S a3) ∧ ∃ a6 : Nat, fR S a3 x4.toNatClampNeg = some a6 ∧ (∃ a7 : Nat, fR S v0 4 = some a7 ∧ (ob S a6 2 ∧ (P_X2_copy a6 a7 (fun S8 => Gr S S8 → (∀ x11 : Int32, x11 = fI S8 v0 3 → (∀ x12 : Int32, x12 = x11 + (1 : Int32) → (∀ S13 : HS, S13 = sI S8 v0 3 x12 → (∀ x14 : Int32, x14 = fI S13 v0 3 → (Q (x14 - (1 : Int32)) S13)))))) S)))))))) ∧ ((¬ x1 < (3 : Int32)) → (Q (-1 : Int32) S))))
set_option maxRecDepth 20000 in
set_option maxHeartbeats 4000000 in
theorem T_X0_setMark_0 {X : CX} {Q : Int32 → HS → Prop} (C : Cx X cX0_setMark RX0 1 rm_X0_setMark) (E : ReI X rm_X0_setMark Q) (ht : (xh X).sig.returnType = (some .int)) (hn : (xh X).name = yX0_setMark.name) {v0 : Nat} {S : HS} (h : P_X0_setMark_0 Q v0 S) : WS X 1 0 0 0 [(0, .ref v0)] [] S := by
  refine r_aload_n (pc := 0) C dX0_setMark_0 0 rfl ?_
  obtain ⟨o_v0, h⟩ := h
  refine r_geti (pc := 1) C fL_X0_32 dX0_setMark_1 o_v0 ?_
  refine r_topi (fun x1 ex1 => ?_)
  have h := h x1 ex1
  refine r_iconst (pc := 4) C (v := (3 : Int32)) dX0_setMark_4 (by decide) ?_
  refine r_icmp_lt (pc := 5) C (tgt := 10) dX0_setMark_5 (by decide) (fun c2 => ?_) (fun c2 => ?_)
  · have h := h.1 c2
    refine r_aload_n (pc := 10) C dX0_setMark_10 0 rfl ?_
    obtain ⟨a3, ea3, h⟩ := h
    refine r_getr (pc := 11) C fL_X0_26 dX0_setMark_11 o_v0 ea3 ?_
    refine r_aload_n (pc := 14) C dX0_setMark_14 0 rfl ?_
    refine r_geti (pc := 15) C fL_X0_32 dX0_setMark_15 o_v0 ?_
    refine r_topi (fun x4 ex4 => ?_)
    have h := h x4 ex4
    obtain ⟨o_a3, h⟩ := h
    obtain ⟨i5, a6, ea6, h⟩ := h
    refine r_aald16 (pc := 18) C dX0_setMark_18 o_a3 i5 ea6 ?_
    refine r_aload_n (pc := 19) C dX0_setMark_19 0 rfl ?_
    obtain ⟨a7, ea7, h⟩ := h
    refine r_getr (pc := 20) C fL_X0_18 dX0_setMark_20 o_v0 ea7 ?_
    obtain ⟨o_a6, h⟩ := h
    refine r_callVv0 (pc := 23) C (rest := []) (a := a6) o_a6 [.ref a7] yV_X2_copy g_990 (c_X2_copy h) dX0_setMark_23 rfl rfl (Nat.le_of_ble_eq_true rfl) ⟨by decide, by decide⟩ ⟨by decide, by decide⟩ ⟨rfl, rfl⟩ (fun S8 h g9 => ?_)
    have h := h g9
    have o_a3 := gr_ob g9 o_a3
    have o_a6 := gr_ob g9 o_a6
    have o_v0 := gr_ob g9 o_v0
    refine r_aload_n (pc := 26) C dX0_setMark_26 0 rfl ?_
    refine r_dup (pc := 27) C dX0_setMark_27 rfl ?_
    refine r_geti (pc := 28) C fL_X0_32 dX0_setMark_28 o_v0 ?_
    refine r_topi (fun x11 ex11 => ?_)
    have h := h x11 ex11
    refine r_iconst (pc := 31) C (v := (1 : Int32)) dX0_setMark_31 (by decide) ?_
    refine r_iadd (pc := 32) C dX0_setMark_32 ?_
    refine r_topi (fun x12 ex12 => ?_)
    have h := h x12 ex12
    refine r_puti (pc := 33) C pfL_X0_32 dX0_setMark_33 o_v0 ?_
    refine r_heap (fun S13 eS13 => ?_)
    have h := h S13 eS13
    have o_a3 := ob_I eS13 o_a3
    have o_a6 := ob_I eS13 o_a6
    have o_v0 := ob_I eS13 o_v0
    refine r_aload_n (pc := 36) C dX0_setMark_36 0 rfl ?_
    refine r_geti (pc := 37) C fL_X0_32 dX0_setMark_37 o_v0 ?_
    refine r_topi (fun x14 ex14 => ?_)
    have h := h x14 ex14
    refine r_iconst (pc := 40) C (v := (1 : Int32)) dX0_setMark_40 (by decide) ?_
    refine r_isub (pc := 41) C dX0_setMark_41 ?_
    exact r_iret (pc := 42) C E ht dX0_setMark_42 (by decide) (by decide) h
  · have h := h.2 c2
    refine r_iconst (pc := 8) C (v := (-1 : Int32)) dX0_setMark_8 (by decide) ?_
    exact r_iret (pc := 9) C E ht dX0_setMark_9 (by decide) (by decide) h
def P_X0_setMark (v0 : Nat) (Q : Int32 → HS → Prop) (S : HS) : Prop := P_X0_setMark_0 Q v0 S
theorem c_X0_setMark {l : Launch} {Ee : EE} {S : HS} {v0 : Nat} {Q : Int32 → HS → Prop} (h : P_X0_setMark v0 Q S) : MI l yX0_setMark cX0_setMark 1 (some .int) rm_X0_setMark Ee S [.ref v0] Q :=
  openI (by decide) (Nat.le_of_ble_eq_true rfl) (fun X C E ht hn hE hl => by subst hE; exact r_sub [0] rfl (T_X0_setMark_0 C E ht hn h))
def rm_X0_takeBack : Room := { frames := 1, cells := 0, slots := 0, locals := 22 }
def P_X0_takeBack_0 (Q : Int32 → HS → Prop) (v0 : Nat) (S : HS) : Prop := ob S v0 0 ∧ (∀ x1 : Int32, x1 = fI S v0 2 → (((0 < x1) → (∀ x3 : Int32, x3 = fI S v0 2 → (∀ x4 : Int32, x4 = x3 - (1 : Int32) → (∀ S5 : HS, S5 = sI S v0 2 x4 → (∃ a6 : Nat, fR S5 v0 4 = some a6 ∧ (∃ a7 : Nat, fR S5 v0 5 = some a7 ∧ (∀ x8 : Int32, x8 = fI S5 v0 2 → (ob S5 a7 16 ∧ (vp_in x8 (hN S5 a7) ∧ ∃ a10 : Nat, fR S5 a7 x8.toNatClampNeg = some a10 ∧ (ob S5 a6 2 ∧ (P_X2_copy a6 a10 (fun S11 => Gr S5 S11 → (Q (1 : Int32) S11)) S5))))))))))) ∧ ((¬ 0 < x1) → (Q (0 : Int32) S))))
set_option maxRecDepth 20000 in
set_option maxHeartbeats 4000000 in
theorem T_X0_takeBack_0 {X : CX} {Q : Int32 → HS → Prop} (C : Cx X cX0_takeBack RX0 1 rm_X0_takeBack) (E : ReI X rm_X0_takeBack (fun r S => bl r ∧ Q r S)) (ht : (xh X).sig.returnType = (some .boolean)) (hn : (xh X).name = yX0_takeBack.name) {v0 : Nat} {S : HS} (h : P_X0_takeBack_0 Q v0 S) : WS X 1 0 0 0 [(0, .ref v0)] [] S := by
  refine r_aload_n (pc := 0) C dX0_takeBack_0 0 rfl ?_
  obtain ⟨o_v0, h⟩ := h
  refine r_geti (pc := 1) C fL_X0_29 dX0_takeBack_1 o_v0 ?_
  refine r_topi (fun x1 ex1 => ?_)
  have h := h x1 ex1
  refine r_if_gt (pc := 4) C (tgt := 9) dX0_takeBack_4 (by decide) (fun c2 => ?_) (fun c2 => ?_)
  · have h := h.1 c2
    refine r_aload_n (pc := 9) C dX0_takeBack_9 0 rfl ?_
    refine r_dup (pc := 10) C dX0_takeBack_10 rfl ?_
    refine r_geti (pc := 11) C fL_X0_29 dX0_takeBack_11 o_v0 ?_
    refine r_topi (fun x3 ex3 => ?_)
    have h := h x3 ex3
    refine r_iconst (pc := 14) C (v := (1 : Int32)) dX0_takeBack_14 (by decide) ?_
    refine r_isub (pc := 15) C dX0_takeBack_15 ?_
    refine r_topi (fun x4 ex4 => ?_)
    have h := h x4 ex4
    refine r_puti (pc := 16) C pfL_X0_29 dX0_takeBack_16 o_v0 ?_
    refine r_heap (fun S5 eS5 => ?_)
    have h := h S5 eS5
    have o_v0 := ob_I eS5 o_v0
    refine r_aload_n (pc := 19) C dX0_takeBack_19 0 rfl ?_
    obtain ⟨a6, ea6, h⟩ := h
    refine r_getr (pc := 20) C fL_X0_18 dX0_takeBack_20 o_v0 ea6 ?_
    refine r_aload_n (pc := 23) C dX0_takeBack_23 0 rfl ?_
    obtain ⟨a7, ea7, h⟩ := h
    refine r_getr (pc := 24) C fL_X0_22 dX0_takeBack_24 o_v0 ea7 ?_
    refine r_aload_n (pc := 27) C dX0_takeBack_27 0 rfl ?_
    refine r_geti (pc := 28) C fL_X0_29 dX0_takeBack_28 o_v0 ?_
    refine r_topi (fun x8 ex8 => ?_)
    have h := h x8 ex8
    obtain ⟨o_a7, h⟩ := h
    obtain ⟨i9, a10, ea10, h⟩ := h
    refine r_aald16 (pc := 31) C dX0_takeBack_31 o_a7 i9 ea10 ?_
    obtain ⟨o_a6, h⟩ := h
    refine r_callVv0 (pc := 32) C (rest := []) (a := a6) o_a6 [.ref a10] yV_X2_copy g_990 (c_X2_copy h) dX0_takeBack_32 rfl rfl (Nat.le_of_ble_eq_true rfl) ⟨by decide, by decide⟩ ⟨by decide, by decide⟩ ⟨rfl, rfl⟩ (fun S11 h g12 => ?_)
    have h := h g12
    have o_a6 := gr_ob g12 o_a6
    have o_a7 := gr_ob g12 o_a7
    have o_v0 := gr_ob g12 o_v0
    refine r_iconst (pc := 35) C (v := (1 : Int32)) dX0_takeBack_35 (by decide) ?_
    exact r_zret (pc := 36) C E ht dX0_takeBack_36 (by decide) (by decide) (Or.inr rfl) h
  · have h := h.2 c2
    refine r_iconst (pc := 7) C (v := (0 : Int32)) dX0_takeBack_7 (by decide) ?_
    exact r_zret (pc := 8) C E ht dX0_takeBack_8 (by decide) (by decide) (Or.inl rfl) h
def P_X0_takeBack (v0 : Nat) (Q : Int32 → HS → Prop) (S : HS) : Prop := P_X0_takeBack_0 Q v0 S
theorem c_X0_takeBack {l : Launch} {Ee : EE} {S : HS} {v0 : Nat} {Q : Int32 → HS → Prop} (h : P_X0_takeBack v0 Q S) : MI l yX0_takeBack cX0_takeBack 1 (some .boolean) rm_X0_takeBack Ee S [.ref v0] (fun r S => bl r ∧ Q r S) :=
  openI (by decide) (Nat.le_of_ble_eq_true rfl) (fun X C E ht hn hE hl => by subst hE; exact r_sub [0] rfl (T_X0_takeBack_0 C E ht hn h))
def rm_X10_facing : Room := { frames := 0, cells := 0, slots := 0, locals := 0 }
def P_X10_facing_0 (Q : Int32 → HS → Prop) (v0 : Nat) (v1 : Int32) (v2 : Int32) (S : HS) : Prop := ((¬ v2 = 0) → (ob S v0 10 ∧ (∃ a2 : Nat, fR S v0 15 = some a2 ∧ (ob S a2 13 ∧ (vp_in v1 (hN S a2) ∧ ∀ x4 : Int32, x4 = fI S a2 v1.toNatClampNeg → (Q ((x4 + (2 : Int32)) &&& (3 : Int32)) S)))))) ∧ ((v2 = 0) → (ob S v0 10 ∧ (∃ a5 : Nat, fR S v0 15 = some a5 ∧ (ob S a5 13 ∧ (vp_in v1 (hN S a5) ∧ ∀ x7 : Int32, x7 = fI S a5 v1.toNatClampNeg → (Q x7 S))))))
set_option maxRecDepth 20000 in
set_option maxHeartbeats 4000000 in
theorem T_X10_facing_0 {X : CX} {Q : Int32 → HS → Prop} (C : Cx X cX10_facing RX10 3 rm_X10_facing) (E : ReI X rm_X10_facing Q) (ht : (xh X).sig.returnType = (some .int)) (hn : (xh X).name = yX10_facing.name) {v0 : Nat} {v1 : Int32} {v2 : Int32} {S : HS} (h : P_X10_facing_0 Q v0 v1 v2 S) : WS X 3 0 0 0 [(0, .ref v0), (1, .int v1), (2, .int v2)] [] S := by
  refine r_iload_n (pc := 0) C dX10_facing_0 2 rfl ?_
  refine r_if_ne (pc := 1) C (tgt := 13) dX10_facing_1 (by decide) (fun c1 => ?_) (fun c1 => ?_)
  · have h := h.1 c1
    refine r_aload_n (pc := 13) C dX10_facing_13 0 rfl ?_
    obtain ⟨o_v0, h⟩ := h
    obtain ⟨a2, ea2, h⟩ := h
    refine r_getr (pc := 14) C fL_X10_36 dX10_facing_14 o_v0 ea2 ?_
    refine r_iload_n (pc := 17) C dX10_facing_17 1 rfl ?_
    obtain ⟨o_a2, h⟩ := h
    obtain ⟨i3, h⟩ := h
    refine r_iald (pc := 18) C dX10_facing_18 o_a2 i3 ?_
    refine r_topi (fun x4 ex4 => ?_)
    have h := h x4 ex4
    refine r_iconst (pc := 19) C (v := (2 : Int32)) dX10_facing_19 (by decide) ?_
    refine r_iadd (pc := 20) C dX10_facing_20 ?_
    refine r_iconst (pc := 21) C (v := (3 : Int32)) dX10_facing_21 (by decide) ?_
    refine r_iand (pc := 22) C dX10_facing_22 ?_
    exact r_iret (pc := 23) C E ht dX10_facing_23 (by decide) (by decide) h
  · have h := h.2 c1
    refine r_aload_n (pc := 4) C dX10_facing_4 0 rfl ?_
    obtain ⟨o_v0, h⟩ := h
    obtain ⟨a5, ea5, h⟩ := h
    refine r_getr (pc := 5) C fL_X10_36 dX10_facing_5 o_v0 ea5 ?_
    refine r_iload_n (pc := 8) C dX10_facing_8 1 rfl ?_
    obtain ⟨o_a5, h⟩ := h
    obtain ⟨i6, h⟩ := h
    refine r_iald (pc := 9) C dX10_facing_9 o_a5 i6 ?_
    refine r_topi (fun x7 ex7 => ?_)
    have h := h x7 ex7
    refine r_goto (pc := 10) C (tgt := 23) dX10_facing_10 (by decide) ?_
    exact r_iret (pc := 23) C E ht dX10_facing_23 (by decide) (by decide) h
def P_X10_facing (v0 : Nat) (v1 : Int32) (v2 : Int32) (Q : Int32 → HS → Prop) (S : HS) : Prop := P_X10_facing_0 Q v0 v1 v2 S
theorem c_X10_facing {l : Launch} {Ee : EE} {S : HS} {v0 : Nat} {v1 : Int32} {v2 : Int32} {Q : Int32 → HS → Prop} (h : P_X10_facing v0 v1 v2 Q S) : MI l yX10_facing cX10_facing 3 (some .int) rm_X10_facing Ee S [.ref v0, .int v1, .int v2] Q :=
  openI (by decide) (Nat.le_of_ble_eq_true rfl) (fun X C E ht hn hE hl => by subst hE; exact r_sub [0, 1, 2] rfl (T_X10_facing_0 C E ht hn h))
def rm_X10_across : Room := { frames := 1, cells := 0, slots := 0, locals := 22 }
def P_X10_across_0 (Q : Int32 → HS → Prop) (v0 : Nat) (v1 : Int32) (v2 : Int32) (v3 : Int32) (S : HS) : Prop := ob S v0 10 ∧ (∃ a1 : Nat, fR S v0 9 = some a1 ∧ (ob S a1 13 ∧ (vp_in v3 (hN S a1) ∧ ∀ x3 : Int32, x3 = fI S a1 v3.toNatClampNeg → (P_X10_facing v0 v1 v2 (fun x6 S4 => Gr S S4 → (∀ x7 : Int32, x7 = (x3 - x6) &&& (3 : Int32) → (((¬ x7 = (1 : Int32)) → (((¬ x7 = (3 : Int32)) → (Q (0 : Int32) S4)) ∧ ((x7 = (3 : Int32)) → (∃ a10 : Nat, fR S4 v0 10 = some a10 ∧ (ob S4 a10 13 ∧ (vp_in v3 (hN S4 a10) ∧ ∀ x12 : Int32, x12 = fI S4 a10 v3.toNatClampNeg → (Q (-x12) S4))))))) ∧ ((x7 = (1 : Int32)) → (∃ a13 : Nat, fR S4 v0 10 = some a13 ∧ (ob S4 a13 13 ∧ (vp_in v3 (hN S4 a13) ∧ ∀ x15 : Int32, x15 = fI S4 a13 v3.toNatClampNeg → (Q x15 S4)))))))) S))))
set_option maxRecDepth 20000 in
set_option maxHeartbeats 4000000 in
theorem T_X10_across_0 {X : CX} {Q : Int32 → HS → Prop} (C : Cx X cX10_across RX10 5 rm_X10_across) (E : ReI X rm_X10_across Q) (ht : (xh X).sig.returnType = (some .int)) (hn : (xh X).name = yX10_across.name) {v0 : Nat} {v1 : Int32} {v2 : Int32} {v3 : Int32} {S : HS} (h : P_X10_across_0 Q v0 v1 v2 v3 S) : WS X 5 0 0 0 [(0, .ref v0), (1, .int v1), (2, .int v2), (3, .int v3)] [] S := by
  refine r_aload_n (pc := 0) C dX10_across_0 0 rfl ?_
  obtain ⟨o_v0, h⟩ := h
  obtain ⟨a1, ea1, h⟩ := h
  refine r_getr (pc := 1) C fL_X10_18 dX10_across_1 o_v0 ea1 ?_
  refine r_iload_n (pc := 4) C dX10_across_4 3 rfl ?_
  obtain ⟨o_a1, h⟩ := h
  obtain ⟨i2, h⟩ := h
  refine r_iald (pc := 5) C dX10_across_5 o_a1 i2 ?_
  refine r_topi (fun x3 ex3 => ?_)
  have h := h x3 ex3
  refine r_aload_n (pc := 6) C dX10_across_6 0 rfl ?_
  refine r_iload_n (pc := 7) C dX10_across_7 1 rfl ?_
  refine r_iload_n (pc := 8) C dX10_across_8 2 rfl ?_
  refine r_callVi0 (pc := 9) C (rest := [.int x3]) (a := v0) o_v0 [.int v1, .int v2] yV_X10_facing g_1566 (c_X10_facing h) dX10_across_9 rfl rfl (Nat.le_of_ble_eq_true rfl) ⟨by decide, by decide⟩ ⟨by decide, by decide⟩ ⟨rfl, rfl⟩ (fun x6 S4 h g5 => ?_)
  have h := h g5
  have o_a1 := gr_ob g5 o_a1
  have o_v0 := gr_ob g5 o_v0
  refine r_isub (pc := 12) C dX10_across_12 ?_
  refine r_iconst (pc := 13) C (v := (3 : Int32)) dX10_across_13 (by decide) ?_
  refine r_iand (pc := 14) C dX10_across_14 ?_
  refine r_topi (fun x7 ex7 => ?_)
  have h := h x7 ex7
  refine r_istore (pc := 15) C dX10_across_15 (by decide) (lv' := [(4, .int x7), (0, .ref v0), (1, .int v1), (2, .int v2), (3, .int v3)]) rfl ?_
  refine r_iload (pc := 17) C dX10_across_17 0 rfl ?_
  refine r_iconst (pc := 19) C (v := (1 : Int32)) dX10_across_19 (by decide) ?_
  refine r_icmp_ne (pc := 20) C (tgt := 32) dX10_across_20 (by decide) (fun c8 => ?_) (fun c8 => ?_)
  · have h := h.1 c8
    refine r_iload (pc := 32) C dX10_across_32 0 rfl ?_
    refine r_iconst (pc := 34) C (v := (3 : Int32)) dX10_across_34 (by decide) ?_
    refine r_icmp_ne (pc := 35) C (tgt := 48) dX10_across_35 (by decide) (fun c9 => ?_) (fun c9 => ?_)
    · have h := h.1 c9
      refine r_iconst (pc := 48) C (v := (0 : Int32)) dX10_across_48 (by decide) ?_
      exact r_iret (pc := 49) C E ht dX10_across_49 (by decide) (by decide) h
    · have h := h.2 c9
      refine r_aload_n (pc := 38) C dX10_across_38 1 rfl ?_
      obtain ⟨a10, ea10, h⟩ := h
      refine r_getr (pc := 39) C fL_X10_21 dX10_across_39 o_v0 ea10 ?_
      refine r_iload_n (pc := 42) C dX10_across_42 4 rfl ?_
      obtain ⟨o_a10, h⟩ := h
      obtain ⟨i11, h⟩ := h
      refine r_iald (pc := 43) C dX10_across_43 o_a10 i11 ?_
      refine r_topi (fun x12 ex12 => ?_)
      have h := h x12 ex12
      refine r_ineg (pc := 44) C dX10_across_44 ?_
      refine r_goto (pc := 45) C (tgt := 49) dX10_across_45 (by decide) ?_
      exact r_iret (pc := 49) C E ht dX10_across_49 (by decide) (by decide) h
  · have h := h.2 c8
    refine r_aload_n (pc := 23) C dX10_across_23 1 rfl ?_
    obtain ⟨a13, ea13, h⟩ := h
    refine r_getr (pc := 24) C fL_X10_21 dX10_across_24 o_v0 ea13 ?_
    refine r_iload_n (pc := 27) C dX10_across_27 4 rfl ?_
    obtain ⟨o_a13, h⟩ := h
    obtain ⟨i14, h⟩ := h
    refine r_iald (pc := 28) C dX10_across_28 o_a13 i14 ?_
    refine r_topi (fun x15 ex15 => ?_)
    have h := h x15 ex15
    refine r_goto (pc := 29) C (tgt := 49) dX10_across_29 (by decide) ?_
    exact r_iret (pc := 49) C E ht dX10_across_49 (by decide) (by decide) h
def P_X10_across (v0 : Nat) (v1 : Int32) (v2 : Int32) (v3 : Int32) (Q : Int32 → HS → Prop) (S : HS) : Prop := P_X10_across_0 Q v0 v1 v2 v3 S
theorem c_X10_across {l : Launch} {Ee : EE} {S : HS} {v0 : Nat} {v1 : Int32} {v2 : Int32} {v3 : Int32} {Q : Int32 → HS → Prop} (h : P_X10_across v0 v1 v2 v3 Q S) : MI l yX10_across cX10_across 5 (some .int) rm_X10_across Ee S [.ref v0, .int v1, .int v2, .int v3] Q :=
  openI (by decide) (Nat.le_of_ble_eq_true rfl) (fun X C E ht hn hE hl => by subst hE; exact r_sub [0, 1, 2, 3] rfl (T_X10_across_0 C E ht hn h))
def rm_X10_air : Room := { frames := 1, cells := 0, slots := 0, locals := 22 }
def P_X10_air_0 (Q : Int32 → HS → Prop) (v0 : Nat) (v1 : Int32) (v2 : Int32) (v3 : Int32) (S : HS) : Prop := ob S v0 10 ∧ (∃ a1 : Nat, fR S v0 9 = some a1 ∧ (ob S a1 13 ∧ (vp_in v3 (hN S a1) ∧ ∀ x3 : Int32, x3 = fI S a1 v3.toNatClampNeg → (P_X10_facing v0 v1 v2 (fun x6 S4 => Gr S S4 → (∀ x7 : Int32, x7 = (x3 - x6) &&& (3 : Int32) → (((¬ x7 = 0) → (((¬ x7 = (2 : Int32)) → (Q (0 : Int32) S4)) ∧ ((x7 = (2 : Int32)) → (∃ a10 : Nat, fR S4 v0 10 = some a10 ∧ (ob S4 a10 13 ∧ (vp_in v3 (hN S4 a10) ∧ ∀ x12 : Int32, x12 = fI S4 a10 v3.toNatClampNeg → (Q (-x12) S4))))))) ∧ ((x7 = 0) → (∃ a13 : Nat, fR S4 v0 10 = some a13 ∧ (ob S4 a13 13 ∧ (vp_in v3 (hN S4 a13) ∧ ∀ x15 : Int32, x15 = fI S4 a13 v3.toNatClampNeg → (Q x15 S4)))))))) S))))
set_option maxRecDepth 20000 in
set_option maxHeartbeats 4000000 in
theorem T_X10_air_0 {X : CX} {Q : Int32 → HS → Prop} (C : Cx X cX10_air RX10 5 rm_X10_air) (E : ReI X rm_X10_air Q) (ht : (xh X).sig.returnType = (some .int)) (hn : (xh X).name = yX10_air.name) {v0 : Nat} {v1 : Int32} {v2 : Int32} {v3 : Int32} {S : HS} (h : P_X10_air_0 Q v0 v1 v2 v3 S) : WS X 5 0 0 0 [(0, .ref v0), (1, .int v1), (2, .int v2), (3, .int v3)] [] S := by
  refine r_aload_n (pc := 0) C dX10_air_0 0 rfl ?_
  obtain ⟨o_v0, h⟩ := h
  obtain ⟨a1, ea1, h⟩ := h
  refine r_getr (pc := 1) C fL_X10_18 dX10_air_1 o_v0 ea1 ?_
  refine r_iload_n (pc := 4) C dX10_air_4 3 rfl ?_
  obtain ⟨o_a1, h⟩ := h
  obtain ⟨i2, h⟩ := h
  refine r_iald (pc := 5) C dX10_air_5 o_a1 i2 ?_
  refine r_topi (fun x3 ex3 => ?_)
  have h := h x3 ex3
  refine r_aload_n (pc := 6) C dX10_air_6 0 rfl ?_
  refine r_iload_n (pc := 7) C dX10_air_7 1 rfl ?_
  refine r_iload_n (pc := 8) C dX10_air_8 2 rfl ?_
  refine r_callVi0 (pc := 9) C (rest := [.int x3]) (a := v0) o_v0 [.int v1, .int v2] yV_X10_facing g_1566 (c_X10_facing h) dX10_air_9 rfl rfl (Nat.le_of_ble_eq_true rfl) ⟨by decide, by decide⟩ ⟨by decide, by decide⟩ ⟨rfl, rfl⟩ (fun x6 S4 h g5 => ?_)
  have h := h g5
  have o_a1 := gr_ob g5 o_a1
  have o_v0 := gr_ob g5 o_v0
  refine r_isub (pc := 12) C dX10_air_12 ?_
  refine r_iconst (pc := 13) C (v := (3 : Int32)) dX10_air_13 (by decide) ?_
  refine r_iand (pc := 14) C dX10_air_14 ?_
  refine r_topi (fun x7 ex7 => ?_)
  have h := h x7 ex7
  refine r_istore (pc := 15) C dX10_air_15 (by decide) (lv' := [(4, .int x7), (0, .ref v0), (1, .int v1), (2, .int v2), (3, .int v3)]) rfl ?_
  refine r_iload (pc := 17) C dX10_air_17 0 rfl ?_
  refine r_if_ne (pc := 19) C (tgt := 31) dX10_air_19 (by decide) (fun c8 => ?_) (fun c8 => ?_)
  · have h := h.1 c8
    refine r_iload (pc := 31) C dX10_air_31 0 rfl ?_
    refine r_iconst (pc := 33) C (v := (2 : Int32)) dX10_air_33 (by decide) ?_
    refine r_icmp_ne (pc := 34) C (tgt := 47) dX10_air_34 (by decide) (fun c9 => ?_) (fun c9 => ?_)
    · have h := h.1 c9
      refine r_iconst (pc := 47) C (v := (0 : Int32)) dX10_air_47 (by decide) ?_
      exact r_iret (pc := 48) C E ht dX10_air_48 (by decide) (by decide) h
    · have h := h.2 c9
      refine r_aload_n (pc := 37) C dX10_air_37 1 rfl ?_
      obtain ⟨a10, ea10, h⟩ := h
      refine r_getr (pc := 38) C fL_X10_21 dX10_air_38 o_v0 ea10 ?_
      refine r_iload_n (pc := 41) C dX10_air_41 4 rfl ?_
      obtain ⟨o_a10, h⟩ := h
      obtain ⟨i11, h⟩ := h
      refine r_iald (pc := 42) C dX10_air_42 o_a10 i11 ?_
      refine r_topi (fun x12 ex12 => ?_)
      have h := h x12 ex12
      refine r_ineg (pc := 43) C dX10_air_43 ?_
      refine r_goto (pc := 44) C (tgt := 48) dX10_air_44 (by decide) ?_
      exact r_iret (pc := 48) C E ht dX10_air_48 (by decide) (by decide) h
  · have h := h.2 c8
    refine r_aload_n (pc := 22) C dX10_air_22 1 rfl ?_
    obtain ⟨a13, ea13, h⟩ := h
    refine r_getr (pc := 23) C fL_X10_21 dX10_air_23 o_v0 ea13 ?_
    refine r_iload_n (pc := 26) C dX10_air_26 4 rfl ?_
    obtain ⟨o_a13, h⟩ := h
    obtain ⟨i14, h⟩ := h
    refine r_iald (pc := 27) C dX10_air_27 o_a13 i14 ?_
    refine r_topi (fun x15 ex15 => ?_)
    have h := h x15 ex15
    refine r_goto (pc := 28) C (tgt := 48) dX10_air_28 (by decide) ?_
    exact r_iret (pc := 48) C E ht dX10_air_48 (by decide) (by decide) h
def P_X10_air (v0 : Nat) (v1 : Int32) (v2 : Int32) (v3 : Int32) (Q : Int32 → HS → Prop) (S : HS) : Prop := P_X10_air_0 Q v0 v1 v2 v3 S
theorem c_X10_air {l : Launch} {Ee : EE} {S : HS} {v0 : Nat} {v1 : Int32} {v2 : Int32} {v3 : Int32} {Q : Int32 → HS → Prop} (h : P_X10_air v0 v1 v2 v3 Q S) : MI l yX10_air cX10_air 5 (some .int) rm_X10_air Ee S [.ref v0, .int v1, .int v2, .int v3] Q :=
  openI (by decide) (Nat.le_of_ble_eq_true rfl) (fun X C E ht hn hE hl => by subst hE; exact r_sub [0, 1, 2, 3] rfl (T_X10_air_0 C E ht hn h))
def rm_X10_begins : Room := { frames := 0, cells := 0, slots := 0, locals := 0 }
def P_X10_begins_0 (Q : Int32 → HS → Prop) (v0 : Nat) (v1 : Int32) (v2 : Int32) (S : HS) : Prop := ((¬ v2 = 0) → (ob S v0 10 ∧ (∃ a2 : Nat, fR S v0 14 = some a2 ∧ (ob S a2 13 ∧ (vp_in v1 (hN S a2) ∧ ∀ x4 : Int32, x4 = fI S a2 v1.toNatClampNeg → (Q x4 S)))))) ∧ ((v2 = 0) → (ob S v0 10 ∧ (∃ a5 : Nat, fR S v0 13 = some a5 ∧ (ob S a5 13 ∧ (vp_in v1 (hN S a5) ∧ ∀ x7 : Int32, x7 = fI S a5 v1.toNatClampNeg → (Q x7 S))))))
set_option maxRecDepth 20000 in
set_option maxHeartbeats 4000000 in
theorem T_X10_begins_0 {X : CX} {Q : Int32 → HS → Prop} (C : Cx X cX10_begins RX10 3 rm_X10_begins) (E : ReI X rm_X10_begins Q) (ht : (xh X).sig.returnType = (some .int)) (hn : (xh X).name = yX10_begins.name) {v0 : Nat} {v1 : Int32} {v2 : Int32} {S : HS} (h : P_X10_begins_0 Q v0 v1 v2 S) : WS X 3 0 0 0 [(0, .ref v0), (1, .int v1), (2, .int v2)] [] S := by
  refine r_iload_n (pc := 0) C dX10_begins_0 2 rfl ?_
  refine r_if_ne (pc := 1) C (tgt := 13) dX10_begins_1 (by decide) (fun c1 => ?_) (fun c1 => ?_)
  · have h := h.1 c1
    refine r_aload_n (pc := 13) C dX10_begins_13 0 rfl ?_
    obtain ⟨o_v0, h⟩ := h
    obtain ⟨a2, ea2, h⟩ := h
    refine r_getr (pc := 14) C fL_X10_33 dX10_begins_14 o_v0 ea2 ?_
    refine r_iload_n (pc := 17) C dX10_begins_17 1 rfl ?_
    obtain ⟨o_a2, h⟩ := h
    obtain ⟨i3, h⟩ := h
    refine r_iald (pc := 18) C dX10_begins_18 o_a2 i3 ?_
    refine r_topi (fun x4 ex4 => ?_)
    have h := h x4 ex4
    exact r_iret (pc := 19) C E ht dX10_begins_19 (by decide) (by decide) h
  · have h := h.2 c1
    refine r_aload_n (pc := 4) C dX10_begins_4 0 rfl ?_
    obtain ⟨o_v0, h⟩ := h
    obtain ⟨a5, ea5, h⟩ := h
    refine r_getr (pc := 5) C fL_X10_30 dX10_begins_5 o_v0 ea5 ?_
    refine r_iload_n (pc := 8) C dX10_begins_8 1 rfl ?_
    obtain ⟨o_a5, h⟩ := h
    obtain ⟨i6, h⟩ := h
    refine r_iald (pc := 9) C dX10_begins_9 o_a5 i6 ?_
    refine r_topi (fun x7 ex7 => ?_)
    have h := h x7 ex7
    refine r_goto (pc := 10) C (tgt := 19) dX10_begins_10 (by decide) ?_
    exact r_iret (pc := 19) C E ht dX10_begins_19 (by decide) (by decide) h
def P_X10_begins (v0 : Nat) (v1 : Int32) (v2 : Int32) (Q : Int32 → HS → Prop) (S : HS) : Prop := P_X10_begins_0 Q v0 v1 v2 S
theorem c_X10_begins {l : Launch} {Ee : EE} {S : HS} {v0 : Nat} {v1 : Int32} {v2 : Int32} {Q : Int32 → HS → Prop} (h : P_X10_begins v0 v1 v2 Q S) : MI l yX10_begins cX10_begins 3 (some .int) rm_X10_begins Ee S [.ref v0, .int v1, .int v2] Q :=
  openI (by decide) (Nat.le_of_ble_eq_true rfl) (fun X C E ht hn hE hl => by subst hE; exact r_sub [0, 1, 2] rfl (T_X10_begins_0 C E ht hn h))
def rm_X10_ends : Room := { frames := 0, cells := 0, slots := 0, locals := 0 }
def P_X10_ends_0 (Q : Int32 → HS → Prop) (v0 : Nat) (v1 : Int32) (v2 : Int32) (S : HS) : Prop := ((¬ v2 = 0) → (ob S v0 10 ∧ (∃ a2 : Nat, fR S v0 13 = some a2 ∧ (ob S a2 13 ∧ (vp_in v1 (hN S a2) ∧ ∀ x4 : Int32, x4 = fI S a2 v1.toNatClampNeg → (Q x4 S)))))) ∧ ((v2 = 0) → (ob S v0 10 ∧ (∃ a5 : Nat, fR S v0 14 = some a5 ∧ (ob S a5 13 ∧ (vp_in v1 (hN S a5) ∧ ∀ x7 : Int32, x7 = fI S a5 v1.toNatClampNeg → (Q x7 S))))))
set_option maxRecDepth 20000 in
set_option maxHeartbeats 4000000 in
theorem T_X10_ends_0 {X : CX} {Q : Int32 → HS → Prop} (C : Cx X cX10_ends RX10 3 rm_X10_ends) (E : ReI X rm_X10_ends Q) (ht : (xh X).sig.returnType = (some .int)) (hn : (xh X).name = yX10_ends.name) {v0 : Nat} {v1 : Int32} {v2 : Int32} {S : HS} (h : P_X10_ends_0 Q v0 v1 v2 S) : WS X 3 0 0 0 [(0, .ref v0), (1, .int v1), (2, .int v2)] [] S := by
  refine r_iload_n (pc := 0) C dX10_ends_0 2 rfl ?_
  refine r_if_ne (pc := 1) C (tgt := 13) dX10_ends_1 (by decide) (fun c1 => ?_) (fun c1 => ?_)
  · have h := h.1 c1
    refine r_aload_n (pc := 13) C dX10_ends_13 0 rfl ?_
    obtain ⟨o_v0, h⟩ := h
    obtain ⟨a2, ea2, h⟩ := h
    refine r_getr (pc := 14) C fL_X10_30 dX10_ends_14 o_v0 ea2 ?_
    refine r_iload_n (pc := 17) C dX10_ends_17 1 rfl ?_
    obtain ⟨o_a2, h⟩ := h
    obtain ⟨i3, h⟩ := h
    refine r_iald (pc := 18) C dX10_ends_18 o_a2 i3 ?_
    refine r_topi (fun x4 ex4 => ?_)
    have h := h x4 ex4
    exact r_iret (pc := 19) C E ht dX10_ends_19 (by decide) (by decide) h
  · have h := h.2 c1
    refine r_aload_n (pc := 4) C dX10_ends_4 0 rfl ?_
    obtain ⟨o_v0, h⟩ := h
    obtain ⟨a5, ea5, h⟩ := h
    refine r_getr (pc := 5) C fL_X10_33 dX10_ends_5 o_v0 ea5 ?_
    refine r_iload_n (pc := 8) C dX10_ends_8 1 rfl ?_
    obtain ⟨o_a5, h⟩ := h
    obtain ⟨i6, h⟩ := h
    refine r_iald (pc := 9) C dX10_ends_9 o_a5 i6 ?_
    refine r_topi (fun x7 ex7 => ?_)
    have h := h x7 ex7
    refine r_goto (pc := 10) C (tgt := 19) dX10_ends_10 (by decide) ?_
    exact r_iret (pc := 19) C E ht dX10_ends_19 (by decide) (by decide) h
def P_X10_ends (v0 : Nat) (v1 : Int32) (v2 : Int32) (Q : Int32 → HS → Prop) (S : HS) : Prop := P_X10_ends_0 Q v0 v1 v2 S
theorem c_X10_ends {l : Launch} {Ee : EE} {S : HS} {v0 : Nat} {v1 : Int32} {v2 : Int32} {Q : Int32 → HS → Prop} (h : P_X10_ends v0 v1 v2 Q S) : MI l yX10_ends cX10_ends 3 (some .int) rm_X10_ends Ee S [.ref v0, .int v1, .int v2] Q :=
  openI (by decide) (Nat.le_of_ble_eq_true rfl) (fun X C E ht hn hE hl => by subst hE; exact r_sub [0, 1, 2] rfl (T_X10_ends_0 C E ht hn h))
def rm_X10_find : Room := { frames := 0, cells := 0, slots := 0, locals := 0 }
def B_X10_find_2 (Q : Int32 → HS → Prop) (X2 : Nat → Int64 → Int32 → HS → Prop) (v0 : Nat) (v1 : Int64) (v3 : Int32) (S : HS) : Prop := ob S v0 10 ∧ (∀ x1 : Int32, x1 = fI S v0 6 → (((x1 ≤ v3) → (Q (-1 : Int32) S)) ∧ ((¬ x1 ≤ v3) → (∃ a3 : Nat, fR S v0 28 = some a3 ∧ (ob S a3 14 ∧ (vp_in v3 (hN S a3) ∧ ∀ x5 : Int64, x5 = fJ S a3 v3.toNatClampNeg → (((¬ (lg_cmp x5 v1) = 0) → (∀ x7 : Int32, x7 = v3 + (1 : Int32) → (X2 v0 v1 x7 S))) ∧ (((lg_cmp x5 v1) = 0) → (Q v3 S)))))))))
def P_X10_find_2 (Q : Int32 → HS → Prop) (v0 : Nat) (v1 : Int64) (v3 : Int32) (S : HS) : Prop := ∀ X2 : Nat → Int64 → Int32 → HS → Prop, (∀ (v0 : Nat) (v1 : Int64) (v3 : Int32) (S : HS), B_X10_find_2 Q X2 v0 v1 v3 S → X2 v0 v1 v3 S) → X2 v0 v1 v3 S
set_option maxRecDepth 20000 in
set_option maxHeartbeats 4000000 in
theorem TB_X10_find_2 {X : CX} {Q : Int32 → HS → Prop} (C : Cx X cX10_find RX10 4 rm_X10_find) (E : ReI X rm_X10_find Q) (ht : (xh X).sig.returnType = (some .int)) (hn : (xh X).name = yX10_find.name) {X2 : Nat → Int64 → Int32 → HS → Prop} (hX2 : ∀ (v0 : Nat) (v1 : Int64) (v3 : Int32) (S : HS), X2 v0 v1 v3 S → WS X 4 0 0 2 [(0, .ref v0), (1, .long v1), (3, .int v3)] [] S) {v0 : Nat} {v1 : Int64} {v3 : Int32} {S : HS} (h : B_X10_find_2 Q X2 v0 v1 v3 S) : WS X 4 0 0 2 [(0, .ref v0), (1, .long v1), (3, .int v3)] [] S := by
  refine r_iload_n (pc := 2) C dX10_find_2 2 rfl ?_
  refine r_aload_n (pc := 3) C dX10_find_3 0 rfl ?_
  obtain ⟨o_v0, h⟩ := h
  refine r_geti (pc := 4) C fL_X10_86 dX10_find_4 o_v0 ?_
  refine r_topi (fun x1 ex1 => ?_)
  have h := h x1 ex1
  refine r_icmp_ge (pc := 7) C (tgt := 29) dX10_find_7 (by decide) (fun c2 => ?_) (fun c2 => ?_)
  · have h := h.1 c2
    refine r_iconst (pc := 29) C (v := (-1 : Int32)) dX10_find_29 (by decide) ?_
    exact r_iret (pc := 30) C E ht dX10_find_30 (by decide) (by decide) h
  · have h := h.2 c2
    refine r_aload_n (pc := 10) C dX10_find_10 0 rfl ?_
    obtain ⟨a3, ea3, h⟩ := h
    refine r_getr (pc := 11) C fL_X10_76 dX10_find_11 o_v0 ea3 ?_
    refine r_iload_n (pc := 14) C dX10_find_14 2 rfl ?_
    obtain ⟨o_a3, h⟩ := h
    obtain ⟨i4, h⟩ := h
    refine r_lald (pc := 15) C dX10_find_15 o_a3 i4 ?_
    refine r_topl (fun x5 ex5 => ?_)
    have h := h x5 ex5
    refine r_lload_n (pc := 16) C dX10_find_16 1 rfl ?_
    refine r_lcmp (pc := 17) C dX10_find_17 ?_
    refine r_if_ne (pc := 18) C (tgt := 23) dX10_find_18 (by decide) (fun c6 => ?_) (fun c6 => ?_)
    · have h := h.1 c6
      obtain ⟨x7, ex7⟩ : ∃ z : Int32, z = v3 + (1 : Int32) := ⟨_, rfl⟩
      have h := h x7 ex7
      refine r_iinc (pc := 23) C (v := x7) (lv' := [(3, .int x7), (0, .ref v0), (1, .long v1)]) dX10_find_23 2 rfl ex7.symm (by decide) rfl ?_
      refine r_goto (pc := 26) C (tgt := 2) dX10_find_26 (by decide) ?_
      exact r_sub [1, 2, 0] rfl (hX2 v0 v1 x7 S h)
    · have h := h.2 c6
      refine r_iload_n (pc := 21) C dX10_find_21 2 rfl ?_
      exact r_iret (pc := 22) C E ht dX10_find_22 (by decide) (by decide) h
theorem T_X10_find_2 {X : CX} {Q : Int32 → HS → Prop} (C : Cx X cX10_find RX10 4 rm_X10_find) (E : ReI X rm_X10_find Q) (ht : (xh X).sig.returnType = (some .int)) (hn : (xh X).name = yX10_find.name) {v0 : Nat} {v1 : Int64} {v3 : Int32} {S : HS} (h : P_X10_find_2 Q v0 v1 v3 S) : WS X 4 0 0 2 [(0, .ref v0), (1, .long v1), (3, .int v3)] [] S :=
  h (fun v0 v1 v3 S => WS X 4 0 0 2 [(0, .ref v0), (1, .long v1), (3, .int v3)] [] S) (fun v0 v1 v3 S hh => TB_X10_find_2 C E ht hn (fun v0 v1 v3 S z => z) hh)
def P_X10_find_0 (Q : Int32 → HS → Prop) (v0 : Nat) (v1 : Int64) (S : HS) : Prop := P_X10_find_2 Q v0 v1 (0 : Int32) S
set_option maxRecDepth 20000 in
set_option maxHeartbeats 4000000 in
theorem T_X10_find_0 {X : CX} {Q : Int32 → HS → Prop} (C : Cx X cX10_find RX10 4 rm_X10_find) (E : ReI X rm_X10_find Q) (ht : (xh X).sig.returnType = (some .int)) (hn : (xh X).name = yX10_find.name) {v0 : Nat} {v1 : Int64} {S : HS} (h : P_X10_find_0 Q v0 v1 S) : WS X 4 0 0 0 [(0, .ref v0), (1, .long v1)] [] S := by
  refine r_iconst (pc := 0) C (v := (0 : Int32)) dX10_find_0 (by decide) ?_
  refine r_istore_n (pc := 1) C dX10_find_1 rfl (by decide) (lv' := [(3, .int (0 : Int32)), (0, .ref v0), (1, .long v1)]) rfl ?_
  exact r_sub [1, 2, 0] rfl (T_X10_find_2 C E ht hn h)
def P_X10_find (v0 : Nat) (v1 : Int64) (Q : Int32 → HS → Prop) (S : HS) : Prop := P_X10_find_0 Q v0 v1 S
theorem c_X10_find {l : Launch} {Ee : EE} {S : HS} {v0 : Nat} {v1 : Int64} {Q : Int32 → HS → Prop} (h : P_X10_find v0 v1 Q S) : MI l yX10_find cX10_find 4 (some .int) rm_X10_find Ee S [.ref v0, .long v1] Q :=
  openI (by decide) (Nat.le_of_ble_eq_true rfl) (fun X C E ht hn hE hl => by subst hE; exact r_sub [0, 1] rfl (T_X10_find_0 C E ht hn h))
def rm_X10_init : Room := { frames := 1, cells := 24, slots := 194, locals := 20 }
def P_X10_init_0 (Q : HS → Prop) (v0 : Nat) (S : HS) : Prop := ∀ a1 : Nat, a1 ∉ hL S → ∀ S2 : HS, S2 = nW S a1 13 6 → (ob S2 v0 10 ∧ (∀ S3 : HS, S3 = sR S2 v0 7 (some a1) → (∀ a4 : Nat, a4 ∉ hL S3 → ∀ S5 : HS, S5 = nW S3 a4 13 6 → (∀ S6 : HS, S6 = sR S5 v0 8 (some a4) → (∀ a7 : Nat, a7 ∉ hL S6 → ∀ S8 : HS, S8 = nW S6 a7 13 6 → (∀ S9 : HS, S9 = sR S8 v0 9 (some a7) → (∀ a10 : Nat, a10 ∉ hL S9 → ∀ S11 : HS, S11 = nW S9 a10 13 6 → (∀ S12 : HS, S12 = sR S11 v0 10 (some a10) → (∀ a13 : Nat, a13 ∉ hL S12 → ∀ S14 : HS, S14 = nW S12 a13 13 6 → (∀ S15 : HS, S15 = sR S14 v0 11 (some a13) → (∀ a16 : Nat, a16 ∉ hL S15 → ∀ S17 : HS, S17 = nW S15 a16 13 8 → (∀ S18 : HS, S18 = sR S17 v0 12 (some a16) → (∀ a19 : Nat, a19 ∉ hL S18 → ∀ S20 : HS, S20 = nW S18 a19 13 12 → (∀ S21 : HS, S21 = sR S20 v0 13 (some a19) → (∀ a22 : Nat, a22 ∉ hL S21 → ∀ S23 : HS, S23 = nW S21 a22 13 12 → (∀ S24 : HS, S24 = sR S23 v0 14 (some a22) → (∀ a25 : Nat, a25 ∉ hL S24 → ∀ S26 : HS, S26 = nW S24 a25 13 12 → (∀ S27 : HS, S27 = sR S26 v0 15 (some a25) → (∀ a28 : Nat, a28 ∉ hL S27 → ∀ S29 : HS, S29 = nW S27 a28 13 12 → (∀ S30 : HS, S30 = sR S29 v0 16 (some a28) → (∀ a31 : Nat, a31 ∉ hL S30 → ∀ S32 : HS, S32 = nW S30 a31 13 12 → (∀ S33 : HS, S33 = sR S32 v0 17 (some a31) → (∀ a34 : Nat, a34 ∉ hL S33 → ∀ S35 : HS, S35 = nW S33 a34 15 8 → (∀ S36 : HS, S36 = sR S35 v0 18 (some a34) → (∀ a37 : Nat, a37 ∉ hL S36 → ∀ S38 : HS, S38 = nW S36 a37 13 4 → (∀ S39 : HS, S39 = sR S38 v0 19 (some a37) → (∀ a40 : Nat, a40 ∉ hL S39 → ∀ S41 : HS, S41 = nW S39 a40 13 4 → (∀ S42 : HS, S42 = sR S41 v0 20 (some a40) → (∀ a43 : Nat, a43 ∉ hL S42 → ∀ S44 : HS, S44 = nW S42 a43 13 4 → (∀ S45 : HS, S45 = sR S44 v0 21 (some a43) → (∀ a46 : Nat, a46 ∉ hL S45 → ∀ S47 : HS, S47 = nW S45 a46 13 4 → (∀ S48 : HS, S48 = sR S47 v0 22 (some a46) → (∀ a49 : Nat, a49 ∉ hL S48 → ∀ S50 : HS, S50 = nW S48 a49 13 4 → (∀ S51 : HS, S51 = sR S50 v0 23 (some a49) → (∀ a52 : Nat, a52 ∉ hL S51 → ∀ S53 : HS, S53 = nW S51 a52 13 4 → (∀ S54 : HS, S54 = sR S53 v0 24 (some a52) → (∀ a55 : Nat, a55 ∉ hL S54 → ∀ S56 : HS, S56 = nW S54 a55 13 4 → (∀ S57 : HS, S57 = sR S56 v0 25 (some a55) → (∀ a58 : Nat, a58 ∉ hL S57 → ∀ S59 : HS, S59 = nW S57 a58 13 4 → (∀ S60 : HS, S60 = sR S59 v0 26 (some a58) → (∀ a61 : Nat, a61 ∉ hL S60 → ∀ S62 : HS, S62 = nW S60 a61 13 20 → (∀ S63 : HS, S63 = sR S62 v0 27 (some a61) → (∀ a64 : Nat, a64 ∉ hL S63 → ∀ S65 : HS, S65 = nW S63 a64 14 12 → (∀ S66 : HS, S66 = sR S65 v0 28 (some a64) → (∀ a67 : Nat, a67 ∉ hL S66 → ∀ S68 : HS, S68 = nW S66 a67 13 12 → (∀ S69 : HS, S69 = sR S68 v0 29 (some a67) → (∀ a70 : Nat, a70 ∉ hL S69 → ∀ S71 : HS, S71 = nW S69 a70 13 12 → (∀ S72 : HS, S72 = sR S71 v0 30 (some a70) → (Q S72)))))))))))))))))))))))))))))))))))))))))))))))))
set_option maxRecDepth 20000 in
set_option maxHeartbeats 4000000 in
theorem T_X10_init_0 {X : CX} {Q : HS → Prop} (C : Cx X cX10_init RX10 1 rm_X10_init) (E : ReV X rm_X10_init Q) (ht : (xh X).sig.returnType = none) (hn : (xh X).name = yX10_init.name) {v0 : Nat} {S : HS} (h : P_X10_init_0 Q v0 S) : WS X 1 0 0 0 [(0, .ref v0)] [] S := by
  refine r_aload_n (pc := 0) C dX10_init_0 0 rfl ?_
  refine r_objinit (pc := 1) C g_1259 dX10_init_1 (by decide) (Nat.le_of_ble_eq_true rfl) ?_
  refine r_aload_n (pc := 4) C dX10_init_4 0 rfl ?_
  refine r_bipush (pc := 5) C (v := (6 : Int32)) dX10_init_5 (by decide) ?_
  refine r_newa13 (pc := 7) C (N := 6) g_72 dX10_init_7 (by decide) (by decide) (by decide) (by decide) (by decide) (fun a1 q119 => ?_)
  refine r_heap (fun S2 eS2 => ?_)
  have h := h a1 q119 S2 eS2
  have g120 := gr_of_new eS2 q119
  have o_a1 := ob_of_new eS2
  obtain ⟨o_v0, h⟩ := h
  refine r_putFr (pc := 9) C pfL_X10_9 hn dX10_init_9 o_v0 ?_
  refine r_heap (fun S3 eS3 => ?_)
  have h := h S3 eS3
  have o_a1 := ob_R eS3 o_a1
  have o_v0 := ob_R eS3 o_v0
  refine r_aload_n (pc := 12) C dX10_init_12 0 rfl ?_
  refine r_bipush (pc := 13) C (v := (6 : Int32)) dX10_init_13 (by decide) ?_
  refine r_newa13 (pc := 15) C (N := 6) g_72 dX10_init_15 (by decide) (by decide) (by decide) (by decide) (by decide) (fun a4 q117 => ?_)
  refine r_heap (fun S5 eS5 => ?_)
  have h := h a4 q117 S5 eS5
  have g118 := gr_of_new eS5 q117
  have o_a4 := ob_of_new eS5
  have o_a1 := gr_ob g118 o_a1
  have o_v0 := gr_ob g118 o_v0
  refine r_putFr (pc := 17) C pfL_X10_15 hn dX10_init_17 o_v0 ?_
  refine r_heap (fun S6 eS6 => ?_)
  have h := h S6 eS6
  have o_a1 := ob_R eS6 o_a1
  have o_a4 := ob_R eS6 o_a4
  have o_v0 := ob_R eS6 o_v0
  refine r_aload_n (pc := 20) C dX10_init_20 0 rfl ?_
  refine r_bipush (pc := 21) C (v := (6 : Int32)) dX10_init_21 (by decide) ?_
  refine r_newa13 (pc := 23) C (N := 6) g_72 dX10_init_23 (by decide) (by decide) (by decide) (by decide) (by decide) (fun a7 q115 => ?_)
  refine r_heap (fun S8 eS8 => ?_)
  have h := h a7 q115 S8 eS8
  have g116 := gr_of_new eS8 q115
  have o_a7 := ob_of_new eS8
  have o_a1 := gr_ob g116 o_a1
  have o_a4 := gr_ob g116 o_a4
  have o_v0 := gr_ob g116 o_v0
  refine r_putFr (pc := 25) C pfL_X10_18 hn dX10_init_25 o_v0 ?_
  refine r_heap (fun S9 eS9 => ?_)
  have h := h S9 eS9
  have o_a1 := ob_R eS9 o_a1
  have o_a4 := ob_R eS9 o_a4
  have o_a7 := ob_R eS9 o_a7
  have o_v0 := ob_R eS9 o_v0
  refine r_aload_n (pc := 28) C dX10_init_28 0 rfl ?_
  refine r_bipush (pc := 29) C (v := (6 : Int32)) dX10_init_29 (by decide) ?_
  refine r_newa13 (pc := 31) C (N := 6) g_72 dX10_init_31 (by decide) (by decide) (by decide) (by decide) (by decide) (fun a10 q113 => ?_)
  refine r_heap (fun S11 eS11 => ?_)
  have h := h a10 q113 S11 eS11
  have g114 := gr_of_new eS11 q113
  have o_a10 := ob_of_new eS11
  have o_a1 := gr_ob g114 o_a1
  have o_a4 := gr_ob g114 o_a4
  have o_a7 := gr_ob g114 o_a7
  have o_v0 := gr_ob g114 o_v0
  refine r_putFr (pc := 33) C pfL_X10_21 hn dX10_init_33 o_v0 ?_
  refine r_heap (fun S12 eS12 => ?_)
  have h := h S12 eS12
  have o_a1 := ob_R eS12 o_a1
  have o_a10 := ob_R eS12 o_a10
  have o_a4 := ob_R eS12 o_a4
  have o_a7 := ob_R eS12 o_a7
  have o_v0 := ob_R eS12 o_v0
  refine r_aload_n (pc := 36) C dX10_init_36 0 rfl ?_
  refine r_bipush (pc := 37) C (v := (6 : Int32)) dX10_init_37 (by decide) ?_
  refine r_newa13 (pc := 39) C (N := 6) g_72 dX10_init_39 (by decide) (by decide) (by decide) (by decide) (by decide) (fun a13 q111 => ?_)
  refine r_heap (fun S14 eS14 => ?_)
  have h := h a13 q111 S14 eS14
  have g112 := gr_of_new eS14 q111
  have o_a13 := ob_of_new eS14
  have o_a1 := gr_ob g112 o_a1
  have o_a10 := gr_ob g112 o_a10
  have o_a4 := gr_ob g112 o_a4
  have o_a7 := gr_ob g112 o_a7
  have o_v0 := gr_ob g112 o_v0
  refine r_putFr (pc := 41) C pfL_X10_24 hn dX10_init_41 o_v0 ?_
  refine r_heap (fun S15 eS15 => ?_)
  have h := h S15 eS15
  have o_a1 := ob_R eS15 o_a1
  have o_a10 := ob_R eS15 o_a10
  have o_a13 := ob_R eS15 o_a13
  have o_a4 := ob_R eS15 o_a4
  have o_a7 := ob_R eS15 o_a7
  have o_v0 := ob_R eS15 o_v0
  refine r_aload_n (pc := 44) C dX10_init_44 0 rfl ?_
  refine r_bipush (pc := 45) C (v := (8 : Int32)) dX10_init_45 (by decide) ?_
  refine r_newa13 (pc := 47) C (N := 8) g_72 dX10_init_47 (by decide) (by decide) (by decide) (by decide) (by decide) (fun a16 q109 => ?_)
  refine r_heap (fun S17 eS17 => ?_)
  have h := h a16 q109 S17 eS17
  have g110 := gr_of_new eS17 q109
  have o_a16 := ob_of_new eS17
  have o_a1 := gr_ob g110 o_a1
  have o_a10 := gr_ob g110 o_a10
  have o_a13 := gr_ob g110 o_a13
  have o_a4 := gr_ob g110 o_a4
  have o_a7 := gr_ob g110 o_a7
  have o_v0 := gr_ob g110 o_v0
  refine r_putFr (pc := 49) C pfL_X10_27 hn dX10_init_49 o_v0 ?_
  refine r_heap (fun S18 eS18 => ?_)
  have h := h S18 eS18
  have o_a1 := ob_R eS18 o_a1
  have o_a10 := ob_R eS18 o_a10
  have o_a13 := ob_R eS18 o_a13
  have o_a16 := ob_R eS18 o_a16
  have o_a4 := ob_R eS18 o_a4
  have o_a7 := ob_R eS18 o_a7
  have o_v0 := ob_R eS18 o_v0
  refine r_aload_n (pc := 52) C dX10_init_52 0 rfl ?_
  refine r_bipush (pc := 53) C (v := (12 : Int32)) dX10_init_53 (by decide) ?_
  refine r_newa13 (pc := 55) C (N := 12) g_72 dX10_init_55 (by decide) (by decide) (by decide) (by decide) (by decide) (fun a19 q107 => ?_)
  refine r_heap (fun S20 eS20 => ?_)
  have h := h a19 q107 S20 eS20
  have g108 := gr_of_new eS20 q107
  have o_a19 := ob_of_new eS20
  have o_a1 := gr_ob g108 o_a1
  have o_a10 := gr_ob g108 o_a10
  have o_a13 := gr_ob g108 o_a13
  have o_a16 := gr_ob g108 o_a16
  have o_a4 := gr_ob g108 o_a4
  have o_a7 := gr_ob g108 o_a7
  have o_v0 := gr_ob g108 o_v0
  refine r_putFr (pc := 57) C pfL_X10_30 hn dX10_init_57 o_v0 ?_
  refine r_heap (fun S21 eS21 => ?_)
  have h := h S21 eS21
  have o_a1 := ob_R eS21 o_a1
  have o_a10 := ob_R eS21 o_a10
  have o_a13 := ob_R eS21 o_a13
  have o_a16 := ob_R eS21 o_a16
  have o_a19 := ob_R eS21 o_a19
  have o_a4 := ob_R eS21 o_a4
  have o_a7 := ob_R eS21 o_a7
  have o_v0 := ob_R eS21 o_v0
  refine r_aload_n (pc := 60) C dX10_init_60 0 rfl ?_
  refine r_bipush (pc := 61) C (v := (12 : Int32)) dX10_init_61 (by decide) ?_
  refine r_newa13 (pc := 63) C (N := 12) g_72 dX10_init_63 (by decide) (by decide) (by decide) (by decide) (by decide) (fun a22 q105 => ?_)
  refine r_heap (fun S23 eS23 => ?_)
  have h := h a22 q105 S23 eS23
  have g106 := gr_of_new eS23 q105
  have o_a22 := ob_of_new eS23
  have o_a1 := gr_ob g106 o_a1
  have o_a10 := gr_ob g106 o_a10
  have o_a13 := gr_ob g106 o_a13
  have o_a16 := gr_ob g106 o_a16
  have o_a19 := gr_ob g106 o_a19
  have o_a4 := gr_ob g106 o_a4
  have o_a7 := gr_ob g106 o_a7
  have o_v0 := gr_ob g106 o_v0
  refine r_putFr (pc := 65) C pfL_X10_33 hn dX10_init_65 o_v0 ?_
  refine r_heap (fun S24 eS24 => ?_)
  have h := h S24 eS24
  have o_a1 := ob_R eS24 o_a1
  have o_a10 := ob_R eS24 o_a10
  have o_a13 := ob_R eS24 o_a13
  have o_a16 := ob_R eS24 o_a16
  have o_a19 := ob_R eS24 o_a19
  have o_a22 := ob_R eS24 o_a22
  have o_a4 := ob_R eS24 o_a4
  have o_a7 := ob_R eS24 o_a7
  have o_v0 := ob_R eS24 o_v0
  refine r_aload_n (pc := 68) C dX10_init_68 0 rfl ?_
  refine r_bipush (pc := 69) C (v := (12 : Int32)) dX10_init_69 (by decide) ?_
  refine r_newa13 (pc := 71) C (N := 12) g_72 dX10_init_71 (by decide) (by decide) (by decide) (by decide) (by decide) (fun a25 q103 => ?_)
  refine r_heap (fun S26 eS26 => ?_)
  have h := h a25 q103 S26 eS26
  have g104 := gr_of_new eS26 q103
  have o_a25 := ob_of_new eS26
  have o_a1 := gr_ob g104 o_a1
  have o_a10 := gr_ob g104 o_a10
  have o_a13 := gr_ob g104 o_a13
  have o_a16 := gr_ob g104 o_a16
  have o_a19 := gr_ob g104 o_a19
  have o_a22 := gr_ob g104 o_a22
  have o_a4 := gr_ob g104 o_a4
  have o_a7 := gr_ob g104 o_a7
  have o_v0 := gr_ob g104 o_v0
  refine r_putFr (pc := 73) C pfL_X10_36 hn dX10_init_73 o_v0 ?_
  refine r_heap (fun S27 eS27 => ?_)
  have h := h S27 eS27
  have o_a1 := ob_R eS27 o_a1
  have o_a10 := ob_R eS27 o_a10
  have o_a13 := ob_R eS27 o_a13
  have o_a16 := ob_R eS27 o_a16
  have o_a19 := ob_R eS27 o_a19
  have o_a22 := ob_R eS27 o_a22
  have o_a25 := ob_R eS27 o_a25
  have o_a4 := ob_R eS27 o_a4
  have o_a7 := ob_R eS27 o_a7
  have o_v0 := ob_R eS27 o_v0
  refine r_aload_n (pc := 76) C dX10_init_76 0 rfl ?_
  refine r_bipush (pc := 77) C (v := (12 : Int32)) dX10_init_77 (by decide) ?_
  refine r_newa13 (pc := 79) C (N := 12) g_72 dX10_init_79 (by decide) (by decide) (by decide) (by decide) (by decide) (fun a28 q101 => ?_)
  refine r_heap (fun S29 eS29 => ?_)
  have h := h a28 q101 S29 eS29
  have g102 := gr_of_new eS29 q101
  have o_a28 := ob_of_new eS29
  have o_a1 := gr_ob g102 o_a1
  have o_a10 := gr_ob g102 o_a10
  have o_a13 := gr_ob g102 o_a13
  have o_a16 := gr_ob g102 o_a16
  have o_a19 := gr_ob g102 o_a19
  have o_a22 := gr_ob g102 o_a22
  have o_a25 := gr_ob g102 o_a25
  have o_a4 := gr_ob g102 o_a4
  have o_a7 := gr_ob g102 o_a7
  have o_v0 := gr_ob g102 o_v0
  refine r_putFr (pc := 81) C pfL_X10_39 hn dX10_init_81 o_v0 ?_
  refine r_heap (fun S30 eS30 => ?_)
  have h := h S30 eS30
  have o_a1 := ob_R eS30 o_a1
  have o_a10 := ob_R eS30 o_a10
  have o_a13 := ob_R eS30 o_a13
  have o_a16 := ob_R eS30 o_a16
  have o_a19 := ob_R eS30 o_a19
  have o_a22 := ob_R eS30 o_a22
  have o_a25 := ob_R eS30 o_a25
  have o_a28 := ob_R eS30 o_a28
  have o_a4 := ob_R eS30 o_a4
  have o_a7 := ob_R eS30 o_a7
  have o_v0 := ob_R eS30 o_v0
  refine r_aload_n (pc := 84) C dX10_init_84 0 rfl ?_
  refine r_bipush (pc := 85) C (v := (12 : Int32)) dX10_init_85 (by decide) ?_
  refine r_newa13 (pc := 87) C (N := 12) g_72 dX10_init_87 (by decide) (by decide) (by decide) (by decide) (by decide) (fun a31 q99 => ?_)
  refine r_heap (fun S32 eS32 => ?_)
  have h := h a31 q99 S32 eS32
  have g100 := gr_of_new eS32 q99
  have o_a31 := ob_of_new eS32
  have o_a1 := gr_ob g100 o_a1
  have o_a10 := gr_ob g100 o_a10
  have o_a13 := gr_ob g100 o_a13
  have o_a16 := gr_ob g100 o_a16
  have o_a19 := gr_ob g100 o_a19
  have o_a22 := gr_ob g100 o_a22
  have o_a25 := gr_ob g100 o_a25
  have o_a28 := gr_ob g100 o_a28
  have o_a4 := gr_ob g100 o_a4
  have o_a7 := gr_ob g100 o_a7
  have o_v0 := gr_ob g100 o_v0
  refine r_putFr (pc := 89) C pfL_X10_42 hn dX10_init_89 o_v0 ?_
  refine r_heap (fun S33 eS33 => ?_)
  have h := h S33 eS33
  have o_a1 := ob_R eS33 o_a1
  have o_a10 := ob_R eS33 o_a10
  have o_a13 := ob_R eS33 o_a13
  have o_a16 := ob_R eS33 o_a16
  have o_a19 := ob_R eS33 o_a19
  have o_a22 := ob_R eS33 o_a22
  have o_a25 := ob_R eS33 o_a25
  have o_a28 := ob_R eS33 o_a28
  have o_a31 := ob_R eS33 o_a31
  have o_a4 := ob_R eS33 o_a4
  have o_a7 := ob_R eS33 o_a7
  have o_v0 := ob_R eS33 o_v0
  refine r_aload_n (pc := 92) C dX10_init_92 0 rfl ?_
  refine r_bipush (pc := 93) C (v := (8 : Int32)) dX10_init_93 (by decide) ?_
  refine r_newa15 (pc := 95) C (N := 8) g_1379 dX10_init_95 (by decide) (by decide) (by decide) (by decide) (by decide) (fun a34 q97 => ?_)
  refine r_heap (fun S35 eS35 => ?_)
  have h := h a34 q97 S35 eS35
  have g98 := gr_of_new eS35 q97
  have o_a34 := ob_of_new eS35
  have o_a1 := gr_ob g98 o_a1
  have o_a10 := gr_ob g98 o_a10
  have o_a13 := gr_ob g98 o_a13
  have o_a16 := gr_ob g98 o_a16
  have o_a19 := gr_ob g98 o_a19
  have o_a22 := gr_ob g98 o_a22
  have o_a25 := gr_ob g98 o_a25
  have o_a28 := gr_ob g98 o_a28
  have o_a31 := gr_ob g98 o_a31
  have o_a4 := gr_ob g98 o_a4
  have o_a7 := gr_ob g98 o_a7
  have o_v0 := gr_ob g98 o_v0
  refine r_putFr (pc := 97) C pfL_X10_45 hn dX10_init_97 o_v0 ?_
  refine r_heap (fun S36 eS36 => ?_)
  have h := h S36 eS36
  have o_a1 := ob_R eS36 o_a1
  have o_a10 := ob_R eS36 o_a10
  have o_a13 := ob_R eS36 o_a13
  have o_a16 := ob_R eS36 o_a16
  have o_a19 := ob_R eS36 o_a19
  have o_a22 := ob_R eS36 o_a22
  have o_a25 := ob_R eS36 o_a25
  have o_a28 := ob_R eS36 o_a28
  have o_a31 := ob_R eS36 o_a31
  have o_a34 := ob_R eS36 o_a34
  have o_a4 := ob_R eS36 o_a4
  have o_a7 := ob_R eS36 o_a7
  have o_v0 := ob_R eS36 o_v0
  refine r_aload_n (pc := 100) C dX10_init_100 0 rfl ?_
  refine r_iconst (pc := 101) C (v := (4 : Int32)) dX10_init_101 (by decide) ?_
  refine r_newa13 (pc := 102) C (N := 4) g_72 dX10_init_102 (by decide) (by decide) (by decide) (by decide) (by decide) (fun a37 q95 => ?_)
  refine r_heap (fun S38 eS38 => ?_)
  have h := h a37 q95 S38 eS38
  have g96 := gr_of_new eS38 q95
  have o_a37 := ob_of_new eS38
  have o_a1 := gr_ob g96 o_a1
  have o_a10 := gr_ob g96 o_a10
  have o_a13 := gr_ob g96 o_a13
  have o_a16 := gr_ob g96 o_a16
  have o_a19 := gr_ob g96 o_a19
  have o_a22 := gr_ob g96 o_a22
  have o_a25 := gr_ob g96 o_a25
  have o_a28 := gr_ob g96 o_a28
  have o_a31 := gr_ob g96 o_a31
  have o_a34 := gr_ob g96 o_a34
  have o_a4 := gr_ob g96 o_a4
  have o_a7 := gr_ob g96 o_a7
  have o_v0 := gr_ob g96 o_v0
  refine r_putFr (pc := 104) C pfL_X10_49 hn dX10_init_104 o_v0 ?_
  refine r_heap (fun S39 eS39 => ?_)
  have h := h S39 eS39
  have o_a1 := ob_R eS39 o_a1
  have o_a10 := ob_R eS39 o_a10
  have o_a13 := ob_R eS39 o_a13
  have o_a16 := ob_R eS39 o_a16
  have o_a19 := ob_R eS39 o_a19
  have o_a22 := ob_R eS39 o_a22
  have o_a25 := ob_R eS39 o_a25
  have o_a28 := ob_R eS39 o_a28
  have o_a31 := ob_R eS39 o_a31
  have o_a34 := ob_R eS39 o_a34
  have o_a37 := ob_R eS39 o_a37
  have o_a4 := ob_R eS39 o_a4
  have o_a7 := ob_R eS39 o_a7
  have o_v0 := ob_R eS39 o_v0
  refine r_aload_n (pc := 107) C dX10_init_107 0 rfl ?_
  refine r_iconst (pc := 108) C (v := (4 : Int32)) dX10_init_108 (by decide) ?_
  refine r_newa13 (pc := 109) C (N := 4) g_72 dX10_init_109 (by decide) (by decide) (by decide) (by decide) (by decide) (fun a40 q93 => ?_)
  refine r_heap (fun S41 eS41 => ?_)
  have h := h a40 q93 S41 eS41
  have g94 := gr_of_new eS41 q93
  have o_a40 := ob_of_new eS41
  have o_a1 := gr_ob g94 o_a1
  have o_a10 := gr_ob g94 o_a10
  have o_a13 := gr_ob g94 o_a13
  have o_a16 := gr_ob g94 o_a16
  have o_a19 := gr_ob g94 o_a19
  have o_a22 := gr_ob g94 o_a22
  have o_a25 := gr_ob g94 o_a25
  have o_a28 := gr_ob g94 o_a28
  have o_a31 := gr_ob g94 o_a31
  have o_a34 := gr_ob g94 o_a34
  have o_a37 := gr_ob g94 o_a37
  have o_a4 := gr_ob g94 o_a4
  have o_a7 := gr_ob g94 o_a7
  have o_v0 := gr_ob g94 o_v0
  refine r_putFr (pc := 111) C pfL_X10_52 hn dX10_init_111 o_v0 ?_
  refine r_heap (fun S42 eS42 => ?_)
  have h := h S42 eS42
  have o_a1 := ob_R eS42 o_a1
  have o_a10 := ob_R eS42 o_a10
  have o_a13 := ob_R eS42 o_a13
  have o_a16 := ob_R eS42 o_a16
  have o_a19 := ob_R eS42 o_a19
  have o_a22 := ob_R eS42 o_a22
  have o_a25 := ob_R eS42 o_a25
  have o_a28 := ob_R eS42 o_a28
  have o_a31 := ob_R eS42 o_a31
  have o_a34 := ob_R eS42 o_a34
  have o_a37 := ob_R eS42 o_a37
  have o_a4 := ob_R eS42 o_a4
  have o_a40 := ob_R eS42 o_a40
  have o_a7 := ob_R eS42 o_a7
  have o_v0 := ob_R eS42 o_v0
  refine r_aload_n (pc := 114) C dX10_init_114 0 rfl ?_
  refine r_iconst (pc := 115) C (v := (4 : Int32)) dX10_init_115 (by decide) ?_
  refine r_newa13 (pc := 116) C (N := 4) g_72 dX10_init_116 (by decide) (by decide) (by decide) (by decide) (by decide) (fun a43 q91 => ?_)
  refine r_heap (fun S44 eS44 => ?_)
  have h := h a43 q91 S44 eS44
  have g92 := gr_of_new eS44 q91
  have o_a43 := ob_of_new eS44
  have o_a1 := gr_ob g92 o_a1
  have o_a10 := gr_ob g92 o_a10
  have o_a13 := gr_ob g92 o_a13
  have o_a16 := gr_ob g92 o_a16
  have o_a19 := gr_ob g92 o_a19
  have o_a22 := gr_ob g92 o_a22
  have o_a25 := gr_ob g92 o_a25
  have o_a28 := gr_ob g92 o_a28
  have o_a31 := gr_ob g92 o_a31
  have o_a34 := gr_ob g92 o_a34
  have o_a37 := gr_ob g92 o_a37
  have o_a4 := gr_ob g92 o_a4
  have o_a40 := gr_ob g92 o_a40
  have o_a7 := gr_ob g92 o_a7
  have o_v0 := gr_ob g92 o_v0
  refine r_putFr (pc := 118) C pfL_X10_55 hn dX10_init_118 o_v0 ?_
  refine r_heap (fun S45 eS45 => ?_)
  have h := h S45 eS45
  have o_a1 := ob_R eS45 o_a1
  have o_a10 := ob_R eS45 o_a10
  have o_a13 := ob_R eS45 o_a13
  have o_a16 := ob_R eS45 o_a16
  have o_a19 := ob_R eS45 o_a19
  have o_a22 := ob_R eS45 o_a22
  have o_a25 := ob_R eS45 o_a25
  have o_a28 := ob_R eS45 o_a28
  have o_a31 := ob_R eS45 o_a31
  have o_a34 := ob_R eS45 o_a34
  have o_a37 := ob_R eS45 o_a37
  have o_a4 := ob_R eS45 o_a4
  have o_a40 := ob_R eS45 o_a40
  have o_a43 := ob_R eS45 o_a43
  have o_a7 := ob_R eS45 o_a7
  have o_v0 := ob_R eS45 o_v0
  refine r_aload_n (pc := 121) C dX10_init_121 0 rfl ?_
  refine r_iconst (pc := 122) C (v := (4 : Int32)) dX10_init_122 (by decide) ?_
  refine r_newa13 (pc := 123) C (N := 4) g_72 dX10_init_123 (by decide) (by decide) (by decide) (by decide) (by decide) (fun a46 q89 => ?_)
  refine r_heap (fun S47 eS47 => ?_)
  have h := h a46 q89 S47 eS47
  have g90 := gr_of_new eS47 q89
  have o_a46 := ob_of_new eS47
  have o_a1 := gr_ob g90 o_a1
  have o_a10 := gr_ob g90 o_a10
  have o_a13 := gr_ob g90 o_a13
  have o_a16 := gr_ob g90 o_a16
  have o_a19 := gr_ob g90 o_a19
  have o_a22 := gr_ob g90 o_a22
  have o_a25 := gr_ob g90 o_a25
  have o_a28 := gr_ob g90 o_a28
  have o_a31 := gr_ob g90 o_a31
  have o_a34 := gr_ob g90 o_a34
  have o_a37 := gr_ob g90 o_a37
  have o_a4 := gr_ob g90 o_a4
  have o_a40 := gr_ob g90 o_a40
  have o_a43 := gr_ob g90 o_a43
  have o_a7 := gr_ob g90 o_a7
  have o_v0 := gr_ob g90 o_v0
  refine r_putFr (pc := 125) C pfL_X10_58 hn dX10_init_125 o_v0 ?_
  refine r_heap (fun S48 eS48 => ?_)
  have h := h S48 eS48
  have o_a1 := ob_R eS48 o_a1
  have o_a10 := ob_R eS48 o_a10
  have o_a13 := ob_R eS48 o_a13
  have o_a16 := ob_R eS48 o_a16
  have o_a19 := ob_R eS48 o_a19
  have o_a22 := ob_R eS48 o_a22
  have o_a25 := ob_R eS48 o_a25
  have o_a28 := ob_R eS48 o_a28
  have o_a31 := ob_R eS48 o_a31
  have o_a34 := ob_R eS48 o_a34
  have o_a37 := ob_R eS48 o_a37
  have o_a4 := ob_R eS48 o_a4
  have o_a40 := ob_R eS48 o_a40
  have o_a43 := ob_R eS48 o_a43
  have o_a46 := ob_R eS48 o_a46
  have o_a7 := ob_R eS48 o_a7
  have o_v0 := ob_R eS48 o_v0
  refine r_aload_n (pc := 128) C dX10_init_128 0 rfl ?_
  refine r_iconst (pc := 129) C (v := (4 : Int32)) dX10_init_129 (by decide) ?_
  refine r_newa13 (pc := 130) C (N := 4) g_72 dX10_init_130 (by decide) (by decide) (by decide) (by decide) (by decide) (fun a49 q87 => ?_)
  refine r_heap (fun S50 eS50 => ?_)
  have h := h a49 q87 S50 eS50
  have g88 := gr_of_new eS50 q87
  have o_a49 := ob_of_new eS50
  have o_a1 := gr_ob g88 o_a1
  have o_a10 := gr_ob g88 o_a10
  have o_a13 := gr_ob g88 o_a13
  have o_a16 := gr_ob g88 o_a16
  have o_a19 := gr_ob g88 o_a19
  have o_a22 := gr_ob g88 o_a22
  have o_a25 := gr_ob g88 o_a25
  have o_a28 := gr_ob g88 o_a28
  have o_a31 := gr_ob g88 o_a31
  have o_a34 := gr_ob g88 o_a34
  have o_a37 := gr_ob g88 o_a37
  have o_a4 := gr_ob g88 o_a4
  have o_a40 := gr_ob g88 o_a40
  have o_a43 := gr_ob g88 o_a43
  have o_a46 := gr_ob g88 o_a46
  have o_a7 := gr_ob g88 o_a7
  have o_v0 := gr_ob g88 o_v0
  refine r_putFr (pc := 132) C pfL_X10_61 hn dX10_init_132 o_v0 ?_
  refine r_heap (fun S51 eS51 => ?_)
  have h := h S51 eS51
  have o_a1 := ob_R eS51 o_a1
  have o_a10 := ob_R eS51 o_a10
  have o_a13 := ob_R eS51 o_a13
  have o_a16 := ob_R eS51 o_a16
  have o_a19 := ob_R eS51 o_a19
  have o_a22 := ob_R eS51 o_a22
  have o_a25 := ob_R eS51 o_a25
  have o_a28 := ob_R eS51 o_a28
  have o_a31 := ob_R eS51 o_a31
  have o_a34 := ob_R eS51 o_a34
  have o_a37 := ob_R eS51 o_a37
  have o_a4 := ob_R eS51 o_a4
  have o_a40 := ob_R eS51 o_a40
  have o_a43 := ob_R eS51 o_a43
  have o_a46 := ob_R eS51 o_a46
  have o_a49 := ob_R eS51 o_a49
  have o_a7 := ob_R eS51 o_a7
  have o_v0 := ob_R eS51 o_v0
  refine r_aload_n (pc := 135) C dX10_init_135 0 rfl ?_
  refine r_iconst (pc := 136) C (v := (4 : Int32)) dX10_init_136 (by decide) ?_
  refine r_newa13 (pc := 137) C (N := 4) g_72 dX10_init_137 (by decide) (by decide) (by decide) (by decide) (by decide) (fun a52 q85 => ?_)
  refine r_heap (fun S53 eS53 => ?_)
  have h := h a52 q85 S53 eS53
  have g86 := gr_of_new eS53 q85
  have o_a52 := ob_of_new eS53
  have o_a1 := gr_ob g86 o_a1
  have o_a10 := gr_ob g86 o_a10
  have o_a13 := gr_ob g86 o_a13
  have o_a16 := gr_ob g86 o_a16
  have o_a19 := gr_ob g86 o_a19
  have o_a22 := gr_ob g86 o_a22
  have o_a25 := gr_ob g86 o_a25
  have o_a28 := gr_ob g86 o_a28
  have o_a31 := gr_ob g86 o_a31
  have o_a34 := gr_ob g86 o_a34
  have o_a37 := gr_ob g86 o_a37
  have o_a4 := gr_ob g86 o_a4
  have o_a40 := gr_ob g86 o_a40
  have o_a43 := gr_ob g86 o_a43
  have o_a46 := gr_ob g86 o_a46
  have o_a49 := gr_ob g86 o_a49
  have o_a7 := gr_ob g86 o_a7
  have o_v0 := gr_ob g86 o_v0
  refine r_putFr (pc := 139) C pfL_X10_64 hn dX10_init_139 o_v0 ?_
  refine r_heap (fun S54 eS54 => ?_)
  have h := h S54 eS54
  have o_a1 := ob_R eS54 o_a1
  have o_a10 := ob_R eS54 o_a10
  have o_a13 := ob_R eS54 o_a13
  have o_a16 := ob_R eS54 o_a16
  have o_a19 := ob_R eS54 o_a19
  have o_a22 := ob_R eS54 o_a22
  have o_a25 := ob_R eS54 o_a25
  have o_a28 := ob_R eS54 o_a28
  have o_a31 := ob_R eS54 o_a31
  have o_a34 := ob_R eS54 o_a34
  have o_a37 := ob_R eS54 o_a37
  have o_a4 := ob_R eS54 o_a4
  have o_a40 := ob_R eS54 o_a40
  have o_a43 := ob_R eS54 o_a43
  have o_a46 := ob_R eS54 o_a46
  have o_a49 := ob_R eS54 o_a49
  have o_a52 := ob_R eS54 o_a52
  have o_a7 := ob_R eS54 o_a7
  have o_v0 := ob_R eS54 o_v0
  refine r_aload_n (pc := 142) C dX10_init_142 0 rfl ?_
  refine r_iconst (pc := 143) C (v := (4 : Int32)) dX10_init_143 (by decide) ?_
  refine r_newa13 (pc := 144) C (N := 4) g_72 dX10_init_144 (by decide) (by decide) (by decide) (by decide) (by decide) (fun a55 q83 => ?_)
  refine r_heap (fun S56 eS56 => ?_)
  have h := h a55 q83 S56 eS56
  have g84 := gr_of_new eS56 q83
  have o_a55 := ob_of_new eS56
  have o_a1 := gr_ob g84 o_a1
  have o_a10 := gr_ob g84 o_a10
  have o_a13 := gr_ob g84 o_a13
  have o_a16 := gr_ob g84 o_a16
  have o_a19 := gr_ob g84 o_a19
  have o_a22 := gr_ob g84 o_a22
  have o_a25 := gr_ob g84 o_a25
  have o_a28 := gr_ob g84 o_a28
  have o_a31 := gr_ob g84 o_a31
  have o_a34 := gr_ob g84 o_a34
  have o_a37 := gr_ob g84 o_a37
  have o_a4 := gr_ob g84 o_a4
  have o_a40 := gr_ob g84 o_a40
  have o_a43 := gr_ob g84 o_a43
  have o_a46 := gr_ob g84 o_a46
  have o_a49 := gr_ob g84 o_a49
  have o_a52 := gr_ob g84 o_a52
  have o_a7 := gr_ob g84 o_a7
  have o_v0 := gr_ob g84 o_v0
  refine r_putFr (pc := 146) C pfL_X10_67 hn dX10_init_146 o_v0 ?_
  refine r_heap (fun S57 eS57 => ?_)
  have h := h S57 eS57
  have o_a1 := ob_R eS57 o_a1
  have o_a10 := ob_R eS57 o_a10
  have o_a13 := ob_R eS57 o_a13
  have o_a16 := ob_R eS57 o_a16
  have o_a19 := ob_R eS57 o_a19
  have o_a22 := ob_R eS57 o_a22
  have o_a25 := ob_R eS57 o_a25
  have o_a28 := ob_R eS57 o_a28
  have o_a31 := ob_R eS57 o_a31
  have o_a34 := ob_R eS57 o_a34
  have o_a37 := ob_R eS57 o_a37
  have o_a4 := ob_R eS57 o_a4
  have o_a40 := ob_R eS57 o_a40
  have o_a43 := ob_R eS57 o_a43
  have o_a46 := ob_R eS57 o_a46
  have o_a49 := ob_R eS57 o_a49
  have o_a52 := ob_R eS57 o_a52
  have o_a55 := ob_R eS57 o_a55
  have o_a7 := ob_R eS57 o_a7
  have o_v0 := ob_R eS57 o_v0
  refine r_aload_n (pc := 149) C dX10_init_149 0 rfl ?_
  refine r_iconst (pc := 150) C (v := (4 : Int32)) dX10_init_150 (by decide) ?_
  refine r_newa13 (pc := 151) C (N := 4) g_72 dX10_init_151 (by decide) (by decide) (by decide) (by decide) (by decide) (fun a58 q81 => ?_)
  refine r_heap (fun S59 eS59 => ?_)
  have h := h a58 q81 S59 eS59
  have g82 := gr_of_new eS59 q81
  have o_a58 := ob_of_new eS59
  have o_a1 := gr_ob g82 o_a1
  have o_a10 := gr_ob g82 o_a10
  have o_a13 := gr_ob g82 o_a13
  have o_a16 := gr_ob g82 o_a16
  have o_a19 := gr_ob g82 o_a19
  have o_a22 := gr_ob g82 o_a22
  have o_a25 := gr_ob g82 o_a25
  have o_a28 := gr_ob g82 o_a28
  have o_a31 := gr_ob g82 o_a31
  have o_a34 := gr_ob g82 o_a34
  have o_a37 := gr_ob g82 o_a37
  have o_a4 := gr_ob g82 o_a4
  have o_a40 := gr_ob g82 o_a40
  have o_a43 := gr_ob g82 o_a43
  have o_a46 := gr_ob g82 o_a46
  have o_a49 := gr_ob g82 o_a49
  have o_a52 := gr_ob g82 o_a52
  have o_a55 := gr_ob g82 o_a55
  have o_a7 := gr_ob g82 o_a7
  have o_v0 := gr_ob g82 o_v0
  refine r_putFr (pc := 153) C pfL_X10_70 hn dX10_init_153 o_v0 ?_
  refine r_heap (fun S60 eS60 => ?_)
  have h := h S60 eS60
  have o_a1 := ob_R eS60 o_a1
  have o_a10 := ob_R eS60 o_a10
  have o_a13 := ob_R eS60 o_a13
  have o_a16 := ob_R eS60 o_a16
  have o_a19 := ob_R eS60 o_a19
  have o_a22 := ob_R eS60 o_a22
  have o_a25 := ob_R eS60 o_a25
  have o_a28 := ob_R eS60 o_a28
  have o_a31 := ob_R eS60 o_a31
  have o_a34 := ob_R eS60 o_a34
  have o_a37 := ob_R eS60 o_a37
  have o_a4 := ob_R eS60 o_a4
  have o_a40 := ob_R eS60 o_a40
  have o_a43 := ob_R eS60 o_a43
  have o_a46 := ob_R eS60 o_a46
  have o_a49 := ob_R eS60 o_a49
  have o_a52 := ob_R eS60 o_a52
  have o_a55 := ob_R eS60 o_a55
  have o_a58 := ob_R eS60 o_a58
  have o_a7 := ob_R eS60 o_a7
  have o_v0 := ob_R eS60 o_v0
  refine r_aload_n (pc := 156) C dX10_init_156 0 rfl ?_
  refine r_bipush (pc := 157) C (v := (20 : Int32)) dX10_init_157 (by decide) ?_
  refine r_newa13 (pc := 159) C (N := 20) g_72 dX10_init_159 (by decide) (by decide) (by decide) (by decide) (by decide) (fun a61 q79 => ?_)
  refine r_heap (fun S62 eS62 => ?_)
  have h := h a61 q79 S62 eS62
  have g80 := gr_of_new eS62 q79
  have o_a61 := ob_of_new eS62
  have o_a1 := gr_ob g80 o_a1
  have o_a10 := gr_ob g80 o_a10
  have o_a13 := gr_ob g80 o_a13
  have o_a16 := gr_ob g80 o_a16
  have o_a19 := gr_ob g80 o_a19
  have o_a22 := gr_ob g80 o_a22
  have o_a25 := gr_ob g80 o_a25
  have o_a28 := gr_ob g80 o_a28
  have o_a31 := gr_ob g80 o_a31
  have o_a34 := gr_ob g80 o_a34
  have o_a37 := gr_ob g80 o_a37
  have o_a4 := gr_ob g80 o_a4
  have o_a40 := gr_ob g80 o_a40
  have o_a43 := gr_ob g80 o_a43
  have o_a46 := gr_ob g80 o_a46
  have o_a49 := gr_ob g80 o_a49
  have o_a52 := gr_ob g80 o_a52
  have o_a55 := gr_ob g80 o_a55
  have o_a58 := gr_ob g80 o_a58
  have o_a7 := gr_ob g80 o_a7
  have o_v0 := gr_ob g80 o_v0
  refine r_putFr (pc := 161) C pfL_X10_73 hn dX10_init_161 o_v0 ?_
  refine r_heap (fun S63 eS63 => ?_)
  have h := h S63 eS63
  have o_a1 := ob_R eS63 o_a1
  have o_a10 := ob_R eS63 o_a10
  have o_a13 := ob_R eS63 o_a13
  have o_a16 := ob_R eS63 o_a16
  have o_a19 := ob_R eS63 o_a19
  have o_a22 := ob_R eS63 o_a22
  have o_a25 := ob_R eS63 o_a25
  have o_a28 := ob_R eS63 o_a28
  have o_a31 := ob_R eS63 o_a31
  have o_a34 := ob_R eS63 o_a34
  have o_a37 := ob_R eS63 o_a37
  have o_a4 := ob_R eS63 o_a4
  have o_a40 := ob_R eS63 o_a40
  have o_a43 := ob_R eS63 o_a43
  have o_a46 := ob_R eS63 o_a46
  have o_a49 := ob_R eS63 o_a49
  have o_a52 := ob_R eS63 o_a52
  have o_a55 := ob_R eS63 o_a55
  have o_a58 := ob_R eS63 o_a58
  have o_a61 := ob_R eS63 o_a61
  have o_a7 := ob_R eS63 o_a7
  have o_v0 := ob_R eS63 o_v0
  refine r_aload_n (pc := 164) C dX10_init_164 0 rfl ?_
  refine r_bipush (pc := 165) C (v := (12 : Int32)) dX10_init_165 (by decide) ?_
  refine r_newa14 (pc := 167) C (N := 12) g_266 dX10_init_167 (by decide) (by decide) (by decide) (by decide) (by decide) (fun a64 q77 => ?_)
  refine r_heap (fun S65 eS65 => ?_)
  have h := h a64 q77 S65 eS65
  have g78 := gr_of_new eS65 q77
  have o_a64 := ob_of_new eS65
  have o_a1 := gr_ob g78 o_a1
  have o_a10 := gr_ob g78 o_a10
  have o_a13 := gr_ob g78 o_a13
  have o_a16 := gr_ob g78 o_a16
  have o_a19 := gr_ob g78 o_a19
  have o_a22 := gr_ob g78 o_a22
  have o_a25 := gr_ob g78 o_a25
  have o_a28 := gr_ob g78 o_a28
  have o_a31 := gr_ob g78 o_a31
  have o_a34 := gr_ob g78 o_a34
  have o_a37 := gr_ob g78 o_a37
  have o_a4 := gr_ob g78 o_a4
  have o_a40 := gr_ob g78 o_a40
  have o_a43 := gr_ob g78 o_a43
  have o_a46 := gr_ob g78 o_a46
  have o_a49 := gr_ob g78 o_a49
  have o_a52 := gr_ob g78 o_a52
  have o_a55 := gr_ob g78 o_a55
  have o_a58 := gr_ob g78 o_a58
  have o_a61 := gr_ob g78 o_a61
  have o_a7 := gr_ob g78 o_a7
  have o_v0 := gr_ob g78 o_v0
  refine r_putFr (pc := 169) C pfL_X10_76 hn dX10_init_169 o_v0 ?_
  refine r_heap (fun S66 eS66 => ?_)
  have h := h S66 eS66
  have o_a1 := ob_R eS66 o_a1
  have o_a10 := ob_R eS66 o_a10
  have o_a13 := ob_R eS66 o_a13
  have o_a16 := ob_R eS66 o_a16
  have o_a19 := ob_R eS66 o_a19
  have o_a22 := ob_R eS66 o_a22
  have o_a25 := ob_R eS66 o_a25
  have o_a28 := ob_R eS66 o_a28
  have o_a31 := ob_R eS66 o_a31
  have o_a34 := ob_R eS66 o_a34
  have o_a37 := ob_R eS66 o_a37
  have o_a4 := ob_R eS66 o_a4
  have o_a40 := ob_R eS66 o_a40
  have o_a43 := ob_R eS66 o_a43
  have o_a46 := ob_R eS66 o_a46
  have o_a49 := ob_R eS66 o_a49
  have o_a52 := ob_R eS66 o_a52
  have o_a55 := ob_R eS66 o_a55
  have o_a58 := ob_R eS66 o_a58
  have o_a61 := ob_R eS66 o_a61
  have o_a64 := ob_R eS66 o_a64
  have o_a7 := ob_R eS66 o_a7
  have o_v0 := ob_R eS66 o_v0
  refine r_aload_n (pc := 172) C dX10_init_172 0 rfl ?_
  refine r_bipush (pc := 173) C (v := (12 : Int32)) dX10_init_173 (by decide) ?_
  refine r_newa13 (pc := 175) C (N := 12) g_72 dX10_init_175 (by decide) (by decide) (by decide) (by decide) (by decide) (fun a67 q75 => ?_)
  refine r_heap (fun S68 eS68 => ?_)
  have h := h a67 q75 S68 eS68
  have g76 := gr_of_new eS68 q75
  have o_a67 := ob_of_new eS68
  have o_a1 := gr_ob g76 o_a1
  have o_a10 := gr_ob g76 o_a10
  have o_a13 := gr_ob g76 o_a13
  have o_a16 := gr_ob g76 o_a16
  have o_a19 := gr_ob g76 o_a19
  have o_a22 := gr_ob g76 o_a22
  have o_a25 := gr_ob g76 o_a25
  have o_a28 := gr_ob g76 o_a28
  have o_a31 := gr_ob g76 o_a31
  have o_a34 := gr_ob g76 o_a34
  have o_a37 := gr_ob g76 o_a37
  have o_a4 := gr_ob g76 o_a4
  have o_a40 := gr_ob g76 o_a40
  have o_a43 := gr_ob g76 o_a43
  have o_a46 := gr_ob g76 o_a46
  have o_a49 := gr_ob g76 o_a49
  have o_a52 := gr_ob g76 o_a52
  have o_a55 := gr_ob g76 o_a55
  have o_a58 := gr_ob g76 o_a58
  have o_a61 := gr_ob g76 o_a61
  have o_a64 := gr_ob g76 o_a64
  have o_a7 := gr_ob g76 o_a7
  have o_v0 := gr_ob g76 o_v0
  refine r_putFr (pc := 177) C pfL_X10_80 hn dX10_init_177 o_v0 ?_
  refine r_heap (fun S69 eS69 => ?_)
  have h := h S69 eS69
  have o_a1 := ob_R eS69 o_a1
  have o_a10 := ob_R eS69 o_a10
  have o_a13 := ob_R eS69 o_a13
  have o_a16 := ob_R eS69 o_a16
  have o_a19 := ob_R eS69 o_a19
  have o_a22 := ob_R eS69 o_a22
  have o_a25 := ob_R eS69 o_a25
  have o_a28 := ob_R eS69 o_a28
  have o_a31 := ob_R eS69 o_a31
  have o_a34 := ob_R eS69 o_a34
  have o_a37 := ob_R eS69 o_a37
  have o_a4 := ob_R eS69 o_a4
  have o_a40 := ob_R eS69 o_a40
  have o_a43 := ob_R eS69 o_a43
  have o_a46 := ob_R eS69 o_a46
  have o_a49 := ob_R eS69 o_a49
  have o_a52 := ob_R eS69 o_a52
  have o_a55 := ob_R eS69 o_a55
  have o_a58 := ob_R eS69 o_a58
  have o_a61 := ob_R eS69 o_a61
  have o_a64 := ob_R eS69 o_a64
  have o_a67 := ob_R eS69 o_a67
  have o_a7 := ob_R eS69 o_a7
  have o_v0 := ob_R eS69 o_v0
  refine r_aload_n (pc := 180) C dX10_init_180 0 rfl ?_
  refine r_bipush (pc := 181) C (v := (12 : Int32)) dX10_init_181 (by decide) ?_
  refine r_newa13 (pc := 183) C (N := 12) g_72 dX10_init_183 (by decide) (by decide) (by decide) (by decide) (by decide) (fun a70 q73 => ?_)
  refine r_heap (fun S71 eS71 => ?_)
  have h := h a70 q73 S71 eS71
  have g74 := gr_of_new eS71 q73
  have o_a70 := ob_of_new eS71
  have o_a1 := gr_ob g74 o_a1
  have o_a10 := gr_ob g74 o_a10
  have o_a13 := gr_ob g74 o_a13
  have o_a16 := gr_ob g74 o_a16
  have o_a19 := gr_ob g74 o_a19
  have o_a22 := gr_ob g74 o_a22
  have o_a25 := gr_ob g74 o_a25
  have o_a28 := gr_ob g74 o_a28
  have o_a31 := gr_ob g74 o_a31
  have o_a34 := gr_ob g74 o_a34
  have o_a37 := gr_ob g74 o_a37
  have o_a4 := gr_ob g74 o_a4
  have o_a40 := gr_ob g74 o_a40
  have o_a43 := gr_ob g74 o_a43
  have o_a46 := gr_ob g74 o_a46
  have o_a49 := gr_ob g74 o_a49
  have o_a52 := gr_ob g74 o_a52
  have o_a55 := gr_ob g74 o_a55
  have o_a58 := gr_ob g74 o_a58
  have o_a61 := gr_ob g74 o_a61
  have o_a64 := gr_ob g74 o_a64
  have o_a67 := gr_ob g74 o_a67
  have o_a7 := gr_ob g74 o_a7
  have o_v0 := gr_ob g74 o_v0
  refine r_putFr (pc := 185) C pfL_X10_83 hn dX10_init_185 o_v0 ?_
  refine r_heap (fun S72 eS72 => ?_)
  have h := h S72 eS72
  have o_a1 := ob_R eS72 o_a1
  have o_a10 := ob_R eS72 o_a10
  have o_a13 := ob_R eS72 o_a13
  have o_a16 := ob_R eS72 o_a16
  have o_a19 := ob_R eS72 o_a19
  have o_a22 := ob_R eS72 o_a22
  have o_a25 := ob_R eS72 o_a25
  have o_a28 := ob_R eS72 o_a28
  have o_a31 := ob_R eS72 o_a31
  have o_a34 := ob_R eS72 o_a34
  have o_a37 := ob_R eS72 o_a37
  have o_a4 := ob_R eS72 o_a4
  have o_a40 := ob_R eS72 o_a40
  have o_a43 := ob_R eS72 o_a43
  have o_a46 := ob_R eS72 o_a46
  have o_a49 := ob_R eS72 o_a49
  have o_a52 := ob_R eS72 o_a52
  have o_a55 := ob_R eS72 o_a55
  have o_a58 := ob_R eS72 o_a58
  have o_a61 := ob_R eS72 o_a61
  have o_a64 := ob_R eS72 o_a64
  have o_a67 := ob_R eS72 o_a67
  have o_a7 := ob_R eS72 o_a7
  have o_a70 := ob_R eS72 o_a70
  have o_v0 := ob_R eS72 o_v0
  exact r_vret (pc := 188) C E ht dX10_init_188 (by decide) (by decide) h
def P_X10_init (v0 : Nat) (Q : HS → Prop) (S : HS) : Prop := P_X10_init_0 Q v0 S
theorem c_X10_init {l : Launch} {Ee : EE} {S : HS} {v0 : Nat} {Q : HS → Prop} (h : P_X10_init v0 Q S) : MV l yX10_init cX10_init 1 none rm_X10_init Ee S [.ref v0] Q :=
  openV (by decide) (Nat.le_of_ble_eq_true rfl) (fun X C E ht hn hE hl => by subst hE; exact r_sub [0] rfl (T_X10_init_0 C E ht hn h))
