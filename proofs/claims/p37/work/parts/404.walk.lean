def rm_X11_hourOf : Room := { frames := 0, cells := 0, slots := 0, locals := 0 }
def P_X11_hourOf_0 (Q : Int32 → HS → Prop) (v0 : Nat) (v1 : Int32) (S : HS) : Prop := ob S v0 11 ∧ (∃ a1 : Nat, fR S v0 3 = some a1 ∧ (ob S a1 10 ∧ (∀ x2 : Int32, x2 = fI S a1 0 → (¬ x2 = 0 ∧ ∀ x4 : Int32, x4 = v1 / x2 → (Q x4 S)))))
set_option maxRecDepth 20000 in
set_option maxHeartbeats 4000000 in
theorem T_X11_hourOf_0 {X : CX} {Q : Int32 → HS → Prop} (C : Cx X cX11_hourOf RX11 2 rm_X11_hourOf) (E : ReI X rm_X11_hourOf Q) (ht : (xh X).sig.returnType = (some .int)) (hn : (xh X).name = yX11_hourOf.name) {v0 : Nat} {v1 : Int32} {S : HS} (h : P_X11_hourOf_0 Q v0 v1 S) : WS X 2 0 0 0 [(0, .ref v0), (1, .int v1)] [] S := by
  refine r_iload_n (pc := 0) C dX11_hourOf_0 1 rfl ?_
  refine r_aload_n (pc := 1) C dX11_hourOf_1 0 rfl ?_
  obtain ⟨o_v0, h⟩ := h
  obtain ⟨a1, ea1, h⟩ := h
  refine r_getr (pc := 2) C fL_X11_338 dX11_hourOf_2 o_v0 ea1 ?_
  obtain ⟨o_a1, h⟩ := h
  refine r_getNi (pc := 5) C fN_X11_151 dX11_hourOf_5 o_a1 ?_
  refine r_topi (fun x2 ex2 => ?_)
  have h := h x2 ex2
  obtain ⟨q3, h⟩ := h
  refine r_idiv (pc := 8) C dX11_hourOf_8 q3 ?_
  refine r_topi (fun x4 ex4 => ?_)
  have h := h x4 ex4
  exact r_iret (pc := 9) C E ht dX11_hourOf_9 (by decide) (by decide) h
def P_X11_hourOf (v0 : Nat) (v1 : Int32) (Q : Int32 → HS → Prop) (S : HS) : Prop := P_X11_hourOf_0 Q v0 v1 S
theorem c_X11_hourOf {l : Launch} {Ee : EE} {S : HS} {v0 : Nat} {v1 : Int32} {Q : Int32 → HS → Prop} (h : P_X11_hourOf v0 v1 Q S) : MI l yX11_hourOf cX11_hourOf 2 (some .int) rm_X11_hourOf Ee S [.ref v0, .int v1] Q :=
  openI (by decide) (Nat.le_of_ble_eq_true rfl) (fun X C E ht hn hE hl => by subst hE; exact r_sub [0, 1] rfl (T_X11_hourOf_0 C E ht hn h))
def rm_X11_keeps : Room := { frames := 0, cells := 0, slots := 0, locals := 0 }
def B_X11_keeps_50 (Q : HS → Prop) (X50 : Nat → Int32 → HS → Prop) (v0 : Nat) (v1 : Int32) (S : HS) : Prop := (((7 : Int32) ≤ v1) → (ob S v0 11 ∧ (∀ x2 : Int32, x2 = fI S v0 24 → (∀ x3 : Int32, x3 = x2 + (1 : Int32) → (∀ S4 : HS, S4 = sI S v0 24 x3 → (Q S4)))))) ∧ ((¬ (7 : Int32) ≤ v1) → (ob S v0 11 ∧ (∃ a5 : Nat, fR S v0 22 = some a5 ∧ (∀ x6 : Int32, x6 = fI S v0 24 → (∃ a7 : Nat, fR S v0 21 = some a7 ∧ (ob S a7 14 ∧ (vp_in v1 (hN S a7) ∧ ∀ x9 : Int64, x9 = fJ S a7 v1.toNatClampNeg → (ob S a5 14 ∧ (vp_in (((7 : Int32) * x6) + v1) (hN S a5) ∧ (∀ S11 : HS, S11 = sJ S a5 (((7 : Int32) * x6) + v1).toNatClampNeg x9 → (∀ x12 : Int32, x12 = v1 + (1 : Int32) → (X50 v0 x12 S11))))))))))))
def P_X11_keeps_50 (Q : HS → Prop) (v0 : Nat) (v1 : Int32) (S : HS) : Prop := ∀ X50 : Nat → Int32 → HS → Prop, (∀ (v0 : Nat) (v1 : Int32) (S : HS), B_X11_keeps_50 Q X50 v0 v1 S → X50 v0 v1 S) → X50 v0 v1 S
set_option maxRecDepth 20000 in
set_option maxHeartbeats 4000000 in
theorem TB_X11_keeps_50 {X : CX} {Q : HS → Prop} (C : Cx X cX11_keeps RX11 2 rm_X11_keeps) (E : ReV X rm_X11_keeps Q) (ht : (xh X).sig.returnType = none) (hn : (xh X).name = yX11_keeps.name) {X50 : Nat → Int32 → HS → Prop} (hX50 : ∀ (v0 : Nat) (v1 : Int32) (S : HS), X50 v0 v1 S → WS X 2 0 0 50 [(0, .ref v0), (1, .int v1)] [] S) {v0 : Nat} {v1 : Int32} {S : HS} (h : B_X11_keeps_50 Q X50 v0 v1 S) : WS X 2 0 0 50 [(0, .ref v0), (1, .int v1)] [] S := by
  refine r_iload_n (pc := 50) C dX11_keeps_50 1 rfl ?_
  refine r_bipush (pc := 51) C (v := (7 : Int32)) dX11_keeps_51 (by decide) ?_
  refine r_icmp_ge (pc := 53) C (tgt := 82) dX11_keeps_53 (by decide) (fun c1 => ?_) (fun c1 => ?_)
  · have h := h.1 c1
    refine r_aload_n (pc := 82) C dX11_keeps_82 0 rfl ?_
    refine r_dup (pc := 83) C dX11_keeps_83 rfl ?_
    obtain ⟨o_v0, h⟩ := h
    refine r_geti (pc := 84) C fL_X11_340 dX11_keeps_84 o_v0 ?_
    refine r_topi (fun x2 ex2 => ?_)
    have h := h x2 ex2
    refine r_iconst (pc := 87) C (v := (1 : Int32)) dX11_keeps_87 (by decide) ?_
    refine r_iadd (pc := 88) C dX11_keeps_88 ?_
    refine r_topi (fun x3 ex3 => ?_)
    have h := h x3 ex3
    refine r_puti (pc := 89) C pfL_X11_340 dX11_keeps_89 o_v0 ?_
    refine r_heap (fun S4 eS4 => ?_)
    have h := h S4 eS4
    have o_v0 := ob_I eS4 o_v0
    exact r_vret (pc := 92) C E ht dX11_keeps_92 (by decide) (by decide) h
  · have h := h.2 c1
    refine r_aload_n (pc := 56) C dX11_keeps_56 0 rfl ?_
    obtain ⟨o_v0, h⟩ := h
    obtain ⟨a5, ea5, h⟩ := h
    refine r_getr (pc := 57) C fL_X11_34 dX11_keeps_57 o_v0 ea5 ?_
    refine r_bipush (pc := 60) C (v := (7 : Int32)) dX11_keeps_60 (by decide) ?_
    refine r_aload_n (pc := 62) C dX11_keeps_62 0 rfl ?_
    refine r_geti (pc := 63) C fL_X11_340 dX11_keeps_63 o_v0 ?_
    refine r_topi (fun x6 ex6 => ?_)
    have h := h x6 ex6
    refine r_imul (pc := 66) C dX11_keeps_66 ?_
    refine r_iload_n (pc := 67) C dX11_keeps_67 1 rfl ?_
    refine r_iadd (pc := 68) C dX11_keeps_68 ?_
    refine r_aload_n (pc := 69) C dX11_keeps_69 0 rfl ?_
    obtain ⟨a7, ea7, h⟩ := h
    refine r_getr (pc := 70) C fL_X11_31 dX11_keeps_70 o_v0 ea7 ?_
    refine r_iload_n (pc := 73) C dX11_keeps_73 1 rfl ?_
    obtain ⟨o_a7, h⟩ := h
    obtain ⟨i8, h⟩ := h
    refine r_lald (pc := 74) C dX11_keeps_74 o_a7 i8 ?_
    refine r_topl (fun x9 ex9 => ?_)
    have h := h x9 ex9
    obtain ⟨o_a5, h⟩ := h
    obtain ⟨i10, h⟩ := h
    refine r_last (pc := 75) C dX11_keeps_75 o_a5 i10 ?_
    refine r_heap (fun S11 eS11 => ?_)
    have h := h S11 eS11
    have o_a5 := ob_J eS11 o_a5
    have o_a7 := ob_J eS11 o_a7
    have o_v0 := ob_J eS11 o_v0
    obtain ⟨x12, ex12⟩ : ∃ z : Int32, z = v1 + (1 : Int32) := ⟨_, rfl⟩
    have h := h x12 ex12
    refine r_iinc (pc := 76) C (v := x12) (lv' := [(1, .int x12), (0, .ref v0)]) dX11_keeps_76 1 rfl ex12.symm (by decide) rfl ?_
    refine r_goto (pc := 79) C (tgt := 50) dX11_keeps_79 (by decide) ?_
    exact r_sub [1, 0] rfl (hX50 v0 x12 S11 h)
theorem T_X11_keeps_50 {X : CX} {Q : HS → Prop} (C : Cx X cX11_keeps RX11 2 rm_X11_keeps) (E : ReV X rm_X11_keeps Q) (ht : (xh X).sig.returnType = none) (hn : (xh X).name = yX11_keeps.name) {v0 : Nat} {v1 : Int32} {S : HS} (h : P_X11_keeps_50 Q v0 v1 S) : WS X 2 0 0 50 [(0, .ref v0), (1, .int v1)] [] S :=
  h (fun v0 v1 S => WS X 2 0 0 50 [(0, .ref v0), (1, .int v1)] [] S) (fun v0 v1 S hh => TB_X11_keeps_50 C E ht hn (fun v0 v1 S z => z) hh)
def P_X11_keeps_48 (Q : HS → Prop) (v0 : Nat) (S : HS) : Prop := P_X11_keeps_50 Q v0 (0 : Int32) S
set_option maxRecDepth 20000 in
set_option maxHeartbeats 4000000 in
theorem T_X11_keeps_48 {X : CX} {Q : HS → Prop} (C : Cx X cX11_keeps RX11 2 rm_X11_keeps) (E : ReV X rm_X11_keeps Q) (ht : (xh X).sig.returnType = none) (hn : (xh X).name = yX11_keeps.name) {v0 : Nat} {S : HS} (h : P_X11_keeps_48 Q v0 S) : WS X 2 0 0 48 [(0, .ref v0)] [] S := by
  refine r_iconst (pc := 48) C (v := (0 : Int32)) dX11_keeps_48 (by decide) ?_
  refine r_istore_n (pc := 49) C dX11_keeps_49 rfl (by decide) (lv' := [(1, .int (0 : Int32)), (0, .ref v0)]) rfl ?_
  exact r_sub [1, 0] rfl (T_X11_keeps_50 C E ht hn h)
def B_X11_keeps_11 (Q : HS → Prop) (X11 : Nat → Int32 → HS → Prop) (v0 : Nat) (v1 : Int32) (S : HS) : Prop := (((105 : Int32) ≤ v1) → (ob S v0 11 ∧ (∀ x2 : Int32, x2 = fI S v0 24 → (∀ x3 : Int32, x3 = x2 - (1 : Int32) → (∀ S4 : HS, S4 = sI S v0 24 x3 → (P_X11_keeps_48 Q v0 S4)))))) ∧ ((¬ (105 : Int32) ≤ v1) → (ob S v0 11 ∧ (∃ a5 : Nat, fR S v0 22 = some a5 ∧ (∃ a6 : Nat, fR S v0 22 = some a6 ∧ (ob S a6 14 ∧ (∀ x8 : Int32, x8 = v1 + (7 : Int32) → (vp_in x8 (hN S a6) ∧ ∀ x9 : Int64, x9 = fJ S a6 x8.toNatClampNeg → (ob S a5 14 ∧ (vp_in v1 (hN S a5) ∧ (∀ S11 : HS, S11 = sJ S a5 v1.toNatClampNeg x9 → (∀ x12 : Int32, x12 = v1 + (1 : Int32) → (X11 v0 x12 S11))))))))))))
def P_X11_keeps_11 (Q : HS → Prop) (v0 : Nat) (v1 : Int32) (S : HS) : Prop := ∀ X11 : Nat → Int32 → HS → Prop, (∀ (v0 : Nat) (v1 : Int32) (S : HS), B_X11_keeps_11 Q X11 v0 v1 S → X11 v0 v1 S) → X11 v0 v1 S
set_option maxRecDepth 20000 in
set_option maxHeartbeats 4000000 in
theorem TB_X11_keeps_11 {X : CX} {Q : HS → Prop} (C : Cx X cX11_keeps RX11 2 rm_X11_keeps) (E : ReV X rm_X11_keeps Q) (ht : (xh X).sig.returnType = none) (hn : (xh X).name = yX11_keeps.name) {X11 : Nat → Int32 → HS → Prop} (hX11 : ∀ (v0 : Nat) (v1 : Int32) (S : HS), X11 v0 v1 S → WS X 2 0 0 11 [(0, .ref v0), (1, .int v1)] [] S) {v0 : Nat} {v1 : Int32} {S : HS} (h : B_X11_keeps_11 Q X11 v0 v1 S) : WS X 2 0 0 11 [(0, .ref v0), (1, .int v1)] [] S := by
  refine r_iload_n (pc := 11) C dX11_keeps_11 1 rfl ?_
  refine r_bipush (pc := 12) C (v := (105 : Int32)) dX11_keeps_12 (by decide) ?_
  refine r_icmp_ge (pc := 14) C (tgt := 38) dX11_keeps_14 (by decide) (fun c1 => ?_) (fun c1 => ?_)
  · have h := h.1 c1
    refine r_aload_n (pc := 38) C dX11_keeps_38 0 rfl ?_
    refine r_dup (pc := 39) C dX11_keeps_39 rfl ?_
    obtain ⟨o_v0, h⟩ := h
    refine r_geti (pc := 40) C fL_X11_340 dX11_keeps_40 o_v0 ?_
    refine r_topi (fun x2 ex2 => ?_)
    have h := h x2 ex2
    refine r_iconst (pc := 43) C (v := (1 : Int32)) dX11_keeps_43 (by decide) ?_
    refine r_isub (pc := 44) C dX11_keeps_44 ?_
    refine r_topi (fun x3 ex3 => ?_)
    have h := h x3 ex3
    refine r_puti (pc := 45) C pfL_X11_340 dX11_keeps_45 o_v0 ?_
    refine r_heap (fun S4 eS4 => ?_)
    have h := h S4 eS4
    have o_v0 := ob_I eS4 o_v0
    exact r_sub [0] rfl (T_X11_keeps_48 C E ht hn h)
  · have h := h.2 c1
    refine r_aload_n (pc := 17) C dX11_keeps_17 0 rfl ?_
    obtain ⟨o_v0, h⟩ := h
    obtain ⟨a5, ea5, h⟩ := h
    refine r_getr (pc := 18) C fL_X11_34 dX11_keeps_18 o_v0 ea5 ?_
    refine r_iload_n (pc := 21) C dX11_keeps_21 1 rfl ?_
    refine r_aload_n (pc := 22) C dX11_keeps_22 0 rfl ?_
    obtain ⟨a6, ea6, h⟩ := h
    refine r_getr (pc := 23) C fL_X11_34 dX11_keeps_23 o_v0 ea6 ?_
    refine r_iload_n (pc := 26) C dX11_keeps_26 1 rfl ?_
    refine r_bipush (pc := 27) C (v := (7 : Int32)) dX11_keeps_27 (by decide) ?_
    refine r_iadd (pc := 29) C dX11_keeps_29 ?_
    obtain ⟨o_a6, h⟩ := h
    refine r_topi (fun x8 ex8 => ?_)
    have h := h x8 ex8
    obtain ⟨i7, h⟩ := h
    refine r_lald (pc := 30) C dX11_keeps_30 o_a6 i7 ?_
    refine r_topl (fun x9 ex9 => ?_)
    have h := h x9 ex9
    obtain ⟨o_a5, h⟩ := h
    obtain ⟨i10, h⟩ := h
    refine r_last (pc := 31) C dX11_keeps_31 o_a5 i10 ?_
    refine r_heap (fun S11 eS11 => ?_)
    have h := h S11 eS11
    have o_a5 := ob_J eS11 o_a5
    have o_a6 := ob_J eS11 o_a6
    have o_v0 := ob_J eS11 o_v0
    obtain ⟨x12, ex12⟩ : ∃ z : Int32, z = v1 + (1 : Int32) := ⟨_, rfl⟩
    have h := h x12 ex12
    refine r_iinc (pc := 32) C (v := x12) (lv' := [(1, .int x12), (0, .ref v0)]) dX11_keeps_32 1 rfl ex12.symm (by decide) rfl ?_
    refine r_goto (pc := 35) C (tgt := 11) dX11_keeps_35 (by decide) ?_
    exact r_sub [1, 0] rfl (hX11 v0 x12 S11 h)
theorem T_X11_keeps_11 {X : CX} {Q : HS → Prop} (C : Cx X cX11_keeps RX11 2 rm_X11_keeps) (E : ReV X rm_X11_keeps Q) (ht : (xh X).sig.returnType = none) (hn : (xh X).name = yX11_keeps.name) {v0 : Nat} {v1 : Int32} {S : HS} (h : P_X11_keeps_11 Q v0 v1 S) : WS X 2 0 0 11 [(0, .ref v0), (1, .int v1)] [] S :=
  h (fun v0 v1 S => WS X 2 0 0 11 [(0, .ref v0), (1, .int v1)] [] S) (fun v0 v1 S hh => TB_X11_keeps_11 C E ht hn (fun v0 v1 S z => z) hh)
def P_X11_keeps_0 (Q : HS → Prop) (v0 : Nat) (S : HS) : Prop := ob S v0 11 ∧ (∀ x1 : Int32, x1 = fI S v0 24 → (((¬ x1 = (16 : Int32)) → (P_X11_keeps_48 Q v0 S)) ∧ ((x1 = (16 : Int32)) → (P_X11_keeps_11 Q v0 (0 : Int32) S))))
set_option maxRecDepth 20000 in
set_option maxHeartbeats 4000000 in
theorem T_X11_keeps_0 {X : CX} {Q : HS → Prop} (C : Cx X cX11_keeps RX11 2 rm_X11_keeps) (E : ReV X rm_X11_keeps Q) (ht : (xh X).sig.returnType = none) (hn : (xh X).name = yX11_keeps.name) {v0 : Nat} {S : HS} (h : P_X11_keeps_0 Q v0 S) : WS X 2 0 0 0 [(0, .ref v0)] [] S := by
  refine r_aload_n (pc := 0) C dX11_keeps_0 0 rfl ?_
  obtain ⟨o_v0, h⟩ := h
  refine r_geti (pc := 1) C fL_X11_340 dX11_keeps_1 o_v0 ?_
  refine r_topi (fun x1 ex1 => ?_)
  have h := h x1 ex1
  refine r_bipush (pc := 4) C (v := (16 : Int32)) dX11_keeps_4 (by decide) ?_
  refine r_icmp_ne (pc := 6) C (tgt := 48) dX11_keeps_6 (by decide) (fun c2 => ?_) (fun c2 => ?_)
  · have h := h.1 c2
    exact r_sub [0] rfl (T_X11_keeps_48 C E ht hn h)
  · have h := h.2 c2
    refine r_iconst (pc := 9) C (v := (0 : Int32)) dX11_keeps_9 (by decide) ?_
    refine r_istore_n (pc := 10) C dX11_keeps_10 rfl (by decide) (lv' := [(1, .int (0 : Int32)), (0, .ref v0)]) rfl ?_
    exact r_sub [1, 0] rfl (T_X11_keeps_11 C E ht hn h)
def P_X11_keeps (v0 : Nat) (Q : HS → Prop) (S : HS) : Prop := P_X11_keeps_0 Q v0 S
theorem c_X11_keeps {l : Launch} {Ee : EE} {S : HS} {v0 : Nat} {Q : HS → Prop} (h : P_X11_keeps v0 Q S) : MV l yX11_keeps cX11_keeps 2 none rm_X11_keeps Ee S [.ref v0] Q :=
  openV (by decide) (Nat.le_of_ble_eq_true rfl) (fun X C E ht hn hE hl => by subst hE; exact r_sub [0] rfl (T_X11_keeps_0 C E ht hn h))
def rm_X11_rainsIn : Room := { frames := 1, cells := 0, slots := 0, locals := 21 }
def P_X11_rainsIn_0 (Q : Int32 → HS → Prop) (v0 : Nat) (v1 : Int32) (S : HS) : Prop := ob S v0 11 ∧ (P_X11_hourOf v0 v1 (fun x3 S1 => Gr S S1 → (∃ a4 : Nat, fR S1 v0 3 = some a4 ∧ (ob S1 a4 10 ∧ (∀ x5 : Int32, x5 = fI S1 a4 1 → (((x5 ≤ x3) → (Q (0 : Int32) S1)) ∧ ((¬ x5 ≤ x3) → (∀ x7 : Int32, x7 = fI S1 v0 20 → (((¬ ((x7 >>> (x3 &&& 31)) &&& (1 : Int32)) = (1 : Int32)) → (Q (0 : Int32) S1)) ∧ ((((x7 >>> (x3 &&& 31)) &&& (1 : Int32)) = (1 : Int32)) → (Q (1 : Int32) S1)))))))))) S)
set_option maxRecDepth 20000 in
set_option maxHeartbeats 4000000 in
theorem T_X11_rainsIn_0 {X : CX} {Q : Int32 → HS → Prop} (C : Cx X cX11_rainsIn RX11 3 rm_X11_rainsIn) (E : ReI X rm_X11_rainsIn (fun r S => bl r ∧ Q r S)) (ht : (xh X).sig.returnType = (some .boolean)) (hn : (xh X).name = yX11_rainsIn.name) {v0 : Nat} {v1 : Int32} {S : HS} (h : P_X11_rainsIn_0 Q v0 v1 S) : WS X 3 0 0 0 [(0, .ref v0), (1, .int v1)] [] S := by
  refine r_aload_n (pc := 0) C dX11_rainsIn_0 0 rfl ?_
  refine r_iload_n (pc := 1) C dX11_rainsIn_1 1 rfl ?_
  obtain ⟨o_v0, h⟩ := h
  refine r_callVi0 (pc := 2) C (rest := []) (a := v0) o_v0 [.int v1] yV_X11_hourOf g_1707 (c_X11_hourOf h) dX11_rainsIn_2 rfl rfl (Nat.le_of_ble_eq_true rfl) ⟨by decide, by decide⟩ ⟨by decide, by decide⟩ ⟨rfl, rfl⟩ (fun x3 S1 h g2 => ?_)
  have h := h g2
  have o_v0 := gr_ob g2 o_v0
  refine r_istore_n (pc := 5) C dX11_rainsIn_5 rfl (by decide) (lv' := [(2, .int x3), (0, .ref v0), (1, .int v1)]) rfl ?_
  refine r_iload_n (pc := 6) C dX11_rainsIn_6 0 rfl ?_
  refine r_aload_n (pc := 7) C dX11_rainsIn_7 1 rfl ?_
  obtain ⟨a4, ea4, h⟩ := h
  refine r_getr (pc := 8) C fL_X11_338 dX11_rainsIn_8 o_v0 ea4 ?_
  obtain ⟨o_a4, h⟩ := h
  refine r_getNi (pc := 11) C fN_X11_219 dX11_rainsIn_11 o_a4 ?_
  refine r_topi (fun x5 ex5 => ?_)
  have h := h x5 ex5
  refine r_icmp_ge (pc := 14) C (tgt := 33) dX11_rainsIn_14 (by decide) (fun c6 => ?_) (fun c6 => ?_)
  · have h := h.1 c6
    refine r_iconst (pc := 33) C (v := (0 : Int32)) dX11_rainsIn_33 (by decide) ?_
    exact r_zret (pc := 34) C E ht dX11_rainsIn_34 (by decide) (by decide) (Or.inl rfl) h
  · have h := h.2 c6
    refine r_aload_n (pc := 17) C dX11_rainsIn_17 1 rfl ?_
    refine r_geti (pc := 18) C fL_X11_475 dX11_rainsIn_18 o_v0 ?_
    refine r_topi (fun x7 ex7 => ?_)
    have h := h x7 ex7
    refine r_iload_n (pc := 21) C dX11_rainsIn_21 0 rfl ?_
    refine r_ishr (pc := 22) C dX11_rainsIn_22 ?_
    refine r_iconst (pc := 23) C (v := (1 : Int32)) dX11_rainsIn_23 (by decide) ?_
    refine r_iand (pc := 24) C dX11_rainsIn_24 ?_
    refine r_iconst (pc := 25) C (v := (1 : Int32)) dX11_rainsIn_25 (by decide) ?_
    refine r_icmp_ne (pc := 26) C (tgt := 33) dX11_rainsIn_26 (by decide) (fun c8 => ?_) (fun c8 => ?_)
    · have h := h.1 c8
      refine r_iconst (pc := 33) C (v := (0 : Int32)) dX11_rainsIn_33 (by decide) ?_
      exact r_zret (pc := 34) C E ht dX11_rainsIn_34 (by decide) (by decide) (Or.inl rfl) h
    · have h := h.2 c8
      refine r_iconst (pc := 29) C (v := (1 : Int32)) dX11_rainsIn_29 (by decide) ?_
      refine r_goto (pc := 30) C (tgt := 34) dX11_rainsIn_30 (by decide) ?_
      exact r_zret (pc := 34) C E ht dX11_rainsIn_34 (by decide) (by decide) (Or.inr rfl) h
def P_X11_rainsIn (v0 : Nat) (v1 : Int32) (Q : Int32 → HS → Prop) (S : HS) : Prop := P_X11_rainsIn_0 Q v0 v1 S
theorem c_X11_rainsIn {l : Launch} {Ee : EE} {S : HS} {v0 : Nat} {v1 : Int32} {Q : Int32 → HS → Prop} (h : P_X11_rainsIn v0 v1 Q S) : MI l yX11_rainsIn cX11_rainsIn 3 (some .boolean) rm_X11_rainsIn Ee S [.ref v0, .int v1] (fun r S => bl r ∧ Q r S) :=
  openI (by decide) (Nat.le_of_ble_eq_true rfl) (fun X C E ht hn hE hl => by subst hE; exact r_sub [0, 1] rfl (T_X11_rainsIn_0 C E ht hn h))
def rm_X11_go : Room := { frames := 5, cells := 0, slots := 0, locals := 135 }
def P_X11_go_29 (Q : Int32 → HS → Prop) (v0 : Nat) (S : HS) : Prop := ob S v0 11 ∧ (P_X11_refused v0 (1 : Int32) (fun x3 S1 => Gr S S1 → (Q x3 S1)) S)
set_option maxRecDepth 20000 in
set_option maxHeartbeats 4000000 in
theorem T_X11_go_29 {X : CX} {Q : Int32 → HS → Prop} (C : Cx X cX11_go RX11 6 rm_X11_go) (E : ReI X rm_X11_go Q) (ht : (xh X).sig.returnType = (some .int)) (hn : (xh X).name = yX11_go.name) {v0 : Nat} {S : HS} (h : P_X11_go_29 Q v0 S) : WS X 6 0 0 29 [(0, .ref v0)] [] S := by
  refine r_aload_n (pc := 29) C dX11_go_29 0 rfl ?_
  refine r_iconst (pc := 30) C (v := (1 : Int32)) dX11_go_30 (by decide) ?_
  obtain ⟨o_v0, h⟩ := h
  refine r_callVi0 (pc := 31) C (rest := []) (a := v0) o_v0 [.int (1 : Int32)] yV_X11_refused g_1250 (c_X11_refused h) dX11_go_31 rfl rfl (Nat.le_of_ble_eq_true rfl) ⟨by decide, by decide⟩ ⟨by decide, by decide⟩ ⟨rfl, rfl⟩ (fun x3 S1 h g2 => ?_)
  have h := h g2
  have o_v0 := gr_ob g2 o_v0
  exact r_iret (pc := 34) C E ht dX11_go_34 (by decide) (by decide) h
def P_X11_go_171 (Q : Int32 → HS → Prop) (v0 : Nat) (v1 : Int32) (v2 : Int32) (v3 : Int32) (v4 : Int32) (S : HS) : Prop := ob S v0 11 ∧ (∃ a1 : Nat, fR S v0 21 = some a1 ∧ (∃ a2 : Nat, fR S v0 3 = some a2 ∧ (ob S a2 10 ∧ (P_X10_ends a2 v1 v2 (fun x5 S3 => Gr S S3 → (ob S3 a1 14 ∧ (∀ x7 : Int64, x7 = x5.toInt64 → (vp_in (0 : Int32) (hN S3 a1) ∧ (∀ S8 : HS, S8 = sJ S3 a1 (0 : Int32).toNatClampNeg x7 → (∃ a9 : Nat, fR S8 v0 21 = some a9 ∧ (∃ a10 : Nat, fR S8 v0 3 = some a10 ∧ (ob S8 a10 10 ∧ (P_X10_minutes a10 v1 v3 (fun x13 S11 => Gr S8 S11 → (ob S11 a9 14 ∧ (∀ x15 : Int64, x15 = (v4 + x13).toInt64 → (vp_in (1 : Int32) (hN S11 a9) ∧ (∀ S16 : HS, S16 = sJ S11 a9 (1 : Int32).toNatClampNeg x15 → (∃ a17 : Nat, fR S16 v0 21 = some a17 ∧ (ob S16 a17 14 ∧ (vp_in (1 : Int32) (hN S16 a17) ∧ ∀ x19 : Int64, x19 = fJ S16 a17 (1 : Int32).toNatClampNeg → (P_X11_good v0 x19.toInt32 (fun x22 S20 => Gr S16 S20 → (Q x22 S20)) S16))))))))) S8))))))))) S))))
set_option maxRecDepth 20000 in
set_option maxHeartbeats 4000000 in
theorem T_X11_go_171 {X : CX} {Q : Int32 → HS → Prop} (C : Cx X cX11_go RX11 6 rm_X11_go) (E : ReI X rm_X11_go Q) (ht : (xh X).sig.returnType = (some .int)) (hn : (xh X).name = yX11_go.name) {v0 : Nat} {v1 : Int32} {v2 : Int32} {v3 : Int32} {v4 : Int32} {S : HS} (h : P_X11_go_171 Q v0 v1 v2 v3 v4 S) : WS X 6 0 0 171 [(0, .ref v0), (1, .int v1), (2, .int v2), (3, .int v3), (4, .int v4)] [] S := by
  refine r_aload_n (pc := 171) C dX11_go_171 0 rfl ?_
  obtain ⟨o_v0, h⟩ := h
  obtain ⟨a1, ea1, h⟩ := h
  refine r_getr (pc := 172) C fL_X11_31 dX11_go_172 o_v0 ea1 ?_
  refine r_iconst (pc := 175) C (v := (0 : Int32)) dX11_go_175 (by decide) ?_
  refine r_aload_n (pc := 176) C dX11_go_176 0 rfl ?_
  obtain ⟨a2, ea2, h⟩ := h
  refine r_getr (pc := 177) C fL_X11_338 dX11_go_177 o_v0 ea2 ?_
  refine r_iload_n (pc := 180) C dX11_go_180 1 rfl ?_
  refine r_iload_n (pc := 181) C dX11_go_181 2 rfl ?_
  obtain ⟨o_a2, h⟩ := h
  refine r_callVi0 (pc := 182) C (rest := [.int (0 : Int32), .ref a1]) (a := a2) o_a2 [.int v1, .int v2] yV_X10_ends g_1699 (c_X10_ends h) dX11_go_182 rfl rfl (Nat.le_of_ble_eq_true rfl) ⟨by decide, by decide⟩ ⟨by decide, by decide⟩ ⟨rfl, rfl⟩ (fun x5 S3 h g4 => ?_)
  have h := h g4
  have o_a2 := gr_ob g4 o_a2
  have o_v0 := gr_ob g4 o_v0
  refine r_i2l (pc := 185) C dX11_go_185 ?_
  obtain ⟨o_a1, h⟩ := h
  refine r_topl (fun x7 ex7 => ?_)
  have h := h x7 ex7
  obtain ⟨i6, h⟩ := h
  refine r_last (pc := 186) C dX11_go_186 o_a1 i6 ?_
  refine r_heap (fun S8 eS8 => ?_)
  have h := h S8 eS8
  have o_a1 := ob_J eS8 o_a1
  have o_a2 := ob_J eS8 o_a2
  have o_v0 := ob_J eS8 o_v0
  refine r_aload_n (pc := 187) C dX11_go_187 0 rfl ?_
  obtain ⟨a9, ea9, h⟩ := h
  refine r_getr (pc := 188) C fL_X11_31 dX11_go_188 o_v0 ea9 ?_
  refine r_iconst (pc := 191) C (v := (1 : Int32)) dX11_go_191 (by decide) ?_
  refine r_iload (pc := 192) C dX11_go_192 4 rfl ?_
  refine r_aload_n (pc := 194) C dX11_go_194 0 rfl ?_
  obtain ⟨a10, ea10, h⟩ := h
  refine r_getr (pc := 195) C fL_X11_338 dX11_go_195 o_v0 ea10 ?_
  refine r_iload_n (pc := 198) C dX11_go_198 1 rfl ?_
  refine r_iload_n (pc := 199) C dX11_go_199 3 rfl ?_
  obtain ⟨o_a10, h⟩ := h
  refine r_callVi0 (pc := 200) C (rest := [.int v4, .int (1 : Int32), .ref a9]) (a := a10) o_a10 [.int v1, .int v3] yV_X10_minutes g_1607 (c_X10_minutes h) dX11_go_200 rfl rfl (Nat.le_of_ble_eq_true rfl) ⟨by decide, by decide⟩ ⟨by decide, by decide⟩ ⟨rfl, rfl⟩ (fun x13 S11 h g12 => ?_)
  have h := h g12
  have o_a1 := gr_ob g12 o_a1
  have o_a10 := gr_ob g12 o_a10
  have o_a2 := gr_ob g12 o_a2
  have o_v0 := gr_ob g12 o_v0
  refine r_iadd (pc := 203) C dX11_go_203 ?_
  refine r_i2l (pc := 204) C dX11_go_204 ?_
  obtain ⟨o_a9, h⟩ := h
  refine r_topl (fun x15 ex15 => ?_)
  have h := h x15 ex15
  obtain ⟨i14, h⟩ := h
  refine r_last (pc := 205) C dX11_go_205 o_a9 i14 ?_
  refine r_heap (fun S16 eS16 => ?_)
  have h := h S16 eS16
  have o_a1 := ob_J eS16 o_a1
  have o_a10 := ob_J eS16 o_a10
  have o_a2 := ob_J eS16 o_a2
  have o_a9 := ob_J eS16 o_a9
  have o_v0 := ob_J eS16 o_v0
  refine r_aload_n (pc := 206) C dX11_go_206 0 rfl ?_
  refine r_aload_n (pc := 207) C dX11_go_207 0 rfl ?_
  obtain ⟨a17, ea17, h⟩ := h
  refine r_getr (pc := 208) C fL_X11_31 dX11_go_208 o_v0 ea17 ?_
  refine r_iconst (pc := 211) C (v := (1 : Int32)) dX11_go_211 (by decide) ?_
  obtain ⟨o_a17, h⟩ := h
  obtain ⟨i18, h⟩ := h
  refine r_lald (pc := 212) C dX11_go_212 o_a17 i18 ?_
  refine r_topl (fun x19 ex19 => ?_)
  have h := h x19 ex19
  refine r_l2i (pc := 213) C dX11_go_213 ?_
  refine r_callVi0 (pc := 214) C (rest := []) (a := v0) o_v0 [.int x19.toInt32] yV_X11_good g_1518 (c_X11_good h) dX11_go_214 rfl rfl (Nat.le_of_ble_eq_true rfl) ⟨by decide, by decide⟩ ⟨by decide, by decide⟩ ⟨rfl, rfl⟩ (fun x22 S20 h g21 => ?_)
  have h := h g21
  have o_a1 := gr_ob g21 o_a1
  have o_a10 := gr_ob g21 o_a10
  have o_a17 := gr_ob g21 o_a17
  have o_a2 := gr_ob g21 o_a2
  have o_a9 := gr_ob g21 o_a9
  have o_v0 := gr_ob g21 o_v0
  exact r_iret (pc := 217) C E ht dX11_go_217 (by decide) (by decide) h
def B_X11_go_119 (Q : Int32 → HS → Prop) (X119 : Nat → Int32 → Int32 → Int32 → Int32 → Int32 → HS → Prop) (v0 : Nat) (v1 : Int32) (v2 : Int32) (v3 : Int32) (v4 : Int32) (v5 : Int32) (S : HS) : Prop := (((5 : Int32) ≤ v5) → (P_X11_go_171 Q v0 v1 v2 v3 v4 S)) ∧ ((¬ (5 : Int32) ≤ v5) → (ob S v0 11 ∧ (P_X11_rainsIn v0 v4 (fun x4 S2 => Gr S S2 → bl x4 → (((x4 = 0) → (P_X11_go_171 Q v0 v1 v2 v3 v4 S2)) ∧ ((¬ x4 = 0) → (∃ a6 : Nat, fR S2 v0 21 = some a6 ∧ (ob S2 a6 14 ∧ (∀ x8 : Int32, x8 = (2 : Int32) + v5 → (vp_in x8 (hN S2 a6) ∧ ∀ x9 : Int64, x9 = fJ S2 a6 x8.toNatClampNeg → (∀ x10 : Int32, x10 = fI S2 v0 19 → (P_X11_hourOf v0 v4 (fun x13 S11 => Gr S2 S11 → (P_X11_partsOf v0 x10 v1 v2 x13 v3 v5 (fun x16 S14 => Gr S11 S14 → (∀ x18 : Int64, x18 = x9 + x16 → (vp_in ((2 : Int32) + v5) (hN S14 a6) ∧ (∀ S19 : HS, S19 = sJ S14 a6 ((2 : Int32) + v5).toNatClampNeg x18 → (∀ x20 : Int32, x20 = v5 + (1 : Int32) → (X119 v0 v1 v2 v3 v4 x20 S19)))))) S11)) S2))))))))) S)))
def P_X11_go_119 (Q : Int32 → HS → Prop) (v0 : Nat) (v1 : Int32) (v2 : Int32) (v3 : Int32) (v4 : Int32) (v5 : Int32) (S : HS) : Prop := ∀ X119 : Nat → Int32 → Int32 → Int32 → Int32 → Int32 → HS → Prop, (∀ (v0 : Nat) (v1 : Int32) (v2 : Int32) (v3 : Int32) (v4 : Int32) (v5 : Int32) (S : HS), B_X11_go_119 Q X119 v0 v1 v2 v3 v4 v5 S → X119 v0 v1 v2 v3 v4 v5 S) → X119 v0 v1 v2 v3 v4 v5 S
set_option maxRecDepth 20000 in
set_option maxHeartbeats 4000000 in
theorem TB_X11_go_119 {X : CX} {Q : Int32 → HS → Prop} (C : Cx X cX11_go RX11 6 rm_X11_go) (E : ReI X rm_X11_go Q) (ht : (xh X).sig.returnType = (some .int)) (hn : (xh X).name = yX11_go.name) {X119 : Nat → Int32 → Int32 → Int32 → Int32 → Int32 → HS → Prop} (hX119 : ∀ (v0 : Nat) (v1 : Int32) (v2 : Int32) (v3 : Int32) (v4 : Int32) (v5 : Int32) (S : HS), X119 v0 v1 v2 v3 v4 v5 S → WS X 6 0 0 119 [(0, .ref v0), (1, .int v1), (2, .int v2), (3, .int v3), (4, .int v4), (5, .int v5)] [] S) {v0 : Nat} {v1 : Int32} {v2 : Int32} {v3 : Int32} {v4 : Int32} {v5 : Int32} {S : HS} (h : B_X11_go_119 Q X119 v0 v1 v2 v3 v4 v5 S) : WS X 6 0 0 119 [(0, .ref v0), (1, .int v1), (2, .int v2), (3, .int v3), (4, .int v4), (5, .int v5)] [] S := by
  refine r_iload (pc := 119) C dX11_go_119 5 rfl ?_
  refine r_iconst (pc := 121) C (v := (5 : Int32)) dX11_go_121 (by decide) ?_
  refine r_icmp_ge (pc := 122) C (tgt := 171) dX11_go_122 (by decide) (fun c1 => ?_) (fun c1 => ?_)
  · have h := h.1 c1
    exact r_sub [0, 1, 2, 3, 4] rfl (T_X11_go_171 C E ht hn h)
  · have h := h.2 c1
    refine r_aload_n (pc := 125) C dX11_go_125 0 rfl ?_
    refine r_iload (pc := 126) C dX11_go_126 4 rfl ?_
    obtain ⟨o_v0, h⟩ := h
    refine r_callVi0 (pc := 128) C (rest := []) (a := v0) o_v0 [.int v4] yV_X11_rainsIn g_1787 (c_X11_rainsIn h) dX11_go_128 rfl rfl (Nat.le_of_ble_eq_true rfl) ⟨by decide, by decide⟩ ⟨by decide, by decide⟩ ⟨rfl, rfl⟩ (fun x4 S2 h g3 => ?_)
    have bx4 := h.1
    have h := h.2 g3 bx4
    have o_v0 := gr_ob g3 o_v0
    refine r_if_eq (pc := 131) C (tgt := 171) dX11_go_131 (by decide) (fun c5 => ?_) (fun c5 => ?_)
    · have h := h.1 c5
      exact r_sub [0, 1, 2, 3, 4] rfl (T_X11_go_171 C E ht hn h)
    · have h := h.2 c5
      refine r_aload_n (pc := 134) C dX11_go_134 0 rfl ?_
      obtain ⟨a6, ea6, h⟩ := h
      refine r_getr (pc := 135) C fL_X11_31 dX11_go_135 o_v0 ea6 ?_
      refine r_iconst (pc := 138) C (v := (2 : Int32)) dX11_go_138 (by decide) ?_
      refine r_iload (pc := 139) C dX11_go_139 5 rfl ?_
      refine r_iadd (pc := 141) C dX11_go_141 ?_
      refine r_dup2 (pc := 142) C dX11_go_142 rfl rfl ?_
      obtain ⟨o_a6, h⟩ := h
      refine r_topi (fun x8 ex8 => ?_)
      have h := h x8 ex8
      obtain ⟨i7, h⟩ := h
      refine r_lald (pc := 143) C dX11_go_143 o_a6 i7 ?_
      refine r_topl (fun x9 ex9 => ?_)
      have h := h x9 ex9
      refine r_aload_n (pc := 144) C dX11_go_144 0 rfl ?_
      refine r_aload_n (pc := 145) C dX11_go_145 0 rfl ?_
      refine r_geti (pc := 146) C fL_X11_28 dX11_go_146 o_v0 ?_
      refine r_topi (fun x10 ex10 => ?_)
      have h := h x10 ex10
      refine r_iload_n (pc := 149) C dX11_go_149 1 rfl ?_
      refine r_iload_n (pc := 150) C dX11_go_150 2 rfl ?_
      refine r_aload_n (pc := 151) C dX11_go_151 0 rfl ?_
      refine r_iload (pc := 152) C dX11_go_152 4 rfl ?_
      refine r_callVi0 (pc := 154) C (rest := [.int v2, .int v1, .int x10, .ref v0, .long x9, .int ((2 : Int32) + v5), .ref a6]) (a := v0) o_v0 [.int v4] yV_X11_hourOf g_1707 (c_X11_hourOf h) dX11_go_154 rfl rfl (Nat.le_of_ble_eq_true rfl) ⟨by decide, by decide⟩ ⟨by decide, by decide⟩ ⟨rfl, rfl⟩ (fun x13 S11 h g12 => ?_)
      have h := h g12
      have o_a6 := gr_ob g12 o_a6
      have o_v0 := gr_ob g12 o_v0
      refine r_iload_n (pc := 157) C dX11_go_157 3 rfl ?_
      refine r_iload (pc := 158) C dX11_go_158 5 rfl ?_
      refine r_callVl0 (pc := 160) C (rest := [.long x9, .int ((2 : Int32) + v5), .ref a6]) (a := v0) o_v0 [.int x10, .int v1, .int v2, .int x13, .int v3, .int v5] yV_X11_partsOf g_1554 (c_X11_partsOf h) dX11_go_160 rfl rfl (Nat.le_of_ble_eq_true rfl) ⟨by decide, by decide⟩ ⟨by decide, by decide⟩ ⟨rfl, rfl⟩ (fun x16 S14 h g15 => ?_)
      have h := h g15
      have o_a6 := gr_ob g15 o_a6
      have o_v0 := gr_ob g15 o_v0
      refine r_ladd (pc := 163) C dX11_go_163 ?_
      refine r_topl (fun x18 ex18 => ?_)
      have h := h x18 ex18
      obtain ⟨i17, h⟩ := h
      refine r_last (pc := 164) C dX11_go_164 o_a6 i17 ?_
      refine r_heap (fun S19 eS19 => ?_)
      have h := h S19 eS19
      have o_a6 := ob_J eS19 o_a6
      have o_v0 := ob_J eS19 o_v0
      obtain ⟨x20, ex20⟩ : ∃ z : Int32, z = v5 + (1 : Int32) := ⟨_, rfl⟩
      have h := h x20 ex20
      refine r_iinc (pc := 165) C (v := x20) (lv' := [(5, .int x20), (0, .ref v0), (1, .int v1), (2, .int v2), (3, .int v3), (4, .int v4)]) dX11_go_165 5 rfl ex20.symm (by decide) rfl ?_
      refine r_goto (pc := 168) C (tgt := 119) dX11_go_168 (by decide) ?_
      exact r_sub [1, 2, 3, 4, 5, 0] rfl (hX119 v0 v1 v2 v3 v4 x20 S19 h)
theorem T_X11_go_119 {X : CX} {Q : Int32 → HS → Prop} (C : Cx X cX11_go RX11 6 rm_X11_go) (E : ReI X rm_X11_go Q) (ht : (xh X).sig.returnType = (some .int)) (hn : (xh X).name = yX11_go.name) {v0 : Nat} {v1 : Int32} {v2 : Int32} {v3 : Int32} {v4 : Int32} {v5 : Int32} {S : HS} (h : P_X11_go_119 Q v0 v1 v2 v3 v4 v5 S) : WS X 6 0 0 119 [(0, .ref v0), (1, .int v1), (2, .int v2), (3, .int v3), (4, .int v4), (5, .int v5)] [] S :=
  h (fun v0 v1 v2 v3 v4 v5 S => WS X 6 0 0 119 [(0, .ref v0), (1, .int v1), (2, .int v2), (3, .int v3), (4, .int v4), (5, .int v5)] [] S) (fun v0 v1 v2 v3 v4 v5 S hh => TB_X11_go_119 C E ht hn (fun v0 v1 v2 v3 v4 v5 S z => z) hh)
def P_X11_go_0 (Q : Int32 → HS → Prop) (v0 : Nat) (v1 : Int32) (v2 : Int32) (v3 : Int32) (S : HS) : Prop := ob S v0 11 ∧ (∀ S1 : HS, S1 = sI S v0 0 (0 : Int32) → (P_X11_isDay v0 (fun x4 S2 => Gr S1 S2 → bl x4 → (((x4 = 0) → (P_X11_go_29 Q v0 S2)) ∧ ((¬ x4 = 0) → (P_X11_isRoad v0 v1 (fun x8 S6 => Gr S2 S6 → bl x8 → (((x8 = 0) → (P_X11_go_29 Q v0 S6)) ∧ ((¬ x8 = 0) → (P_X11_in v2 (0 : Int32) (1 : Int32) (fun x12 S10 => Gr S6 S10 → bl x12 → (((¬ x12 = 0) → (∀ x14 : Int32, x14 = fI S10 v0 19 → (P_X11_isSpeed v0 x14 v3 (fun x17 S15 => Gr S10 S15 → bl x17 → (((¬ x17 = 0) → (∃ a19 : Nat, fR S15 v0 3 = some a19 ∧ (ob S15 a19 10 ∧ (P_X10_begins a19 v1 v2 (fun x22 S20 => Gr S15 S20 → (∃ a23 : Nat, fR S20 v0 21 = some a23 ∧ (ob S20 a23 14 ∧ (vp_in (0 : Int32) (hN S20 a23) ∧ ∀ x25 : Int64, x25 = fJ S20 a23 (0 : Int32).toNatClampNeg → ((((lg_cmp x22.toInt64 x25) = 0) → (∃ a27 : Nat, fR S20 v0 21 = some a27 ∧ (ob S20 a27 14 ∧ (vp_in (1 : Int32) (hN S20 a27) ∧ ∀ x29 : Int64, x29 = fJ S20 a27 (1 : Int32).toNatClampNeg → (∀ x30 : Int32, x30 = x29.toInt32 → (∃ a31 : Nat, fR S20 v0 3 = some a31 ∧ (ob S20 a31 10 ∧ (P_X10_minutes a31 v1 v3 (fun x34 S32 => Gr S20 S32 → ((((x30 + x34) ≤ (999 : Int32)) → (P_X11_keeps v0 (fun S36 => Gr S32 S36 → (P_X11_go_119 Q v0 v1 v2 v3 x30 (0 : Int32) S36)) S32)) ∧ ((¬ (x30 + x34) ≤ (999 : Int32)) → (P_X11_refused v0 (3 : Int32) (fun x41 S39 => Gr S32 S39 → (Q x41 S39)) S32)))) S20)))))))) ∧ ((¬ (lg_cmp x22.toInt64 x25) = 0) → (P_X11_refused v0 (5 : Int32) (fun x44 S42 => Gr S20 S42 → (Q x44 S42)) S20))))))) S15)))) ∧ ((x17 = 0) → (P_X11_refused v0 (2 : Int32) (fun x47 S45 => Gr S15 S45 → (Q x47 S45)) S15)))) S10))) ∧ ((x12 = 0) → (P_X11_go_29 Q v0 S10)))) S6)))) S2)))) S1))
set_option maxRecDepth 20000 in
set_option maxHeartbeats 4000000 in
theorem T_X11_go_0 {X : CX} {Q : Int32 → HS → Prop} (C : Cx X cX11_go RX11 6 rm_X11_go) (E : ReI X rm_X11_go Q) (ht : (xh X).sig.returnType = (some .int)) (hn : (xh X).name = yX11_go.name) {v0 : Nat} {v1 : Int32} {v2 : Int32} {v3 : Int32} {S : HS} (h : P_X11_go_0 Q v0 v1 v2 v3 S) : WS X 6 0 0 0 [(0, .ref v0), (1, .int v1), (2, .int v2), (3, .int v3)] [] S := by
  refine r_aload_n (pc := 0) C dX11_go_0 0 rfl ?_
  refine r_iconst (pc := 1) C (v := (0 : Int32)) dX11_go_1 (by decide) ?_
  obtain ⟨o_v0, h⟩ := h
  refine r_puti (pc := 2) C pfL_X11_40 dX11_go_2 o_v0 ?_
  refine r_heap (fun S1 eS1 => ?_)
  have h := h S1 eS1
  have o_v0 := ob_I eS1 o_v0
  refine r_aload_n (pc := 5) C dX11_go_5 0 rfl ?_
  refine r_callVi0 (pc := 6) C (rest := []) (a := v0) o_v0 [] yV_X11_isDay g_1779 (c_X11_isDay h) dX11_go_6 rfl rfl (Nat.le_of_ble_eq_true rfl) ⟨by decide, by decide⟩ ⟨by decide, by decide⟩ ⟨rfl, rfl⟩ (fun x4 S2 h g3 => ?_)
  have bx4 := h.1
  have h := h.2 g3 bx4
  have o_v0 := gr_ob g3 o_v0
  refine r_if_eq (pc := 9) C (tgt := 29) dX11_go_9 (by decide) (fun c5 => ?_) (fun c5 => ?_)
  · have h := h.1 c5
    exact r_sub [0] rfl (T_X11_go_29 C E ht hn h)
  · have h := h.2 c5
    refine r_aload_n (pc := 12) C dX11_go_12 0 rfl ?_
    refine r_iload_n (pc := 13) C dX11_go_13 1 rfl ?_
    refine r_callVi0 (pc := 14) C (rest := []) (a := v0) o_v0 [.int v1] yV_X11_isRoad g_1542 (c_X11_isRoad h) dX11_go_14 rfl rfl (Nat.le_of_ble_eq_true rfl) ⟨by decide, by decide⟩ ⟨by decide, by decide⟩ ⟨rfl, rfl⟩ (fun x8 S6 h g7 => ?_)
    have bx8 := h.1
    have h := h.2 g7 bx8
    have o_v0 := gr_ob g7 o_v0
    refine r_if_eq (pc := 17) C (tgt := 29) dX11_go_17 (by decide) (fun c9 => ?_) (fun c9 => ?_)
    · have h := h.1 c9
      exact r_sub [0] rfl (T_X11_go_29 C E ht hn h)
    · have h := h.2 c9
      refine r_iload_n (pc := 20) C dX11_go_20 2 rfl ?_
      refine r_iconst (pc := 21) C (v := (0 : Int32)) dX11_go_21 (by decide) ?_
      refine r_iconst (pc := 22) C (v := (1 : Int32)) dX11_go_22 (by decide) ?_
      refine r_callSi0 (pc := 23) C (rest := []) rfl [.int v2, .int (0 : Int32), .int (1 : Int32)] yS_X11_in g_1434 (c_X11_in h) dX11_go_23 rfl rfl (Nat.le_of_ble_eq_true rfl) ⟨by decide, by decide⟩ ⟨by decide, by decide⟩ ⟨rfl, rfl⟩ (fun x12 S10 h g11 => ?_)
      have bx12 := h.1
      have h := h.2 g11 bx12
      have o_v0 := gr_ob g11 o_v0
      refine r_if_ne (pc := 26) C (tgt := 35) dX11_go_26 (by decide) (fun c13 => ?_) (fun c13 => ?_)
      · have h := h.1 c13
        refine r_aload_n (pc := 35) C dX11_go_35 0 rfl ?_
        refine r_aload_n (pc := 36) C dX11_go_36 0 rfl ?_
        refine r_geti (pc := 37) C fL_X11_28 dX11_go_37 o_v0 ?_
        refine r_topi (fun x14 ex14 => ?_)
        have h := h x14 ex14
        refine r_iload_n (pc := 40) C dX11_go_40 3 rfl ?_
        refine r_callVi0 (pc := 41) C (rest := []) (a := v0) o_v0 [.int x14, .int v3] yV_X11_isSpeed g_1550 (c_X11_isSpeed h) dX11_go_41 rfl rfl (Nat.le_of_ble_eq_true rfl) ⟨by decide, by decide⟩ ⟨by decide, by decide⟩ ⟨rfl, rfl⟩ (fun x17 S15 h g16 => ?_)
        have bx17 := h.1
        have h := h.2 g16 bx17
        have o_v0 := gr_ob g16 o_v0
        refine r_if_ne (pc := 44) C (tgt := 53) dX11_go_44 (by decide) (fun c18 => ?_) (fun c18 => ?_)
        · have h := h.1 c18
          refine r_aload_n (pc := 53) C dX11_go_53 0 rfl ?_
          obtain ⟨a19, ea19, h⟩ := h
          refine r_getr (pc := 54) C fL_X11_338 dX11_go_54 o_v0 ea19 ?_
          refine r_iload_n (pc := 57) C dX11_go_57 1 rfl ?_
          refine r_iload_n (pc := 58) C dX11_go_58 2 rfl ?_
          obtain ⟨o_a19, h⟩ := h
          refine r_callVi0 (pc := 59) C (rest := []) (a := a19) o_a19 [.int v1, .int v2] yV_X10_begins g_1695 (c_X10_begins h) dX11_go_59 rfl rfl (Nat.le_of_ble_eq_true rfl) ⟨by decide, by decide⟩ ⟨by decide, by decide⟩ ⟨rfl, rfl⟩ (fun x22 S20 h g21 => ?_)
          have h := h g21
          have o_a19 := gr_ob g21 o_a19
          have o_v0 := gr_ob g21 o_v0
          refine r_i2l (pc := 62) C dX11_go_62 ?_
          refine r_aload_n (pc := 63) C dX11_go_63 0 rfl ?_
          obtain ⟨a23, ea23, h⟩ := h
          refine r_getr (pc := 64) C fL_X11_31 dX11_go_64 o_v0 ea23 ?_
          refine r_iconst (pc := 67) C (v := (0 : Int32)) dX11_go_67 (by decide) ?_
          obtain ⟨o_a23, h⟩ := h
          obtain ⟨i24, h⟩ := h
          refine r_lald (pc := 68) C dX11_go_68 o_a23 i24 ?_
          refine r_topl (fun x25 ex25 => ?_)
          have h := h x25 ex25
          refine r_lcmp (pc := 69) C dX11_go_69 ?_
          refine r_if_eq (pc := 70) C (tgt := 79) dX11_go_70 (by decide) (fun c26 => ?_) (fun c26 => ?_)
          · have h := h.1 c26
            refine r_aload_n (pc := 79) C dX11_go_79 0 rfl ?_
            obtain ⟨a27, ea27, h⟩ := h
            refine r_getr (pc := 80) C fL_X11_31 dX11_go_80 o_v0 ea27 ?_
            refine r_iconst (pc := 83) C (v := (1 : Int32)) dX11_go_83 (by decide) ?_
            obtain ⟨o_a27, h⟩ := h
            obtain ⟨i28, h⟩ := h
            refine r_lald (pc := 84) C dX11_go_84 o_a27 i28 ?_
            refine r_topl (fun x29 ex29 => ?_)
            have h := h x29 ex29
            refine r_l2i (pc := 85) C dX11_go_85 ?_
            refine r_topi (fun x30 ex30 => ?_)
            have h := h x30 ex30
            refine r_istore (pc := 86) C dX11_go_86 (by decide) (lv' := [(4, .int x30), (0, .ref v0), (1, .int v1), (2, .int v2), (3, .int v3)]) rfl ?_
            refine r_iload (pc := 88) C dX11_go_88 0 rfl ?_
            refine r_aload_n (pc := 90) C dX11_go_90 1 rfl ?_
            obtain ⟨a31, ea31, h⟩ := h
            refine r_getr (pc := 91) C fL_X11_338 dX11_go_91 o_v0 ea31 ?_
            refine r_iload_n (pc := 94) C dX11_go_94 2 rfl ?_
            refine r_iload_n (pc := 95) C dX11_go_95 4 rfl ?_
            obtain ⟨o_a31, h⟩ := h
            refine r_callVi0 (pc := 96) C (rest := [.int x30]) (a := a31) o_a31 [.int v1, .int v3] yV_X10_minutes g_1607 (c_X10_minutes h) dX11_go_96 rfl rfl (Nat.le_of_ble_eq_true rfl) ⟨by decide, by decide⟩ ⟨by decide, by decide⟩ ⟨rfl, rfl⟩ (fun x34 S32 h g33 => ?_)
            have h := h g33
            have o_a19 := gr_ob g33 o_a19
            have o_a23 := gr_ob g33 o_a23
            have o_a27 := gr_ob g33 o_a27
            have o_a31 := gr_ob g33 o_a31
            have o_v0 := gr_ob g33 o_v0
            refine r_iadd (pc := 99) C dX11_go_99 ?_
            refine r_sipush (pc := 100) C (v := (999 : Int32)) dX11_go_100 (by decide) ?_
            refine r_icmp_le (pc := 103) C (tgt := 112) dX11_go_103 (by decide) (fun c35 => ?_) (fun c35 => ?_)
            · have h := h.1 c35
              refine r_aload_n (pc := 112) C dX11_go_112 1 rfl ?_
              refine r_callVv0 (pc := 113) C (rest := []) (a := v0) o_v0 [] yV_X11_keeps g_1783 (c_X11_keeps h) dX11_go_113 rfl rfl (Nat.le_of_ble_eq_true rfl) ⟨by decide, by decide⟩ ⟨by decide, by decide⟩ ⟨rfl, rfl⟩ (fun S36 h g37 => ?_)
              have h := h g37
              have o_a19 := gr_ob g37 o_a19
              have o_a23 := gr_ob g37 o_a23
              have o_a27 := gr_ob g37 o_a27
              have o_a31 := gr_ob g37 o_a31
              have o_v0 := gr_ob g37 o_v0
              refine r_iconst (pc := 116) C (v := (0 : Int32)) dX11_go_116 (by decide) ?_
              refine r_istore (pc := 117) C dX11_go_117 (by decide) (lv' := [(5, .int (0 : Int32)), (4, .int x30), (0, .ref v0), (1, .int v1), (2, .int v2), (3, .int v3)]) rfl ?_
              exact r_sub [2, 3, 4, 5, 1, 0] rfl (T_X11_go_119 C E ht hn h)
            · have h := h.2 c35
              refine r_aload_n (pc := 106) C dX11_go_106 1 rfl ?_
              refine r_iconst (pc := 107) C (v := (3 : Int32)) dX11_go_107 (by decide) ?_
              refine r_callVi0 (pc := 108) C (rest := []) (a := v0) o_v0 [.int (3 : Int32)] yV_X11_refused g_1250 (c_X11_refused h) dX11_go_108 rfl rfl (Nat.le_of_ble_eq_true rfl) ⟨by decide, by decide⟩ ⟨by decide, by decide⟩ ⟨rfl, rfl⟩ (fun x41 S39 h g40 => ?_)
              have h := h g40
              have o_a19 := gr_ob g40 o_a19
              have o_a23 := gr_ob g40 o_a23
              have o_a27 := gr_ob g40 o_a27
              have o_a31 := gr_ob g40 o_a31
              have o_v0 := gr_ob g40 o_v0
              exact r_iret (pc := 111) C E ht dX11_go_111 (by decide) (by decide) h
          · have h := h.2 c26
            refine r_aload_n (pc := 73) C dX11_go_73 0 rfl ?_
            refine r_iconst (pc := 74) C (v := (5 : Int32)) dX11_go_74 (by decide) ?_
            refine r_callVi0 (pc := 75) C (rest := []) (a := v0) o_v0 [.int (5 : Int32)] yV_X11_refused g_1250 (c_X11_refused h) dX11_go_75 rfl rfl (Nat.le_of_ble_eq_true rfl) ⟨by decide, by decide⟩ ⟨by decide, by decide⟩ ⟨rfl, rfl⟩ (fun x44 S42 h g43 => ?_)
            have h := h g43
            have o_a19 := gr_ob g43 o_a19
            have o_a23 := gr_ob g43 o_a23
            have o_v0 := gr_ob g43 o_v0
            exact r_iret (pc := 78) C E ht dX11_go_78 (by decide) (by decide) h
        · have h := h.2 c18
          refine r_aload_n (pc := 47) C dX11_go_47 0 rfl ?_
          refine r_iconst (pc := 48) C (v := (2 : Int32)) dX11_go_48 (by decide) ?_
          refine r_callVi0 (pc := 49) C (rest := []) (a := v0) o_v0 [.int (2 : Int32)] yV_X11_refused g_1250 (c_X11_refused h) dX11_go_49 rfl rfl (Nat.le_of_ble_eq_true rfl) ⟨by decide, by decide⟩ ⟨by decide, by decide⟩ ⟨rfl, rfl⟩ (fun x47 S45 h g46 => ?_)
          have h := h g46
          have o_v0 := gr_ob g46 o_v0
          exact r_iret (pc := 52) C E ht dX11_go_52 (by decide) (by decide) h
      · have h := h.2 c13
        exact r_sub [0] rfl (T_X11_go_29 C E ht hn h)
def P_X11_go (v0 : Nat) (v1 : Int32) (v2 : Int32) (v3 : Int32) (Q : Int32 → HS → Prop) (S : HS) : Prop := P_X11_go_0 Q v0 v1 v2 v3 S
theorem c_X11_go {l : Launch} {Ee : EE} {S : HS} {v0 : Nat} {v1 : Int32} {v2 : Int32} {v3 : Int32} {Q : Int32 → HS → Prop} (h : P_X11_go v0 v1 v2 v3 Q S) : MI l yX11_go cX11_go 6 (some .int) rm_X11_go Ee S [.ref v0, .int v1, .int v2, .int v3] Q :=
  openI (by decide) (Nat.le_of_ble_eq_true rfl) (fun X C E ht hn hE hl => by subst hE; exact r_sub [0, 1, 2, 3] rfl (T_X11_go_0 C E ht hn h))
def rm_X11_got : Room := { frames := 2, cells := 0, slots := 0, locals := 52 }
def P_X11_got_40 (Q : Int64 → HS → Prop) (v0 : Nat) (S : HS) : Prop := ob S v0 11 ∧ (P_X11_refused v0 (1 : Int32) (fun x3 S1 => Gr S S1 → (Q x3.toInt64 S1)) S)
set_option maxRecDepth 20000 in
set_option maxHeartbeats 4000000 in
theorem T_X11_got_40 {X : CX} {Q : Int64 → HS → Prop} (C : Cx X cX11_got RX11 3 rm_X11_got) (E : ReJ X rm_X11_got Q) (ht : (xh X).sig.returnType = (some .long)) (hn : (xh X).name = yX11_got.name) {v0 : Nat} {S : HS} (h : P_X11_got_40 Q v0 S) : WS X 3 0 0 40 [(0, .ref v0)] [] S := by
  refine r_aload_n (pc := 40) C dX11_got_40 0 rfl ?_
  refine r_iconst (pc := 41) C (v := (1 : Int32)) dX11_got_41 (by decide) ?_
  obtain ⟨o_v0, h⟩ := h
  refine r_callVi0 (pc := 42) C (rest := []) (a := v0) o_v0 [.int (1 : Int32)] yV_X11_refused g_1250 (c_X11_refused h) dX11_got_42 rfl rfl (Nat.le_of_ble_eq_true rfl) ⟨by decide, by decide⟩ ⟨by decide, by decide⟩ ⟨rfl, rfl⟩ (fun x3 S1 h g2 => ?_)
  have h := h g2
  have o_v0 := gr_ob g2 o_v0
  refine r_i2l (pc := 45) C dX11_got_45 ?_
  exact r_lret (pc := 46) C E ht dX11_got_46 (by decide) (by decide) h
def P_X11_got_0 (Q : Int64 → HS → Prop) (v0 : Nat) (v1 : Int32) (v2 : Int32) (S : HS) : Prop := ob S v0 11 ∧ (∀ S1 : HS, S1 = sI S v0 0 (0 : Int32) → (P_X11_isDay v0 (fun x4 S2 => Gr S1 S2 → bl x4 → (((x4 = 0) → (P_X11_got_40 Q v0 S2)) ∧ ((¬ x4 = 0) → (P_X11_in v1 (0 : Int32) (4 : Int32) (fun x8 S6 => Gr S2 S6 → bl x8 → (((x8 = 0) → (P_X11_got_40 Q v0 S6)) ∧ ((¬ x8 = 0) → (∃ a10 : Nat, fR S6 v0 21 = some a10 ∧ (ob S6 a10 14 ∧ (∀ x12 : Int32, x12 = (2 : Int32) + v1 → (vp_in x12 (hN S6 a10) ∧ ∀ x13 : Int64, x13 = fJ S6 a10 x12.toNatClampNeg → (P_X11_told v0 x13 (2520 : Int64) v2 (fun x16 S14 => Gr S6 S14 → (Q x16 S14)) S6)))))))) S2)))) S1))
set_option maxRecDepth 20000 in
set_option maxHeartbeats 4000000 in
theorem T_X11_got_0 {X : CX} {Q : Int64 → HS → Prop} (C : Cx X cX11_got RX11 3 rm_X11_got) (E : ReJ X rm_X11_got Q) (ht : (xh X).sig.returnType = (some .long)) (hn : (xh X).name = yX11_got.name) {v0 : Nat} {v1 : Int32} {v2 : Int32} {S : HS} (h : P_X11_got_0 Q v0 v1 v2 S) : WS X 3 0 0 0 [(0, .ref v0), (1, .int v1), (2, .int v2)] [] S := by
  refine r_aload_n (pc := 0) C dX11_got_0 0 rfl ?_
  refine r_iconst (pc := 1) C (v := (0 : Int32)) dX11_got_1 (by decide) ?_
  obtain ⟨o_v0, h⟩ := h
  refine r_puti (pc := 2) C pfL_X11_40 dX11_got_2 o_v0 ?_
  refine r_heap (fun S1 eS1 => ?_)
  have h := h S1 eS1
  have o_v0 := ob_I eS1 o_v0
  refine r_aload_n (pc := 5) C dX11_got_5 0 rfl ?_
  refine r_callVi0 (pc := 6) C (rest := []) (a := v0) o_v0 [] yV_X11_isDay g_1779 (c_X11_isDay h) dX11_got_6 rfl rfl (Nat.le_of_ble_eq_true rfl) ⟨by decide, by decide⟩ ⟨by decide, by decide⟩ ⟨rfl, rfl⟩ (fun x4 S2 h g3 => ?_)
  have bx4 := h.1
  have h := h.2 g3 bx4
  have o_v0 := gr_ob g3 o_v0
  refine r_if_eq (pc := 9) C (tgt := 40) dX11_got_9 (by decide) (fun c5 => ?_) (fun c5 => ?_)
  · have h := h.1 c5
    exact r_sub [0] rfl (T_X11_got_40 C E ht hn h)
  · have h := h.2 c5
    refine r_iload_n (pc := 12) C dX11_got_12 1 rfl ?_
    refine r_iconst (pc := 13) C (v := (0 : Int32)) dX11_got_13 (by decide) ?_
    refine r_iconst (pc := 14) C (v := (4 : Int32)) dX11_got_14 (by decide) ?_
    refine r_callSi0 (pc := 15) C (rest := []) rfl [.int v1, .int (0 : Int32), .int (4 : Int32)] yS_X11_in g_1434 (c_X11_in h) dX11_got_15 rfl rfl (Nat.le_of_ble_eq_true rfl) ⟨by decide, by decide⟩ ⟨by decide, by decide⟩ ⟨rfl, rfl⟩ (fun x8 S6 h g7 => ?_)
    have bx8 := h.1
    have h := h.2 g7 bx8
    have o_v0 := gr_ob g7 o_v0
    refine r_if_eq (pc := 18) C (tgt := 40) dX11_got_18 (by decide) (fun c9 => ?_) (fun c9 => ?_)
    · have h := h.1 c9
      exact r_sub [0] rfl (T_X11_got_40 C E ht hn h)
    · have h := h.2 c9
      refine r_aload_n (pc := 21) C dX11_got_21 0 rfl ?_
      refine r_aload_n (pc := 22) C dX11_got_22 0 rfl ?_
      obtain ⟨a10, ea10, h⟩ := h
      refine r_getr (pc := 23) C fL_X11_31 dX11_got_23 o_v0 ea10 ?_
      refine r_iconst (pc := 26) C (v := (2 : Int32)) dX11_got_26 (by decide) ?_
      refine r_iload_n (pc := 27) C dX11_got_27 1 rfl ?_
      refine r_iadd (pc := 28) C dX11_got_28 ?_
      obtain ⟨o_a10, h⟩ := h
      refine r_topi (fun x12 ex12 => ?_)
      have h := h x12 ex12
      obtain ⟨i11, h⟩ := h
      refine r_lald (pc := 29) C dX11_got_29 o_a10 i11 ?_
      refine r_topl (fun x13 ex13 => ?_)
      have h := h x13 ex13
      refine r_ldc2 (pc := 30) C (v := (2520 : Int64)) dX11_got_30 g_1585 ?_
      refine r_iload_n (pc := 33) C dX11_got_33 2 rfl ?_
      refine r_callVl0 (pc := 34) C (rest := []) (a := v0) o_v0 [.long x13, .long (2520 : Int64), .int v2] yV_X11_told g_1586 (c_X11_told h) dX11_got_34 rfl rfl (Nat.le_of_ble_eq_true rfl) ⟨by decide, by decide⟩ ⟨by decide, by decide⟩ ⟨rfl, rfl⟩ (fun x16 S14 h g15 => ?_)
      have h := h g15
      have o_a10 := gr_ob g15 o_a10
      have o_v0 := gr_ob g15 o_v0
      refine r_goto (pc := 37) C (tgt := 46) dX11_got_37 (by decide) ?_
      exact r_lret (pc := 46) C E ht dX11_got_46 (by decide) (by decide) h
def P_X11_got (v0 : Nat) (v1 : Int32) (v2 : Int32) (Q : Int64 → HS → Prop) (S : HS) : Prop := P_X11_got_0 Q v0 v1 v2 S
theorem c_X11_got {l : Launch} {Ee : EE} {S : HS} {v0 : Nat} {v1 : Int32} {v2 : Int32} {Q : Int64 → HS → Prop} (h : P_X11_got v0 v1 v2 Q S) : MJ l yX11_got cX11_got 3 (some .long) rm_X11_got Ee S [.ref v0, .int v1, .int v2] Q :=
  openJ (by decide) (Nat.le_of_ble_eq_true rfl) (fun X C E ht hn hE hl => by subst hE; exact r_sub [0, 1, 2] rfl (T_X11_got_0 C E ht hn h))
def rm_X11_gotInAll : Room := { frames := 0, cells := 0, slots := 0, locals := 0 }
def B_X11_gotInAll_4 (Q : Int64 → HS → Prop) (X4 : Nat → Int64 → Int32 → HS → Prop) (v0 : Nat) (v1 : Int64) (v3 : Int32) (S : HS) : Prop := (((5 : Int32) ≤ v3) → (Q v1 S)) ∧ ((¬ (5 : Int32) ≤ v3) → (ob S v0 11 ∧ (∃ a2 : Nat, fR S v0 21 = some a2 ∧ (ob S a2 14 ∧ (∀ x4 : Int32, x4 = (2 : Int32) + v3 → (vp_in x4 (hN S a2) ∧ ∀ x5 : Int64, x5 = fJ S a2 x4.toNatClampNeg → (∀ x6 : Int64, x6 = v1 + x5 → (∀ x7 : Int32, x7 = v3 + (1 : Int32) → (X4 v0 x6 x7 S)))))))))
def P_X11_gotInAll_4 (Q : Int64 → HS → Prop) (v0 : Nat) (v1 : Int64) (v3 : Int32) (S : HS) : Prop := ∀ X4 : Nat → Int64 → Int32 → HS → Prop, (∀ (v0 : Nat) (v1 : Int64) (v3 : Int32) (S : HS), B_X11_gotInAll_4 Q X4 v0 v1 v3 S → X4 v0 v1 v3 S) → X4 v0 v1 v3 S
set_option maxRecDepth 20000 in
set_option maxHeartbeats 4000000 in
theorem TB_X11_gotInAll_4 {X : CX} {Q : Int64 → HS → Prop} (C : Cx X cX11_gotInAll RX11 4 rm_X11_gotInAll) (E : ReJ X rm_X11_gotInAll Q) (ht : (xh X).sig.returnType = (some .long)) (hn : (xh X).name = yX11_gotInAll.name) {X4 : Nat → Int64 → Int32 → HS → Prop} (hX4 : ∀ (v0 : Nat) (v1 : Int64) (v3 : Int32) (S : HS), X4 v0 v1 v3 S → WS X 4 0 0 4 [(0, .ref v0), (1, .long v1), (3, .int v3)] [] S) {v0 : Nat} {v1 : Int64} {v3 : Int32} {S : HS} (h : B_X11_gotInAll_4 Q X4 v0 v1 v3 S) : WS X 4 0 0 4 [(0, .ref v0), (1, .long v1), (3, .int v3)] [] S := by
  refine r_iload_n (pc := 4) C dX11_gotInAll_4 2 rfl ?_
  refine r_iconst (pc := 5) C (v := (5 : Int32)) dX11_gotInAll_5 (by decide) ?_
  refine r_icmp_ge (pc := 6) C (tgt := 26) dX11_gotInAll_6 (by decide) (fun c1 => ?_) (fun c1 => ?_)
  · have h := h.1 c1
    refine r_lload_n (pc := 26) C dX11_gotInAll_26 1 rfl ?_
    exact r_lret (pc := 27) C E ht dX11_gotInAll_27 (by decide) (by decide) h
  · have h := h.2 c1
    refine r_lload_n (pc := 9) C dX11_gotInAll_9 1 rfl ?_
    refine r_aload_n (pc := 10) C dX11_gotInAll_10 0 rfl ?_
    obtain ⟨o_v0, h⟩ := h
    obtain ⟨a2, ea2, h⟩ := h
    refine r_getr (pc := 11) C fL_X11_31 dX11_gotInAll_11 o_v0 ea2 ?_
    refine r_iconst (pc := 14) C (v := (2 : Int32)) dX11_gotInAll_14 (by decide) ?_
    refine r_iload_n (pc := 15) C dX11_gotInAll_15 2 rfl ?_
    refine r_iadd (pc := 16) C dX11_gotInAll_16 ?_
    obtain ⟨o_a2, h⟩ := h
    refine r_topi (fun x4 ex4 => ?_)
    have h := h x4 ex4
    obtain ⟨i3, h⟩ := h
    refine r_lald (pc := 17) C dX11_gotInAll_17 o_a2 i3 ?_
    refine r_topl (fun x5 ex5 => ?_)
    have h := h x5 ex5
    refine r_ladd (pc := 18) C dX11_gotInAll_18 ?_
    refine r_topl (fun x6 ex6 => ?_)
    have h := h x6 ex6
    refine r_lstore_n (pc := 19) C dX11_gotInAll_19 rfl (by decide) (lv' := [(1, .long x6), (0, .ref v0), (3, .int v3)]) rfl ?_
    obtain ⟨x7, ex7⟩ : ∃ z : Int32, z = v3 + (1 : Int32) := ⟨_, rfl⟩
    have h := h x7 ex7
    refine r_iinc (pc := 20) C (v := x7) (lv' := [(3, .int x7), (1, .long x6), (0, .ref v0)]) dX11_gotInAll_20 2 rfl ex7.symm (by decide) rfl ?_
    refine r_goto (pc := 23) C (tgt := 4) dX11_gotInAll_23 (by decide) ?_
    exact r_sub [2, 1, 0] rfl (hX4 v0 x6 x7 S h)
theorem T_X11_gotInAll_4 {X : CX} {Q : Int64 → HS → Prop} (C : Cx X cX11_gotInAll RX11 4 rm_X11_gotInAll) (E : ReJ X rm_X11_gotInAll Q) (ht : (xh X).sig.returnType = (some .long)) (hn : (xh X).name = yX11_gotInAll.name) {v0 : Nat} {v1 : Int64} {v3 : Int32} {S : HS} (h : P_X11_gotInAll_4 Q v0 v1 v3 S) : WS X 4 0 0 4 [(0, .ref v0), (1, .long v1), (3, .int v3)] [] S :=
  h (fun v0 v1 v3 S => WS X 4 0 0 4 [(0, .ref v0), (1, .long v1), (3, .int v3)] [] S) (fun v0 v1 v3 S hh => TB_X11_gotInAll_4 C E ht hn (fun v0 v1 v3 S z => z) hh)
def P_X11_gotInAll_0 (Q : Int64 → HS → Prop) (v0 : Nat) (S : HS) : Prop := P_X11_gotInAll_4 Q v0 (0 : Int64) (0 : Int32) S
set_option maxRecDepth 20000 in
set_option maxHeartbeats 4000000 in
theorem T_X11_gotInAll_0 {X : CX} {Q : Int64 → HS → Prop} (C : Cx X cX11_gotInAll RX11 4 rm_X11_gotInAll) (E : ReJ X rm_X11_gotInAll Q) (ht : (xh X).sig.returnType = (some .long)) (hn : (xh X).name = yX11_gotInAll.name) {v0 : Nat} {S : HS} (h : P_X11_gotInAll_0 Q v0 S) : WS X 4 0 0 0 [(0, .ref v0)] [] S := by
  refine r_lconst (pc := 0) C (v := (0 : Int64)) dX11_gotInAll_0 (by decide) ?_
  refine r_lstore_n (pc := 1) C dX11_gotInAll_1 rfl (by decide) (lv' := [(1, .long (0 : Int64)), (0, .ref v0)]) rfl ?_
  refine r_iconst (pc := 2) C (v := (0 : Int32)) dX11_gotInAll_2 (by decide) ?_
  refine r_istore_n (pc := 3) C dX11_gotInAll_3 rfl (by decide) (lv' := [(3, .int (0 : Int32)), (1, .long (0 : Int64)), (0, .ref v0)]) rfl ?_
  exact r_sub [2, 1, 0] rfl (T_X11_gotInAll_4 C E ht hn h)
def P_X11_gotInAll (v0 : Nat) (Q : Int64 → HS → Prop) (S : HS) : Prop := P_X11_gotInAll_0 Q v0 S
theorem c_X11_gotInAll {l : Launch} {Ee : EE} {S : HS} {v0 : Nat} {Q : Int64 → HS → Prop} (h : P_X11_gotInAll v0 Q S) : MJ l yX11_gotInAll cX11_gotInAll 4 (some .long) rm_X11_gotInAll Ee S [.ref v0] Q :=
  openJ (by decide) (Nat.le_of_ble_eq_true rfl) (fun X C E ht hn hE hl => by subst hE; exact r_sub [0] rfl (T_X11_gotInAll_0 C E ht hn h))
def rm_X11_held : Room := { frames := 3, cells := 0, slots := 0, locals := 76 }
def P_X11_held_68 (Q : Int32 → HS → Prop) (s0 : Nat) (s1 : Int32) (S : HS) : Prop := ob S s0 11 ∧ (P_X11_good s0 s1 (fun x3 S1 => Gr S S1 → (Q x3 S1)) S)
set_option maxRecDepth 20000 in
set_option maxHeartbeats 4000000 in
theorem T_X11_held_68 {X : CX} {Q : Int32 → HS → Prop} (C : Cx X cX11_held RX11 7 rm_X11_held) (E : ReI X rm_X11_held Q) (ht : (xh X).sig.returnType = (some .int)) (hn : (xh X).name = yX11_held.name) {s0 : Nat} {s1 : Int32} {S : HS} (h : P_X11_held_68 Q s0 s1 S) : WS X 7 0 0 68 [] [.int s1, .ref s0] S := by
  obtain ⟨o_s0, h⟩ := h
  refine r_callVi0 (pc := 68) C (rest := []) (a := s0) o_s0 [.int s1] yV_X11_good g_1518 (c_X11_good h) dX11_held_68 rfl rfl (Nat.le_of_ble_eq_true rfl) ⟨by decide, by decide⟩ ⟨by decide, by decide⟩ ⟨rfl, rfl⟩ (fun x3 S1 h g2 => ?_)
  have h := h g2
  have o_s0 := gr_ob g2 o_s0
  exact r_iret (pc := 71) C E ht dX11_held_71 (by decide) (by decide) h
def P_X11_held_0 (Q : Int32 → HS → Prop) (v0 : Nat) (v1 : Int32) (v2 : Int32) (v3 : Int32) (v4 : Int32) (v5 : Int32) (S : HS) : Prop := ob S v0 11 ∧ (∀ S1 : HS, S1 = sI S v0 0 (0 : Int32) → (P_X11_refuses v0 v1 v2 v3 v4 v5 (fun x4 S2 => Gr S1 S2 → (((x4 ≤ 0) → (∃ a6 : Nat, fR S2 v0 3 = some a6 ∧ (ob S2 a6 10 ∧ (∃ a7 : Nat, fR S2 a6 19 = some a7 ∧ (ob S2 a7 13 ∧ (vp_in v1 (hN S2 a7) ∧ ∀ x9 : Int32, x9 = fI S2 a7 v1.toNatClampNeg → (((x9 = (3 : Int32)) → (P_X11_isForward v0 v1 v2 v3 v4 v5 (fun x13 S11 => Gr S2 S11 → bl x13 → (((x13 = 0) → (P_X11_held_68 Q v0 (0 : Int32) S11)) ∧ ((¬ x13 = 0) → (P_X11_held_68 Q v0 (1 : Int32) S11)))) S2)) ∧ ((¬ x9 = (3 : Int32)) → (P_X11_held_68 Q v0 (-2 : Int32) S2))))))))) ∧ ((¬ x4 ≤ 0) → (P_X11_refused v0 x4 (fun x17 S15 => Gr S2 S15 → (Q x17 S15)) S2)))) S1))
set_option maxRecDepth 20000 in
set_option maxHeartbeats 4000000 in
theorem T_X11_held_0 {X : CX} {Q : Int32 → HS → Prop} (C : Cx X cX11_held RX11 7 rm_X11_held) (E : ReI X rm_X11_held Q) (ht : (xh X).sig.returnType = (some .int)) (hn : (xh X).name = yX11_held.name) {v0 : Nat} {v1 : Int32} {v2 : Int32} {v3 : Int32} {v4 : Int32} {v5 : Int32} {S : HS} (h : P_X11_held_0 Q v0 v1 v2 v3 v4 v5 S) : WS X 7 0 0 0 [(0, .ref v0), (1, .int v1), (2, .int v2), (3, .int v3), (4, .int v4), (5, .int v5)] [] S := by
  refine r_aload_n (pc := 0) C dX11_held_0 0 rfl ?_
  refine r_iconst (pc := 1) C (v := (0 : Int32)) dX11_held_1 (by decide) ?_
  obtain ⟨o_v0, h⟩ := h
  refine r_puti (pc := 2) C pfL_X11_40 dX11_held_2 o_v0 ?_
  refine r_heap (fun S1 eS1 => ?_)
  have h := h S1 eS1
  have o_v0 := ob_I eS1 o_v0
  refine r_aload_n (pc := 5) C dX11_held_5 0 rfl ?_
  refine r_iload_n (pc := 6) C dX11_held_6 1 rfl ?_
  refine r_iload_n (pc := 7) C dX11_held_7 2 rfl ?_
  refine r_iload_n (pc := 8) C dX11_held_8 3 rfl ?_
  refine r_iload (pc := 9) C dX11_held_9 4 rfl ?_
  refine r_iload (pc := 11) C dX11_held_11 5 rfl ?_
  refine r_callVi0 (pc := 13) C (rest := []) (a := v0) o_v0 [.int v1, .int v2, .int v3, .int v4, .int v5] yV_X11_refuses g_1534 (c_X11_refuses h) dX11_held_13 rfl rfl (Nat.le_of_ble_eq_true rfl) ⟨by decide, by decide⟩ ⟨by decide, by decide⟩ ⟨rfl, rfl⟩ (fun x4 S2 h g3 => ?_)
  have h := h g3
  have o_v0 := gr_ob g3 o_v0
  refine r_istore (pc := 16) C dX11_held_16 (by decide) (lv' := [(6, .int x4), (0, .ref v0), (1, .int v1), (2, .int v2), (3, .int v3), (4, .int v4), (5, .int v5)]) rfl ?_
  refine r_iload (pc := 18) C dX11_held_18 0 rfl ?_
  refine r_if_le (pc := 20) C (tgt := 30) dX11_held_20 (by decide) (fun c5 => ?_) (fun c5 => ?_)
  · have h := h.1 c5
    refine r_aload_n (pc := 30) C dX11_held_30 1 rfl ?_
    refine r_aload_n (pc := 31) C dX11_held_31 1 rfl ?_
    obtain ⟨a6, ea6, h⟩ := h
    refine r_getr (pc := 32) C fL_X11_338 dX11_held_32 o_v0 ea6 ?_
    obtain ⟨o_a6, h⟩ := h
    obtain ⟨a7, ea7, h⟩ := h
    refine r_getNr (pc := 35) C fN_X11_302 dX11_held_35 o_a6 ea7 ?_
    refine r_iload_n (pc := 38) C dX11_held_38 2 rfl ?_
    obtain ⟨o_a7, h⟩ := h
    obtain ⟨i8, h⟩ := h
    refine r_iald (pc := 39) C dX11_held_39 o_a7 i8 ?_
    refine r_topi (fun x9 ex9 => ?_)
    have h := h x9 ex9
    refine r_iconst (pc := 40) C (v := (3 : Int32)) dX11_held_40 (by decide) ?_
    refine r_icmp_eq (pc := 41) C (tgt := 49) dX11_held_41 (by decide) (fun c10 => ?_) (fun c10 => ?_)
    · have h := h.1 c10
      refine r_aload_n (pc := 49) C dX11_held_49 1 rfl ?_
      refine r_iload_n (pc := 50) C dX11_held_50 2 rfl ?_
      refine r_iload_n (pc := 51) C dX11_held_51 3 rfl ?_
      refine r_iload_n (pc := 52) C dX11_held_52 4 rfl ?_
      refine r_iload (pc := 53) C dX11_held_53 5 rfl ?_
      refine r_iload (pc := 55) C dX11_held_55 6 rfl ?_
      refine r_callVi0 (pc := 57) C (rest := [.ref v0]) (a := v0) o_v0 [.int v1, .int v2, .int v3, .int v4, .int v5] yV_X11_isForward g_1574 (c_X11_isForward h) dX11_held_57 rfl rfl (Nat.le_of_ble_eq_true rfl) ⟨by decide, by decide⟩ ⟨by decide, by decide⟩ ⟨rfl, rfl⟩ (fun x13 S11 h g12 => ?_)
      have bx13 := h.1
      have h := h.2 g12 bx13
      have o_a6 := gr_ob g12 o_a6
      have o_a7 := gr_ob g12 o_a7
      have o_v0 := gr_ob g12 o_v0
      refine r_if_eq (pc := 60) C (tgt := 67) dX11_held_60 (by decide) (fun c14 => ?_) (fun c14 => ?_)
      · have h := h.1 c14
        refine r_iconst (pc := 67) C (v := (0 : Int32)) dX11_held_67 (by decide) ?_
        exact r_sub [] rfl (T_X11_held_68 C E ht hn h)
      · have h := h.2 c14
        refine r_iconst (pc := 63) C (v := (1 : Int32)) dX11_held_63 (by decide) ?_
        refine r_goto (pc := 64) C (tgt := 68) dX11_held_64 (by decide) ?_
        exact r_sub [] rfl (T_X11_held_68 C E ht hn h)
    · have h := h.2 c10
      refine r_bipush (pc := 44) C (v := (-2 : Int32)) dX11_held_44 (by decide) ?_
      refine r_goto (pc := 46) C (tgt := 68) dX11_held_46 (by decide) ?_
      exact r_sub [] rfl (T_X11_held_68 C E ht hn h)
  · have h := h.2 c5
    refine r_aload_n (pc := 23) C dX11_held_23 1 rfl ?_
    refine r_iload (pc := 24) C dX11_held_24 0 rfl ?_
    refine r_callVi0 (pc := 26) C (rest := []) (a := v0) o_v0 [.int x4] yV_X11_refused g_1250 (c_X11_refused h) dX11_held_26 rfl rfl (Nat.le_of_ble_eq_true rfl) ⟨by decide, by decide⟩ ⟨by decide, by decide⟩ ⟨rfl, rfl⟩ (fun x17 S15 h g16 => ?_)
    have h := h g16
    have o_v0 := gr_ob g16 o_v0
    exact r_iret (pc := 29) C E ht dX11_held_29 (by decide) (by decide) h
def P_X11_held (v0 : Nat) (v1 : Int32) (v2 : Int32) (v3 : Int32) (v4 : Int32) (v5 : Int32) (Q : Int32 → HS → Prop) (S : HS) : Prop := P_X11_held_0 Q v0 v1 v2 v3 v4 v5 S
theorem c_X11_held {l : Launch} {Ee : EE} {S : HS} {v0 : Nat} {v1 : Int32} {v2 : Int32} {v3 : Int32} {v4 : Int32} {v5 : Int32} {Q : Int32 → HS → Prop} (h : P_X11_held v0 v1 v2 v3 v4 v5 Q S) : MI l yX11_held cX11_held 7 (some .int) rm_X11_held Ee S [.ref v0, .int v1, .int v2, .int v3, .int v4, .int v5] Q :=
  openI (by decide) (Nat.le_of_ble_eq_true rfl) (fun X C E ht hn hE hl => by subst hE; exact r_sub [0, 1, 2, 3, 4, 5] rfl (T_X11_held_0 C E ht hn h))
def rm_X11_holds : Room := { frames := 0, cells := 0, slots := 0, locals := 0 }
def P_X11_holds_0 (Q : Int64 → HS → Prop) (v0 : Nat) (S : HS) : Prop := ob S v0 11 ∧ (∃ a1 : Nat, fR S v0 3 = some a1 ∧ (ob S a1 10 ∧ (∃ a2 : Nat, fR S a1 19 = some a2 ∧ (∀ x3 : Int32, x3 = fI S v0 19 → (ob S a2 13 ∧ (vp_in x3 (hN S a2) ∧ ∀ x5 : Int32, x5 = fI S a2 x3.toNatClampNeg → (((¬ x5 = (2 : Int32)) → (Q (0 : Int64) S)) ∧ ((x5 = (2 : Int32)) → (∃ a7 : Nat, fR S v0 3 = some a7 ∧ (ob S a7 10 ∧ (∃ a8 : Nat, fR S a7 20 = some a8 ∧ (∀ x9 : Int32, x9 = fI S v0 19 → (ob S a8 13 ∧ (vp_in x9 (hN S a8) ∧ ∀ x11 : Int32, x11 = fI S a8 x9.toNatClampNeg → (Q ((2520 : Int64) * x11.toInt64) S)))))))))))))))
set_option maxRecDepth 20000 in
set_option maxHeartbeats 4000000 in
theorem T_X11_holds_0 {X : CX} {Q : Int64 → HS → Prop} (C : Cx X cX11_holds RX11 1 rm_X11_holds) (E : ReJ X rm_X11_holds Q) (ht : (xh X).sig.returnType = (some .long)) (hn : (xh X).name = yX11_holds.name) {v0 : Nat} {S : HS} (h : P_X11_holds_0 Q v0 S) : WS X 1 0 0 0 [(0, .ref v0)] [] S := by
  refine r_aload_n (pc := 0) C dX11_holds_0 0 rfl ?_
  obtain ⟨o_v0, h⟩ := h
  obtain ⟨a1, ea1, h⟩ := h
  refine r_getr (pc := 1) C fL_X11_338 dX11_holds_1 o_v0 ea1 ?_
  obtain ⟨o_a1, h⟩ := h
  obtain ⟨a2, ea2, h⟩ := h
  refine r_getNr (pc := 4) C fN_X11_302 dX11_holds_4 o_a1 ea2 ?_
  refine r_aload_n (pc := 7) C dX11_holds_7 0 rfl ?_
  refine r_geti (pc := 8) C fL_X11_28 dX11_holds_8 o_v0 ?_
  refine r_topi (fun x3 ex3 => ?_)
  have h := h x3 ex3
  obtain ⟨o_a2, h⟩ := h
  obtain ⟨i4, h⟩ := h
  refine r_iald (pc := 11) C dX11_holds_11 o_a2 i4 ?_
  refine r_topi (fun x5 ex5 => ?_)
  have h := h x5 ex5
  refine r_iconst (pc := 12) C (v := (2 : Int32)) dX11_holds_12 (by decide) ?_
  refine r_icmp_ne (pc := 13) C (tgt := 36) dX11_holds_13 (by decide) (fun c6 => ?_) (fun c6 => ?_)
  · have h := h.1 c6
    refine r_lconst (pc := 36) C (v := (0 : Int64)) dX11_holds_36 (by decide) ?_
    exact r_lret (pc := 37) C E ht dX11_holds_37 (by decide) (by decide) h
  · have h := h.2 c6
    refine r_ldc2 (pc := 16) C (v := (2520 : Int64)) dX11_holds_16 g_1585 ?_
    refine r_aload_n (pc := 19) C dX11_holds_19 0 rfl ?_
    obtain ⟨a7, ea7, h⟩ := h
    refine r_getr (pc := 20) C fL_X11_338 dX11_holds_20 o_v0 ea7 ?_
    obtain ⟨o_a7, h⟩ := h
    obtain ⟨a8, ea8, h⟩ := h
    refine r_getNr (pc := 23) C fN_X11_305 dX11_holds_23 o_a7 ea8 ?_
    refine r_aload_n (pc := 26) C dX11_holds_26 0 rfl ?_
    refine r_geti (pc := 27) C fL_X11_28 dX11_holds_27 o_v0 ?_
    refine r_topi (fun x9 ex9 => ?_)
    have h := h x9 ex9
    obtain ⟨o_a8, h⟩ := h
    obtain ⟨i10, h⟩ := h
    refine r_iald (pc := 30) C dX11_holds_30 o_a8 i10 ?_
    refine r_topi (fun x11 ex11 => ?_)
    have h := h x11 ex11
    refine r_i2l (pc := 31) C dX11_holds_31 ?_
    refine r_lmul (pc := 32) C dX11_holds_32 ?_
    refine r_goto (pc := 33) C (tgt := 37) dX11_holds_33 (by decide) ?_
    exact r_lret (pc := 37) C E ht dX11_holds_37 (by decide) (by decide) h
def P_X11_holds (v0 : Nat) (Q : Int64 → HS → Prop) (S : HS) : Prop := P_X11_holds_0 Q v0 S
theorem c_X11_holds {l : Launch} {Ee : EE} {S : HS} {v0 : Nat} {Q : Int64 → HS → Prop} (h : P_X11_holds v0 Q S) : MJ l yX11_holds cX11_holds 1 (some .long) rm_X11_holds Ee S [.ref v0] Q :=
  openJ (by decide) (Nat.le_of_ble_eq_true rfl) (fun X C E ht hn hE hl => by subst hE; exact r_sub [0] rfl (T_X11_holds_0 C E ht hn h))
def rm_X11_init : Room := { frames := 1, cells := 7, slots := 10664, locals := 20 }
def P_X11_init_0 (Q : HS → Prop) (v0 : Nat) (S : HS) : Prop := ob S v0 11 ∧ (∀ S1 : HS, S1 = sI S v0 2 (-1 : Int32) → (∀ a2 : Nat, a2 ∉ hL S1 → ∀ S3 : HS, S3 = nW S1 a2 12 900 → (∀ S4 : HS, S4 = sR S3 v0 5 (some a2) → (∀ a5 : Nat, a5 ∉ hL S4 → ∀ S6 : HS, S6 = nW S4 a5 14 3208 → (∀ S7 : HS, S7 = sR S6 v0 16 (some a5) → (∀ a8 : Nat, a8 ∉ hL S7 → ∀ S9 : HS, S9 = nW S7 a8 13 3208 → (∀ S10 : HS, S10 = sR S9 v0 17 (some a8) → (∀ a11 : Nat, a11 ∉ hL S10 → ∀ S12 : HS, S12 = nW S10 a11 13 3208 → (∀ S13 : HS, S13 = sR S12 v0 18 (some a11) → (∀ S14 : HS, S14 = sI S13 v0 19 (-2 : Int32) → (∀ a15 : Nat, a15 ∉ hL S14 → ∀ S16 : HS, S16 = nW S14 a15 14 7 → (∀ S17 : HS, S17 = sR S16 v0 21 (some a15) → (∀ a18 : Nat, a18 ∉ hL S17 → ∀ S19 : HS, S19 = nW S17 a18 14 112 → (∀ S20 : HS, S20 = sR S19 v0 22 (some a18) → (∀ a21 : Nat, a21 ∉ hL S20 → ∀ S22 : HS, S22 = nW S20 a21 14 21 → (∀ S23 : HS, S23 = sR S22 v0 23 (some a21) → (Q S23)))))))))))))))))
set_option maxRecDepth 20000 in
set_option maxHeartbeats 4000000 in
theorem T_X11_init_0 {X : CX} {Q : HS → Prop} (C : Cx X cX11_init RX11 1 rm_X11_init) (E : ReV X rm_X11_init Q) (ht : (xh X).sig.returnType = none) (hn : (xh X).name = yX11_init.name) {v0 : Nat} {S : HS} (h : P_X11_init_0 Q v0 S) : WS X 1 0 0 0 [(0, .ref v0)] [] S := by
  refine r_aload_n (pc := 0) C dX11_init_0 0 rfl ?_
  refine r_objinit (pc := 1) C g_1162 dX11_init_1 (by decide) (Nat.le_of_ble_eq_true rfl) ?_
  refine r_aload_n (pc := 4) C dX11_init_4 0 rfl ?_
  refine r_iconst (pc := 5) C (v := (-1 : Int32)) dX11_init_5 (by decide) ?_
  obtain ⟨o_v0, h⟩ := h
  refine r_puti (pc := 6) C pfL_X11_9 dX11_init_6 o_v0 ?_
  refine r_heap (fun S1 eS1 => ?_)
  have h := h S1 eS1
  have o_v0 := ob_I eS1 o_v0
  refine r_aload_n (pc := 9) C dX11_init_9 0 rfl ?_
  refine r_sipush (pc := 10) C (v := (900 : Int32)) dX11_init_10 (by decide) ?_
  refine r_newa12 (pc := 13) C (N := 900) g_71 dX11_init_13 (by decide) (by decide) (by decide) (by decide) (by decide) (fun a2 q36 => ?_)
  refine r_heap (fun S3 eS3 => ?_)
  have h := h a2 q36 S3 eS3
  have g37 := gr_of_new eS3 q36
  have o_a2 := ob_of_new eS3
  have o_v0 := gr_ob g37 o_v0
  refine r_putFr (pc := 15) C pfL_X11_13 hn dX11_init_15 o_v0 ?_
  refine r_heap (fun S4 eS4 => ?_)
  have h := h S4 eS4
  have o_a2 := ob_R eS4 o_a2
  have o_v0 := ob_R eS4 o_v0
  refine r_aload_n (pc := 18) C dX11_init_18 0 rfl ?_
  refine r_sipush (pc := 19) C (v := (3208 : Int32)) dX11_init_19 (by decide) ?_
  refine r_newa14 (pc := 22) C (N := 3208) g_266 dX11_init_22 (by decide) (by decide) (by decide) (by decide) (by decide) (fun a5 q34 => ?_)
  refine r_heap (fun S6 eS6 => ?_)
  have h := h a5 q34 S6 eS6
  have g35 := gr_of_new eS6 q34
  have o_a5 := ob_of_new eS6
  have o_a2 := gr_ob g35 o_a2
  have o_v0 := gr_ob g35 o_v0
  refine r_putFr (pc := 24) C pfL_X11_17 hn dX11_init_24 o_v0 ?_
  refine r_heap (fun S7 eS7 => ?_)
  have h := h S7 eS7
  have o_a2 := ob_R eS7 o_a2
  have o_a5 := ob_R eS7 o_a5
  have o_v0 := ob_R eS7 o_v0
  refine r_aload_n (pc := 27) C dX11_init_27 0 rfl ?_
  refine r_sipush (pc := 28) C (v := (3208 : Int32)) dX11_init_28 (by decide) ?_
  refine r_newa13 (pc := 31) C (N := 3208) g_72 dX11_init_31 (by decide) (by decide) (by decide) (by decide) (by decide) (fun a8 q32 => ?_)
  refine r_heap (fun S9 eS9 => ?_)
  have h := h a8 q32 S9 eS9
  have g33 := gr_of_new eS9 q32
  have o_a8 := ob_of_new eS9
  have o_a2 := gr_ob g33 o_a2
  have o_a5 := gr_ob g33 o_a5
  have o_v0 := gr_ob g33 o_v0
  refine r_putFr (pc := 33) C pfL_X11_21 hn dX11_init_33 o_v0 ?_
  refine r_heap (fun S10 eS10 => ?_)
  have h := h S10 eS10
  have o_a2 := ob_R eS10 o_a2
  have o_a5 := ob_R eS10 o_a5
  have o_a8 := ob_R eS10 o_a8
  have o_v0 := ob_R eS10 o_v0
  refine r_aload_n (pc := 36) C dX11_init_36 0 rfl ?_
  refine r_sipush (pc := 37) C (v := (3208 : Int32)) dX11_init_37 (by decide) ?_
  refine r_newa13 (pc := 40) C (N := 3208) g_72 dX11_init_40 (by decide) (by decide) (by decide) (by decide) (by decide) (fun a11 q30 => ?_)
  refine r_heap (fun S12 eS12 => ?_)
  have h := h a11 q30 S12 eS12
  have g31 := gr_of_new eS12 q30
  have o_a11 := ob_of_new eS12
  have o_a2 := gr_ob g31 o_a2
  have o_a5 := gr_ob g31 o_a5
  have o_a8 := gr_ob g31 o_a8
  have o_v0 := gr_ob g31 o_v0
  refine r_putFr (pc := 42) C pfL_X11_25 hn dX11_init_42 o_v0 ?_
  refine r_heap (fun S13 eS13 => ?_)
  have h := h S13 eS13
  have o_a11 := ob_R eS13 o_a11
  have o_a2 := ob_R eS13 o_a2
  have o_a5 := ob_R eS13 o_a5
  have o_a8 := ob_R eS13 o_a8
  have o_v0 := ob_R eS13 o_v0
  refine r_aload_n (pc := 45) C dX11_init_45 0 rfl ?_
  refine r_bipush (pc := 46) C (v := (-2 : Int32)) dX11_init_46 (by decide) ?_
  refine r_puti (pc := 48) C pfL_X11_28 dX11_init_48 o_v0 ?_
  refine r_heap (fun S14 eS14 => ?_)
  have h := h S14 eS14
  have o_a11 := ob_I eS14 o_a11
  have o_a2 := ob_I eS14 o_a2
  have o_a5 := ob_I eS14 o_a5
  have o_a8 := ob_I eS14 o_a8
  have o_v0 := ob_I eS14 o_v0
  refine r_aload_n (pc := 51) C dX11_init_51 0 rfl ?_
  refine r_bipush (pc := 52) C (v := (7 : Int32)) dX11_init_52 (by decide) ?_
  refine r_newa14 (pc := 54) C (N := 7) g_266 dX11_init_54 (by decide) (by decide) (by decide) (by decide) (by decide) (fun a15 q28 => ?_)
  refine r_heap (fun S16 eS16 => ?_)
  have h := h a15 q28 S16 eS16
  have g29 := gr_of_new eS16 q28
  have o_a15 := ob_of_new eS16
  have o_a11 := gr_ob g29 o_a11
  have o_a2 := gr_ob g29 o_a2
  have o_a5 := gr_ob g29 o_a5
  have o_a8 := gr_ob g29 o_a8
  have o_v0 := gr_ob g29 o_v0
  refine r_putFr (pc := 56) C pfL_X11_31 hn dX11_init_56 o_v0 ?_
  refine r_heap (fun S17 eS17 => ?_)
  have h := h S17 eS17
  have o_a11 := ob_R eS17 o_a11
  have o_a15 := ob_R eS17 o_a15
  have o_a2 := ob_R eS17 o_a2
  have o_a5 := ob_R eS17 o_a5
  have o_a8 := ob_R eS17 o_a8
  have o_v0 := ob_R eS17 o_v0
  refine r_aload_n (pc := 59) C dX11_init_59 0 rfl ?_
  refine r_bipush (pc := 60) C (v := (112 : Int32)) dX11_init_60 (by decide) ?_
  refine r_newa14 (pc := 62) C (N := 112) g_266 dX11_init_62 (by decide) (by decide) (by decide) (by decide) (by decide) (fun a18 q26 => ?_)
  refine r_heap (fun S19 eS19 => ?_)
  have h := h a18 q26 S19 eS19
  have g27 := gr_of_new eS19 q26
  have o_a18 := ob_of_new eS19
  have o_a11 := gr_ob g27 o_a11
  have o_a15 := gr_ob g27 o_a15
  have o_a2 := gr_ob g27 o_a2
  have o_a5 := gr_ob g27 o_a5
  have o_a8 := gr_ob g27 o_a8
  have o_v0 := gr_ob g27 o_v0
  refine r_putFr (pc := 64) C pfL_X11_34 hn dX11_init_64 o_v0 ?_
  refine r_heap (fun S20 eS20 => ?_)
  have h := h S20 eS20
  have o_a11 := ob_R eS20 o_a11
  have o_a15 := ob_R eS20 o_a15
  have o_a18 := ob_R eS20 o_a18
  have o_a2 := ob_R eS20 o_a2
  have o_a5 := ob_R eS20 o_a5
  have o_a8 := ob_R eS20 o_a8
  have o_v0 := ob_R eS20 o_v0
  refine r_aload_n (pc := 67) C dX11_init_67 0 rfl ?_
  refine r_bipush (pc := 68) C (v := (21 : Int32)) dX11_init_68 (by decide) ?_
  refine r_newa14 (pc := 70) C (N := 21) g_266 dX11_init_70 (by decide) (by decide) (by decide) (by decide) (by decide) (fun a21 q24 => ?_)
  refine r_heap (fun S22 eS22 => ?_)
  have h := h a21 q24 S22 eS22
  have g25 := gr_of_new eS22 q24
  have o_a21 := ob_of_new eS22
  have o_a11 := gr_ob g25 o_a11
  have o_a15 := gr_ob g25 o_a15
  have o_a18 := gr_ob g25 o_a18
  have o_a2 := gr_ob g25 o_a2
  have o_a5 := gr_ob g25 o_a5
  have o_a8 := gr_ob g25 o_a8
  have o_v0 := gr_ob g25 o_v0
  refine r_putFr (pc := 72) C pfL_X11_37 hn dX11_init_72 o_v0 ?_
  refine r_heap (fun S23 eS23 => ?_)
  have h := h S23 eS23
  have o_a11 := ob_R eS23 o_a11
  have o_a15 := ob_R eS23 o_a15
  have o_a18 := ob_R eS23 o_a18
  have o_a2 := ob_R eS23 o_a2
  have o_a21 := ob_R eS23 o_a21
  have o_a5 := ob_R eS23 o_a5
  have o_a8 := ob_R eS23 o_a8
  have o_v0 := ob_R eS23 o_v0
  exact r_vret (pc := 75) C E ht dX11_init_75 (by decide) (by decide) h
def P_X11_init (v0 : Nat) (Q : HS → Prop) (S : HS) : Prop := P_X11_init_0 Q v0 S
theorem c_X11_init {l : Launch} {Ee : EE} {S : HS} {v0 : Nat} {Q : HS → Prop} (h : P_X11_init v0 Q S) : MV l yX11_init cX11_init 1 none rm_X11_init Ee S [.ref v0] Q :=
  openV (by decide) (Nat.le_of_ble_eq_true rfl) (fun X C E ht hn hE hl => by subst hE; exact r_sub [0] rfl (T_X11_init_0 C E ht hn h))
def rm_X11_isName : Room := { frames := 7, cells := 0, slots := 0, locals := 164 }
def P_X11_isName_0 (Q : Int32 → HS → Prop) (v0 : Nat) (S : HS) : Prop := ob S v0 11 ∧ (∀ x1 : Int32, x1 = fI S v0 9 → (((¬ x1 = (2 : Int32)) → (Q (0 : Int32) S)) ∧ ((x1 = (2 : Int32)) → (P_X11_isWord v0 27 (fun x5 S3 => Gr S S3 → bl x5 → (((¬ x5 = 0) → (Q (0 : Int32) S3)) ∧ ((x5 = 0) → (P_X11_isWord v0 29 (fun x9 S7 => Gr S3 S7 → bl x9 → (((¬ x9 = 0) → (Q (0 : Int32) S7)) ∧ ((x9 = 0) → (P_X11_isWord v0 38 (fun x13 S11 => Gr S7 S11 → bl x13 → (((¬ x13 = 0) → (Q (0 : Int32) S11)) ∧ ((x13 = 0) → (P_X11_isWord v0 39 (fun x17 S15 => Gr S11 S15 → bl x17 → (((x17 = 0) → (P_X11_isWord v0 40 (fun x21 S19 => Gr S15 S19 → bl x21 → (((¬ x21 = 0) → (Q (0 : Int32) S19)) ∧ ((x21 = 0) → (P_X11_isWord v0 41 (fun x25 S23 => Gr S19 S23 → bl x25 → (((¬ x25 = 0) → (Q (0 : Int32) S23)) ∧ ((x25 = 0) → (P_X11_isWord v0 42 (fun x29 S27 => Gr S23 S27 → bl x29 → (((¬ x29 = 0) → (Q (0 : Int32) S27)) ∧ ((x29 = 0) → (P_X11_isWord v0 43 (fun x33 S31 => Gr S27 S31 → bl x33 → (((¬ x33 = 0) → (Q (0 : Int32) S31)) ∧ ((x33 = 0) → (P_X11_isWord v0 44 (fun x37 S35 => Gr S31 S35 → bl x37 → (((¬ x37 = 0) → (Q (0 : Int32) S35)) ∧ ((x37 = 0) → (Q (1 : Int32) S35)))) S31)))) S27)))) S23)))) S19)))) S15)) ∧ ((¬ x17 = 0) → (Q (0 : Int32) S15)))) S11)))) S7)))) S3)))) S))))
set_option maxRecDepth 20000 in
set_option maxHeartbeats 4000000 in
theorem T_X11_isName_0 {X : CX} {Q : Int32 → HS → Prop} (C : Cx X cX11_isName RX11 1 rm_X11_isName) (E : ReI X rm_X11_isName (fun r S => bl r ∧ Q r S)) (ht : (xh X).sig.returnType = (some .boolean)) (hn : (xh X).name = yX11_isName.name) {v0 : Nat} {S : HS} (h : P_X11_isName_0 Q v0 S) : WS X 1 0 0 0 [(0, .ref v0)] [] S := by
  refine r_aload_n (pc := 0) C dX11_isName_0 0 rfl ?_
  obtain ⟨o_v0, h⟩ := h
  refine r_geti (pc := 1) C fL_X11_68 dX11_isName_1 o_v0 ?_
  refine r_topi (fun x1 ex1 => ?_)
  have h := h x1 ex1
  refine r_iconst (pc := 4) C (v := (2 : Int32)) dX11_isName_4 (by decide) ?_
  refine r_icmp_ne (pc := 5) C (tgt := 44) dX11_isName_5 (by decide) (fun c2 => ?_) (fun c2 => ?_)
  · have h := h.1 c2
    refine r_iconst (pc := 44) C (v := (0 : Int32)) dX11_isName_44 (by decide) ?_
    exact r_zret (pc := 45) C E ht dX11_isName_45 (by decide) (by decide) (Or.inl rfl) h
  · have h := h.2 c2
    refine r_aload_n (pc := 8) C dX11_isName_8 0 rfl ?_
    refine r_lds (pc := 9) C 27 rfl dX11_isName_9 ?_
    refine r_callVi0 (pc := 11) C (rest := []) (a := v0) o_v0 [.ref (eK (xE X) 27)] yV_X11_isWord g_1404 (c_X11_isWord h) dX11_isName_11 rfl rfl (Nat.le_of_ble_eq_true rfl) ⟨by decide, by decide⟩ ⟨by decide, by decide⟩ ⟨rfl, rfl⟩ (fun x5 S3 h g4 => ?_)
    have bx5 := h.1
    have h := h.2 g4 bx5
    have o_v0 := gr_ob g4 o_v0
    refine r_if_ne (pc := 14) C (tgt := 44) dX11_isName_14 (by decide) (fun c6 => ?_) (fun c6 => ?_)
    · have h := h.1 c6
      refine r_iconst (pc := 44) C (v := (0 : Int32)) dX11_isName_44 (by decide) ?_
      exact r_zret (pc := 45) C E ht dX11_isName_45 (by decide) (by decide) (Or.inl rfl) h
    · have h := h.2 c6
      refine r_aload_n (pc := 17) C dX11_isName_17 0 rfl ?_
      refine r_lds (pc := 18) C 29 rfl dX11_isName_18 ?_
      refine r_callVi0 (pc := 20) C (rest := []) (a := v0) o_v0 [.ref (eK (xE X) 29)] yV_X11_isWord g_1404 (c_X11_isWord h) dX11_isName_20 rfl rfl (Nat.le_of_ble_eq_true rfl) ⟨by decide, by decide⟩ ⟨by decide, by decide⟩ ⟨rfl, rfl⟩ (fun x9 S7 h g8 => ?_)
      have bx9 := h.1
      have h := h.2 g8 bx9
      have o_v0 := gr_ob g8 o_v0
      refine r_if_ne (pc := 23) C (tgt := 44) dX11_isName_23 (by decide) (fun c10 => ?_) (fun c10 => ?_)
      · have h := h.1 c10
        refine r_iconst (pc := 44) C (v := (0 : Int32)) dX11_isName_44 (by decide) ?_
        exact r_zret (pc := 45) C E ht dX11_isName_45 (by decide) (by decide) (Or.inl rfl) h
      · have h := h.2 c10
        refine r_aload_n (pc := 26) C dX11_isName_26 0 rfl ?_
        refine r_lds (pc := 27) C 38 rfl dX11_isName_27 ?_
        refine r_callVi0 (pc := 29) C (rest := []) (a := v0) o_v0 [.ref (eK (xE X) 38)] yV_X11_isWord g_1404 (c_X11_isWord h) dX11_isName_29 rfl rfl (Nat.le_of_ble_eq_true rfl) ⟨by decide, by decide⟩ ⟨by decide, by decide⟩ ⟨rfl, rfl⟩ (fun x13 S11 h g12 => ?_)
        have bx13 := h.1
        have h := h.2 g12 bx13
        have o_v0 := gr_ob g12 o_v0
        refine r_if_ne (pc := 32) C (tgt := 44) dX11_isName_32 (by decide) (fun c14 => ?_) (fun c14 => ?_)
        · have h := h.1 c14
          refine r_iconst (pc := 44) C (v := (0 : Int32)) dX11_isName_44 (by decide) ?_
          exact r_zret (pc := 45) C E ht dX11_isName_45 (by decide) (by decide) (Or.inl rfl) h
        · have h := h.2 c14
          refine r_aload_n (pc := 35) C dX11_isName_35 0 rfl ?_
          refine r_lds (pc := 36) C 39 rfl dX11_isName_36 ?_
          refine r_callVi0 (pc := 38) C (rest := []) (a := v0) o_v0 [.ref (eK (xE X) 39)] yV_X11_isWord g_1404 (c_X11_isWord h) dX11_isName_38 rfl rfl (Nat.le_of_ble_eq_true rfl) ⟨by decide, by decide⟩ ⟨by decide, by decide⟩ ⟨rfl, rfl⟩ (fun x17 S15 h g16 => ?_)
          have bx17 := h.1
          have h := h.2 g16 bx17
          have o_v0 := gr_ob g16 o_v0
          refine r_if_eq (pc := 41) C (tgt := 46) dX11_isName_41 (by decide) (fun c18 => ?_) (fun c18 => ?_)
          · have h := h.1 c18
            refine r_aload_n (pc := 46) C dX11_isName_46 0 rfl ?_
            refine r_lds (pc := 47) C 40 rfl dX11_isName_47 ?_
            refine r_callVi0 (pc := 49) C (rest := []) (a := v0) o_v0 [.ref (eK (xE X) 40)] yV_X11_isWord g_1404 (c_X11_isWord h) dX11_isName_49 rfl rfl (Nat.le_of_ble_eq_true rfl) ⟨by decide, by decide⟩ ⟨by decide, by decide⟩ ⟨rfl, rfl⟩ (fun x21 S19 h g20 => ?_)
            have bx21 := h.1
            have h := h.2 g20 bx21
            have o_v0 := gr_ob g20 o_v0
            refine r_if_ne (pc := 52) C (tgt := 95) dX11_isName_52 (by decide) (fun c22 => ?_) (fun c22 => ?_)
            · have h := h.1 c22
              refine r_iconst (pc := 95) C (v := (0 : Int32)) dX11_isName_95 (by decide) ?_
              exact r_zret (pc := 96) C E ht dX11_isName_96 (by decide) (by decide) (Or.inl rfl) h
            · have h := h.2 c22
              refine r_aload_n (pc := 55) C dX11_isName_55 0 rfl ?_
              refine r_lds (pc := 56) C 41 rfl dX11_isName_56 ?_
              refine r_callVi0 (pc := 58) C (rest := []) (a := v0) o_v0 [.ref (eK (xE X) 41)] yV_X11_isWord g_1404 (c_X11_isWord h) dX11_isName_58 rfl rfl (Nat.le_of_ble_eq_true rfl) ⟨by decide, by decide⟩ ⟨by decide, by decide⟩ ⟨rfl, rfl⟩ (fun x25 S23 h g24 => ?_)
              have bx25 := h.1
              have h := h.2 g24 bx25
              have o_v0 := gr_ob g24 o_v0
              refine r_if_ne (pc := 61) C (tgt := 95) dX11_isName_61 (by decide) (fun c26 => ?_) (fun c26 => ?_)
              · have h := h.1 c26
                refine r_iconst (pc := 95) C (v := (0 : Int32)) dX11_isName_95 (by decide) ?_
                exact r_zret (pc := 96) C E ht dX11_isName_96 (by decide) (by decide) (Or.inl rfl) h
              · have h := h.2 c26
                refine r_aload_n (pc := 64) C dX11_isName_64 0 rfl ?_
                refine r_lds (pc := 65) C 42 rfl dX11_isName_65 ?_
                refine r_callVi0 (pc := 67) C (rest := []) (a := v0) o_v0 [.ref (eK (xE X) 42)] yV_X11_isWord g_1404 (c_X11_isWord h) dX11_isName_67 rfl rfl (Nat.le_of_ble_eq_true rfl) ⟨by decide, by decide⟩ ⟨by decide, by decide⟩ ⟨rfl, rfl⟩ (fun x29 S27 h g28 => ?_)
                have bx29 := h.1
                have h := h.2 g28 bx29
                have o_v0 := gr_ob g28 o_v0
                refine r_if_ne (pc := 70) C (tgt := 95) dX11_isName_70 (by decide) (fun c30 => ?_) (fun c30 => ?_)
                · have h := h.1 c30
                  refine r_iconst (pc := 95) C (v := (0 : Int32)) dX11_isName_95 (by decide) ?_
                  exact r_zret (pc := 96) C E ht dX11_isName_96 (by decide) (by decide) (Or.inl rfl) h
                · have h := h.2 c30
                  refine r_aload_n (pc := 73) C dX11_isName_73 0 rfl ?_
                  refine r_lds (pc := 74) C 43 rfl dX11_isName_74 ?_
                  refine r_callVi0 (pc := 76) C (rest := []) (a := v0) o_v0 [.ref (eK (xE X) 43)] yV_X11_isWord g_1404 (c_X11_isWord h) dX11_isName_76 rfl rfl (Nat.le_of_ble_eq_true rfl) ⟨by decide, by decide⟩ ⟨by decide, by decide⟩ ⟨rfl, rfl⟩ (fun x33 S31 h g32 => ?_)
                  have bx33 := h.1
                  have h := h.2 g32 bx33
                  have o_v0 := gr_ob g32 o_v0
                  refine r_if_ne (pc := 79) C (tgt := 95) dX11_isName_79 (by decide) (fun c34 => ?_) (fun c34 => ?_)
                  · have h := h.1 c34
                    refine r_iconst (pc := 95) C (v := (0 : Int32)) dX11_isName_95 (by decide) ?_
                    exact r_zret (pc := 96) C E ht dX11_isName_96 (by decide) (by decide) (Or.inl rfl) h
                  · have h := h.2 c34
                    refine r_aload_n (pc := 82) C dX11_isName_82 0 rfl ?_
                    refine r_lds (pc := 83) C 44 rfl dX11_isName_83 ?_
                    refine r_callVi0 (pc := 85) C (rest := []) (a := v0) o_v0 [.ref (eK (xE X) 44)] yV_X11_isWord g_1404 (c_X11_isWord h) dX11_isName_85 rfl rfl (Nat.le_of_ble_eq_true rfl) ⟨by decide, by decide⟩ ⟨by decide, by decide⟩ ⟨rfl, rfl⟩ (fun x37 S35 h g36 => ?_)
                    have bx37 := h.1
                    have h := h.2 g36 bx37
                    have o_v0 := gr_ob g36 o_v0
                    refine r_if_ne (pc := 88) C (tgt := 95) dX11_isName_88 (by decide) (fun c38 => ?_) (fun c38 => ?_)
                    · have h := h.1 c38
                      refine r_iconst (pc := 95) C (v := (0 : Int32)) dX11_isName_95 (by decide) ?_
                      exact r_zret (pc := 96) C E ht dX11_isName_96 (by decide) (by decide) (Or.inl rfl) h
                    · have h := h.2 c38
                      refine r_iconst (pc := 91) C (v := (1 : Int32)) dX11_isName_91 (by decide) ?_
                      refine r_goto (pc := 92) C (tgt := 96) dX11_isName_92 (by decide) ?_
                      exact r_zret (pc := 96) C E ht dX11_isName_96 (by decide) (by decide) (Or.inr rfl) h
          · have h := h.2 c18
            refine r_iconst (pc := 44) C (v := (0 : Int32)) dX11_isName_44 (by decide) ?_
            exact r_zret (pc := 45) C E ht dX11_isName_45 (by decide) (by decide) (Or.inl rfl) h
def P_X11_isName (v0 : Nat) (Q : Int32 → HS → Prop) (S : HS) : Prop := P_X11_isName_0 Q v0 S
theorem c_X11_isName {l : Launch} {Ee : EE} {S : HS} {v0 : Nat} {Q : Int32 → HS → Prop} (h : P_X11_isName v0 Q S) : MI l yX11_isName cX11_isName 1 (some .boolean) rm_X11_isName Ee S [.ref v0] (fun r S => bl r ∧ Q r S) :=
  openI (by decide) (Nat.le_of_ble_eq_true rfl) (fun X C E ht hn hE hl => by subst hE; exact r_sub [0] rfl (T_X11_isName_0 C E ht hn h))
def rm_X11_known : Room := { frames := 8, cells := 0, slots := 0, locals := 184 }
def P_X11_known_47 (Q : Int32 → HS → Prop) (v0 : Nat) (v2 : Int32) (S : HS) : Prop := ob S v0 11 ∧ (∀ x1 : Int32, x1 = fI S v0 9 → (((¬ x1 = (5 : Int32)) → (∃ a3 : Nat, fR S v0 4 = some a3 ∧ (ob S a3 10 ∧ (∃ a4 : Nat, fR S a3 30 = some a4 ∧ (ob S a4 13 ∧ (vp_in v2 (hN S a4) ∧ ∀ x6 : Int32, x6 = fI S a4 v2.toNatClampNeg → (Q x6 S))))))) ∧ ((x1 = (5 : Int32)) → (Q (0 : Int32) S))))
set_option maxRecDepth 20000 in
set_option maxHeartbeats 4000000 in
theorem T_X11_known_47 {X : CX} {Q : Int32 → HS → Prop} (C : Cx X cX11_known RX11 3 rm_X11_known) (E : ReI X rm_X11_known Q) (ht : (xh X).sig.returnType = (some .int)) (hn : (xh X).name = yX11_known.name) {v0 : Nat} {v2 : Int32} {S : HS} (h : P_X11_known_47 Q v0 v2 S) : WS X 3 0 0 47 [(0, .ref v0), (2, .int v2)] [] S := by
  refine r_aload_n (pc := 47) C dX11_known_47 0 rfl ?_
  obtain ⟨o_v0, h⟩ := h
  refine r_geti (pc := 48) C fL_X11_68 dX11_known_48 o_v0 ?_
  refine r_topi (fun x1 ex1 => ?_)
  have h := h x1 ex1
  refine r_iconst (pc := 51) C (v := (5 : Int32)) dX11_known_51 (by decide) ?_
  refine r_icmp_ne (pc := 52) C (tgt := 59) dX11_known_52 (by decide) (fun c2 => ?_) (fun c2 => ?_)
  · have h := h.1 c2
    refine r_aload_n (pc := 59) C dX11_known_59 0 rfl ?_
    obtain ⟨a3, ea3, h⟩ := h
    refine r_getr (pc := 60) C fL_X11_147 dX11_known_60 o_v0 ea3 ?_
    obtain ⟨o_a3, h⟩ := h
    obtain ⟨a4, ea4, h⟩ := h
    refine r_getNr (pc := 63) C fN_X11_173 dX11_known_63 o_a3 ea4 ?_
    refine r_iload_n (pc := 66) C dX11_known_66 1 rfl ?_
    obtain ⟨o_a4, h⟩ := h
    obtain ⟨i5, h⟩ := h
    refine r_iald (pc := 67) C dX11_known_67 o_a4 i5 ?_
    refine r_topi (fun x6 ex6 => ?_)
    have h := h x6 ex6
    exact r_iret (pc := 68) C E ht dX11_known_68 (by decide) (by decide) h
  · have h := h.2 c2
    refine r_iconst (pc := 55) C (v := (0 : Int32)) dX11_known_55 (by decide) ?_
    refine r_goto (pc := 56) C (tgt := 68) dX11_known_56 (by decide) ?_
    exact r_iret (pc := 68) C E ht dX11_known_68 (by decide) (by decide) h
def P_X11_known_42 (Q : Int32 → HS → Prop) (v0 : Nat) (v2 : Int32) (S : HS) : Prop := ob S v0 11 ∧ (P_X11_flaw v0 (2 : Int32) (fun S1 => Gr S S1 → (P_X11_known_47 Q v0 v2 S1)) S)
set_option maxRecDepth 20000 in
set_option maxHeartbeats 4000000 in
theorem T_X11_known_42 {X : CX} {Q : Int32 → HS → Prop} (C : Cx X cX11_known RX11 3 rm_X11_known) (E : ReI X rm_X11_known Q) (ht : (xh X).sig.returnType = (some .int)) (hn : (xh X).name = yX11_known.name) {v0 : Nat} {v2 : Int32} {S : HS} (h : P_X11_known_42 Q v0 v2 S) : WS X 3 0 0 42 [(0, .ref v0), (2, .int v2)] [] S := by
  refine r_aload_n (pc := 42) C dX11_known_42 0 rfl ?_
  refine r_iconst (pc := 43) C (v := (2 : Int32)) dX11_known_43 (by decide) ?_
  obtain ⟨o_v0, h⟩ := h
  refine r_callVv0 (pc := 44) C (rest := []) (a := v0) o_v0 [.int (2 : Int32)] yV_X11_flaw g_1417 (c_X11_flaw h) dX11_known_44 rfl rfl (Nat.le_of_ble_eq_true rfl) ⟨by decide, by decide⟩ ⟨by decide, by decide⟩ ⟨rfl, rfl⟩ (fun S1 h g2 => ?_)
  have h := h g2
  have o_v0 := gr_ob g2 o_v0
  exact r_sub [0, 1] rfl (T_X11_known_47 C E ht hn h)
def P_X11_known_12 (Q : Int32 → HS → Prop) (v0 : Nat) (v1 : Int32) (S : HS) : Prop := ob S v0 11 ∧ (∃ a1 : Nat, fR S v0 4 = some a1 ∧ (∀ x2 : Int64, x2 = fJ S v0 15 → (ob S a1 10 ∧ (P_X10_find a1 x2 (fun x5 S3 => Gr S S3 → (((x5 = (-1 : Int32)) → (P_X11_known_42 Q v0 x5 S3)) ∧ ((¬ x5 = (-1 : Int32)) → (∃ a7 : Nat, fR S3 v0 4 = some a7 ∧ (ob S3 a7 10 ∧ (∃ a8 : Nat, fR S3 a7 29 = some a8 ∧ (ob S3 a8 13 ∧ (vp_in x5 (hN S3 a8) ∧ ∀ x10 : Int32, x10 = fI S3 a8 x5.toNatClampNeg → (((x10 = v1) → (P_X11_known_47 Q v0 x5 S3)) ∧ ((¬ x10 = v1) → (P_X11_known_42 Q v0 x5 S3))))))))))) S))))
set_option maxRecDepth 20000 in
set_option maxHeartbeats 4000000 in
theorem T_X11_known_12 {X : CX} {Q : Int32 → HS → Prop} (C : Cx X cX11_known RX11 3 rm_X11_known) (E : ReI X rm_X11_known Q) (ht : (xh X).sig.returnType = (some .int)) (hn : (xh X).name = yX11_known.name) {v0 : Nat} {v1 : Int32} {S : HS} (h : P_X11_known_12 Q v0 v1 S) : WS X 3 0 0 12 [(0, .ref v0), (1, .int v1)] [] S := by
  refine r_aload_n (pc := 12) C dX11_known_12 0 rfl ?_
  obtain ⟨o_v0, h⟩ := h
  obtain ⟨a1, ea1, h⟩ := h
  refine r_getr (pc := 13) C fL_X11_147 dX11_known_13 o_v0 ea1 ?_
  refine r_aload_n (pc := 16) C dX11_known_16 0 rfl ?_
  refine r_getl (pc := 17) C fL_X11_87 dX11_known_17 o_v0 ?_
  refine r_topl (fun x2 ex2 => ?_)
  have h := h x2 ex2
  obtain ⟨o_a1, h⟩ := h
  refine r_callVi0 (pc := 20) C (rest := []) (a := a1) o_a1 [.long x2] yV_X10_find g_1477 (c_X10_find h) dX11_known_20 rfl rfl (Nat.le_of_ble_eq_true rfl) ⟨by decide, by decide⟩ ⟨by decide, by decide⟩ ⟨rfl, rfl⟩ (fun x5 S3 h g4 => ?_)
  have h := h g4
  have o_a1 := gr_ob g4 o_a1
  have o_v0 := gr_ob g4 o_v0
  refine r_istore_n (pc := 23) C dX11_known_23 rfl (by decide) (lv' := [(2, .int x5), (0, .ref v0), (1, .int v1)]) rfl ?_
  refine r_iload_n (pc := 24) C dX11_known_24 0 rfl ?_
  refine r_iconst (pc := 25) C (v := (-1 : Int32)) dX11_known_25 (by decide) ?_
  refine r_icmp_eq (pc := 26) C (tgt := 42) dX11_known_26 (by decide) (fun c6 => ?_) (fun c6 => ?_)
  · have h := h.1 c6
    exact r_sub [1, 0] rfl (T_X11_known_42 C E ht hn h)
  · have h := h.2 c6
    refine r_aload_n (pc := 29) C dX11_known_29 1 rfl ?_
    obtain ⟨a7, ea7, h⟩ := h
    refine r_getr (pc := 30) C fL_X11_147 dX11_known_30 o_v0 ea7 ?_
    obtain ⟨o_a7, h⟩ := h
    obtain ⟨a8, ea8, h⟩ := h
    refine r_getNr (pc := 33) C fN_X11_170 dX11_known_33 o_a7 ea8 ?_
    refine r_iload_n (pc := 36) C dX11_known_36 0 rfl ?_
    obtain ⟨o_a8, h⟩ := h
    obtain ⟨i9, h⟩ := h
    refine r_iald (pc := 37) C dX11_known_37 o_a8 i9 ?_
    refine r_topi (fun x10 ex10 => ?_)
    have h := h x10 ex10
    refine r_iload_n (pc := 38) C dX11_known_38 2 rfl ?_
    refine r_icmp_eq (pc := 39) C (tgt := 47) dX11_known_39 (by decide) (fun c11 => ?_) (fun c11 => ?_)
    · have h := h.1 c11
      exact r_sub [1, 0] rfl (T_X11_known_47 C E ht hn h)
    · have h := h.2 c11
      exact r_sub [1, 0] rfl (T_X11_known_42 C E ht hn h)
def P_X11_known_0 (Q : Int32 → HS → Prop) (v0 : Nat) (v1 : Int32) (S : HS) : Prop := ob S v0 11 ∧ (P_X11_isName v0 (fun x3 S1 => Gr S S1 → bl x3 → (((¬ x3 = 0) → (P_X11_known_12 Q v0 v1 S1)) ∧ ((x3 = 0) → (P_X11_flaw v0 (1 : Int32) (fun S5 => Gr S1 S5 → (P_X11_known_12 Q v0 v1 S5)) S1)))) S)
set_option maxRecDepth 20000 in
set_option maxHeartbeats 4000000 in
theorem T_X11_known_0 {X : CX} {Q : Int32 → HS → Prop} (C : Cx X cX11_known RX11 3 rm_X11_known) (E : ReI X rm_X11_known Q) (ht : (xh X).sig.returnType = (some .int)) (hn : (xh X).name = yX11_known.name) {v0 : Nat} {v1 : Int32} {S : HS} (h : P_X11_known_0 Q v0 v1 S) : WS X 3 0 0 0 [(0, .ref v0), (1, .int v1)] [] S := by
  refine r_aload_n (pc := 0) C dX11_known_0 0 rfl ?_
  obtain ⟨o_v0, h⟩ := h
  refine r_callVi0 (pc := 1) C (rest := []) (a := v0) o_v0 [] yV_X11_isName g_1467 (c_X11_isName h) dX11_known_1 rfl rfl (Nat.le_of_ble_eq_true rfl) ⟨by decide, by decide⟩ ⟨by decide, by decide⟩ ⟨rfl, rfl⟩ (fun x3 S1 h g2 => ?_)
  have bx3 := h.1
  have h := h.2 g2 bx3
  have o_v0 := gr_ob g2 o_v0
  refine r_if_ne (pc := 4) C (tgt := 12) dX11_known_4 (by decide) (fun c4 => ?_) (fun c4 => ?_)
  · have h := h.1 c4
    exact r_sub [0, 1] rfl (T_X11_known_12 C E ht hn h)
  · have h := h.2 c4
    refine r_aload_n (pc := 7) C dX11_known_7 0 rfl ?_
    refine r_iconst (pc := 8) C (v := (1 : Int32)) dX11_known_8 (by decide) ?_
    refine r_callVv0 (pc := 9) C (rest := []) (a := v0) o_v0 [.int (1 : Int32)] yV_X11_flaw g_1417 (c_X11_flaw h) dX11_known_9 rfl rfl (Nat.le_of_ble_eq_true rfl) ⟨by decide, by decide⟩ ⟨by decide, by decide⟩ ⟨rfl, rfl⟩ (fun S5 h g6 => ?_)
    have h := h g6
    have o_v0 := gr_ob g6 o_v0
    exact r_sub [0, 1] rfl (T_X11_known_12 C E ht hn h)
def P_X11_known (v0 : Nat) (v1 : Int32) (Q : Int32 → HS → Prop) (S : HS) : Prop := P_X11_known_0 Q v0 v1 S
theorem c_X11_known {l : Launch} {Ee : EE} {S : HS} {v0 : Nat} {v1 : Int32} {Q : Int32 → HS → Prop} (h : P_X11_known v0 v1 Q S) : MI l yX11_known cX11_known 3 (some .int) rm_X11_known Ee S [.ref v0, .int v1] Q :=
  openI (by decide) (Nat.le_of_ble_eq_true rfl) (fun X C E ht hn hE hl => by subst hE; exact r_sub [0, 1] rfl (T_X11_known_0 C E ht hn h))
def rm_X11_spotOf : Room := { frames := 0, cells := 0, slots := 0, locals := 0 }
def P_X11_spotOf_0 (Q : Int32 → HS → Prop) (v0 : Int32) (v1 : Int32) (S : HS) : Prop := Q (((8 : Int32) * v1) + v0) S
set_option maxRecDepth 20000 in
set_option maxHeartbeats 4000000 in
theorem T_X11_spotOf_0 {X : CX} {Q : Int32 → HS → Prop} (C : Cx X cX11_spotOf RX11 2 rm_X11_spotOf) (E : ReI X rm_X11_spotOf Q) (ht : (xh X).sig.returnType = (some .int)) (hn : (xh X).name = yX11_spotOf.name) {v0 : Int32} {v1 : Int32} {S : HS} (h : P_X11_spotOf_0 Q v0 v1 S) : WS X 2 0 0 0 [(0, .int v0), (1, .int v1)] [] S := by
  refine r_bipush (pc := 0) C (v := (8 : Int32)) dX11_spotOf_0 (by decide) ?_
  refine r_iload_n (pc := 2) C dX11_spotOf_2 1 rfl ?_
  refine r_imul (pc := 3) C dX11_spotOf_3 ?_
  refine r_iload_n (pc := 4) C dX11_spotOf_4 0 rfl ?_
  refine r_iadd (pc := 5) C dX11_spotOf_5 ?_
  exact r_iret (pc := 6) C E ht dX11_spotOf_6 (by decide) (by decide) h
def P_X11_spotOf (v0 : Int32) (v1 : Int32) (Q : Int32 → HS → Prop) (S : HS) : Prop := P_X11_spotOf_0 Q v0 v1 S
theorem c_X11_spotOf {l : Launch} {Ee : EE} {S : HS} {v0 : Int32} {v1 : Int32} {Q : Int32 → HS → Prop} (h : P_X11_spotOf v0 v1 Q S) : MI l yX11_spotOf cX11_spotOf 2 (some .int) rm_X11_spotOf Ee S [.int v0, .int v1] Q :=
  openI (by decide) (Nat.le_of_ble_eq_true rfl) (fun X C E ht hn hE hl => by subst hE; exact r_sub [0, 1] rfl (T_X11_spotOf_0 C E ht hn h))
def rm_X11_meanOf : Room := { frames := 6, cells := 0, slots := 0, locals := 163 }
def P_X11_meanOf_0 (Q : Int64 → HS → Prop) (v0 : Nat) (v1 : Int32) (v2 : Int32) (v3 : Int32) (v4 : Int32) (v5 : Int32) (S : HS) : Prop := ob S v0 11 ∧ (P_X11_hourOf v0 v4 (fun x3 S1 => Gr S S1 → (∃ a4 : Nat, fR S1 v0 3 = some a4 ∧ (ob S1 a4 10 ∧ (∀ x5 : Int32, x5 = fI S1 a4 1 → (((x5 ≤ x3) → (Q (0 : Int64) S1)) ∧ ((¬ x5 ≤ x3) → (P_X11_wetOf v0 v1 v2 v3 x3 v5 (fun x9 S7 => Gr S1 S7 → (∃ a10 : Nat, fR S7 v0 3 = some a10 ∧ (ob S7 a10 10 ∧ (∃ a11 : Nat, fR S7 a10 11 = some a11 ∧ (ob S7 a11 13 ∧ (vp_in x3 (hN S7 a11) ∧ ∀ x13 : Int32, x13 = fI S7 a11 x3.toNatClampNeg → (Q (x9 * x13.toInt64) S7))))))) S1))))))) S)
set_option maxRecDepth 20000 in
set_option maxHeartbeats 4000000 in
theorem T_X11_meanOf_0 {X : CX} {Q : Int64 → HS → Prop} (C : Cx X cX11_meanOf RX11 7 rm_X11_meanOf) (E : ReJ X rm_X11_meanOf Q) (ht : (xh X).sig.returnType = (some .long)) (hn : (xh X).name = yX11_meanOf.name) {v0 : Nat} {v1 : Int32} {v2 : Int32} {v3 : Int32} {v4 : Int32} {v5 : Int32} {S : HS} (h : P_X11_meanOf_0 Q v0 v1 v2 v3 v4 v5 S) : WS X 7 0 0 0 [(0, .ref v0), (1, .int v1), (2, .int v2), (3, .int v3), (4, .int v4), (5, .int v5)] [] S := by
  refine r_aload_n (pc := 0) C dX11_meanOf_0 0 rfl ?_
  refine r_iload (pc := 1) C dX11_meanOf_1 4 rfl ?_
  obtain ⟨o_v0, h⟩ := h
  refine r_callVi0 (pc := 3) C (rest := []) (a := v0) o_v0 [.int v4] yV_X11_hourOf g_1707 (c_X11_hourOf h) dX11_meanOf_3 rfl rfl (Nat.le_of_ble_eq_true rfl) ⟨by decide, by decide⟩ ⟨by decide, by decide⟩ ⟨rfl, rfl⟩ (fun x3 S1 h g2 => ?_)
  have h := h g2
  have o_v0 := gr_ob g2 o_v0
  refine r_istore (pc := 6) C dX11_meanOf_6 (by decide) (lv' := [(6, .int x3), (0, .ref v0), (1, .int v1), (2, .int v2), (3, .int v3), (4, .int v4), (5, .int v5)]) rfl ?_
  refine r_iload (pc := 8) C dX11_meanOf_8 0 rfl ?_
  refine r_aload_n (pc := 10) C dX11_meanOf_10 1 rfl ?_
  obtain ⟨a4, ea4, h⟩ := h
  refine r_getr (pc := 11) C fL_X11_338 dX11_meanOf_11 o_v0 ea4 ?_
  obtain ⟨o_a4, h⟩ := h
  refine r_getNi (pc := 14) C fN_X11_219 dX11_meanOf_14 o_a4 ?_
  refine r_topi (fun x5 ex5 => ?_)
  have h := h x5 ex5
  refine r_icmp_ge (pc := 17) C (tgt := 46) dX11_meanOf_17 (by decide) (fun c6 => ?_) (fun c6 => ?_)
  · have h := h.1 c6
    refine r_lconst (pc := 46) C (v := (0 : Int64)) dX11_meanOf_46 (by decide) ?_
    exact r_lret (pc := 47) C E ht dX11_meanOf_47 (by decide) (by decide) h
  · have h := h.2 c6
    refine r_aload_n (pc := 20) C dX11_meanOf_20 1 rfl ?_
    refine r_iload_n (pc := 21) C dX11_meanOf_21 2 rfl ?_
    refine r_iload_n (pc := 22) C dX11_meanOf_22 3 rfl ?_
    refine r_iload_n (pc := 23) C dX11_meanOf_23 4 rfl ?_
    refine r_iload (pc := 24) C dX11_meanOf_24 0 rfl ?_
    refine r_iload (pc := 26) C dX11_meanOf_26 6 rfl ?_
    refine r_callVl0 (pc := 28) C (rest := []) (a := v0) o_v0 [.int v1, .int v2, .int v3, .int x3, .int v5] yV_X11_wetOf g_1594 (c_X11_wetOf h) dX11_meanOf_28 rfl rfl (Nat.le_of_ble_eq_true rfl) ⟨by decide, by decide⟩ ⟨by decide, by decide⟩ ⟨rfl, rfl⟩ (fun x9 S7 h g8 => ?_)
    have h := h g8
    have o_a4 := gr_ob g8 o_a4
    have o_v0 := gr_ob g8 o_v0
    refine r_aload_n (pc := 31) C dX11_meanOf_31 1 rfl ?_
    obtain ⟨a10, ea10, h⟩ := h
    refine r_getr (pc := 32) C fL_X11_338 dX11_meanOf_32 o_v0 ea10 ?_
    obtain ⟨o_a10, h⟩ := h
    obtain ⟨a11, ea11, h⟩ := h
    refine r_getNr (pc := 35) C fN_X11_246 dX11_meanOf_35 o_a10 ea11 ?_
    refine r_iload (pc := 38) C dX11_meanOf_38 0 rfl ?_
    obtain ⟨o_a11, h⟩ := h
    obtain ⟨i12, h⟩ := h
    refine r_iald (pc := 40) C dX11_meanOf_40 o_a11 i12 ?_
    refine r_topi (fun x13 ex13 => ?_)
    have h := h x13 ex13
    refine r_i2l (pc := 41) C dX11_meanOf_41 ?_
    refine r_lmul (pc := 42) C dX11_meanOf_42 ?_
    refine r_goto (pc := 43) C (tgt := 47) dX11_meanOf_43 (by decide) ?_
    exact r_lret (pc := 47) C E ht dX11_meanOf_47 (by decide) (by decide) h
def P_X11_meanOf (v0 : Nat) (v1 : Int32) (v2 : Int32) (v3 : Int32) (v4 : Int32) (v5 : Int32) (Q : Int64 → HS → Prop) (S : HS) : Prop := P_X11_meanOf_0 Q v0 v1 v2 v3 v4 v5 S
theorem c_X11_meanOf {l : Launch} {Ee : EE} {S : HS} {v0 : Nat} {v1 : Int32} {v2 : Int32} {v3 : Int32} {v4 : Int32} {v5 : Int32} {Q : Int64 → HS → Prop} (h : P_X11_meanOf v0 v1 v2 v3 v4 v5 Q S) : MJ l yX11_meanOf cX11_meanOf 7 (some .long) rm_X11_meanOf Ee S [.ref v0, .int v1, .int v2, .int v3, .int v4, .int v5] Q :=
  openJ (by decide) (Nat.le_of_ble_eq_true rfl) (fun X C E ht hn hE hl => by subst hE; exact r_sub [0, 1, 2, 3, 4, 5] rfl (T_X11_meanOf_0 C E ht hn h))
def rm_X11_takes : Room := { frames := 0, cells := 0, slots := 0, locals := 0 }
def P_X11_takes_77 (Q : HS → Prop) (v0 : Nat) (v1 : Int32) (v2 : Int32) (v5 : Int32) (v6 : Int64) (S : HS) : Prop := ob S v0 11 ∧ (∃ a1 : Nat, fR S v0 16 = some a1 ∧ (ob S a1 14 ∧ (vp_in v1 (hN S a1) ∧ (∀ S3 : HS, S3 = sJ S a1 v1.toNatClampNeg v6 → (∃ a4 : Nat, fR S3 v0 17 = some a4 ∧ (∃ a5 : Nat, fR S3 v0 17 = some a5 ∧ (ob S3 a5 13 ∧ (vp_in v2 (hN S3 a5) ∧ ∀ x7 : Int32, x7 = fI S3 a5 v2.toNatClampNeg → (ob S3 a4 13 ∧ (vp_in v1 (hN S3 a4) ∧ (∀ S9 : HS, S9 = sI S3 a4 v1.toNatClampNeg x7 → (∃ a10 : Nat, fR S9 v0 18 = some a10 ∧ (ob S9 a10 13 ∧ (vp_in v1 (hN S9 a10) ∧ (∀ S12 : HS, S12 = sI S9 a10 v1.toNatClampNeg v5 → (Q S12))))))))))))))))
set_option maxRecDepth 20000 in
set_option maxHeartbeats 4000000 in
theorem T_X11_takes_77 {X : CX} {Q : HS → Prop} (C : Cx X cX11_takes RX11 8 rm_X11_takes) (E : ReV X rm_X11_takes Q) (ht : (xh X).sig.returnType = none) (hn : (xh X).name = yX11_takes.name) {v0 : Nat} {v1 : Int32} {v2 : Int32} {v5 : Int32} {v6 : Int64} {S : HS} (h : P_X11_takes_77 Q v0 v1 v2 v5 v6 S) : WS X 8 0 0 77 [(0, .ref v0), (1, .int v1), (2, .int v2), (5, .int v5), (6, .long v6)] [] S := by
  refine r_aload_n (pc := 77) C dX11_takes_77 0 rfl ?_
  obtain ⟨o_v0, h⟩ := h
  obtain ⟨a1, ea1, h⟩ := h
  refine r_getr (pc := 78) C fL_X11_17 dX11_takes_78 o_v0 ea1 ?_
  refine r_iload_n (pc := 81) C dX11_takes_81 1 rfl ?_
  refine r_lload (pc := 82) C dX11_takes_82 4 rfl ?_
  obtain ⟨o_a1, h⟩ := h
  obtain ⟨i2, h⟩ := h
  refine r_last (pc := 84) C dX11_takes_84 o_a1 i2 ?_
  refine r_heap (fun S3 eS3 => ?_)
  have h := h S3 eS3
  have o_a1 := ob_J eS3 o_a1
  have o_v0 := ob_J eS3 o_v0
  refine r_aload_n (pc := 85) C dX11_takes_85 0 rfl ?_
  obtain ⟨a4, ea4, h⟩ := h
  refine r_getr (pc := 86) C fL_X11_21 dX11_takes_86 o_v0 ea4 ?_
  refine r_iload_n (pc := 89) C dX11_takes_89 1 rfl ?_
  refine r_aload_n (pc := 90) C dX11_takes_90 0 rfl ?_
  obtain ⟨a5, ea5, h⟩ := h
  refine r_getr (pc := 91) C fL_X11_21 dX11_takes_91 o_v0 ea5 ?_
  refine r_iload_n (pc := 94) C dX11_takes_94 2 rfl ?_
  obtain ⟨o_a5, h⟩ := h
  obtain ⟨i6, h⟩ := h
  refine r_iald (pc := 95) C dX11_takes_95 o_a5 i6 ?_
  refine r_topi (fun x7 ex7 => ?_)
  have h := h x7 ex7
  obtain ⟨o_a4, h⟩ := h
  obtain ⟨i8, h⟩ := h
  refine r_iast (pc := 96) C dX11_takes_96 o_a4 i8 ?_
  refine r_heap (fun S9 eS9 => ?_)
  have h := h S9 eS9
  have o_a1 := ob_I eS9 o_a1
  have o_a4 := ob_I eS9 o_a4
  have o_a5 := ob_I eS9 o_a5
  have o_v0 := ob_I eS9 o_v0
  refine r_aload_n (pc := 97) C dX11_takes_97 0 rfl ?_
  obtain ⟨a10, ea10, h⟩ := h
  refine r_getr (pc := 98) C fL_X11_25 dX11_takes_98 o_v0 ea10 ?_
  refine r_iload_n (pc := 101) C dX11_takes_101 1 rfl ?_
  refine r_iload (pc := 102) C dX11_takes_102 3 rfl ?_
  obtain ⟨o_a10, h⟩ := h
  obtain ⟨i11, h⟩ := h
  refine r_iast (pc := 104) C dX11_takes_104 o_a10 i11 ?_
  refine r_heap (fun S12 eS12 => ?_)
  have h := h S12 eS12
  have o_a1 := ob_I eS12 o_a1
  have o_a10 := ob_I eS12 o_a10
  have o_a4 := ob_I eS12 o_a4
  have o_a5 := ob_I eS12 o_a5
  have o_v0 := ob_I eS12 o_v0
  exact r_vret (pc := 105) C E ht dX11_takes_105 (by decide) (by decide) h
def P_X11_takes_0 (Q : HS → Prop) (v0 : Nat) (v1 : Int32) (v2 : Int32) (v3 : Int64) (v5 : Int32) (S : HS) : Prop := ob S v0 11 ∧ (∃ a1 : Nat, fR S v0 16 = some a1 ∧ (ob S a1 14 ∧ (vp_in v2 (hN S a1) ∧ ∀ x3 : Int64, x3 = fJ S a1 v2.toNatClampNeg → (((¬ (lg_cmp x3 (-1 : Int64)) = 0) → (∃ a5 : Nat, fR S v0 16 = some a5 ∧ (ob S a5 14 ∧ (vp_in v2 (hN S a5) ∧ ∀ x7 : Int64, x7 = fJ S a5 v2.toNatClampNeg → (∀ x8 : Int64, x8 = v3 + x7 → (∃ a9 : Nat, fR S v0 16 = some a9 ∧ (ob S a9 14 ∧ (vp_in v1 (hN S a9) ∧ ∀ x11 : Int64, x11 = fJ S a9 v1.toNatClampNeg → ((((lg_cmp x11 (-1 : Int64)) = 0) → (P_X11_takes_77 Q v0 v1 v2 v5 x8 S)) ∧ ((¬ (lg_cmp x11 (-1 : Int64)) = 0) → (∃ a13 : Nat, fR S v0 16 = some a13 ∧ (ob S a13 14 ∧ (vp_in v1 (hN S a13) ∧ ∀ x15 : Int64, x15 = fJ S a13 v1.toNatClampNeg → (((0 < (lg_cmp x8 x15)) → (Q S)) ∧ ((¬ 0 < (lg_cmp x8 x15)) → (∃ a17 : Nat, fR S v0 16 = some a17 ∧ (ob S a17 14 ∧ (vp_in v1 (hN S a17) ∧ ∀ x19 : Int64, x19 = fJ S a17 v1.toNatClampNeg → (((¬ (lg_cmp x8 x19) = 0) → (P_X11_takes_77 Q v0 v1 v2 v5 x8 S)) ∧ (((lg_cmp x8 x19) = 0) → (∃ a21 : Nat, fR S v0 17 = some a21 ∧ (ob S a21 13 ∧ (vp_in v2 (hN S a21) ∧ ∀ x23 : Int32, x23 = fI S a21 v2.toNatClampNeg → (∃ a24 : Nat, fR S v0 17 = some a24 ∧ (ob S a24 13 ∧ (vp_in v1 (hN S a24) ∧ ∀ x26 : Int32, x26 = fI S a24 v1.toNatClampNeg → (((x23 < x26) → (P_X11_takes_77 Q v0 v1 v2 v5 x8 S)) ∧ ((¬ x23 < x26) → (Q S))))))))))))))))))))))))))))) ∧ (((lg_cmp x3 (-1 : Int64)) = 0) → (Q S))))))
set_option maxRecDepth 20000 in
set_option maxHeartbeats 4000000 in
theorem T_X11_takes_0 {X : CX} {Q : HS → Prop} (C : Cx X cX11_takes RX11 8 rm_X11_takes) (E : ReV X rm_X11_takes Q) (ht : (xh X).sig.returnType = none) (hn : (xh X).name = yX11_takes.name) {v0 : Nat} {v1 : Int32} {v2 : Int32} {v3 : Int64} {v5 : Int32} {S : HS} (h : P_X11_takes_0 Q v0 v1 v2 v3 v5 S) : WS X 8 0 0 0 [(0, .ref v0), (1, .int v1), (2, .int v2), (3, .long v3), (5, .int v5)] [] S := by
  refine r_aload_n (pc := 0) C dX11_takes_0 0 rfl ?_
  obtain ⟨o_v0, h⟩ := h
  obtain ⟨a1, ea1, h⟩ := h
  refine r_getr (pc := 1) C fL_X11_17 dX11_takes_1 o_v0 ea1 ?_
  refine r_iload_n (pc := 4) C dX11_takes_4 2 rfl ?_
  obtain ⟨o_a1, h⟩ := h
  obtain ⟨i2, h⟩ := h
  refine r_lald (pc := 5) C dX11_takes_5 o_a1 i2 ?_
  refine r_topl (fun x3 ex3 => ?_)
  have h := h x3 ex3
  refine r_ldc2 (pc := 6) C (v := (-1 : Int64)) dX11_takes_6 g_1690 ?_
  refine r_lcmp (pc := 9) C dX11_takes_9 ?_
  refine r_if_ne (pc := 10) C (tgt := 14) dX11_takes_10 (by decide) (fun c4 => ?_) (fun c4 => ?_)
  · have h := h.1 c4
    refine r_lload_n (pc := 14) C dX11_takes_14 3 rfl ?_
    refine r_aload_n (pc := 15) C dX11_takes_15 0 rfl ?_
    obtain ⟨a5, ea5, h⟩ := h
    refine r_getr (pc := 16) C fL_X11_17 dX11_takes_16 o_v0 ea5 ?_
    refine r_iload_n (pc := 19) C dX11_takes_19 2 rfl ?_
    obtain ⟨o_a5, h⟩ := h
    obtain ⟨i6, h⟩ := h
    refine r_lald (pc := 20) C dX11_takes_20 o_a5 i6 ?_
    refine r_topl (fun x7 ex7 => ?_)
    have h := h x7 ex7
    refine r_ladd (pc := 21) C dX11_takes_21 ?_
    refine r_topl (fun x8 ex8 => ?_)
    have h := h x8 ex8
    refine r_lstore (pc := 22) C dX11_takes_22 (by decide) (lv' := [(6, .long x8), (0, .ref v0), (1, .int v1), (2, .int v2), (3, .long v3), (5, .int v5)]) rfl ?_
    refine r_aload_n (pc := 24) C dX11_takes_24 1 rfl ?_
    obtain ⟨a9, ea9, h⟩ := h
    refine r_getr (pc := 25) C fL_X11_17 dX11_takes_25 o_v0 ea9 ?_
    refine r_iload_n (pc := 28) C dX11_takes_28 2 rfl ?_
    obtain ⟨o_a9, h⟩ := h
    obtain ⟨i10, h⟩ := h
    refine r_lald (pc := 29) C dX11_takes_29 o_a9 i10 ?_
    refine r_topl (fun x11 ex11 => ?_)
    have h := h x11 ex11
    refine r_ldc2 (pc := 30) C (v := (-1 : Int64)) dX11_takes_30 g_1690 ?_
    refine r_lcmp (pc := 33) C dX11_takes_33 ?_
    refine r_if_eq (pc := 34) C (tgt := 77) dX11_takes_34 (by decide) (fun c12 => ?_) (fun c12 => ?_)
    · have h := h.1 c12
      exact r_sub [1, 2, 3, 5, 0] rfl (T_X11_takes_77 C E ht hn h)
    · have h := h.2 c12
      refine r_lload (pc := 37) C dX11_takes_37 0 rfl ?_
      refine r_aload_n (pc := 39) C dX11_takes_39 1 rfl ?_
      obtain ⟨a13, ea13, h⟩ := h
      refine r_getr (pc := 40) C fL_X11_17 dX11_takes_40 o_v0 ea13 ?_
      refine r_iload_n (pc := 43) C dX11_takes_43 2 rfl ?_
      obtain ⟨o_a13, h⟩ := h
      obtain ⟨i14, h⟩ := h
      refine r_lald (pc := 44) C dX11_takes_44 o_a13 i14 ?_
      refine r_topl (fun x15 ex15 => ?_)
      have h := h x15 ex15
      refine r_lcmp (pc := 45) C dX11_takes_45 ?_
      refine r_if_gt (pc := 46) C (tgt := 76) dX11_takes_46 (by decide) (fun c16 => ?_) (fun c16 => ?_)
      · have h := h.1 c16
        exact r_vret (pc := 76) C E ht dX11_takes_76 (by decide) (by decide) h
      · have h := h.2 c16
        refine r_lload (pc := 49) C dX11_takes_49 0 rfl ?_
        refine r_aload_n (pc := 51) C dX11_takes_51 1 rfl ?_
        obtain ⟨a17, ea17, h⟩ := h
        refine r_getr (pc := 52) C fL_X11_17 dX11_takes_52 o_v0 ea17 ?_
        refine r_iload_n (pc := 55) C dX11_takes_55 2 rfl ?_
        obtain ⟨o_a17, h⟩ := h
        obtain ⟨i18, h⟩ := h
        refine r_lald (pc := 56) C dX11_takes_56 o_a17 i18 ?_
        refine r_topl (fun x19 ex19 => ?_)
        have h := h x19 ex19
        refine r_lcmp (pc := 57) C dX11_takes_57 ?_
        refine r_if_ne (pc := 58) C (tgt := 77) dX11_takes_58 (by decide) (fun c20 => ?_) (fun c20 => ?_)
        · have h := h.1 c20
          exact r_sub [1, 2, 3, 5, 0] rfl (T_X11_takes_77 C E ht hn h)
        · have h := h.2 c20
          refine r_aload_n (pc := 61) C dX11_takes_61 1 rfl ?_
          obtain ⟨a21, ea21, h⟩ := h
          refine r_getr (pc := 62) C fL_X11_21 dX11_takes_62 o_v0 ea21 ?_
          refine r_iload_n (pc := 65) C dX11_takes_65 3 rfl ?_
          obtain ⟨o_a21, h⟩ := h
          obtain ⟨i22, h⟩ := h
          refine r_iald (pc := 66) C dX11_takes_66 o_a21 i22 ?_
          refine r_topi (fun x23 ex23 => ?_)
          have h := h x23 ex23
          refine r_aload_n (pc := 67) C dX11_takes_67 1 rfl ?_
          obtain ⟨a24, ea24, h⟩ := h
          refine r_getr (pc := 68) C fL_X11_21 dX11_takes_68 o_v0 ea24 ?_
          refine r_iload_n (pc := 71) C dX11_takes_71 2 rfl ?_
          obtain ⟨o_a24, h⟩ := h
          obtain ⟨i25, h⟩ := h
          refine r_iald (pc := 72) C dX11_takes_72 o_a24 i25 ?_
          refine r_topi (fun x26 ex26 => ?_)
          have h := h x26 ex26
          refine r_icmp_lt (pc := 73) C (tgt := 77) dX11_takes_73 (by decide) (fun c27 => ?_) (fun c27 => ?_)
          · have h := h.1 c27
            exact r_sub [1, 2, 3, 5, 0] rfl (T_X11_takes_77 C E ht hn h)
          · have h := h.2 c27
            exact r_vret (pc := 76) C E ht dX11_takes_76 (by decide) (by decide) h
  · have h := h.2 c4
    exact r_vret (pc := 13) C E ht dX11_takes_13 (by decide) (by decide) h
def P_X11_takes (v0 : Nat) (v1 : Int32) (v2 : Int32) (v3 : Int64) (v5 : Int32) (Q : HS → Prop) (S : HS) : Prop := P_X11_takes_0 Q v0 v1 v2 v3 v5 S
theorem c_X11_takes {l : Launch} {Ee : EE} {S : HS} {v0 : Nat} {v1 : Int32} {v2 : Int32} {v3 : Int64} {v5 : Int32} {Q : HS → Prop} (h : P_X11_takes v0 v1 v2 v3 v5 Q S) : MV l yX11_takes cX11_takes 8 none rm_X11_takes Ee S [.ref v0, .int v1, .int v2, .long v3, .int v5] Q :=
  openV (by decide) (Nat.le_of_ble_eq_true rfl) (fun X C E ht hn hE hl => by subst hE; exact r_sub [0, 1, 2, 3, 4] rfl (T_X11_takes_0 C E ht hn h))
def rm_X11_waitsOf : Room := { frames := 2, cells := 0, slots := 0, locals := 43 }
def P_X11_waitsOf_0 (Q : Int64 → HS → Prop) (v0 : Nat) (v1 : Int32) (v2 : Int32) (v3 : Int32) (S : HS) : Prop := ob S v0 11 ∧ (P_X11_hourOf v0 v3 (fun x3 S1 => Gr S S1 → (∃ a4 : Nat, fR S1 v0 3 = some a4 ∧ (ob S1 a4 10 ∧ (∃ a5 : Nat, fR S1 a4 18 = some a5 ∧ (ob S1 a5 15 ∧ (vp_in v2 (hN S1 a5) ∧ ∀ x7 : Int32, x7 = fI S1 a5 v2.toNatClampNeg → (((¬ x7 = 0) → (Q (0 : Int64) S1)) ∧ ((x7 = 0) → (∃ a9 : Nat, fR S1 v0 3 = some a9 ∧ (ob S1 a9 10 ∧ (∀ x10 : Int32, x10 = fI S1 a9 1 → (((x3 < x10) → (P_X11_drips v0 v1 v2 (fun x14 S12 => Gr S1 S12 → (∃ a15 : Nat, fR S12 v0 3 = some a15 ∧ (ob S12 a15 10 ∧ (∃ a16 : Nat, fR S12 a15 11 = some a16 ∧ (ob S12 a16 13 ∧ (vp_in x3 (hN S12 a16) ∧ ∀ x18 : Int32, x18 = fI S12 a16 x3.toNatClampNeg → (Q (x14 * x18.toInt64) S12))))))) S1)) ∧ ((¬ x3 < x10) → (Q (0 : Int64) S1)))))))))))))) S)
set_option maxRecDepth 20000 in
set_option maxHeartbeats 4000000 in
theorem T_X11_waitsOf_0 {X : CX} {Q : Int64 → HS → Prop} (C : Cx X cX11_waitsOf RX11 5 rm_X11_waitsOf) (E : ReJ X rm_X11_waitsOf Q) (ht : (xh X).sig.returnType = (some .long)) (hn : (xh X).name = yX11_waitsOf.name) {v0 : Nat} {v1 : Int32} {v2 : Int32} {v3 : Int32} {S : HS} (h : P_X11_waitsOf_0 Q v0 v1 v2 v3 S) : WS X 5 0 0 0 [(0, .ref v0), (1, .int v1), (2, .int v2), (3, .int v3)] [] S := by
  refine r_aload_n (pc := 0) C dX11_waitsOf_0 0 rfl ?_
  refine r_iload_n (pc := 1) C dX11_waitsOf_1 3 rfl ?_
  obtain ⟨o_v0, h⟩ := h
  refine r_callVi0 (pc := 2) C (rest := []) (a := v0) o_v0 [.int v3] yV_X11_hourOf g_1707 (c_X11_hourOf h) dX11_waitsOf_2 rfl rfl (Nat.le_of_ble_eq_true rfl) ⟨by decide, by decide⟩ ⟨by decide, by decide⟩ ⟨rfl, rfl⟩ (fun x3 S1 h g2 => ?_)
  have h := h g2
  have o_v0 := gr_ob g2 o_v0
  refine r_istore (pc := 5) C dX11_waitsOf_5 (by decide) (lv' := [(4, .int x3), (0, .ref v0), (1, .int v1), (2, .int v2), (3, .int v3)]) rfl ?_
  refine r_aload_n (pc := 7) C dX11_waitsOf_7 1 rfl ?_
  obtain ⟨a4, ea4, h⟩ := h
  refine r_getr (pc := 8) C fL_X11_338 dX11_waitsOf_8 o_v0 ea4 ?_
  obtain ⟨o_a4, h⟩ := h
  obtain ⟨a5, ea5, h⟩ := h
  refine r_getNr (pc := 11) C fN_X11_258 dX11_waitsOf_11 o_a4 ea5 ?_
  refine r_iload_n (pc := 14) C dX11_waitsOf_14 3 rfl ?_
  obtain ⟨o_a5, h⟩ := h
  obtain ⟨i6, h⟩ := h
  refine r_zald (pc := 15) C dX11_waitsOf_15 o_a5 i6 ?_
  refine r_topi (fun x7 ex7 => ?_)
  have h := h x7 ex7
  refine r_if_ne (pc := 16) C (tgt := 31) dX11_waitsOf_16 (by decide) (fun c8 => ?_) (fun c8 => ?_)
  · have h := h.1 c8
    refine r_lconst (pc := 31) C (v := (0 : Int64)) dX11_waitsOf_31 (by decide) ?_
    refine r_goto (pc := 32) C (tgt := 53) dX11_waitsOf_32 (by decide) ?_
    exact r_lret (pc := 53) C E ht dX11_waitsOf_53 (by decide) (by decide) h
  · have h := h.2 c8
    refine r_iload (pc := 19) C dX11_waitsOf_19 0 rfl ?_
    refine r_aload_n (pc := 21) C dX11_waitsOf_21 1 rfl ?_
    obtain ⟨a9, ea9, h⟩ := h
    refine r_getr (pc := 22) C fL_X11_338 dX11_waitsOf_22 o_v0 ea9 ?_
    obtain ⟨o_a9, h⟩ := h
    refine r_getNi (pc := 25) C fN_X11_219 dX11_waitsOf_25 o_a9 ?_
    refine r_topi (fun x10 ex10 => ?_)
    have h := h x10 ex10
    refine r_icmp_lt (pc := 28) C (tgt := 35) dX11_waitsOf_28 (by decide) (fun c11 => ?_) (fun c11 => ?_)
    · have h := h.1 c11
      refine r_aload_n (pc := 35) C dX11_waitsOf_35 1 rfl ?_
      refine r_iload_n (pc := 36) C dX11_waitsOf_36 2 rfl ?_
      refine r_iload_n (pc := 37) C dX11_waitsOf_37 3 rfl ?_
      refine r_callVl0 (pc := 38) C (rest := []) (a := v0) o_v0 [.int v1, .int v2] yV_X11_drips g_1723 (c_X11_drips h) dX11_waitsOf_38 rfl rfl (Nat.le_of_ble_eq_true rfl) ⟨by decide, by decide⟩ ⟨by decide, by decide⟩ ⟨rfl, rfl⟩ (fun x14 S12 h g13 => ?_)
      have h := h g13
      have o_a4 := gr_ob g13 o_a4
      have o_a5 := gr_ob g13 o_a5
      have o_a9 := gr_ob g13 o_a9
      have o_v0 := gr_ob g13 o_v0
      refine r_aload_n (pc := 41) C dX11_waitsOf_41 1 rfl ?_
      obtain ⟨a15, ea15, h⟩ := h
      refine r_getr (pc := 42) C fL_X11_338 dX11_waitsOf_42 o_v0 ea15 ?_
      obtain ⟨o_a15, h⟩ := h
      obtain ⟨a16, ea16, h⟩ := h
      refine r_getNr (pc := 45) C fN_X11_246 dX11_waitsOf_45 o_a15 ea16 ?_
      refine r_iload (pc := 48) C dX11_waitsOf_48 0 rfl ?_
      obtain ⟨o_a16, h⟩ := h
      obtain ⟨i17, h⟩ := h
      refine r_iald (pc := 50) C dX11_waitsOf_50 o_a16 i17 ?_
      refine r_topi (fun x18 ex18 => ?_)
      have h := h x18 ex18
      refine r_i2l (pc := 51) C dX11_waitsOf_51 ?_
      refine r_lmul (pc := 52) C dX11_waitsOf_52 ?_
      exact r_lret (pc := 53) C E ht dX11_waitsOf_53 (by decide) (by decide) h
    · have h := h.2 c11
      refine r_lconst (pc := 31) C (v := (0 : Int64)) dX11_waitsOf_31 (by decide) ?_
      refine r_goto (pc := 32) C (tgt := 53) dX11_waitsOf_32 (by decide) ?_
      exact r_lret (pc := 53) C E ht dX11_waitsOf_53 (by decide) (by decide) h
def P_X11_waitsOf (v0 : Nat) (v1 : Int32) (v2 : Int32) (v3 : Int32) (Q : Int64 → HS → Prop) (S : HS) : Prop := P_X11_waitsOf_0 Q v0 v1 v2 v3 S
theorem c_X11_waitsOf {l : Launch} {Ee : EE} {S : HS} {v0 : Nat} {v1 : Int32} {v2 : Int32} {v3 : Int32} {Q : Int64 → HS → Prop} (h : P_X11_waitsOf v0 v1 v2 v3 Q S) : MJ l yX11_waitsOf cX11_waitsOf 5 (some .long) rm_X11_waitsOf Ee S [.ref v0, .int v1, .int v2, .int v3] Q :=
  openJ (by decide) (Nat.le_of_ble_eq_true rfl) (fun X C E ht hn hE hl => by subst hE; exact r_sub [0, 1, 2, 3] rfl (T_X11_waitsOf_0 C E ht hn h))
def rm_X11_tries : Room := { frames := 7, cells := 0, slots := 0, locals := 189 }
def P_X11_tries_140 (Q : HS → Prop) (X3 : Nat → Int32 → Int32 → Int32 → Int32 → Int32 → HS → Prop) (X18 : Nat → Int32 → Int32 → Int32 → Int32 → Int32 → Int32 → HS → Prop) (X53 : Nat → Int32 → Int32 → Int32 → Int32 → Int32 → Int32 → Int32 → HS → Prop) (v0 : Nat) (v1 : Int32) (v2 : Int32) (v3 : Int32) (v4 : Int32) (v5 : Int32) (v6 : Int32) (v7 : Int32) (S : HS) : Prop := ∀ x1 : Int32, x1 = v7 + (1 : Int32) → (X53 v0 v1 v2 v3 v4 v5 v6 x1 S)
set_option maxRecDepth 20000 in
set_option maxHeartbeats 4000000 in
theorem T_X11_tries_140 {X : CX} {Q : HS → Prop} (C : Cx X cX11_tries RX11 9 rm_X11_tries) (E : ReV X rm_X11_tries Q) (ht : (xh X).sig.returnType = none) (hn : (xh X).name = yX11_tries.name) {X3 : Nat → Int32 → Int32 → Int32 → Int32 → Int32 → HS → Prop} (hX3 : ∀ (v0 : Nat) (v1 : Int32) (v2 : Int32) (v3 : Int32) (v4 : Int32) (v5 : Int32) (S : HS), X3 v0 v1 v2 v3 v4 v5 S → WS X 9 0 0 3 [(0, .ref v0), (1, .int v1), (2, .int v2), (3, .int v3), (4, .int v4), (5, .int v5)] [] S) {X18 : Nat → Int32 → Int32 → Int32 → Int32 → Int32 → Int32 → HS → Prop} (hX18 : ∀ (v0 : Nat) (v1 : Int32) (v2 : Int32) (v3 : Int32) (v4 : Int32) (v5 : Int32) (v6 : Int32) (S : HS), X18 v0 v1 v2 v3 v4 v5 v6 S → WS X 9 0 0 18 [(0, .ref v0), (1, .int v1), (2, .int v2), (3, .int v3), (4, .int v4), (5, .int v5), (6, .int v6)] [] S) {X53 : Nat → Int32 → Int32 → Int32 → Int32 → Int32 → Int32 → Int32 → HS → Prop} (hX53 : ∀ (v0 : Nat) (v1 : Int32) (v2 : Int32) (v3 : Int32) (v4 : Int32) (v5 : Int32) (v6 : Int32) (v7 : Int32) (S : HS), X53 v0 v1 v2 v3 v4 v5 v6 v7 S → WS X 9 0 0 53 [(0, .ref v0), (1, .int v1), (2, .int v2), (3, .int v3), (4, .int v4), (5, .int v5), (6, .int v6), (7, .int v7)] [] S) {v0 : Nat} {v1 : Int32} {v2 : Int32} {v3 : Int32} {v4 : Int32} {v5 : Int32} {v6 : Int32} {v7 : Int32} {S : HS} (h : P_X11_tries_140 Q X3 X18 X53 v0 v1 v2 v3 v4 v5 v6 v7 S) : WS X 9 0 0 140 [(0, .ref v0), (1, .int v1), (2, .int v2), (3, .int v3), (4, .int v4), (5, .int v5), (6, .int v6), (7, .int v7)] [] S := by
  obtain ⟨x1, ex1⟩ : ∃ z : Int32, z = v7 + (1 : Int32) := ⟨_, rfl⟩
  have h := h x1 ex1
  refine r_iinc (pc := 140) C (v := x1) (lv' := [(7, .int x1), (0, .ref v0), (1, .int v1), (2, .int v2), (3, .int v3), (4, .int v4), (5, .int v5), (6, .int v6)]) dX11_tries_140 7 rfl ex1.symm (by decide) rfl ?_
  refine r_goto (pc := 143) C (tgt := 53) dX11_tries_143 (by decide) ?_
  exact r_sub [1, 2, 3, 4, 5, 6, 7, 0] rfl (hX53 v0 v1 v2 v3 v4 v5 v6 x1 S h)
def P_X11_tries_146 (Q : HS → Prop) (X3 : Nat → Int32 → Int32 → Int32 → Int32 → Int32 → HS → Prop) (X18 : Nat → Int32 → Int32 → Int32 → Int32 → Int32 → Int32 → HS → Prop) (v0 : Nat) (v1 : Int32) (v2 : Int32) (v3 : Int32) (v4 : Int32) (v5 : Int32) (v6 : Int32) (S : HS) : Prop := ∀ x1 : Int32, x1 = v6 + (1 : Int32) → (X18 v0 v1 v2 v3 v4 v5 x1 S)
set_option maxRecDepth 20000 in
set_option maxHeartbeats 4000000 in
theorem T_X11_tries_146 {X : CX} {Q : HS → Prop} (C : Cx X cX11_tries RX11 9 rm_X11_tries) (E : ReV X rm_X11_tries Q) (ht : (xh X).sig.returnType = none) (hn : (xh X).name = yX11_tries.name) {X3 : Nat → Int32 → Int32 → Int32 → Int32 → Int32 → HS → Prop} (hX3 : ∀ (v0 : Nat) (v1 : Int32) (v2 : Int32) (v3 : Int32) (v4 : Int32) (v5 : Int32) (S : HS), X3 v0 v1 v2 v3 v4 v5 S → WS X 9 0 0 3 [(0, .ref v0), (1, .int v1), (2, .int v2), (3, .int v3), (4, .int v4), (5, .int v5)] [] S) {X18 : Nat → Int32 → Int32 → Int32 → Int32 → Int32 → Int32 → HS → Prop} (hX18 : ∀ (v0 : Nat) (v1 : Int32) (v2 : Int32) (v3 : Int32) (v4 : Int32) (v5 : Int32) (v6 : Int32) (S : HS), X18 v0 v1 v2 v3 v4 v5 v6 S → WS X 9 0 0 18 [(0, .ref v0), (1, .int v1), (2, .int v2), (3, .int v3), (4, .int v4), (5, .int v5), (6, .int v6)] [] S) {v0 : Nat} {v1 : Int32} {v2 : Int32} {v3 : Int32} {v4 : Int32} {v5 : Int32} {v6 : Int32} {S : HS} (h : P_X11_tries_146 Q X3 X18 v0 v1 v2 v3 v4 v5 v6 S) : WS X 9 0 0 146 [(0, .ref v0), (1, .int v1), (2, .int v2), (3, .int v3), (4, .int v4), (5, .int v5), (6, .int v6)] [] S := by
  obtain ⟨x1, ex1⟩ : ∃ z : Int32, z = v6 + (1 : Int32) := ⟨_, rfl⟩
  have h := h x1 ex1
  refine r_iinc (pc := 146) C (v := x1) (lv' := [(6, .int x1), (0, .ref v0), (1, .int v1), (2, .int v2), (3, .int v3), (4, .int v4), (5, .int v5)]) dX11_tries_146 6 rfl ex1.symm (by decide) rfl ?_
  refine r_goto (pc := 149) C (tgt := 18) dX11_tries_149 (by decide) ?_
  exact r_sub [1, 2, 3, 4, 5, 6, 0] rfl (hX18 v0 v1 v2 v3 v4 v5 x1 S h)
def B_X11_tries_53 (Q : HS → Prop) (X3 : Nat → Int32 → Int32 → Int32 → Int32 → Int32 → HS → Prop) (X18 : Nat → Int32 → Int32 → Int32 → Int32 → Int32 → Int32 → HS → Prop) (X53 : Nat → Int32 → Int32 → Int32 → Int32 → Int32 → Int32 → Int32 → HS → Prop) (v0 : Nat) (v1 : Int32) (v2 : Int32) (v3 : Int32) (v4 : Int32) (v5 : Int32) (v6 : Int32) (v7 : Int32) (S : HS) : Prop := ob S v0 11 ∧ (∃ a1 : Nat, fR S v0 3 = some a1 ∧ (ob S a1 10 ∧ (∃ a2 : Nat, fR S a1 25 = some a2 ∧ (ob S a2 13 ∧ (vp_in v1 (hN S a2) ∧ ∀ x4 : Int32, x4 = fI S a2 v1.toNatClampNeg → (((x4 < v7) → (P_X11_tries_146 Q X3 X18 v0 v1 v2 v3 v4 v5 v6 S)) ∧ ((¬ x4 < v7) → (∃ a6 : Nat, fR S v0 3 = some a6 ∧ (ob S a6 10 ∧ (P_X10_minutes a6 v5 v7 (fun x9 S7 => Gr S S7 → (∀ x10 : Int32, x10 = v3 + x9 → (((v4 < x10) → (P_X11_tries_140 Q X3 X18 X53 v0 v1 v2 v3 v4 v5 v6 v7 S7)) ∧ ((¬ v4 < x10) → (P_X11_spotOf v2 v3 (fun x14 S12 => Gr S7 S12 → (∃ a15 : Nat, fR S12 v0 3 = some a15 ∧ (ob S12 a15 10 ∧ (P_X10_ends a15 v5 v6 (fun x18 S16 => Gr S12 S16 → (P_X11_spotOf x18 x10 (fun x21 S19 => Gr S16 S19 → (P_X11_meanOf v0 v1 v5 v6 v3 v7 (fun x24 S22 => Gr S19 S22 → (P_X11_takes v0 x14 x21 x24 ((((100 : Int32) * v5) + ((10 : Int32) * v6)) + v7) (fun S25 => Gr S22 S25 → (P_X11_tries_140 Q X3 X18 X53 v0 v1 v2 v3 v4 v5 v6 v7 S25)) S22)) S19)) S16)) S12)))) S7))))) S))))))))))
def P_X11_tries_53 (Q : HS → Prop) (X3 : Nat → Int32 → Int32 → Int32 → Int32 → Int32 → HS → Prop) (X18 : Nat → Int32 → Int32 → Int32 → Int32 → Int32 → Int32 → HS → Prop) (v0 : Nat) (v1 : Int32) (v2 : Int32) (v3 : Int32) (v4 : Int32) (v5 : Int32) (v6 : Int32) (v7 : Int32) (S : HS) : Prop := ∀ X53 : Nat → Int32 → Int32 → Int32 → Int32 → Int32 → Int32 → Int32 → HS → Prop, (∀ (v0 : Nat) (v1 : Int32) (v2 : Int32) (v3 : Int32) (v4 : Int32) (v5 : Int32) (v6 : Int32) (v7 : Int32) (S : HS), B_X11_tries_53 Q X3 X18 X53 v0 v1 v2 v3 v4 v5 v6 v7 S → X53 v0 v1 v2 v3 v4 v5 v6 v7 S) → X53 v0 v1 v2 v3 v4 v5 v6 v7 S
set_option maxRecDepth 20000 in
set_option maxHeartbeats 4000000 in
theorem TB_X11_tries_53 {X : CX} {Q : HS → Prop} (C : Cx X cX11_tries RX11 9 rm_X11_tries) (E : ReV X rm_X11_tries Q) (ht : (xh X).sig.returnType = none) (hn : (xh X).name = yX11_tries.name) {X3 : Nat → Int32 → Int32 → Int32 → Int32 → Int32 → HS → Prop} (hX3 : ∀ (v0 : Nat) (v1 : Int32) (v2 : Int32) (v3 : Int32) (v4 : Int32) (v5 : Int32) (S : HS), X3 v0 v1 v2 v3 v4 v5 S → WS X 9 0 0 3 [(0, .ref v0), (1, .int v1), (2, .int v2), (3, .int v3), (4, .int v4), (5, .int v5)] [] S) {X18 : Nat → Int32 → Int32 → Int32 → Int32 → Int32 → Int32 → HS → Prop} (hX18 : ∀ (v0 : Nat) (v1 : Int32) (v2 : Int32) (v3 : Int32) (v4 : Int32) (v5 : Int32) (v6 : Int32) (S : HS), X18 v0 v1 v2 v3 v4 v5 v6 S → WS X 9 0 0 18 [(0, .ref v0), (1, .int v1), (2, .int v2), (3, .int v3), (4, .int v4), (5, .int v5), (6, .int v6)] [] S) {X53 : Nat → Int32 → Int32 → Int32 → Int32 → Int32 → Int32 → Int32 → HS → Prop} (hX53 : ∀ (v0 : Nat) (v1 : Int32) (v2 : Int32) (v3 : Int32) (v4 : Int32) (v5 : Int32) (v6 : Int32) (v7 : Int32) (S : HS), X53 v0 v1 v2 v3 v4 v5 v6 v7 S → WS X 9 0 0 53 [(0, .ref v0), (1, .int v1), (2, .int v2), (3, .int v3), (4, .int v4), (5, .int v5), (6, .int v6), (7, .int v7)] [] S) {v0 : Nat} {v1 : Int32} {v2 : Int32} {v3 : Int32} {v4 : Int32} {v5 : Int32} {v6 : Int32} {v7 : Int32} {S : HS} (h : B_X11_tries_53 Q X3 X18 X53 v0 v1 v2 v3 v4 v5 v6 v7 S) : WS X 9 0 0 53 [(0, .ref v0), (1, .int v1), (2, .int v2), (3, .int v3), (4, .int v4), (5, .int v5), (6, .int v6), (7, .int v7)] [] S := by
  refine r_iload (pc := 53) C dX11_tries_53 7 rfl ?_
  refine r_aload_n (pc := 55) C dX11_tries_55 0 rfl ?_
  obtain ⟨o_v0, h⟩ := h
  obtain ⟨a1, ea1, h⟩ := h
  refine r_getr (pc := 56) C fL_X11_338 dX11_tries_56 o_v0 ea1 ?_
  obtain ⟨o_a1, h⟩ := h
  obtain ⟨a2, ea2, h⟩ := h
  refine r_getNr (pc := 59) C fN_X11_320 dX11_tries_59 o_a1 ea2 ?_
  refine r_iload_n (pc := 62) C dX11_tries_62 1 rfl ?_
  obtain ⟨o_a2, h⟩ := h
  obtain ⟨i3, h⟩ := h
  refine r_iald (pc := 63) C dX11_tries_63 o_a2 i3 ?_
  refine r_topi (fun x4 ex4 => ?_)
  have h := h x4 ex4
  refine r_icmp_gt (pc := 64) C (tgt := 146) dX11_tries_64 (by decide) (fun c5 => ?_) (fun c5 => ?_)
  · have h := h.1 c5
    exact r_sub [0, 1, 2, 3, 4, 5, 6] rfl (T_X11_tries_146 C E ht hn hX3 hX18 h)
  · have h := h.2 c5
    refine r_iload_n (pc := 67) C dX11_tries_67 3 rfl ?_
    refine r_aload_n (pc := 68) C dX11_tries_68 0 rfl ?_
    obtain ⟨a6, ea6, h⟩ := h
    refine r_getr (pc := 69) C fL_X11_338 dX11_tries_69 o_v0 ea6 ?_
    refine r_iload (pc := 72) C dX11_tries_72 5 rfl ?_
    refine r_iload (pc := 74) C dX11_tries_74 7 rfl ?_
    obtain ⟨o_a6, h⟩ := h
    refine r_callVi0 (pc := 76) C (rest := [.int v3]) (a := a6) o_a6 [.int v5, .int v7] yV_X10_minutes g_1607 (c_X10_minutes h) dX11_tries_76 rfl rfl (Nat.le_of_ble_eq_true rfl) ⟨by decide, by decide⟩ ⟨by decide, by decide⟩ ⟨rfl, rfl⟩ (fun x9 S7 h g8 => ?_)
    have h := h g8
    have o_a1 := gr_ob g8 o_a1
    have o_a2 := gr_ob g8 o_a2
    have o_a6 := gr_ob g8 o_a6
    have o_v0 := gr_ob g8 o_v0
    refine r_iadd (pc := 79) C dX11_tries_79 ?_
    refine r_topi (fun x10 ex10 => ?_)
    have h := h x10 ex10
    refine r_istore (pc := 80) C dX11_tries_80 (by decide) (lv' := [(8, .int x10), (0, .ref v0), (1, .int v1), (2, .int v2), (3, .int v3), (4, .int v4), (5, .int v5), (6, .int v6), (7, .int v7)]) rfl ?_
    refine r_iload (pc := 82) C dX11_tries_82 0 rfl ?_
    refine r_iload (pc := 84) C dX11_tries_84 5 rfl ?_
    refine r_icmp_gt (pc := 86) C (tgt := 140) dX11_tries_86 (by decide) (fun c11 => ?_) (fun c11 => ?_)
    · have h := h.1 c11
      exact r_sub [1, 2, 3, 4, 5, 6, 7, 8] rfl (T_X11_tries_140 C E ht hn hX3 hX18 hX53 h)
    · have h := h.2 c11
      refine r_aload_n (pc := 89) C dX11_tries_89 1 rfl ?_
      refine r_iload_n (pc := 90) C dX11_tries_90 3 rfl ?_
      refine r_iload_n (pc := 91) C dX11_tries_91 4 rfl ?_
      refine r_callSi0 (pc := 92) C (rest := [.ref v0]) rfl [.int v2, .int v3] yS_X11_spotOf g_1687 (c_X11_spotOf h) dX11_tries_92 rfl rfl (Nat.le_of_ble_eq_true rfl) ⟨by decide, by decide⟩ ⟨by decide, by decide⟩ ⟨rfl, rfl⟩ (fun x14 S12 h g13 => ?_)
      have h := h g13
      have o_a1 := gr_ob g13 o_a1
      have o_a2 := gr_ob g13 o_a2
      have o_a6 := gr_ob g13 o_a6
      have o_v0 := gr_ob g13 o_v0
      refine r_aload_n (pc := 95) C dX11_tries_95 1 rfl ?_
      obtain ⟨a15, ea15, h⟩ := h
      refine r_getr (pc := 96) C fL_X11_338 dX11_tries_96 o_v0 ea15 ?_
      refine r_iload (pc := 99) C dX11_tries_99 6 rfl ?_
      refine r_iload (pc := 101) C dX11_tries_101 7 rfl ?_
      obtain ⟨o_a15, h⟩ := h
      refine r_callVi0 (pc := 103) C (rest := [.int x14, .ref v0]) (a := a15) o_a15 [.int v5, .int v6] yV_X10_ends g_1699 (c_X10_ends h) dX11_tries_103 rfl rfl (Nat.le_of_ble_eq_true rfl) ⟨by decide, by decide⟩ ⟨by decide, by decide⟩ ⟨rfl, rfl⟩ (fun x18 S16 h g17 => ?_)
      have h := h g17
      have o_a1 := gr_ob g17 o_a1
      have o_a15 := gr_ob g17 o_a15
      have o_a2 := gr_ob g17 o_a2
      have o_a6 := gr_ob g17 o_a6
      have o_v0 := gr_ob g17 o_v0
      refine r_iload (pc := 106) C dX11_tries_106 0 rfl ?_
      refine r_callSi0 (pc := 108) C (rest := [.int x14, .ref v0]) rfl [.int x18, .int x10] yS_X11_spotOf g_1687 (c_X11_spotOf h) dX11_tries_108 rfl rfl (Nat.le_of_ble_eq_true rfl) ⟨by decide, by decide⟩ ⟨by decide, by decide⟩ ⟨rfl, rfl⟩ (fun x21 S19 h g20 => ?_)
      have h := h g20
      have o_a1 := gr_ob g20 o_a1
      have o_a15 := gr_ob g20 o_a15
      have o_a2 := gr_ob g20 o_a2
      have o_a6 := gr_ob g20 o_a6
      have o_v0 := gr_ob g20 o_v0
      refine r_aload_n (pc := 111) C dX11_tries_111 1 rfl ?_
      refine r_iload_n (pc := 112) C dX11_tries_112 2 rfl ?_
      refine r_iload (pc := 113) C dX11_tries_113 6 rfl ?_
      refine r_iload (pc := 115) C dX11_tries_115 7 rfl ?_
      refine r_iload_n (pc := 117) C dX11_tries_117 4 rfl ?_
      refine r_iload (pc := 118) C dX11_tries_118 8 rfl ?_
      refine r_callVl0 (pc := 120) C (rest := [.int x21, .int x14, .ref v0]) (a := v0) o_v0 [.int v1, .int v5, .int v6, .int v3, .int v7] yV_X11_meanOf g_1703 (c_X11_meanOf h) dX11_tries_120 rfl rfl (Nat.le_of_ble_eq_true rfl) ⟨by decide, by decide⟩ ⟨by decide, by decide⟩ ⟨rfl, rfl⟩ (fun x24 S22 h g23 => ?_)
      have h := h g23
      have o_a1 := gr_ob g23 o_a1
      have o_a15 := gr_ob g23 o_a15
      have o_a2 := gr_ob g23 o_a2
      have o_a6 := gr_ob g23 o_a6
      have o_v0 := gr_ob g23 o_v0
      refine r_bipush (pc := 123) C (v := (100 : Int32)) dX11_tries_123 (by decide) ?_
      refine r_iload (pc := 125) C dX11_tries_125 6 rfl ?_
      refine r_imul (pc := 127) C dX11_tries_127 ?_
      refine r_bipush (pc := 128) C (v := (10 : Int32)) dX11_tries_128 (by decide) ?_
      refine r_iload (pc := 130) C dX11_tries_130 7 rfl ?_
      refine r_imul (pc := 132) C dX11_tries_132 ?_
      refine r_iadd (pc := 133) C dX11_tries_133 ?_
      refine r_iload (pc := 134) C dX11_tries_134 8 rfl ?_
      refine r_iadd (pc := 136) C dX11_tries_136 ?_
      refine r_callVv0 (pc := 137) C (rest := []) (a := v0) o_v0 [.int x14, .int x21, .long x24, .int ((((100 : Int32) * v5) + ((10 : Int32) * v6)) + v7)] yV_X11_takes g_1711 (c_X11_takes h) dX11_tries_137 rfl rfl (Nat.le_of_ble_eq_true rfl) ⟨by decide, by decide⟩ ⟨by decide, by decide⟩ ⟨rfl, rfl⟩ (fun S25 h g26 => ?_)
      have h := h g26
      have o_a1 := gr_ob g26 o_a1
      have o_a15 := gr_ob g26 o_a15
      have o_a2 := gr_ob g26 o_a2
      have o_a6 := gr_ob g26 o_a6
      have o_v0 := gr_ob g26 o_v0
      exact r_sub [1, 2, 3, 4, 5, 6, 7, 8] rfl (T_X11_tries_140 C E ht hn hX3 hX18 hX53 h)
theorem T_X11_tries_53 {X : CX} {Q : HS → Prop} (C : Cx X cX11_tries RX11 9 rm_X11_tries) (E : ReV X rm_X11_tries Q) (ht : (xh X).sig.returnType = none) (hn : (xh X).name = yX11_tries.name) {X3 : Nat → Int32 → Int32 → Int32 → Int32 → Int32 → HS → Prop} (hX3 : ∀ (v0 : Nat) (v1 : Int32) (v2 : Int32) (v3 : Int32) (v4 : Int32) (v5 : Int32) (S : HS), X3 v0 v1 v2 v3 v4 v5 S → WS X 9 0 0 3 [(0, .ref v0), (1, .int v1), (2, .int v2), (3, .int v3), (4, .int v4), (5, .int v5)] [] S) {X18 : Nat → Int32 → Int32 → Int32 → Int32 → Int32 → Int32 → HS → Prop} (hX18 : ∀ (v0 : Nat) (v1 : Int32) (v2 : Int32) (v3 : Int32) (v4 : Int32) (v5 : Int32) (v6 : Int32) (S : HS), X18 v0 v1 v2 v3 v4 v5 v6 S → WS X 9 0 0 18 [(0, .ref v0), (1, .int v1), (2, .int v2), (3, .int v3), (4, .int v4), (5, .int v5), (6, .int v6)] [] S) {v0 : Nat} {v1 : Int32} {v2 : Int32} {v3 : Int32} {v4 : Int32} {v5 : Int32} {v6 : Int32} {v7 : Int32} {S : HS} (h : P_X11_tries_53 Q X3 X18 v0 v1 v2 v3 v4 v5 v6 v7 S) : WS X 9 0 0 53 [(0, .ref v0), (1, .int v1), (2, .int v2), (3, .int v3), (4, .int v4), (5, .int v5), (6, .int v6), (7, .int v7)] [] S :=
  h (fun v0 v1 v2 v3 v4 v5 v6 v7 S => WS X 9 0 0 53 [(0, .ref v0), (1, .int v1), (2, .int v2), (3, .int v3), (4, .int v4), (5, .int v5), (6, .int v6), (7, .int v7)] [] S) (fun v0 v1 v2 v3 v4 v5 v6 v7 S hh => TB_X11_tries_53 C E ht hn hX3 hX18 (fun v0 v1 v2 v3 v4 v5 v6 v7 S z => z) hh)
def B_X11_tries_18 (Q : HS → Prop) (X3 : Nat → Int32 → Int32 → Int32 → Int32 → Int32 → HS → Prop) (X18 : Nat → Int32 → Int32 → Int32 → Int32 → Int32 → Int32 → HS → Prop) (v0 : Nat) (v1 : Int32) (v2 : Int32) (v3 : Int32) (v4 : Int32) (v5 : Int32) (v6 : Int32) (S : HS) : Prop := (((2 : Int32) ≤ v6) → (∀ x2 : Int32, x2 = v5 + (1 : Int32) → (X3 v0 v1 v2 v3 v4 x2 S))) ∧ ((¬ (2 : Int32) ≤ v6) → (ob S v0 11 ∧ (∃ a3 : Nat, fR S v0 3 = some a3 ∧ (ob S a3 10 ∧ (P_X10_begins a3 v5 v6 (fun x6 S4 => Gr S S4 → (((x6 = v2) → (∃ a8 : Nat, fR S4 v0 3 = some a8 ∧ (ob S4 a8 10 ∧ (∃ a9 : Nat, fR S4 a8 24 = some a9 ∧ (ob S4 a9 13 ∧ (vp_in v1 (hN S4 a9) ∧ ∀ x11 : Int32, x11 = fI S4 a9 v1.toNatClampNeg → (P_X11_tries_53 Q X3 X18 v0 v1 v2 v3 v4 v5 v6 x11 S4))))))) ∧ ((¬ x6 = v2) → (P_X11_tries_146 Q X3 X18 v0 v1 v2 v3 v4 v5 v6 S4)))) S)))))
def P_X11_tries_18 (Q : HS → Prop) (X3 : Nat → Int32 → Int32 → Int32 → Int32 → Int32 → HS → Prop) (v0 : Nat) (v1 : Int32) (v2 : Int32) (v3 : Int32) (v4 : Int32) (v5 : Int32) (v6 : Int32) (S : HS) : Prop := ∀ X18 : Nat → Int32 → Int32 → Int32 → Int32 → Int32 → Int32 → HS → Prop, (∀ (v0 : Nat) (v1 : Int32) (v2 : Int32) (v3 : Int32) (v4 : Int32) (v5 : Int32) (v6 : Int32) (S : HS), B_X11_tries_18 Q X3 X18 v0 v1 v2 v3 v4 v5 v6 S → X18 v0 v1 v2 v3 v4 v5 v6 S) → X18 v0 v1 v2 v3 v4 v5 v6 S
set_option maxRecDepth 20000 in
set_option maxHeartbeats 4000000 in
theorem TB_X11_tries_18 {X : CX} {Q : HS → Prop} (C : Cx X cX11_tries RX11 9 rm_X11_tries) (E : ReV X rm_X11_tries Q) (ht : (xh X).sig.returnType = none) (hn : (xh X).name = yX11_tries.name) {X3 : Nat → Int32 → Int32 → Int32 → Int32 → Int32 → HS → Prop} (hX3 : ∀ (v0 : Nat) (v1 : Int32) (v2 : Int32) (v3 : Int32) (v4 : Int32) (v5 : Int32) (S : HS), X3 v0 v1 v2 v3 v4 v5 S → WS X 9 0 0 3 [(0, .ref v0), (1, .int v1), (2, .int v2), (3, .int v3), (4, .int v4), (5, .int v5)] [] S) {X18 : Nat → Int32 → Int32 → Int32 → Int32 → Int32 → Int32 → HS → Prop} (hX18 : ∀ (v0 : Nat) (v1 : Int32) (v2 : Int32) (v3 : Int32) (v4 : Int32) (v5 : Int32) (v6 : Int32) (S : HS), X18 v0 v1 v2 v3 v4 v5 v6 S → WS X 9 0 0 18 [(0, .ref v0), (1, .int v1), (2, .int v2), (3, .int v3), (4, .int v4), (5, .int v5), (6, .int v6)] [] S) {v0 : Nat} {v1 : Int32} {v2 : Int32} {v3 : Int32} {v4 : Int32} {v5 : Int32} {v6 : Int32} {S : HS} (h : B_X11_tries_18 Q X3 X18 v0 v1 v2 v3 v4 v5 v6 S) : WS X 9 0 0 18 [(0, .ref v0), (1, .int v1), (2, .int v2), (3, .int v3), (4, .int v4), (5, .int v5), (6, .int v6)] [] S := by
  refine r_iload (pc := 18) C dX11_tries_18 6 rfl ?_
  refine r_iconst (pc := 20) C (v := (2 : Int32)) dX11_tries_20 (by decide) ?_
  refine r_icmp_ge (pc := 21) C (tgt := 152) dX11_tries_21 (by decide) (fun c1 => ?_) (fun c1 => ?_)
  · have h := h.1 c1
    obtain ⟨x2, ex2⟩ : ∃ z : Int32, z = v5 + (1 : Int32) := ⟨_, rfl⟩
    have h := h x2 ex2
    refine r_iinc (pc := 152) C (v := x2) (lv' := [(5, .int x2), (0, .ref v0), (1, .int v1), (2, .int v2), (3, .int v3), (4, .int v4), (6, .int v6)]) dX11_tries_152 5 rfl ex2.symm (by decide) rfl ?_
    refine r_goto (pc := 155) C (tgt := 3) dX11_tries_155 (by decide) ?_
    exact r_sub [1, 2, 3, 4, 5, 0] rfl (hX3 v0 v1 v2 v3 v4 x2 S h)
  · have h := h.2 c1
    refine r_aload_n (pc := 24) C dX11_tries_24 0 rfl ?_
    obtain ⟨o_v0, h⟩ := h
    obtain ⟨a3, ea3, h⟩ := h
    refine r_getr (pc := 25) C fL_X11_338 dX11_tries_25 o_v0 ea3 ?_
    refine r_iload (pc := 28) C dX11_tries_28 5 rfl ?_
    refine r_iload (pc := 30) C dX11_tries_30 6 rfl ?_
    obtain ⟨o_a3, h⟩ := h
    refine r_callVi0 (pc := 32) C (rest := []) (a := a3) o_a3 [.int v5, .int v6] yV_X10_begins g_1695 (c_X10_begins h) dX11_tries_32 rfl rfl (Nat.le_of_ble_eq_true rfl) ⟨by decide, by decide⟩ ⟨by decide, by decide⟩ ⟨rfl, rfl⟩ (fun x6 S4 h g5 => ?_)
    have h := h g5
    have o_a3 := gr_ob g5 o_a3
    have o_v0 := gr_ob g5 o_v0
    refine r_iload_n (pc := 35) C dX11_tries_35 2 rfl ?_
    refine r_icmp_eq (pc := 36) C (tgt := 42) dX11_tries_36 (by decide) (fun c7 => ?_) (fun c7 => ?_)
    · have h := h.1 c7
      refine r_aload_n (pc := 42) C dX11_tries_42 0 rfl ?_
      obtain ⟨a8, ea8, h⟩ := h
      refine r_getr (pc := 43) C fL_X11_338 dX11_tries_43 o_v0 ea8 ?_
      obtain ⟨o_a8, h⟩ := h
      obtain ⟨a9, ea9, h⟩ := h
      refine r_getNr (pc := 46) C fN_X11_317 dX11_tries_46 o_a8 ea9 ?_
      refine r_iload_n (pc := 49) C dX11_tries_49 1 rfl ?_
      obtain ⟨o_a9, h⟩ := h
      obtain ⟨i10, h⟩ := h
      refine r_iald (pc := 50) C dX11_tries_50 o_a9 i10 ?_
      refine r_topi (fun x11 ex11 => ?_)
      have h := h x11 ex11
      refine r_istore (pc := 51) C dX11_tries_51 (by decide) (lv' := [(7, .int x11), (0, .ref v0), (1, .int v1), (2, .int v2), (3, .int v3), (4, .int v4), (5, .int v5), (6, .int v6)]) rfl ?_
      exact r_sub [1, 2, 3, 4, 5, 6, 7, 0] rfl (T_X11_tries_53 C E ht hn hX3 hX18 h)
    · have h := h.2 c7
      refine r_goto (pc := 39) C (tgt := 146) dX11_tries_39 (by decide) ?_
      exact r_sub [0, 1, 2, 3, 4, 5, 6] rfl (T_X11_tries_146 C E ht hn hX3 hX18 h)
theorem T_X11_tries_18 {X : CX} {Q : HS → Prop} (C : Cx X cX11_tries RX11 9 rm_X11_tries) (E : ReV X rm_X11_tries Q) (ht : (xh X).sig.returnType = none) (hn : (xh X).name = yX11_tries.name) {X3 : Nat → Int32 → Int32 → Int32 → Int32 → Int32 → HS → Prop} (hX3 : ∀ (v0 : Nat) (v1 : Int32) (v2 : Int32) (v3 : Int32) (v4 : Int32) (v5 : Int32) (S : HS), X3 v0 v1 v2 v3 v4 v5 S → WS X 9 0 0 3 [(0, .ref v0), (1, .int v1), (2, .int v2), (3, .int v3), (4, .int v4), (5, .int v5)] [] S) {v0 : Nat} {v1 : Int32} {v2 : Int32} {v3 : Int32} {v4 : Int32} {v5 : Int32} {v6 : Int32} {S : HS} (h : P_X11_tries_18 Q X3 v0 v1 v2 v3 v4 v5 v6 S) : WS X 9 0 0 18 [(0, .ref v0), (1, .int v1), (2, .int v2), (3, .int v3), (4, .int v4), (5, .int v5), (6, .int v6)] [] S :=
  h (fun v0 v1 v2 v3 v4 v5 v6 S => WS X 9 0 0 18 [(0, .ref v0), (1, .int v1), (2, .int v2), (3, .int v3), (4, .int v4), (5, .int v5), (6, .int v6)] [] S) (fun v0 v1 v2 v3 v4 v5 v6 S hh => TB_X11_tries_18 C E ht hn hX3 (fun v0 v1 v2 v3 v4 v5 v6 S z => z) hh)
def B_X11_tries_3 (Q : HS → Prop) (X3 : Nat → Int32 → Int32 → Int32 → Int32 → Int32 → HS → Prop) (v0 : Nat) (v1 : Int32) (v2 : Int32) (v3 : Int32) (v4 : Int32) (v5 : Int32) (S : HS) : Prop := ob S v0 11 ∧ (∃ a1 : Nat, fR S v0 3 = some a1 ∧ (ob S a1 10 ∧ (∀ x2 : Int32, x2 = fI S a1 3 → (((x2 ≤ v5) → (P_X11_canWait v0 v2 (fun x6 S4 => Gr S S4 → bl x6 → (((x6 = 0) → (Q S4)) ∧ ((¬ x6 = 0) → (((v4 ≤ v3) → (Q S4)) ∧ ((¬ v4 ≤ v3) → (P_X11_spotOf v2 v3 (fun x11 S9 => Gr S4 S9 → (P_X11_spotOf v2 (v3 + (1 : Int32)) (fun x14 S12 => Gr S9 S12 → (P_X11_waitsOf v0 v1 v2 v3 (fun x17 S15 => Gr S12 S15 → (P_X11_takes v0 x11 x14 x17 (-2 : Int32) (fun S18 => Gr S15 S18 → (Q S18)) S15)) S12)) S9)) S4)))))) S)) ∧ ((¬ x2 ≤ v5) → (P_X11_tries_18 Q X3 v0 v1 v2 v3 v4 v5 (0 : Int32) S))))))
def P_X11_tries_3 (Q : HS → Prop) (v0 : Nat) (v1 : Int32) (v2 : Int32) (v3 : Int32) (v4 : Int32) (v5 : Int32) (S : HS) : Prop := ∀ X3 : Nat → Int32 → Int32 → Int32 → Int32 → Int32 → HS → Prop, (∀ (v0 : Nat) (v1 : Int32) (v2 : Int32) (v3 : Int32) (v4 : Int32) (v5 : Int32) (S : HS), B_X11_tries_3 Q X3 v0 v1 v2 v3 v4 v5 S → X3 v0 v1 v2 v3 v4 v5 S) → X3 v0 v1 v2 v3 v4 v5 S
set_option maxRecDepth 20000 in
set_option maxHeartbeats 4000000 in
theorem TB_X11_tries_3 {X : CX} {Q : HS → Prop} (C : Cx X cX11_tries RX11 9 rm_X11_tries) (E : ReV X rm_X11_tries Q) (ht : (xh X).sig.returnType = none) (hn : (xh X).name = yX11_tries.name) {X3 : Nat → Int32 → Int32 → Int32 → Int32 → Int32 → HS → Prop} (hX3 : ∀ (v0 : Nat) (v1 : Int32) (v2 : Int32) (v3 : Int32) (v4 : Int32) (v5 : Int32) (S : HS), X3 v0 v1 v2 v3 v4 v5 S → WS X 9 0 0 3 [(0, .ref v0), (1, .int v1), (2, .int v2), (3, .int v3), (4, .int v4), (5, .int v5)] [] S) {v0 : Nat} {v1 : Int32} {v2 : Int32} {v3 : Int32} {v4 : Int32} {v5 : Int32} {S : HS} (h : B_X11_tries_3 Q X3 v0 v1 v2 v3 v4 v5 S) : WS X 9 0 0 3 [(0, .ref v0), (1, .int v1), (2, .int v2), (3, .int v3), (4, .int v4), (5, .int v5)] [] S := by
  refine r_iload (pc := 3) C dX11_tries_3 5 rfl ?_
  refine r_aload_n (pc := 5) C dX11_tries_5 0 rfl ?_
  obtain ⟨o_v0, h⟩ := h
  obtain ⟨a1, ea1, h⟩ := h
  refine r_getr (pc := 6) C fL_X11_338 dX11_tries_6 o_v0 ea1 ?_
  obtain ⟨o_a1, h⟩ := h
  refine r_getNi (pc := 9) C fN_X11_264 dX11_tries_9 o_a1 ?_
  refine r_topi (fun x2 ex2 => ?_)
  have h := h x2 ex2
  refine r_icmp_ge (pc := 12) C (tgt := 158) dX11_tries_12 (by decide) (fun c3 => ?_) (fun c3 => ?_)
  · have h := h.1 c3
    refine r_aload_n (pc := 158) C dX11_tries_158 0 rfl ?_
    refine r_iload_n (pc := 159) C dX11_tries_159 2 rfl ?_
    refine r_callVi0 (pc := 160) C (rest := []) (a := v0) o_v0 [.int v2] yV_X11_canWait g_1715 (c_X11_canWait h) dX11_tries_160 rfl rfl (Nat.le_of_ble_eq_true rfl) ⟨by decide, by decide⟩ ⟨by decide, by decide⟩ ⟨rfl, rfl⟩ (fun x6 S4 h g5 => ?_)
    have bx6 := h.1
    have h := h.2 g5 bx6
    have o_a1 := gr_ob g5 o_a1
    have o_v0 := gr_ob g5 o_v0
    refine r_if_eq (pc := 163) C (tgt := 197) dX11_tries_163 (by decide) (fun c7 => ?_) (fun c7 => ?_)
    · have h := h.1 c7
      exact r_vret (pc := 197) C E ht dX11_tries_197 (by decide) (by decide) h
    · have h := h.2 c7
      refine r_iload_n (pc := 166) C dX11_tries_166 3 rfl ?_
      refine r_iload (pc := 167) C dX11_tries_167 4 rfl ?_
      refine r_icmp_ge (pc := 169) C (tgt := 197) dX11_tries_169 (by decide) (fun c8 => ?_) (fun c8 => ?_)
      · have h := h.1 c8
        exact r_vret (pc := 197) C E ht dX11_tries_197 (by decide) (by decide) h
      · have h := h.2 c8
        refine r_aload_n (pc := 172) C dX11_tries_172 0 rfl ?_
        refine r_iload_n (pc := 173) C dX11_tries_173 2 rfl ?_
        refine r_iload_n (pc := 174) C dX11_tries_174 3 rfl ?_
        refine r_callSi0 (pc := 175) C (rest := [.ref v0]) rfl [.int v2, .int v3] yS_X11_spotOf g_1687 (c_X11_spotOf h) dX11_tries_175 rfl rfl (Nat.le_of_ble_eq_true rfl) ⟨by decide, by decide⟩ ⟨by decide, by decide⟩ ⟨rfl, rfl⟩ (fun x11 S9 h g10 => ?_)
        have h := h g10
        have o_a1 := gr_ob g10 o_a1
        have o_v0 := gr_ob g10 o_v0
        refine r_iload_n (pc := 178) C dX11_tries_178 2 rfl ?_
        refine r_iload_n (pc := 179) C dX11_tries_179 3 rfl ?_
        refine r_iconst (pc := 180) C (v := (1 : Int32)) dX11_tries_180 (by decide) ?_
        refine r_iadd (pc := 181) C dX11_tries_181 ?_
        refine r_callSi0 (pc := 182) C (rest := [.int x11, .ref v0]) rfl [.int v2, .int (v3 + (1 : Int32))] yS_X11_spotOf g_1687 (c_X11_spotOf h) dX11_tries_182 rfl rfl (Nat.le_of_ble_eq_true rfl) ⟨by decide, by decide⟩ ⟨by decide, by decide⟩ ⟨rfl, rfl⟩ (fun x14 S12 h g13 => ?_)
        have h := h g13
        have o_a1 := gr_ob g13 o_a1
        have o_v0 := gr_ob g13 o_v0
        refine r_aload_n (pc := 185) C dX11_tries_185 0 rfl ?_
        refine r_iload_n (pc := 186) C dX11_tries_186 1 rfl ?_
        refine r_iload_n (pc := 187) C dX11_tries_187 2 rfl ?_
        refine r_iload_n (pc := 188) C dX11_tries_188 3 rfl ?_
        refine r_callVl0 (pc := 189) C (rest := [.int x14, .int x11, .ref v0]) (a := v0) o_v0 [.int v1, .int v2, .int v3] yV_X11_waitsOf g_1719 (c_X11_waitsOf h) dX11_tries_189 rfl rfl (Nat.le_of_ble_eq_true rfl) ⟨by decide, by decide⟩ ⟨by decide, by decide⟩ ⟨rfl, rfl⟩ (fun x17 S15 h g16 => ?_)
        have h := h g16
        have o_a1 := gr_ob g16 o_a1
        have o_v0 := gr_ob g16 o_v0
        refine r_bipush (pc := 192) C (v := (-2 : Int32)) dX11_tries_192 (by decide) ?_
        refine r_callVv0 (pc := 194) C (rest := []) (a := v0) o_v0 [.int x11, .int x14, .long x17, .int (-2 : Int32)] yV_X11_takes g_1711 (c_X11_takes h) dX11_tries_194 rfl rfl (Nat.le_of_ble_eq_true rfl) ⟨by decide, by decide⟩ ⟨by decide, by decide⟩ ⟨rfl, rfl⟩ (fun S18 h g19 => ?_)
        have h := h g19
        have o_a1 := gr_ob g19 o_a1
        have o_v0 := gr_ob g19 o_v0
        exact r_vret (pc := 197) C E ht dX11_tries_197 (by decide) (by decide) h
  · have h := h.2 c3
    refine r_iconst (pc := 15) C (v := (0 : Int32)) dX11_tries_15 (by decide) ?_
    refine r_istore (pc := 16) C dX11_tries_16 (by decide) (lv' := [(6, .int (0 : Int32)), (0, .ref v0), (1, .int v1), (2, .int v2), (3, .int v3), (4, .int v4), (5, .int v5)]) rfl ?_
    exact r_sub [1, 2, 3, 4, 5, 6, 0] rfl (T_X11_tries_18 C E ht hn hX3 h)
theorem T_X11_tries_3 {X : CX} {Q : HS → Prop} (C : Cx X cX11_tries RX11 9 rm_X11_tries) (E : ReV X rm_X11_tries Q) (ht : (xh X).sig.returnType = none) (hn : (xh X).name = yX11_tries.name) {v0 : Nat} {v1 : Int32} {v2 : Int32} {v3 : Int32} {v4 : Int32} {v5 : Int32} {S : HS} (h : P_X11_tries_3 Q v0 v1 v2 v3 v4 v5 S) : WS X 9 0 0 3 [(0, .ref v0), (1, .int v1), (2, .int v2), (3, .int v3), (4, .int v4), (5, .int v5)] [] S :=
  h (fun v0 v1 v2 v3 v4 v5 S => WS X 9 0 0 3 [(0, .ref v0), (1, .int v1), (2, .int v2), (3, .int v3), (4, .int v4), (5, .int v5)] [] S) (fun v0 v1 v2 v3 v4 v5 S hh => TB_X11_tries_3 C E ht hn (fun v0 v1 v2 v3 v4 v5 S z => z) hh)
def P_X11_tries_0 (Q : HS → Prop) (v0 : Nat) (v1 : Int32) (v2 : Int32) (v3 : Int32) (v4 : Int32) (S : HS) : Prop := P_X11_tries_3 Q v0 v1 v2 v3 v4 (0 : Int32) S
set_option maxRecDepth 20000 in
set_option maxHeartbeats 4000000 in
theorem T_X11_tries_0 {X : CX} {Q : HS → Prop} (C : Cx X cX11_tries RX11 9 rm_X11_tries) (E : ReV X rm_X11_tries Q) (ht : (xh X).sig.returnType = none) (hn : (xh X).name = yX11_tries.name) {v0 : Nat} {v1 : Int32} {v2 : Int32} {v3 : Int32} {v4 : Int32} {S : HS} (h : P_X11_tries_0 Q v0 v1 v2 v3 v4 S) : WS X 9 0 0 0 [(0, .ref v0), (1, .int v1), (2, .int v2), (3, .int v3), (4, .int v4)] [] S := by
  refine r_iconst (pc := 0) C (v := (0 : Int32)) dX11_tries_0 (by decide) ?_
  refine r_istore (pc := 1) C dX11_tries_1 (by decide) (lv' := [(5, .int (0 : Int32)), (0, .ref v0), (1, .int v1), (2, .int v2), (3, .int v3), (4, .int v4)]) rfl ?_
  exact r_sub [1, 2, 3, 4, 5, 0] rfl (T_X11_tries_3 C E ht hn h)
def P_X11_tries (v0 : Nat) (v1 : Int32) (v2 : Int32) (v3 : Int32) (v4 : Int32) (Q : HS → Prop) (S : HS) : Prop := P_X11_tries_0 Q v0 v1 v2 v3 v4 S
theorem c_X11_tries {l : Launch} {Ee : EE} {S : HS} {v0 : Nat} {v1 : Int32} {v2 : Int32} {v3 : Int32} {v4 : Int32} {Q : HS → Prop} (h : P_X11_tries v0 v1 v2 v3 v4 Q S) : MV l yX11_tries cX11_tries 9 none rm_X11_tries Ee S [.ref v0, .int v1, .int v2, .int v3, .int v4] Q :=
  openV (by decide) (Nat.le_of_ble_eq_true rfl) (fun X C E ht hn hE hl => by subst hE; exact r_sub [0, 1, 2, 3, 4] rfl (T_X11_tries_0 C E ht hn h))
