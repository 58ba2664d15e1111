section
def rm_X11_hourOf : Room := { frames := 0, cells := 0, slots := 0, locals := 0 }
def P_X11_hourOf_0 (Q : Int32 → HS → Prop) (v0 : Nat) (v1 : Int32) (S : HS) : Prop := ob S v0 11 ∧ (∃ a1 : Nat, fR S v0 3 = some a1 ∧ (ob S a1 10 ∧ (∀ x2 : Int32, x2 = fI S a1 0 → (¬ x2 = 0 ∧ ∀ x4 : Int32, x4 = v1 / x2 → (Q x4 S)))))
set_option maxRecDepth 20000 in
set_option maxHeartbeats 4000000 in
theorem T_X11_hourOf_0 {X : CX} {Q : Int32 → HS → Prop} (C : Cx X cX11_hourOf RX11 2 rm_X11_hourOf) (E : ReI X rm_X11_hourOf Q) (ht : (xh X).sig.returnType = (some .int)) (hn : (xh X).name = yX11_hourOf.name) {v0 : Nat} {v1 : Int32} {S : HS} (h : P_X11_hourOf_0 Q v0 v1 S) : WS X 2 0 0 0 [(0, .ref v0), (1, .int v1)] [] S := by
  refine r_iload_n (pc := 0) C dX11_hourOf_0 1 rfl ?_
  refine r_aload_n (pc := 1) C dX11_hourOf_1 0 rfl ?_
  obtain ⟨o_v0, h⟩ := h
  obtain ⟨a1, ea1, h⟩ := h
  refine r_getr (pc := 2) C fL_X11_338 dX11_hourOf_2 o_v0 ea1 ?_
  obtain ⟨o_a1, h⟩ := h
  refine r_getNi (pc := 5) C fN_X11_151 dX11_hourOf_5 o_a1 ?_
  refine r_topi (fun x2 ex2 => ?_)
  have h := h x2 ex2
  obtain ⟨q3, h⟩ := h
  refine r_idiv (pc := 8) C dX11_hourOf_8 q3 ?_
  refine r_topi (fun x4 ex4 => ?_)
  have h := h x4 ex4
  exact r_iret (pc := 9) C E ht dX11_hourOf_9 (by decide) (by decide) h
def P_X11_hourOf (v0 : Nat) (v1 : Int32) (Q : Int32 → HS → Prop) (S : HS) : Prop := P_X11_hourOf_0 Q v0 v1 S
theorem c_X11_hourOf {l : Launch} {Ee : EE} {S : HS} {v0 : Nat} {v1 : Int32} {Q : Int32 → HS → Prop} (h : P_X11_hourOf v0 v1 Q S) : MI l yX11_hourOf cX11_hourOf 2 (some .int) rm_X11_hourOf Ee S [.ref v0, .int v1] Q :=
  openI (by decide) (Nat.le_of_ble_eq_true rfl) (fun X C E ht hn hE hl => by subst hE; exact r_sub [0, 1] rfl (T_X11_hourOf_0 C E ht hn h))
def rm_X11_keeps : Room := { frames := 0, cells := 0, slots := 0, locals := 0 }
def B_X11_keeps_50 (Q : HS → Prop) (X50 : Nat → Int32 → HS → Prop) (v0 : Nat) (v1 : Int32) (S : HS) : Prop := (((7 : Int32) ≤ v1) → (ob S v0 11 ∧ (∀ x2 : Int32, x2 = fI S v0 24 → (∀ x3 : Int32, x3 = x2 + (1 : Int32) → (∀ S4 : HS, S4 = sI S v0 24 x3 → (Q S4)))))) ∧ ((¬ (7 : Int32) ≤ v1) → (ob S v0 11 ∧ (∃ a5 : Nat, fR S v0 22 = some a5 ∧ (∀ x6 : Int32, x6 = fI S v0 24 → (∃ a7 : Nat, fR S v0 21 = some a7 ∧ (ob S a7 14 ∧ (vp_in v1 (hN S a7) ∧ ∀ x9 : Int64, x9 = fJ S a7 v1.toNatClampNeg → (ob S a5 14 ∧ (vp_in (((7 : Int32) * x6) + v1) (hN S a5) ∧ (∀ S11 : HS, S11 = sJ S a5 (((7 : Int32) * x6) + v1).toNatClampNeg x9 → (∀ x12 : Int32, x12 = v1 + (1 : Int32) → (X50 v0 x12 S11))))))))))))
def P_X11_keeps_50 (Q : HS → Prop) (v0 : Nat) (v1 : Int32) (S : HS) : Prop := ∀ X50 : Nat → Int32 → HS → Prop, (∀ (v0 : Nat) (v1 : Int32) (S : HS), B_X11_keeps_50 Q X50 v0 v1 S → X50 v0 v1 S) → X50 v0 v1 S
set_option maxRecDepth 20000 in
set_option maxHeartbeats 4000000 in
theorem TB_X11_keeps_50 {X : CX} {Q : HS → Prop} (C : Cx X cX11_keeps RX11 2 rm_X11_keeps) (E : ReV X rm_X11_keeps Q) (ht : (xh X).sig.returnType = none) (hn : (xh X).name = yX11_keeps.name) {X50 : Nat → Int32 → HS → Prop} (hX50 : ∀ (v0 : Nat) (v1 : Int32) (S : HS), X50 v0 v1 S → WS X 2 0 0 50 [(0, .ref v0), (1, .int v1)] [] S) {v0 : Nat} {v1 : Int32} {S : HS} (h : B_X11_keeps_50 Q X50 v0 v1 S) : WS X 2 0 0 50 [(0, .ref v0), (1, .int v1)] [] S := by
  refine r_iload_n (pc := 50) C dX11_keeps_50 1 rfl ?_
  refine r_bipush (pc := 51) C (v := (7 : Int32)) dX11_keeps_51 (by decide) ?_
  refine r_icmp_ge (pc := 53) C (tgt := 82) dX11_keeps_53 (by decide) (fun c1 => ?_) (fun c1 => ?_)
  · have h := h.1 c1
    refine r_aload_n (pc := 82) C dX11_keeps_82 0 rfl ?_
    refine r_dup (pc := 83) C dX11_keeps_83 rfl ?_
    obtain ⟨o_v0, h⟩ := h
    refine r_geti (pc := 84) C fL_X11_340 dX11_keeps_84 o_v0 ?_
    refine r_topi (fun x2 ex2 => ?_)
    have h := h x2 ex2
    refine r_iconst (pc := 87) C (v := (1 : Int32)) dX11_keeps_87 (by decide) ?_
    refine r_iadd (pc := 88) C dX11_keeps_88 ?_
    refine r_topi (fun x3 ex3 => ?_)
    have h := h x3 ex3
    refine r_puti (pc := 89) C pfL_X11_340 dX11_keeps_89 o_v0 ?_
    refine r_heap (fun S4 eS4 => ?_)
    have h := h S4 eS4
    have o_v0 := ob_I eS4 o_v0
    exact r_vret (pc := 92) C E ht dX11_keeps_92 (by decide) (by decide) h
  · have h := h.2 c1
    refine r_aload_n (pc := 56) C dX11_keeps_56 0 rfl ?_
    obtain ⟨o_v0, h⟩ := h
    obtain ⟨a5, ea5, h⟩ := h
    refine r_getr (pc := 57) C fL_X11_34 dX11_keeps_57 o_v0 ea5 ?_
    refine r_bipush (pc := 60) C (v := (7 : Int32)) dX11_keeps_60 (by decide) ?_
    refine r_aload_n (pc := 62) C dX11_keeps_62 0 rfl ?_
    refine r_geti (pc := 63) C fL_X11_340 dX11_keeps_63 o_v0 ?_
    refine r_topi (fun x6 ex6 => ?_)
    have h := h x6 ex6
    refine r_imul (pc := 66) C dX11_keeps_66 ?_
    refine r_iload_n (pc := 67) C dX11_keeps_67 1 rfl ?_
    refine r_iadd (pc := 68) C dX11_keeps_68 ?_
    refine r_aload_n (pc := 69) C dX11_keeps_69 0 rfl ?_
    obtain ⟨a7, ea7, h⟩ := h
    refine r_getr (pc := 70) C fL_X11_31 dX11_keeps_70 o_v0 ea7 ?_
    refine r_iload_n (pc := 73) C dX11_keeps_73 1 rfl ?_
    obtain ⟨o_a7, h⟩ := h
    obtain ⟨i8, h⟩ := h
    refine r_lald (pc := 74) C dX11_keeps_74 o_a7 i8 ?_
    refine r_topl (fun x9 ex9 => ?_)
    have h := h x9 ex9
    obtain ⟨o_a5, h⟩ := h
    obtain ⟨i10, h⟩ := h
    refine r_last (pc := 75) C dX11_keeps_75 o_a5 i10 ?_
    refine r_heap (fun S11 eS11 => ?_)
    have h := h S11 eS11
    have o_a5 := ob_J eS11 o_a5
    have o_a7 := ob_J eS11 o_a7
    have o_v0 := ob_J eS11 o_v0
    obtain ⟨x12, ex12⟩ : ∃ z : Int32, z = v1 + (1 : Int32) := ⟨_, rfl⟩
    have h := h x12 ex12
    refine r_iinc (pc := 76) C (v := x12) (lv' := [(1, .int x12), (0, .ref v0)]) dX11_keeps_76 1 rfl ex12.symm (by decide) rfl ?_
    refine r_goto (pc := 79) C (tgt := 50) dX11_keeps_79 (by decide) ?_
    exact r_sub [1, 0] rfl (hX50 v0 x12 S11 h)
theorem T_X11_keeps_50 {X : CX} {Q : HS → Prop} (C : Cx X cX11_keeps RX11 2 rm_X11_keeps) (E : ReV X rm_X11_keeps Q) (ht : (xh X).sig.returnType = none) (hn : (xh X).name = yX11_keeps.name) {v0 : Nat} {v1 : Int32} {S : HS} (h : P_X11_keeps_50 Q v0 v1 S) : WS X 2 0 0 50 [(0, .ref v0), (1, .int v1)] [] S :=
  h (fun v0 v1 S => WS X 2 0 0 50 [(0, .ref v0), (1, .int v1)] [] S) (fun v0 v1 S hh => TB_X11_keeps_50 C E ht hn (fun v0 v1 S z => z) hh)
def P_X11_keeps_48 (Q : HS → Prop) (v0 : Nat) (S : HS) : Prop := P_X11_keeps_50 Q v0 (0 : Int32) S
set_option maxRecDepth 20000 in
set_option maxHeartbeats 4000000 in
theorem T_X11_keeps_48 {X : CX} {Q : HS → Prop} (C : Cx X cX11_keeps RX11 2 rm_X11_keeps) (E : ReV X rm_X11_keeps Q) (ht : (xh X).sig.returnType = none) (hn : (xh X).name = yX11_keeps.name) {v0 : Nat} {S : HS} (h : P_X11_keeps_48 Q v0 S) : WS X 2 0 0 48 [(0, .ref v0)] [] S := by
  refine r_iconst (pc := 48) C (v := (0 : Int32)) dX11_keeps_48 (by decide) ?_
  refine r_istore_n (pc := 49) C dX11_keeps_49 rfl (by decide) (lv' := [(1, .int (0 : Int32)), (0, .ref v0)]) rfl ?_
  exact r_sub [1, 0] rfl (T_X11_keeps_50 C E ht hn h)
def B_X11_keeps_11 (Q : HS → Prop) (X11 : Nat → Int32 → HS → Prop) (v0 : Nat) (v1 : Int32) (S : HS) : Prop := (((105 : Int32) ≤ v1) → (ob S v0 11 ∧ (∀ x2 : Int32, x2 = fI S v0 24 → (∀ x3 : Int32, x3 = x2 - (1 : Int32) → (∀ S4 : HS, S4 = sI S v0 24 x3 → (P_X11_keeps_48 Q v0 S4)))))) ∧ ((¬ (105 : Int32) ≤ v1) → (ob S v0 11 ∧ (∃ a5 : Nat, fR S v0 22 = some a5 ∧ (∃ a6 : Nat, fR S v0 22 = some a6 ∧ (ob S a6 14 ∧ (∀ x8 : Int32, x8 = v1 + (7 : Int32) → (vp_in x8 (hN S a6) ∧ ∀ x9 : Int64, x9 = fJ S a6 x8.toNatClampNeg → (ob S a5 14 ∧ (vp_in v1 (hN S a5) ∧ (∀ S11 : HS, S11 = sJ S a5 v1.toNatClampNeg x9 → (∀ x12 : Int32, x12 = v1 + (1 : Int32) → (X11 v0 x12 S11))))))))))))
def P_X11_keeps_11 (Q : HS → Prop) (v0 : Nat) (v1 : Int32) (S : HS) : Prop := ∀ X11 : Nat → Int32 → HS → Prop, (∀ (v0 : Nat) (v1 : Int32) (S : HS), B_X11_keeps_11 Q X11 v0 v1 S → X11 v0 v1 S) → X11 v0 v1 S
set_option maxRecDepth 20000 in
set_option maxHeartbeats 4000000 in
theorem TB_X11_keeps_11 {X : CX} {Q : HS → Prop} (C : Cx X cX11_keeps RX11 2 rm_X11_keeps) (E : ReV X rm_X11_keeps Q) (ht : (xh X).sig.returnType = none) (hn : (xh X).name = yX11_keeps.name) {X11 : Nat → Int32 → HS → Prop} (hX11 : ∀ (v0 : Nat) (v1 : Int32) (S : HS), X11 v0 v1 S → WS X 2 0 0 11 [(0, .ref v0), (1, .int v1)] [] S) {v0 : Nat} {v1 : Int32} {S : HS} (h : B_X11_keeps_11 Q X11 v0 v1 S) : WS X 2 0 0 11 [(0, .ref v0), (1, .int v1)] [] S := by
  refine r_iload_n (pc := 11) C dX11_keeps_11 1 rfl ?_
  refine r_bipush (pc := 12) C (v := (105 : Int32)) dX11_keeps_12 (by decide) ?_
  refine r_icmp_ge (pc := 14) C (tgt := 38) dX11_keeps_14 (by decide) (fun c1 => ?_) (fun c1 => ?_)
  · have h := h.1 c1
    refine r_aload_n (pc := 38) C dX11_keeps_38 0 rfl ?_
    refine r_dup (pc := 39) C dX11_keeps_39 rfl ?_
    obtain ⟨o_v0, h⟩ := h
    refine r_geti (pc := 40) C fL_X11_340 dX11_keeps_40 o_v0 ?_
    refine r_topi (fun x2 ex2 => ?_)
    have h := h x2 ex2
    refine r_iconst (pc := 43) C (v := (1 : Int32)) dX11_keeps_43 (by decide) ?_
    refine r_isub (pc := 44) C dX11_keeps_44 ?_
    refine r_topi (fun x3 ex3 => ?_)
    have h := h x3 ex3
    refine r_puti (pc := 45) C pfL_X11_340 dX11_keeps_45 o_v0 ?_
    refine r_heap (fun S4 eS4 => ?_)
    have h := h S4 eS4
    have o_v0 := ob_I eS4 o_v0
    exact r_sub [0] rfl (T_X11_keeps_48 C E ht hn h)
  · have h := h.2 c1
    refine r_aload_n (pc := 17) C dX11_keeps_17 0 rfl ?_
    obtain ⟨o_v0, h⟩ := h
    obtain ⟨a5, ea5, h⟩ := h
    refine r_getr (pc := 18) C fL_X11_34 dX11_keeps_18 o_v0 ea5 ?_
    refine r_iload_n (pc := 21) C dX11_keeps_21 1 rfl ?_
    refine r_aload_n (pc := 22) C dX11_keeps_22 0 rfl ?_
    obtain ⟨a6, ea6, h⟩ := h
    refine r_getr (pc := 23) C fL_X11_34 dX11_keeps_23 o_v0 ea6 ?_
    refine r_iload_n (pc := 26) C dX11_keeps_26 1 rfl ?_
    refine r_bipush (pc := 27) C (v := (7 : Int32)) dX11_keeps_27 (by decide) ?_
    refine r_iadd (pc := 29) C dX11_keeps_29 ?_
    obtain ⟨o_a6, h⟩ := h
    refine r_topi (fun x8 ex8 => ?_)
    have h := h x8 ex8
    obtain ⟨i7, h⟩ := h
    refine r_lald (pc := 30) C dX11_keeps_30 o_a6 i7 ?_
    refine r_topl (fun x9 ex9 => ?_)
    have h := h x9 ex9
    obtain ⟨o_a5, h⟩ := h
    obtain ⟨i10, h⟩ := h
    refine r_last (pc := 31) C dX11_keeps_31 o_a5 i10 ?_
    refine r_heap (fun S11 eS11 => ?_)
    have h := h S11 eS11
    have o_a5 := ob_J eS11 o_a5
    have o_a6 := ob_J eS11 o_a6
    have o_v0 := ob_J eS11 o_v0
    obtain ⟨x12, ex12⟩ : ∃ z : Int32, z = v1 + (1 : Int32) := ⟨_, rfl⟩
    have h := h x12 ex12
    refine r_iinc (pc := 32) C (v := x12) (lv' := [(1, .int x12), (0, .ref v0)]) dX11_keeps_32 1 rfl ex12.symm (by decide) rfl ?_
    refine r_goto (pc := 35) C (tgt := 11) dX11_keeps_35 (by decide) ?_
    exact r_sub [1, 0] rfl (hX11 v0 x12 S11 h)
theorem T_X11_keeps_11 {X : CX} {Q : HS → Prop} (C : Cx X cX11_keeps RX11 2 rm_X11_keeps) (E : ReV X rm_X11_keeps Q) (ht : (xh X).sig.returnType = none) (hn : (xh X).name = yX11_keeps.name) {v0 : Nat} {v1 : Int32} {S : HS} (h : P_X11_keeps_11 Q v0 v1 S) : WS X 2 0 0 11 [(0, .ref v0), (1, .int v1)] [] S :=
  h (fun v0 v1 S => WS X 2 0 0 11 [(0, .ref v0), (1, .int v1)] [] S) (fun v0 v1 S hh => TB_X11_keeps_11 C E ht hn (fun v0 v1 S z => z) hh)
def P_X11_keeps_0 (Q : HS → Prop) (v0 : Nat) (S : HS) : Prop := ob S v0 11 ∧ (∀ x1 : Int32, x1 = fI S v0 24 → (((¬ x1 = (16 : Int32)) → (P_X11_keeps_48 Q v0 S)) ∧ ((x1 = (16 : Int32)) → (P_X11_keeps_11 Q v0 (0 : Int32) S))))
set_option maxRecDepth 20000 in
set_option maxHeartbeats 4000000 in
theorem T_X11_keeps_0 {X : CX} {Q : HS → Prop} (C : Cx X cX11_keeps RX11 2 rm_X11_keeps) (E : ReV X rm_X11_keeps Q) (ht : (xh X).sig.returnType = none) (hn : (xh X).name = yX11_keeps.name) {v0 : Nat} {S : HS} (h : P_X11_keeps_0 Q v0 S) : WS X 2 0 0 0 [(0, .ref v0)] [] S := by
  refine r_aload_n (pc := 0) C dX11_keeps_0 0 rfl ?_
  obtain ⟨o_v0, h⟩ := h
  refine r_geti (pc := 1) C fL_X11_340 dX11_keeps_1 o_v0 ?_
  refine r_topi (fun x1 ex1 => ?_)
  have h := h x1 ex1
  refine r_bipush (pc := 4) C (v := (16 : Int32)) dX11_keeps_4 (by decide) ?_
  refine r_icmp_ne (pc := 6) C (tgt := 48) dX11_keeps_6 (by decide) (fun c2 => ?_) (fun c2 => ?_)
  · have h := h.1 c2
    exact r_sub [0] rfl (T_X11_keeps_48 C E ht hn h)
  · have h := h.2 c2
    refine r_iconst (pc := 9) C (v := (0 : Int32)) dX11_keeps_9 (by decide) ?_
    refine r_istore_n (pc := 10) C dX11_keeps_10 rfl (by decide) (lv' := [(1, .int (0 : Int32)), (0, .ref v0)]) rfl ?_
    exact r_sub [1, 0] rfl (T_X11_keeps_11 C E ht hn h)
def P_X11_keeps (v0 : Nat) (Q : HS → Prop) (S : HS) : Prop := P_X11_keeps_0 Q v0 S
theorem c_X11_keeps {l : Launch} {Ee : EE} {S : HS} {v0 : Nat} {Q : HS → Prop} (h : P_X11_keeps v0 Q S) : MV l yX11_keeps cX11_keeps 2 none rm_X11_keeps Ee S [.ref v0] Q :=
  openV (by decide) (Nat.le_of_ble_eq_true rfl) (fun X C E ht hn hE hl => by subst hE; exact r_sub [0] rfl (T_X11_keeps_0 C E ht hn h))
def rm_X11_rainsIn : Room := { frames := 1, cells := 0, slots := 0, locals := 21 }
def P_X11_rainsIn_0 (Q : Int32 → HS → Prop) (v0 : Nat) (v1 : Int32) (S : HS) : Prop := ob S v0 11 ∧ (P_X11_hourOf v0 v1 (fun x3 S1 => Gr S S1 → (∃ a4 : Nat, fR S1 v0 3 = some a4 ∧ (ob S1 a4 10 ∧ (∀ x5 : Int32, x5 = fI S1 a4 1 → (((x5 ≤ x3) → (Q (0 : Int32) S1)) ∧ ((¬ x5 ≤ x3) → (∀ x7 : Int32, x7 = fI S1 v0 20 → (((¬ ((x7 >>> (x3 &&& 31)) &&& (1 : Int32)) = (1 : Int32)) → (Q (0 : Int32) S1)) ∧ ((((x7 >>> (x3 &&& 31)) &&& (1 : Int32)) = (1 : Int32)) → (Q (1 : Int32) S1)))))))))) S)
set_option maxRecDepth 20000 in
set_option maxHeartbeats 4000000 in
theorem T_X11_rainsIn_0 {X : CX} {Q : Int32 → HS → Prop} (C : Cx X cX11_rainsIn RX11 3 rm_X11_rainsIn) (E : ReI X rm_X11_rainsIn (fun r S => bl r ∧ Q r S)) (ht : (xh X).sig.returnType = (some .boolean)) (hn : (xh X).name = yX11_rainsIn.name) {v0 : Nat} {v1 : Int32} {S : HS} (h : P_X11_rainsIn_0 Q v0 v1 S) : WS X 3 0 0 0 [(0, .ref v0), (1, .int v1)] [] S := by
  refine r_aload_n (pc := 0) C dX11_rainsIn_0 0 rfl ?_
  refine r_iload_n (pc := 1) C dX11_rainsIn_1 1 rfl ?_
  obtain ⟨o_v0, h⟩ := h
  refine r_callVi0 (pc := 2) C (rest := []) (a := v0) o_v0 [.int v1] yV_X11_hourOf g_1707 (c_X11_hourOf h) dX11_rainsIn_2 rfl rfl (Nat.le_of_ble_eq_true rfl) ⟨by decide, by decide⟩ ⟨by decide, by decide⟩ ⟨rfl, rfl⟩ (fun x3 S1 h g2 => ?_)
  have h := h g2
  have o_v0 := gr_ob g2 o_v0
  refine r_istore_n (pc := 5) C dX11_rainsIn_5 rfl (by decide) (lv' := [(2, .int x3), (0, .ref v0), (1, .int v1)]) rfl ?_
  refine r_iload_n (pc := 6) C dX11_rainsIn_6 0 rfl ?_
  refine r_aload_n (pc := 7) C dX11_rainsIn_7 1 rfl ?_
  obtain ⟨a4, ea4, h⟩ := h
  refine r_getr (pc := 8) C fL_X11_338 dX11_rainsIn_8 o_v0 ea4 ?_
  obtain ⟨o_a4, h⟩ := h
  refine r_getNi (pc := 11) C fN_X11_219 dX11_rainsIn_11 o_a4 ?_
  refine r_topi (fun x5 ex5 => ?_)
  have h := h x5 ex5
  refine r_icmp_ge (pc := 14) C (tgt := 33) dX11_rainsIn_14 (by decide) (fun c6 => ?_) (fun c6 => ?_)
  · have h := h.1 c6
    refine r_iconst (pc := 33) C (v := (0 : Int32)) dX11_rainsIn_33 (by decide) ?_
    exact r_zret (pc := 34) C E ht dX11_rainsIn_34 (by decide) (by decide) (Or.inl rfl) h
  · have h := h.2 c6
    refine r_aload_n (pc := 17) C dX11_rainsIn_17 1 rfl ?_
    refine r_geti (pc := 18) C fL_X11_475 dX11_rainsIn_18 o_v0 ?_
    refine r_topi (fun x7 ex7 => ?_)
    have h := h x7 ex7
    refine r_iload_n (pc := 21) C dX11_rainsIn_21 0 rfl ?_
    refine r_ishr (pc := 22) C dX11_rainsIn_22 ?_
    refine r_iconst (pc := 23) C (v := (1 : Int32)) dX11_rainsIn_23 (by decide) ?_
    refine r_iand (pc := 24) C dX11_rainsIn_24 ?_
    refine r_iconst (pc := 25) C (v := (1 : Int32)) dX11_rainsIn_25 (by decide) ?_
    refine r_icmp_ne (pc := 26) C (tgt := 33) dX11_rainsIn_26 (by decide) (fun c8 => ?_) (fun c8 => ?_)
    · have h := h.1 c8
      refine r_iconst (pc := 33) C (v := (0 : Int32)) dX11_rainsIn_33 (by decide) ?_
      exact r_zret (pc := 34) C E ht dX11_rainsIn_34 (by decide) (by decide) (Or.inl rfl) h
    · have h := h.2 c8
      refine r_iconst (pc := 29) C (v := (1 : Int32)) dX11_rainsIn_29 (by decide) ?_
      refine r_goto (pc := 30) C (tgt := 34) dX11_rainsIn_30 (by decide) ?_
      exact r_zret (pc := 34) C E ht dX11_rainsIn_34 (by decide) (by decide) (Or.inr rfl) h
def P_X11_rainsIn (v0 : Nat) (v1 : Int32) (Q : Int32 → HS → Prop) (S : HS) : Prop := P_X11_rainsIn_0 Q v0 v1 S
theorem c_X11_rainsIn {l : Launch} {Ee : EE} {S : HS} {v0 : Nat} {v1 : Int32} {Q : Int32 → HS → Prop} (h : P_X11_rainsIn v0 v1 Q S) : MI l yX11_rainsIn cX11_rainsIn 3 (some .boolean) rm_X11_rainsIn Ee S [.ref v0, .int v1] (fun r S => bl r ∧ Q r S) :=
  openI (by decide) (Nat.le_of_ble_eq_true rfl) (fun X C E ht hn hE hl => by subst hE; exact r_sub [0, 1] rfl (T_X11_rainsIn_0 C E ht hn h))
def rm_X11_go : Room := { frames := 5, cells := 0, slots := 0, locals := 135 }
def P_X11_go_29 (Q : Int32 → HS → Prop) (v0 : Nat) (S : HS) : Prop := ob S v0 11 ∧ (P_X11_refused v0 (1 : Int32) (fun x3 S1 => Gr S S1 → (Q x3 S1)) S)
set_option maxRecDepth 20000 in
set_option maxHeartbeats 4000000 in
theorem T_X11_go_29 {X : CX} {Q : Int32 → HS → Prop} (C : Cx X cX11_go RX11 6 rm_X11_go) (E : ReI X rm_X11_go Q) (ht : (xh X).sig.returnType = (some .int)) (hn : (xh X).name = yX11_go.name) {v0 : Nat} {S : HS} (h : P_X11_go_29 Q v0 S) : WS X 6 0 0 29 [(0, .ref v0)] [] S := by
  refine r_aload_n (pc := 29) C dX11_go_29 0 rfl ?_
  refine r_iconst (pc := 30) C (v := (1 : Int32)) dX11_go_30 (by decide) ?_
  obtain ⟨o_v0, h⟩ := h
  refine r_callVi0 (pc := 31) C (rest := []) (a := v0) o_v0 [.int (1 : Int32)] yV_X11_refused g_1250 (c_X11_refused h) dX11_go_31 rfl rfl (Nat.le_of_ble_eq_true rfl) ⟨by decide, by decide⟩ ⟨by decide, by decide⟩ ⟨rfl, rfl⟩ (fun x3 S1 h g2 => ?_)
  have h := h g2
  have o_v0 := gr_ob g2 o_v0
  exact r_iret (pc := 34) C E ht dX11_go_34 (by decide) (by decide) h
def P_X11_go_171 (Q : Int32 → HS → Prop) (v0 : Nat) (v1 : Int32) (v2 : Int32) (v3 : Int32) (v4 : Int32) (S : HS) : Prop := ob S v0 11 ∧ (∃ a1 : Nat, fR S v0 21 = some a1 ∧ (∃ a2 : Nat, fR S v0 3 = some a2 ∧ (ob S a2 10 ∧ (P_X10_ends a2 v1 v2 (fun x5 S3 => Gr S S3 → (ob S3 a1 14 ∧ (∀ x7 : Int64, x7 = x5.toInt64 → (vp_in (0 : Int32) (hN S3 a1) ∧ (∀ S8 : HS, S8 = sJ S3 a1 (0 : Int32).toNatClampNeg x7 → (∃ a9 : Nat, fR S8 v0 21 = some a9 ∧ (∃ a10 : Nat, fR S8 v0 3 = some a10 ∧ (ob S8 a10 10 ∧ (P_X10_minutes a10 v1 v3 (fun x13 S11 => Gr S8 S11 → (ob S11 a9 14 ∧ (∀ x15 : Int64, x15 = (v4 + x13).toInt64 → (vp_in (1 : Int32) (hN S11 a9) ∧ (∀ S16 : HS, S16 = sJ S11 a9 (1 : Int32).toNatClampNeg x15 → (∃ a17 : Nat, fR S16 v0 21 = some a17 ∧ (ob S16 a17 14 ∧ (vp_in (1 : Int32) (hN S16 a17) ∧ ∀ x19 : Int64, x19 = fJ S16 a17 (1 : Int32).toNatClampNeg → (P_X11_good v0 x19.toInt32 (fun x22 S20 => Gr S16 S20 → (Q x22 S20)) S16))))))))) S8))))))))) S))))
set_option maxRecDepth 20000 in
set_option maxHeartbeats 4000000 in
theorem T_X11_go_171 {X : CX} {Q : Int32 → HS → Prop} (C : Cx X cX11_go RX11 6 rm_X11_go) (E : ReI X rm_X11_go Q) (ht : (xh X).sig.returnType = (some .int)) (hn : (xh X).name = yX11_go.name) {v0 : Nat} {v1 : Int32} {v2 : Int32} {v3 : Int32} {v4 : Int32} {S : HS} (h : P_X11_go_171 Q v0 v1 v2 v3 v4 S) : WS X 6 0 0 171 [(0, .ref v0), (1, .int v1), (2, .int v2), (3, .int v3), (4, .int v4)] [] S := by
  refine r_aload_n (pc := 171) C dX11_go_171 0 rfl ?_
  obtain ⟨o_v0, h⟩ := h
  obtain ⟨a1, ea1, h⟩ := h
  refine r_getr (pc := 172) C fL_X11_31 dX11_go_172 o_v0 ea1 ?_
  refine r_iconst (pc := 175) C (v := (0 : Int32)) dX11_go_175 (by decide) ?_
  refine r_aload_n (pc := 176) C dX11_go_176 0 rfl ?_
  obtain ⟨a2, ea2, h⟩ := h
  refine r_getr (pc := 177) C fL_X11_338 dX11_go_177 o_v0 ea2 ?_
  refine r_iload_n (pc := 180) C dX11_go_180 1 rfl ?_
  refine r_iload_n (pc := 181) C dX11_go_181 2 rfl ?_
  obtain ⟨o_a2, h⟩ := h
  refine r_callVi0 (pc := 182) C (rest := [.int (0 : Int32), .ref a1]) (a := a2) o_a2 [.int v1, .int v2] yV_X10_ends g_1699 (c_X10_ends h) dX11_go_182 rfl rfl (Nat.le_of_ble_eq_true rfl) ⟨by decide, by decide⟩ ⟨by decide, by decide⟩ ⟨rfl, rfl⟩ (fun x5 S3 h g4 => ?_)
  have h := h g4
  have o_a2 := gr_ob g4 o_a2
  have o_v0 := gr_ob g4 o_v0
  refine r_i2l (pc := 185) C dX11_go_185 ?_
  obtain ⟨o_a1, h⟩ := h
  refine r_topl (fun x7 ex7 => ?_)
  have h := h x7 ex7
  obtain ⟨i6, h⟩ := h
  refine r_last (pc := 186) C dX11_go_186 o_a1 i6 ?_
  refine r_heap (fun S8 eS8 => ?_)
  have h := h S8 eS8
  have o_a1 := ob_J eS8 o_a1
  have o_a2 := ob_J eS8 o_a2
  have o_v0 := ob_J eS8 o_v0
  refine r_aload_n (pc := 187) C dX11_go_187 0 rfl ?_
  obtain ⟨a9, ea9, h⟩ := h
  refine r_getr (pc := 188) C fL_X11_31 dX11_go_188 o_v0 ea9 ?_
  refine r_iconst (pc := 191) C (v := (1 : Int32)) dX11_go_191 (by decide) ?_
  refine r_iload (pc := 192) C dX11_go_192 4 rfl ?_
  refine r_aload_n (pc := 194) C dX11_go_194 0 rfl ?_
  obtain ⟨a10, ea10, h⟩ := h
  refine r_getr (pc := 195) C fL_X11_338 dX11_go_195 o_v0 ea10 ?_
  refine r_iload_n (pc := 198) C dX11_go_198 1 rfl ?_
  refine r_iload_n (pc := 199) C dX11_go_199 3 rfl ?_
  obtain ⟨o_a10, h⟩ := h
  refine r_callVi0 (pc := 200) C (rest := [.int v4, .int (1 : Int32), .ref a9]) (a := a10) o_a10 [.int v1, .int v3] yV_X10_minutes g_1607 (c_X10_minutes h) dX11_go_200 rfl rfl (Nat.le_of_ble_eq_true rfl) ⟨by decide, by decide⟩ ⟨by decide, by decide⟩ ⟨rfl, rfl⟩ (fun x13 S11 h g12 => ?_)
  have h := h g12
  have o_a1 := gr_ob g12 o_a1
  have o_a10 := gr_ob g12 o_a10
  have o_a2 := gr_ob g12 o_a2
  have o_v0 := gr_ob g12 o_v0
  refine r_iadd (pc := 203) C dX11_go_203 ?_
  refine r_i2l (pc := 204) C dX11_go_204 ?_
  obtain ⟨o_a9, h⟩ := h
  refine r_topl (fun x15 ex15 => ?_)
  have h := h x15 ex15
  obtain ⟨i14, h⟩ := h
  refine r_last (pc := 205) C dX11_go_205 o_a9 i14 ?_
  refine r_heap (fun S16 eS16 => ?_)
  have h := h S16 eS16
  have o_a1 := ob_J eS16 o_a1
  have o_a10 := ob_J eS16 o_a10
  have o_a2 := ob_J eS16 o_a2
  have o_a9 := ob_J eS16 o_a9
  have o_v0 := ob_J eS16 o_v0
  refine r_aload_n (pc := 206) C dX11_go_206 0 rfl ?_
  refine r_aload_n (pc := 207) C dX11_go_207 0 rfl ?_
  obtain ⟨a17, ea17, h⟩ := h
  refine r_getr (pc := 208) C fL_X11_31 dX11_go_208 o_v0 ea17 ?_
  refine r_iconst (pc := 211) C (v := (1 : Int32)) dX11_go_211 (by decide) ?_
  obtain ⟨o_a17, h⟩ := h
  obtain ⟨i18, h⟩ := h
  refine r_lald (pc := 212) C dX11_go_212 o_a17 i18 ?_
  refine r_topl (fun x19 ex19 => ?_)
  have h := h x19 ex19
  refine r_l2i (pc := 213) C dX11_go_213 ?_
  refine r_callVi0 (pc := 214) C (rest := []) (a := v0) o_v0 [.int x19.toInt32] yV_X11_good g_1518 (c_X11_good h) dX11_go_214 rfl rfl (Nat.le_of_ble_eq_true rfl) ⟨by decide, by decide⟩ ⟨by decide, by decide⟩ ⟨rfl, rfl⟩ (fun x22 S20 h g21 => ?_)
  have h := h g21
  have o_a1 := gr_ob g21 o_a1
  have o_a10 := gr_ob g21 o_a10
  have o_a17 := gr_ob g21 o_a17
  have o_a2 := gr_ob g21 o_a2
  have o_a9 := gr_ob g21 o_a9
  have o_v0 := gr_ob g21 o_v0
  exact r_iret (pc := 217) C E ht dX11_go_217 (by decide) (by decide) h
def B_X11_go_119 (Q : Int32 → HS → Prop) (X119 : Nat → Int32 → Int32 → Int32 → Int32 → Int32 → HS → Prop) (v0 : Nat) (v1 : Int32) (v2 : Int32) (v3 : Int32) (v4 : Int32) (v5 : Int32) (S : HS) : Prop := (((5 : Int32) ≤ v5) → (P_X11_go_171 Q v0 v1 v2 v3 v4 S)) ∧ ((¬ (5 : Int32) ≤ v5) → (ob S v0 11 ∧ (P_X11_rainsIn v0 v4 (fun x4 S2 => Gr S S2 → bl x4 → (((x4 = 0) → (P_X11_go_171 Q v0 v1 v2 v3 v4 S2)) ∧ ((¬ x4 = 0) → (∃ a6 : Nat, fR S2 v0 21 = some a6 ∧ (ob S2 a6 14 ∧ (∀ x8 : Int32, x8 = (2 : Int32) + v5 → (vp_in x8 (hN S2 a6) ∧ ∀ x9 : Int64, x9 = fJ S2 a6 x8.toNatClampNeg → (∀ x10 : Int32, x10 = fI S2 v0 19 → (P_X11_hourOf v0 v4 (fun x13 S11 => Gr S2 S11 → (P_X11_partsOf v0 x10 v1 v2 x13 v3 v5 (fun x16 S14 => Gr S11 S14 → (∀ x18 : Int64, x18 = x9 + x16 → (vp_in ((2 : Int32) + v5) (hN S14 a6) ∧ (∀ S19 : HS, S19 = sJ S14 a6 ((2 : Int32) + v5).toNatClampNeg x18 → (∀ x20 : Int32, x20 = v5 + (1 : Int32) → (X119 v0 v1 v2 v3 v4 x20 S19)))))) S11)) S2))))))))) S)))
def P_X11_go_119 (Q : Int32 → HS → Prop) (v0 : Nat) (v1 : Int32) (v2 : Int32) (v3 : Int32) (v4 : Int32) (v5 : Int32) (S : HS) : Prop := ∀ X119 : Nat → Int32 → Int32 → Int32 → Int32 → Int32 → HS → Prop, (∀ (v0 : Nat) (v1 : Int32) (v2 : Int32) (v3 : Int32) (v4 : Int32) (v5 : Int32) (S : HS), B_X11_go_119 Q X119 v0 v1 v2 v3 v4 v5 S → X119 v0 v1 v2 v3 v4 v5 S) → X119 v0 v1 v2 v3 v4 v5 S
set_option maxRecDepth 20000 in
set_option maxHeartbeats 4000000 in
theorem TB_X11_go_119 {X : CX} {Q : Int32 → HS → Prop} (C : Cx X cX11_go RX11 6 rm_X11_go) (E : ReI X rm_X11_go Q) (ht : (xh X).sig.returnType = (some .int)) (hn : (xh X).name = yX11_go.name) {X119 : Nat → Int32 → Int32 → Int32 → Int32 → Int32 → HS → Prop} (hX119 : ∀ (v0 : Nat) (v1 : Int32) (v2 : Int32) (v3 : Int32) (v4 : Int32) (v5 : Int32) (S : HS), X119 v0 v1 v2 v3 v4 v5 S → WS X 6 0 0 119 [(0, .ref v0), (1, .int v1), (2, .int v2), (3, .int v3), (4, .int v4), (5, .int v5)] [] S) {v0 : Nat} {v1 : Int32} {v2 : Int32} {v3 : Int32} {v4 : Int32} {v5 : Int32} {S : HS} (h : B_X11_go_119 Q X119 v0 v1 v2 v3 v4 v5 S) : WS X 6 0 0 119 [(0, .ref v0), (1, .int v1), (2, .int v2), (3, .int v3), (4, .int v4), (5, .int v5)] [] S := by
  refine r_iload (pc := 119) C dX11_go_119 5 rfl ?_
  refine r_iconst (pc := 121) C (v := (5 : Int32)) dX11_go_121 (by decide) ?_
  refine r_icmp_ge (pc := 122) C (tgt := 171) dX11_go_122 (by decide) (fun c1 => ?_) (fun c1 => ?_)
  · have h := h.1 c1
    exact r_sub [0, 1, 2, 3, 4] rfl (T_X11_go_171 C E ht hn h)
  · have h := h.2 c1
    refine r_aload_n (pc := 125) C dX11_go_125 0 rfl ?_
    refine r_iload (pc := 126) C dX11_go_126 4 rfl ?_
    obtain ⟨o_v0, h⟩ := h
    refine r_callVi0 (pc := 128) C (rest := []) (a := v0) o_v0 [.int v4] yV_X11_rainsIn g_1787 (c_X11_rainsIn h) dX11_go_128 rfl rfl (Nat.le_of_ble_eq_true rfl) ⟨by decide, by decide⟩ ⟨by decide, by decide⟩ ⟨rfl, rfl⟩ (fun x4 S2 h g3 => ?_)
    have bx4 := h.1
    have h := h.2 g3 bx4
    have o_v0 := gr_ob g3 o_v0
    refine r_if_eq (pc := 131) C (tgt := 171) dX11_go_131 (by decide) (fun c5 => ?_) (fun c5 => ?_)
    · have h := h.1 c5
      exact r_sub [0, 1, 2, 3, 4] rfl (T_X11_go_171 C E ht hn h)
    · have h := h.2 c5
      refine r_aload_n (pc := 134) C dX11_go_134 0 rfl ?_
      obtain ⟨a6, ea6, h⟩ := h
      refine r_getr (pc := 135) C fL_X11_31 dX11_go_135 o_v0 ea6 ?_
      refine r_iconst (pc := 138) C (v := (2 : Int32)) dX11_go_138 (by decide) ?_
      refine r_iload (pc := 139) C dX11_go_139 5 rfl ?_
      refine r_iadd (pc := 141) C dX11_go_141 ?_
      refine r_dup2 (pc := 142) C dX11_go_142 rfl rfl ?_
      obtain ⟨o_a6, h⟩ := h
      refine r_topi (fun x8 ex8 => ?_)
      have h := h x8 ex8
      obtain ⟨i7, h⟩ := h
      refine r_lald (pc := 143) C dX11_go_143 o_a6 i7 ?_
      refine r_topl (fun x9 ex9 => ?_)
      have h := h x9 ex9
      refine r_aload_n (pc := 144) C dX11_go_144 0 rfl ?_
      refine r_aload_n (pc := 145) C dX11_go_145 0 rfl ?_
      refine r_geti (pc := 146) C fL_X11_28 dX11_go_146 o_v0 ?_
      refine r_topi (fun x10 ex10 => ?_)
      have h := h x10 ex10
      refine r_iload_n (pc := 149) C dX11_go_149 1 rfl ?_
      refine r_iload_n (pc := 150) C dX11_go_150 2 rfl ?_
      refine r_aload_n (pc := 151) C dX11_go_151 0 rfl ?_
      refine r_iload (pc := 152) C dX11_go_152 4 rfl ?_
      refine r_callVi0 (pc := 154) C (rest := [.int v2, .int v1, .int x10, .ref v0, .long x9, .int ((2 : Int32) + v5), .ref a6]) (a := v0) o_v0 [.int v4] yV_X11_hourOf g_1707 (c_X11_hourOf h) dX11_go_154 rfl rfl (Nat.le_of_ble_eq_true rfl) ⟨by decide, by decide⟩ ⟨by decide, by decide⟩ ⟨rfl, rfl⟩ (fun x13 S11 h g12 => ?_)
      have h := h g12
      have o_a6 := gr_ob g12 o_a6
      have o_v0 := gr_ob g12 o_v0
      refine r_iload_n (pc := 157) C dX11_go_157 3 rfl ?_
      refine r_iload (pc := 158) C dX11_go_158 5 rfl ?_
      refine r_callVl0 (pc := 160) C (rest := [.long x9, .int ((2 : Int32) + v5), .ref a6]) (a := v0) o_v0 [.int x10, .int v1, .int v2, .int x13, .int v3, .int v5] yV_X11_partsOf g_1554 (c_X11_partsOf h) dX11_go_160 rfl rfl (Nat.le_of_ble_eq_true rfl) ⟨by decide, by decide⟩ ⟨by decide, by decide⟩ ⟨rfl, rfl⟩ (fun x16 S14 h g15 => ?_)
      have h := h g15
      have o_a6 := gr_ob g15 o_a6
      have o_v0 := gr_ob g15 o_v0
      refine r_ladd (pc := 163) C dX11_go_163 ?_
      refine r_topl (fun x18 ex18 => ?_)
      have h := h x18 ex18
      obtain ⟨i17, h⟩ := h
      refine r_last (pc := 164) C dX11_go_164 o_a6 i17 ?_
      refine r_heap (fun S19 eS19 => ?_)
      have h := h S19 eS19
      have o_a6 := ob_J eS19 o_a6
      have o_v0 := ob_J eS19 o_v0
      obtain ⟨x20, ex20⟩ : ∃ z : Int32, z = v5 + (1 : Int32) := ⟨_, rfl⟩
      have h := h x20 ex20
      refine r_iinc (pc := 165) C (v := x20) (lv' := [(5, .int x20), (0, .ref v0), (1, .int v1), (2, .int v2), (3, .int v3), (4, .int v4)]) dX11_go_165 5 rfl ex20.symm (by decide) rfl ?_
      refine r_goto (pc := 168) C (tgt := 119) dX11_go_168 (by decide) ?_
      exact r_sub [1, 2, 3, 4, 5, 0] rfl (hX119 v0 v1 v2 v3 v4 x20 S19 h)
theorem T_X11_go_119 {X : CX} {Q : Int32 → HS → Prop} (C : Cx X cX11_go RX11 6 rm_X11_go) (E : ReI X rm_X11_go Q) (ht : (xh X).sig.returnType = (some .int)) (hn : (xh X).name = yX11_go.name) {v0 : Nat} {v1 : Int32} {v2 : Int32} {v3 : Int32} {v4 : Int32} {v5 : Int32} {S : HS} (h : P_X11_go_119 Q v0 v1 v2 v3 v4 v5 S) : WS X 6 0 0 119 [(0, .ref v0), (1, .int v1), (2, .int v2), (3, .int v3), (4, .int v4), (5, .int v5)] [] S :=
  h (fun v0 v1 v2 v3 v4 v5 S => WS X 6 0 0 119 [(0, .ref v0), (1, .int v1), (2, .int v2), (3, .int v3), (4, .int v4), (5, .int v5)] [] S) (fun v0 v1 v2 v3 v4 v5 S hh => TB_X11_go_119 C E ht hn (fun v0 v1 v2 v3 v4 v5 S z => z) hh)
def P_X11_go_0 (Q : Int32 → HS → Prop) (v0 : Nat) (v1 : Int32) (v2 : Int32) (v3 : Int32) (S : HS) : Prop := ob S v0 11 ∧ (∀ S1 : HS, S1 = sI S v0 0 (0 : Int32) → (P_X11_isDay v0 (fun x4 S2 => Gr S1 S2 → bl x4 → (((x4 = 0) → (P_X11_go_29 Q v0 S2)) ∧ ((¬ x4 = 0) → (P_X11_isRoad v0 v1 (fun x8 S6 => Gr S2 S6 → bl x8 → (((x8 = 0) → (P_X11_go_29 Q v0 S6)) ∧ ((¬ x8 = 0) → (P_X11_in v2 (0 : Int32) (1 : Int32) (fun x12 S10 => Gr S6 S10 → bl x12 → (((¬ x12 = 0) → (∀ x14 : Int32, x14 = fI S10 v0 19 → (P_X11_isSpeed v0 x14 v3 (fun x17 S15 => Gr S10 S15 → bl x17 → (((¬ x17 = 0) → (∃ a19 : Nat, fR S15 v0 3 = some a19 ∧ (ob S15 a19 10 ∧ (P_X10_begins a19 v1 v2 (fun x22 S20 => Gr S15 S20 → (∃ a23 : Nat, fR S20 v0 21 = some a23 ∧ (ob S20 a23 14 ∧ (vp_in (0 : Int32) (hN S20 a23) ∧ ∀ x25 : Int64, x25 = fJ S20 a23 (0 : Int32).toNatClampNeg → ((((lg_cmp x22.toInt64 x25) = 0) → (∃ a27 : Nat, fR S20 v0 21 = some a27 ∧ (ob S20 a27 14 ∧ (vp_in (1 : Int32) (hN S20 a27) ∧ ∀ x29 : Int64, x29 = fJ S20 a27 (1 : Int32).toNatClampNeg → (∀ x30 : Int32, x30 = x29.toInt32 → (∃ a31 : Nat, fR S20 v0 3 = some a31 ∧ (ob S20 a31 10 ∧ (P_X10_minutes a31 v1 v3 (fun x34 S32 => Gr S20 S32 → ((((x30 + x34) ≤ (999 : Int32)) → (P_X11_keeps v0 (fun S36 => Gr S32 S36 → (P_X11_go_119 Q v0 v1 v2 v3 x30 (0 : Int32) S36)) S32)) ∧ ((¬ (x30 + x34) ≤ (999 : Int32)) → (P_X11_refused v0 (3 : Int32) (fun x41 S39 => Gr S32 S39 → (Q x41 S39)) S32)))) S20)))))))) ∧ ((¬ (lg_cmp x22.toInt64 x25) = 0) → (P_X11_refused v0 (5 : Int32) (fun x44 S42 => Gr S20 S42 → (Q x44 S42)) S20))))))) S15)))) ∧ ((x17 = 0) → (P_X11_refused v0 (2 : Int32) (fun x47 S45 => Gr S15 S45 → (Q x47 S45)) S15)))) S10))) ∧ ((x12 = 0) → (P_X11_go_29 Q v0 S10)))) S6)))) S2)))) S1))
set_option maxRecDepth 20000 in
set_option maxHeartbeats 4000000 in
theorem T_X11_go_0 {X : CX} {Q : Int32 → HS → Prop} (C : Cx X cX11_go RX11 6 rm_X11_go) (E : ReI X rm_X11_go Q) (ht : (xh X).sig.returnType = (some .int)) (hn : (xh X).name = yX11_go.name) {v0 : Nat} {v1 : Int32} {v2 : Int32} {v3 : Int32} {S : HS} (h : P_X11_go_0 Q v0 v1 v2 v3 S) : WS X 6 0 0 0 [(0, .ref v0), (1, .int v1), (2, .int v2), (3, .int v3)] [] S := by
  refine r_aload_n (pc := 0) C dX11_go_0 0 rfl ?_
  refine r_iconst (pc := 1) C (v := (0 : Int32)) dX11_go_1 (by decide) ?_
  obtain ⟨o_v0, h⟩ := h
  refine r_puti (pc := 2) C pfL_X11_40 dX11_go_2 o_v0 ?_
  refine r_heap (fun S1 eS1 => ?_)
  have h := h S1 eS1
  have o_v0 := ob_I eS1 o_v0
  refine r_aload_n (pc := 5) C dX11_go_5 0 rfl ?_
  refine r_callVi0 (pc := 6) C (rest := []) (a := v0) o_v0 [] yV_X11_isDay g_1779 (c_X11_isDay h) dX11_go_6 rfl rfl (Nat.le_of_ble_eq_true rfl) ⟨by decide, by decide⟩ ⟨by decide, by decide⟩ ⟨rfl, rfl⟩ (fun x4 S2 h g3 => ?_)
  have bx4 := h.1
  have h := h.2 g3 bx4
  have o_v0 := gr_ob g3 o_v0
  refine r_if_eq (pc := 9) C (tgt := 29) dX11_go_9 (by decide) (fun c5 => ?_) (fun c5 => ?_)
  · have h := h.1 c5
    exact r_sub [0] rfl (T_X11_go_29 C E ht hn h)
  · have h := h.2 c5
    refine r_aload_n (pc := 12) C dX11_go_12 0 rfl ?_
    refine r_iload_n (pc := 13) C dX11_go_13 1 rfl ?_
    refine r_callVi0 (pc := 14) C (rest := []) (a := v0) o_v0 [.int v1] yV_X11_isRoad g_1542 (c_X11_isRoad h) dX11_go_14 rfl rfl (Nat.le_of_ble_eq_true rfl) ⟨by decide, by decide⟩ ⟨by decide, by decide⟩ ⟨rfl, rfl⟩ (fun x8 S6 h g7 => ?_)
    have bx8 := h.1
    have h := h.2 g7 bx8
    have o_v0 := gr_ob g7 o_v0
    refine r_if_eq (pc := 17) C (tgt := 29) dX11_go_17 (by decide) (fun c9 => ?_) (fun c9 => ?_)
    · have h := h.1 c9
      exact r_sub [0] rfl (T_X11_go_29 C E ht hn h)
    · have h := h.2 c9
      refine r_iload_n (pc := 20) C dX11_go_20 2 rfl ?_
      refine r_iconst (pc := 21) C (v := (0 : Int32)) dX11_go_21 (by decide) ?_
      refine r_iconst (pc := 22) C (v := (1 : Int32)) dX11_go_22 (by decide) ?_
      refine r_callSi0 (pc := 23) C (rest := []) rfl [.int v2, .int (0 : Int32), .int (1 : Int32)] yS_X11_in g_1434 (c_X11_in h) dX11_go_23 rfl rfl (Nat.le_of_ble_eq_true rfl) ⟨by decide, by decide⟩ ⟨by decide, by decide⟩ ⟨rfl, rfl⟩ (fun x12 S10 h g11 => ?_)
      have bx12 := h.1
      have h := h.2 g11 bx12
      have o_v0 := gr_ob g11 o_v0
      refine r_if_ne (pc := 26) C (tgt := 35) dX11_go_26 (by decide) (fun c13 => ?_) (fun c13 => ?_)
      · have h := h.1 c13
        refine r_aload_n (pc := 35) C dX11_go_35 0 rfl ?_
        refine r_aload_n (pc := 36) C dX11_go_36 0 rfl ?_
        refine r_geti (pc := 37) C fL_X11_28 dX11_go_37 o_v0 ?_
        refine r_topi (fun x14 ex14 => ?_)
        have h := h x14 ex14
        refine r_iload_n (pc := 40) C dX11_go_40 3 rfl ?_
        refine r_callVi0 (pc := 41) C (rest := []) (a := v0) o_v0 [.int x14, .int v3] yV_X11_isSpeed g_1550 (c_X11_isSpeed h) dX11_go_41 rfl rfl (Nat.le_of_ble_eq_true rfl) ⟨by decide, by decide⟩ ⟨by decide, by decide⟩ ⟨rfl, rfl⟩ (fun x17 S15 h g16 => ?_)
        have bx17 := h.1
        have h := h.2 g16 bx17
        have o_v0 := gr_ob g16 o_v0
        refine r_if_ne (pc := 44) C (tgt := 53) dX11_go_44 (by decide) (fun c18 => ?_) (fun c18 => ?_)
        · have h := h.1 c18
          refine r_aload_n (pc := 53) C dX11_go_53 0 rfl ?_
          obtain ⟨a19, ea19, h⟩ := h
          refine r_getr (pc := 54) C fL_X11_338 dX11_go_54 o_v0 ea19 ?_
          refine r_iload_n (pc := 57) C dX11_go_57 1 rfl ?_
          refine r_iload_n (pc := 58) C dX11_go_58 2 rfl ?_
          obtain ⟨o_a19, h⟩ := h
          refine r_callVi0 (pc := 59) C (rest := []) (a := a19) o_a19 [.int v1, .int v2] yV_X10_begins g_1695 (c_X10_begins h) dX11_go_59 rfl rfl (Nat.le_of_ble_eq_true rfl) ⟨by decide, by decide⟩ ⟨by decide, by decide⟩ ⟨rfl, rfl⟩ (fun x22 S20 h g21 => ?_)
          have h := h g21
          have o_a19 := gr_ob g21 o_a19
          have o_v0 := gr_ob g21 o_v0
          refine r_i2l (pc := 62) C dX11_go_62 ?_
          refine r_aload_n (pc := 63) C dX11_go_63 0 rfl ?_
          obtain ⟨a23, ea23, h⟩ := h
          refine r_getr (pc := 64) C fL_X11_31 dX11_go_64 o_v0 ea23 ?_
          refine r_iconst (pc := 67) C (v := (0 : Int32)) dX11_go_67 (by decide) ?_
          obtain ⟨o_a23, h⟩ := h
          obtain ⟨i24, h⟩ := h
          refine r_lald (pc := 68) C dX11_go_68 o_a23 i24 ?_
          refine r_topl (fun x25 ex25 => ?_)
          have h := h x25 ex25
          refine r_lcmp (pc := 69) C dX11_go_69 ?_
          refine r_if_eq (pc := 70) C (tgt := 79) dX11_go_70 (by decide) (fun c26 => ?_) (fun c26 => ?_)
          · have h := h.1 c26
            refine r_aload_n (pc := 79) C dX11_go_79 0 rfl ?_
            obtain ⟨a27, ea27, h⟩ := h
            refine r_getr (pc := 80) C fL_X11_31 dX11_go_80 o_v0 ea27 ?_
            refine r_iconst (pc := 83) C (v := (1 : Int32)) dX11_go_83 (by decide) ?_
            obtain ⟨o_a27, h⟩ := h
            obtain ⟨i28, h⟩ := h
            refine r_lald (pc := 84) C dX11_go_84 o_a27 i28 ?_
            refine r_topl (fun x29 ex29 => ?_)
            have h := h x29 ex29
            refine r_l2i (pc := 85) C dX11_go_85 ?_
            refine r_topi (fun x30 ex30 => ?_)
            have h := h x30 ex30
            refine r_istore (pc := 86) C dX11_go_86 (by decide) (lv' := [(4, .int x30), (0, .ref v0), (1, .int v1), (2, .int v2), (3, .int v3)]) rfl ?_
            refine r_iload (pc := 88) C dX11_go_88 0 rfl ?_
            refine r_aload_n (pc := 90) C dX11_go_90 1 rfl ?_
            obtain ⟨a31, ea31, h⟩ := h
            refine r_getr (pc := 91) C fL_X11_338 dX11_go_91 o_v0 ea31 ?_
            refine r_iload_n (pc := 94) C dX11_go_94 2 rfl ?_
            refine r_iload_n (pc := 95) C dX11_go_95 4 rfl ?_
            obtain ⟨o_a31, h⟩ := h
            refine r_callVi0 (pc := 96) C (rest := [.int x30]) (a := a31) o_a31 [.int v1, .int v3] yV_X10_minutes g_1607 (c_X10_minutes h) dX11_go_96 rfl rfl (Nat.le_of_ble_eq_true rfl) ⟨by decide, by decide⟩ ⟨by decide, by decide⟩ ⟨rfl, rfl⟩ (fun x34 S32 h g33 => ?_)
            have h := h g33
            have o_a19 := gr_ob g33 o_a19
            have o_a23 := gr_ob g33 o_a23
            have o_a27 := gr_ob g33 o_a27
            have o_a31 := gr_ob g33 o_a31
            have o_v0 := gr_ob g33 o_v0
            refine r_iadd (pc := 99) C dX11_go_99 ?_
            refine r_sipush (pc := 100) C (v := (999 : Int32)) dX11_go_100 (by decide) ?_
            refine r_icmp_le (pc := 103) C (tgt := 112) dX11_go_103 (by decide) (fun c35 => ?_) (fun c35 => ?_)
            · have h := h.1 c35
              refine r_aload_n (pc := 112) C dX11_go_112 1 rfl ?_
              refine r_callVv0 (pc := 113) C (rest := []) (a := v0) o_v0 [] yV_X11_keeps g_1783 (c_X11_keeps h) dX11_go_113 rfl rfl (Nat.le_of_ble_eq_true rfl) ⟨by decide, by decide⟩ ⟨by decide, by decide⟩ ⟨rfl, rfl⟩ (fun S36 h g37 => ?_)
              have h := h g37
              have o_a19 := gr_ob g37 o_a19
              have o_a23 := gr_ob g37 o_a23
              have o_a27 := gr_ob g37 o_a27
              have o_a31 := gr_ob g37 o_a31
              have o_v0 := gr_ob g37 o_v0
              refine r_iconst (pc := 116) C (v := (0 : Int32)) dX11_go_116 (by decide) ?_
              refine r_istore (pc := 117) C dX11_go_117 (by decide) (lv' := [(5, .int (0 : Int32)), (4, .int x30), (0, .ref v0), (1, .int v1), (2, .int v2), (3, .int v3)]) rfl ?_
              exact r_sub [2, 3, 4, 5, 1, 0] rfl (T_X11_go_119 C E ht hn h)
            · have h := h.2 c35
              refine r_aload_n (pc := 106) C dX11_go_106 1 rfl ?_
              refine r_iconst (pc := 107) C (v := (3 : Int32)) dX11_go_107 (by decide) ?_
              refine r_callVi0 (pc := 108) C (rest := []) (a := v0) o_v0 [.int (3 : Int32)] yV_X11_refused g_1250 (c_X11_refused h) dX11_go_108 rfl rfl (Nat.le_of_ble_eq_true rfl) ⟨by decide, by decide⟩ ⟨by decide, by decide⟩ ⟨rfl, rfl⟩ (fun x41 S39 h g40 => ?_)
              have h := h g40
              have o_a19 := gr_ob g40 o_a19
              have o_a23 := gr_ob g40 o_a23
              have o_a27 := gr_ob g40 o_a27
              have o_a31 := gr_ob g40 o_a31
              have o_v0 := gr_ob g40 o_v0
              exact r_iret (pc := 111) C E ht dX11_go_111 (by decide) (by decide) h
          · have h := h.2 c26
            refine r_aload_n (pc := 73) C dX11_go_73 0 rfl ?_
            refine r_iconst (pc := 74) C (v := (5 : Int32)) dX11_go_74 (by decide) ?_
            refine r_callVi0 (pc := 75) C (rest := []) (a := v0) o_v0 [.int (5 : Int32)] yV_X11_refused g_1250 (c_X11_refused h) dX11_go_75 rfl rfl (Nat.le_of_ble_eq_true rfl) ⟨by decide, by decide⟩ ⟨by decide, by decide⟩ ⟨rfl, rfl⟩ (fun x44 S42 h g43 => ?_)
            have h := h g43
            have o_a19 := gr_ob g43 o_a19
            have o_a23 := gr_ob g43 o_a23
            have o_v0 := gr_ob g43 o_v0
            exact r_iret (pc := 78) C E ht dX11_go_78 (by decide) (by decide) h
        · have h := h.2 c18
          refine r_aload_n (pc := 47) C dX11_go_47 0 rfl ?_
          refine r_iconst (pc := 48) C (v := (2 : Int32)) dX11_go_48 (by decide) ?_
          refine r_callVi0 (pc := 49) C (rest := []) (a := v0) o_v0 [.int (2 : Int32)] yV_X11_refused g_1250 (c_X11_refused h) dX11_go_49 rfl rfl (Nat.le_of_ble_eq_true rfl) ⟨by decide, by decide⟩ ⟨by decide, by decide⟩ ⟨rfl, rfl⟩ (fun x47 S45 h g46 => ?_)
          have h := h g46
          have o_v0 := gr_ob g46 o_v0
          exact r_iret (pc := 52) C E ht dX11_go_52 (by decide) (by decide) h
      · have h := h.2 c13
        exact r_sub [0] rfl (T_X11_go_29 C E ht hn h)
def P_X11_go (v0 : Nat) (v1 : Int32) (v2 : Int32) (v3 : Int32) (Q : Int32 → HS → Prop) (S : HS) : Prop := P_X11_go_0 Q v0 v1 v2 v3 S
theorem c_X11_go {l : Launch} {Ee : EE} {S : HS} {v0 : Nat} {v1 : Int32} {v2 : Int32} {v3 : Int32} {Q : Int32 → HS → Prop} (h : P_X11_go v0 v1 v2 v3 Q S) : MI l yX11_go cX11_go 6 (some .int) rm_X11_go Ee S [.ref v0, .int v1, .int v2, .int v3] Q :=
  openI (by decide) (Nat.le_of_ble_eq_true rfl) (fun X C E ht hn hE hl => by subst hE; exact r_sub [0, 1, 2, 3] rfl (T_X11_go_0 C E ht hn h))
def rm_X11_got : Room := { frames := 2, cells := 0, slots := 0, locals := 52 }
def P_X11_got_40 (Q : Int64 → HS → Prop) (v0 : Nat) (S : HS) : Prop := ob S v0 11 ∧ (P_X11_refused v0 (1 : Int32) (fun x3 S1 => Gr S S1 → (Q x3.toInt64 S1)) S)
set_option maxRecDepth 20000 in
set_option maxHeartbeats 4000000 in
theorem T_X11_got_40 {X : CX} {Q : Int64 → HS → Prop} (C : Cx X cX11_got RX11 3 rm_X11_got) (E : ReJ X rm_X11_got Q) (ht : (xh X).sig.returnType = (some .long)) (hn : (xh X).name = yX11_got.name) {v0 : Nat} {S : HS} (h : P_X11_got_40 Q v0 S) : WS X 3 0 0 40 [(0, .ref v0)] [] S := by
  refine r_aload_n (pc := 40) C dX11_got_40 0 rfl ?_
  refine r_iconst (pc := 41) C (v := (1 : Int32)) dX11_got_41 (by decide) ?_
  obtain ⟨o_v0, h⟩ := h
  refine r_callVi0 (pc := 42) C (rest := []) (a := v0) o_v0 [.int (1 : Int32)] yV_X11_refused g_1250 (c_X11_refused h) dX11_got_42 rfl rfl (Nat.le_of_ble_eq_true rfl) ⟨by decide, by decide⟩ ⟨by decide, by decide⟩ ⟨rfl, rfl⟩ (fun x3 S1 h g2 => ?_)
  have h := h g2
  have o_v0 := gr_ob g2 o_v0
  refine r_i2l (pc := 45) C dX11_got_45 ?_
  exact r_lret (pc := 46) C E ht dX11_got_46 (by decide) (by decide) h
def P_X11_got_0 (Q : Int64 → HS → Prop) (v0 : Nat) (v1 : Int32) (v2 : Int32) (S : HS) : Prop := ob S v0 11 ∧ (∀ S1 : HS, S1 = sI S v0 0 (0 : Int32) → (P_X11_isDay v0 (fun x4 S2 => Gr S1 S2 → bl x4 → (((x4 = 0) → (P_X11_got_40 Q v0 S2)) ∧ ((¬ x4 = 0) → (P_X11_in v1 (0 : Int32) (4 : Int32) (fun x8 S6 => Gr S2 S6 → bl x8 → (((x8 = 0) → (P_X11_got_40 Q v0 S6)) ∧ ((¬ x8 = 0) → (∃ a10 : Nat, fR S6 v0 21 = some a10 ∧ (ob S6 a10 14 ∧ (∀ x12 : Int32, x12 = (2 : Int32) + v1 → (vp_in x12 (hN S6 a10) ∧ ∀ x13 : Int64, x13 = fJ S6 a10 x12.toNatClampNeg → (P_X11_told v0 x13 (2520 : Int64) v2 (fun x16 S14 => Gr S6 S14 → (Q x16 S14)) S6)))))))) S2)))) S1))
set_option maxRecDepth 20000 in
set_option maxHeartbeats 4000000 in
theorem T_X11_got_0 {X : CX} {Q : Int64 → HS → Prop} (C : Cx X cX11_got RX11 3 rm_X11_got) (E : ReJ X rm_X11_got Q) (ht : (xh X).sig.returnType = (some .long)) (hn : (xh X).name = yX11_got.name) {v0 : Nat} {v1 : Int32} {v2 : Int32} {S : HS} (h : P_X11_got_0 Q v0 v1 v2 S) : WS X 3 0 0 0 [(0, .ref v0), (1, .int v1), (2, .int v2)] [] S := by
  refine r_aload_n (pc := 0) C dX11_got_0 0 rfl ?_
  refine r_iconst (pc := 1) C (v := (0 : Int32)) dX11_got_1 (by decide) ?_
  obtain ⟨o_v0, h⟩ := h
  refine r_puti (pc := 2) C pfL_X11_40 dX11_got_2 o_v0 ?_
  refine r_heap (fun S1 eS1 => ?_)
  have h := h S1 eS1
  have o_v0 := ob_I eS1 o_v0
  refine r_aload_n (pc := 5) C dX11_got_5 0 rfl ?_
  refine r_callVi0 (pc := 6) C (rest := []) (a := v0) o_v0 [] yV_X11_isDay g_1779 (c_X11_isDay h) dX11_got_6 rfl rfl (Nat.le_of_ble_eq_true rfl) ⟨by decide, by decide⟩ ⟨by decide, by decide⟩ ⟨rfl, rfl⟩ (fun x4 S2 h g3 => ?_)
  have bx4 := h.1
  have h := h.2 g3 bx4
  have o_v0 := gr_ob g3 o_v0
  refine r_if_eq (pc := 9) C (tgt := 40) dX11_got_9 (by decide) (fun c5 => ?_) (fun c5 => ?_)
  · have h := h.1 c5
    exact r_sub [0] rfl (T_X11_got_40 C E ht hn h)
  · have h := h.2 c5
    refine r_iload_n (pc := 12) C dX11_got_12 1 rfl ?_
    refine r_iconst (pc := 13) C (v := (0 : Int32)) dX11_got_13 (by decide) ?_
    refine r_iconst (pc := 14) C (v := (4 : Int32)) dX11_got_14 (by decide) ?_
    refine r_callSi0 (pc := 15) C (rest := []) rfl [.int v1, .int (0 : Int32), .int (4 : Int32)] yS_X11_in g_1434 (c_X11_in h) dX11_got_15 rfl rfl (Nat.le_of_ble_eq_true rfl) ⟨by decide, by decide⟩ ⟨by decide, by decide⟩ ⟨rfl, rfl⟩ (fun x8 S6 h g7 => ?_)
    have bx8 := h.1
    have h := h.2 g7 bx8
    have o_v0 := gr_ob g7 o_v0
    refine r_if_eq (pc := 18) C (tgt := 40) dX11_got_18 (by decide) (fun c9 => ?_) (fun c9 => ?_)
    · have h := h.1 c9
      exact r_sub [0] rfl (T_X11_got_40 C E ht hn h)
    · have h := h.2 c9
      refine r_aload_n (pc := 21) C dX11_got_21 0 rfl ?_
      refine r_aload_n (pc := 22) C dX11_got_22 0 rfl ?_
      obtain ⟨a10, ea10, h⟩ := h
      refine r_getr (pc := 23) C fL_X11_31 dX11_got_23 o_v0 ea10 ?_
      refine r_iconst (pc := 26) C (v := (2 : Int32)) dX11_got_26 (by decide) ?_
      refine r_iload_n (pc := 27) C dX11_got_27 1 rfl ?_
      refine r_iadd (pc := 28) C dX11_got_28 ?_
      obtain ⟨o_a10, h⟩ := h
      refine r_topi (fun x12 ex12 => ?_)
      have h := h x12 ex12
      obtain ⟨i11, h⟩ := h
      refine r_lald (pc := 29) C dX11_got_29 o_a10 i11 ?_
      refine r_topl (fun x13 ex13 => ?_)
      have h := h x13 ex13
      refine r_ldc2 (pc := 30) C (v := (2520 : Int64)) dX11_got_30 g_1585 ?_
      refine r_iload_n (pc := 33) C dX11_got_33 2 rfl ?_
      refine r_callVl0 (pc := 34) C (rest := []) (a := v0) o_v0 [.long x13, .long (2520 : Int64), .int v2] yV_X11_told g_1586 (c_X11_told h) dX11_got_34 rfl rfl (Nat.le_of_ble_eq_true rfl) ⟨by decide, by decide⟩ ⟨by decide, by decide⟩ ⟨rfl, rfl⟩ (fun x16 S14 h g15 => ?_)
      have h := h g15
      have o_a10 := gr_ob g15 o_a10
      have o_v0 := gr_ob g15 o_v0
      refine r_goto (pc := 37) C (tgt := 46) dX11_got_37 (by decide) ?_
      exact r_lret (pc := 46) C E ht dX11_got_46 (by decide) (by decide) h
def P_X11_got (v0 : Nat) (v1 : Int32) (v2 : Int32) (Q : Int64 → HS → Prop) (S : HS) : Prop := P_X11_got_0 Q v0 v1 v2 S
theorem c_X11_got {l : Launch} {Ee : EE} {S : HS} {v0 : Nat} {v1 : Int32} {v2 : Int32} {Q : Int64 → HS → Prop} (h : P_X11_got v0 v1 v2 Q S) : MJ l yX11_got cX11_got 3 (some .long) rm_X11_got Ee S [.ref v0, .int v1, .int v2] Q :=
  openJ (by decide) (Nat.le_of_ble_eq_true rfl) (fun X C E ht hn hE hl => by subst hE; exact r_sub [0, 1, 2] rfl (T_X11_got_0 C E ht hn h))
def rm_X11_gotInAll : Room := { frames := 0, cells := 0, slots := 0, locals := 0 }
def B_X11_gotInAll_4 (Q : Int64 → HS → Prop) (X4 : Nat → Int64 → Int32 → HS → Prop) (v0 : Nat) (v1 : Int64) (v3 : Int32) (S : HS) : Prop := (((5 : Int32) ≤ v3) → (Q v1 S)) ∧ ((¬ (5 : Int32) ≤ v3) → (ob S v0 11 ∧ (∃ a2 : Nat, fR S v0 21 = some a2 ∧ (ob S a2 14 ∧ (∀ x4 : Int32, x4 = (2 : Int32) + v3 → (vp_in x4 (hN S a2) ∧ ∀ x5 : Int64, x5 = fJ S a2 x4.toNatClampNeg → (∀ x6 : Int64, x6 = v1 + x5 → (∀ x7 : Int32, x7 = v3 + (1 : Int32) → (X4 v0 x6 x7 S)))))))))
def P_X11_gotInAll_4 (Q : Int64 → HS → Prop) (v0 : Nat) (v1 : Int64) (v3 : Int32) (S : HS) : Prop := ∀ X4 : Nat → Int64 → Int32 → HS → Prop, (∀ (v0 : Nat) (v1 : Int64) (v3 : Int32) (S : HS), B_X11_gotInAll_4 Q X4 v0 v1 v3 S → X4 v0 v1 v3 S) → X4 v0 v1 v3 S
set_option maxRecDepth 20000 in
set_option maxHeartbeats 4000000 in
theorem TB_X11_gotInAll_4 {X : CX} {Q : Int64 → HS → Prop} (C : Cx X cX11_gotInAll RX11 4 rm_X11_gotInAll) (E : ReJ X rm_X11_gotInAll Q) (ht : (xh X).sig.returnType = (some .long)) (hn : (xh X).name = yX11_gotInAll.name) {X4 : Nat → Int64 → Int32 → HS → Prop} (hX4 : ∀ (v0 : Nat) (v1 : Int64) (v3 : Int32) (S : HS), X4 v0 v1 v3 S → WS X 4 0 0 4 [(0, .ref v0), (1, .long v1), (3, .int v3)] [] S) {v0 : Nat} {v1 : Int64} {v3 : Int32} {S : HS} (h : B_X11_gotInAll_4 Q X4 v0 v1 v3 S) : WS X 4 0 0 4 [(0, .ref v0), (1, .long v1), (3, .int v3)] [] S := by
  refine r_iload_n (pc := 4) C dX11_gotInAll_4 2 rfl ?_
  refine r_iconst (pc := 5) C (v := (5 : Int32)) dX11_gotInAll_5 (by decide) ?_
  refine r_icmp_ge (pc := 6) C (tgt := 26) dX11_gotInAll_6 (by decide) (fun c1 => ?_) (fun c1 => ?_)
  · have h := h.1 c1
    refine r_lload_n (pc := 26) C dX11_gotInAll_26 1 rfl ?_
    exact r_lret (pc := 27) C E ht dX11_gotInAll_27 (by decide) (by decide) h
  · have h := h.2 c1
    refine r_lload_n (pc := 9) C dX11_gotInAll_9 1 rfl ?_
    refine r_aload_n (pc := 10) C dX11_gotInAll_10 0 rfl ?_
    obtain ⟨o_v0, h⟩ := h
    obtain ⟨a2, ea2, h⟩ := h
    refine r_getr (pc := 11) C fL_X11_31 dX11_gotInAll_11 o_v0 ea2 ?_
    refine r_iconst (pc := 14) C (v := (2 : Int32)) dX11_gotInAll_14 (by decide) ?_
    refine r_iload_n (pc := 15) C dX11_gotInAll_15 2 rfl ?_
    refine r_iadd (pc := 16) C dX11_gotInAll_16 ?_
    obtain ⟨o_a2, h⟩ := h
    refine r_topi (fun x4 ex4 => ?_)
    have h := h x4 ex4
    obtain ⟨i3, h⟩ := h
    refine r_lald (pc := 17) C dX11_gotInAll_17 o_a2 i3 ?_
    refine r_topl (fun x5 ex5 => ?_)
    have h := h x5 ex5
    refine r_ladd (pc := 18) C dX11_gotInAll_18 ?_
    refine r_topl (fun x6 ex6 => ?_)
    have h := h x6 ex6
    refine r_lstore_n (pc := 19) C dX11_gotInAll_19 rfl (by decide) (lv' := [(1, .long x6), (0, .ref v0), (3, .int v3)]) rfl ?_
    obtain ⟨x7, ex7⟩ : ∃ z : Int32, z = v3 + (1 : Int32) := ⟨_, rfl⟩
    have h := h x7 ex7
    refine r_iinc (pc := 20) C (v := x7) (lv' := [(3, .int x7), (1, .long x6), (0, .ref v0)]) dX11_gotInAll_20 2 rfl ex7.symm (by decide) rfl ?_
    refine r_goto (pc := 23) C (tgt := 4) dX11_gotInAll_23 (by decide) ?_
    exact r_sub [2, 1, 0] rfl (hX4 v0 x6 x7 S h)
theorem T_X11_gotInAll_4 {X : CX} {Q : Int64 → HS → Prop} (C : Cx X cX11_gotInAll RX11 4 rm_X11_gotInAll) (E : ReJ X rm_X11_gotInAll Q) (ht : (xh X).sig.returnType = (some .long)) (hn : (xh X).name = yX11_gotInAll.name) {v0 : Nat} {v1 : Int64} {v3 : Int32} {S : HS} (h : P_X11_gotInAll_4 Q v0 v1 v3 S) : WS X 4 0 0 4 [(0, .ref v0), (1, .long v1), (3, .int v3)] [] S :=
  h (fun v0 v1 v3 S => WS X 4 0 0 4 [(0, .ref v0), (1, .long v1), (3, .int v3)] [] S) (fun v0 v1 v3 S hh => TB_X11_gotInAll_4 C E ht hn (fun v0 v1 v3 S z => z) hh)
def P_X11_gotInAll_0 (Q : Int64 → HS → Prop) (v0 : Nat) (S : HS) : Prop := P_X11_gotInAll_4 Q v0 (0 : Int64) (0 : Int32) S
set_option maxRecDepth 20000 in
set_option maxHeartbeats 4000000 in
theorem T_X11_gotInAll_0 {X : CX} {Q : Int64 → HS → Prop} (C : Cx X cX11_gotInAll RX11 4 rm_X11_gotInAll) (E : ReJ X rm_X11_gotInAll Q) (ht : (xh X).sig.returnType = (some .long)) (hn : (xh X).name = yX11_gotInAll.name) {v0 : Nat} {S : HS} (h : P_X11_gotInAll_0 Q v0 S) : WS X 4 0 0 0 [(0, .ref v0)] [] S := by
  refine r_lconst (pc := 0) C (v := (0 : Int64)) dX11_gotInAll_0 (by decide) ?_
  refine r_lstore_n (pc := 1) C dX11_gotInAll_1 rfl (by decide) (lv' := [(1, .long (0 : Int64)), (0, .ref v0)]) rfl ?_
  refine r_iconst (pc := 2) C (v := (0 : Int32)) dX11_gotInAll_2 (by decide) ?_
  refine r_istore_n (pc := 3) C dX11_gotInAll_3 rfl (by decide) (lv' := [(3, .int (0 : Int32)), (1, .long (0 : Int64)), (0, .ref v0)]) rfl ?_
  exact r_sub [2, 1, 0] rfl (T_X11_gotInAll_4 C E ht hn h)
def P_X11_gotInAll (v0 : Nat) (Q : Int64 → HS → Prop) (S : HS) : Prop := P_X11_gotInAll_0 Q v0 S
theorem c_X11_gotInAll {l : Launch} {Ee : EE} {S : HS} {v0 : Nat} {Q : Int64 → HS → Prop} (h : P_X11_gotInAll v0 Q S) : MJ l yX11_gotInAll cX11_gotInAll 4 (some .long) rm_X11_gotInAll Ee S [.ref v0] Q :=
  openJ (by decide) (Nat.le_of_ble_eq_true rfl) (fun X C E ht hn hE hl => by subst hE; exact r_sub [0] rfl (T_X11_gotInAll_0 C E ht hn h))
def rm_X11_held : Room := { frames := 3, cells := 0, slots := 0, locals := 76 }
def P_X11_held_68 (Q : Int32 → HS → Prop) (s0 : Nat) (s1 : Int32) (S : HS) : Prop := ob S s0 11 ∧ (P_X11_good s0 s1 (fun x3 S1 => Gr S S1 → (Q x3 S1)) S)
set_option maxRecDepth 20000 in
set_option maxHeartbeats 4000000 in
theorem T_X11_held_68 {X : CX} {Q : Int32 → HS → Prop} (C : Cx X cX11_held RX11 7 rm_X11_held) (E : ReI X rm_X11_held Q) (ht : (xh X).sig.returnType = (some .int)) (hn : (xh X).name = yX11_held.name) {s0 : Nat} {s1 : Int32} {S : HS} (h : P_X11_held_68 Q s0 s1 S) : WS X 7 0 0 68 [] [.int s1, .ref s0] S := by
  obtain ⟨o_s0, h⟩ := h
  refine r_callVi0 (pc := 68) C (rest := []) (a := s0) o_s0 [.int s1] yV_X11_good g_1518 (c_X11_good h) dX11_held_68 rfl rfl (Nat.le_of_ble_eq_true rfl) ⟨by decide, by decide⟩ ⟨by decide, by decide⟩ ⟨rfl, rfl⟩ (fun x3 S1 h g2 => ?_)
  have h := h g2
  have o_s0 := gr_ob g2 o_s0
  exact r_iret (pc := 71) C E ht dX11_held_71 (by decide) (by decide) h
def P_X11_held_0 (Q : Int32 → HS → Prop) (v0 : Nat) (v1 : Int32) (v2 : Int32) (v3 : Int32) (v4 : Int32) (v5 : Int32) (S : HS) : Prop := ob S v0 11 ∧ (∀ S1 : HS, S1 = sI S v0 0 (0 : Int32) → (P_X11_refuses v0 v1 v2 v3 v4 v5 (fun x4 S2 => Gr S1 S2 → (((x4 ≤ 0) → (∃ a6 : Nat, fR S2 v0 3 = some a6 ∧ (ob S2 a6 10 ∧ (∃ a7 : Nat, fR S2 a6 19 = some a7 ∧ (ob S2 a7 13 ∧ (vp_in v1 (hN S2 a7) ∧ ∀ x9 : Int32, x9 = fI S2 a7 v1.toNatClampNeg → (((x9 = (3 : Int32)) → (P_X11_isForward v0 v1 v2 v3 v4 v5 (fun x13 S11 => Gr S2 S11 → bl x13 → (((x13 = 0) → (P_X11_held_68 Q v0 (0 : Int32) S11)) ∧ ((¬ x13 = 0) → (P_X11_held_68 Q v0 (1 : Int32) S11)))) S2)) ∧ ((¬ x9 = (3 : Int32)) → (P_X11_held_68 Q v0 (-2 : Int32) S2))))))))) ∧ ((¬ x4 ≤ 0) → (P_X11_refused v0 x4 (fun x17 S15 => Gr S2 S15 → (Q x17 S15)) S2)))) S1))
set_option maxRecDepth 20000 in
set_option maxHeartbeats 4000000 in
theorem T_X11_held_0 {X : CX} {Q : Int32 → HS → Prop} (C : Cx X cX11_held RX11 7 rm_X11_held) (E : ReI X rm_X11_held Q) (ht : (xh X).sig.returnType = (some .int)) (hn : (xh X).name = yX11_held.name) {v0 : Nat} {v1 : Int32} {v2 : Int32} {v3 : Int32} {v4 : Int32} {v5 : Int32} {S : HS} (h : P_X11_held_0 Q v0 v1 v2 v3 v4 v5 S) : WS X 7 0 0 0 [(0, .ref v0), (1, .int v1), (2, .int v2), (3, .int v3), (4, .int v4), (5, .int v5)] [] S := by
  refine r_aload_n (pc := 0) C dX11_held_0 0 rfl ?_
  refine r_iconst (pc := 1) C (v := (0 : Int32)) dX11_held_1 (by decide) ?_
  obtain ⟨o_v0, h⟩ := h
  refine r_puti (pc := 2) C pfL_X11_40 dX11_held_2 o_v0 ?_
  refine r_heap (fun S1 eS1 => ?_)
  have h := h S1 eS1
  have o_v0 := ob_I eS1 o_v0
  refine r_aload_n (pc := 5) C dX11_held_5 0 rfl ?_
  refine r_iload_n (pc := 6) C dX11_held_6 1 rfl ?_
  refine r_iload_n (pc := 7) C dX11_held_7 2 rfl ?_
  refine r_iload_n (pc := 8) C dX11_held_8 3 rfl ?_
  refine r_iload (pc := 9) C dX11_held_9 4 rfl ?_
  refine r_iload (pc := 11) C dX11_held_11 5 rfl ?_
  refine r_callVi0 (pc := 13) C (rest := []) (a := v0) o_v0 [.int v1, .int v2, .int v3, .int v4, .int v5] yV_X11_refuses g_1534 (c_X11_refuses h) dX11_held_13 rfl rfl (Nat.le_of_ble_eq_true rfl) ⟨by decide, by decide⟩ ⟨by decide, by decide⟩ ⟨rfl, rfl⟩ (fun x4 S2 h g3 => ?_)
  have h := h g3
  have o_v0 := gr_ob g3 o_v0
  refine r_istore (pc := 16) C dX11_held_16 (by decide) (lv' := [(6, .int x4), (0, .ref v0), (1, .int v1), (2, .int v2), (3, .int v3), (4, .int v4), (5, .int v5)]) rfl ?_
  refine r_iload (pc := 18) C dX11_held_18 0 rfl ?_
  refine r_if_le (pc := 20) C (tgt := 30) dX11_held_20 (by decide) (fun c5 => ?_) (fun c5 => ?_)
  · have h := h.1 c5
    refine r_aload_n (pc := 30) C dX11_held_30 1 rfl ?_
    refine r_aload_n (pc := 31) C dX11_held_31 1 rfl ?_
    obtain ⟨a6, ea6, h⟩ := h
    refine r_getr (pc := 32) C fL_X11_338 dX11_held_32 o_v0 ea6 ?_
    obtain ⟨o_a6, h⟩ := h
    obtain ⟨a7, ea7, h⟩ := h
    refine r_getNr (pc := 35) C fN_X11_302 dX11_held_35 o_a6 ea7 ?_
    refine r_iload_n (pc := 38) C dX11_held_38 2 rfl ?_
    obtain ⟨o_a7, h⟩ := h
    obtain ⟨i8, h⟩ := h
    refine r_iald (pc := 39) C dX11_held_39 o_a7 i8 ?_
    refine r_topi (fun x9 ex9 => ?_)
    have h := h x9 ex9
    refine r_iconst (pc := 40) C (v := (3 : Int32)) dX11_held_40 (by decide) ?_
    refine r_icmp_eq (pc := 41) C (tgt := 49) dX11_held_41 (by decide) (fun c10 => ?_) (fun c10 => ?_)
    · have h := h.1 c10
      refine r_aload_n (pc := 49) C dX11_held_49 1 rfl ?_
      refine r_iload_n (pc := 50) C dX11_held_50 2 rfl ?_
      refine r_iload_n (pc := 51) C dX11_held_51 3 rfl ?_
      refine r_iload_n (pc := 52) C dX11_held_52 4 rfl ?_
      refine r_iload (pc := 53) C dX11_held_53 5 rfl ?_
      refine r_iload (pc := 55) C dX11_held_55 6 rfl ?_
      refine r_callVi0 (pc := 57) C (rest := [.ref v0]) (a := v0) o_v0 [.int v1, .int v2, .int v3, .int v4, .int v5] yV_X11_isForward g_1574 (c_X11_isForward h) dX11_held_57 rfl rfl (Nat.le_of_ble_eq_true rfl) ⟨by decide, by decide⟩ ⟨by decide, by decide⟩ ⟨rfl, rfl⟩ (fun x13 S11 h g12 => ?_)
      have bx13 := h.1
      have h := h.2 g12 bx13
      have o_a6 := gr_ob g12 o_a6
      have o_a7 := gr_ob g12 o_a7
      have o_v0 := gr_ob g12 o_v0
      refine r_if_eq (pc := 60) C (tgt := 67) dX11_held_60 (by decide) (fun c14 => ?_) (fun c14 => ?_)
      · have h := h.1 c14
        refine r_iconst (pc := 67) C (v := (0 : Int32)) dX11_held_67 (by decide) ?_
        exact r_sub [] rfl (T_X11_held_68 C E ht hn h)
      · have h := h.2 c14
        refine r_iconst (pc := 63) C (v := (1 : Int32)) dX11_held_63 (by decide) ?_
        refine r_goto (pc := 64) C (tgt := 68) dX11_held_64 (by decide) ?_
        exact r_sub [] rfl (T_X11_held_68 C E ht hn h)
    · have h := h.2 c10
      refine r_bipush (pc := 44) C (v := (-2 : Int32)) dX11_held_44 (by decide) ?_
      refine r_goto (pc := 46) C (tgt := 68) dX11_held_46 (by decide) ?_
      exact r_sub [] rfl (T_X11_held_68 C E ht hn h)
  · have h := h.2 c5
    refine r_aload_n (pc := 23) C dX11_held_23 1 rfl ?_
    refine r_iload (pc := 24) C dX11_held_24 0 rfl ?_
    refine r_callVi0 (pc := 26) C (rest := []) (a := v0) o_v0 [.int x4] yV_X11_refused g_1250 (c_X11_refused h) dX11_held_26 rfl rfl (Nat.le_of_ble_eq_true rfl) ⟨by decide, by decide⟩ ⟨by decide, by decide⟩ ⟨rfl, rfl⟩ (fun x17 S15 h g16 => ?_)
    have h := h g16
    have o_v0 := gr_ob g16 o_v0
    exact r_iret (pc := 29) C E ht dX11_held_29 (by decide) (by decide) h
def P_X11_held (v0 : Nat) (v1 : Int32) (v2 : Int32) (v3 : Int32) (v4 : Int32) (v5 : Int32) (Q : Int32 → HS → Prop) (S : HS) : Prop := P_X11_held_0 Q v0 v1 v2 v3 v4 v5 S
theorem c_X11_held {l : Launch} {Ee : EE} {S : HS} {v0 : Nat} {v1 : Int32} {v2 : Int32} {v3 : Int32} {v4 : Int32} {v5 : Int32} {Q : Int32 → HS → Prop} (h : P_X11_held v0 v1 v2 v3 v4 v5 Q S) : MI l yX11_held cX11_held 7 (some .int) rm_X11_held Ee S [.ref v0, .int v1, .int v2, .int v3, .int v4, .int v5] Q :=
  openI (by decide) (Nat.le_of_ble_eq_true rfl) (fun X C E ht hn hE hl => by subst hE; exact r_sub [0, 1, 2, 3, 4, 5] rfl (T_X11_held_0 C E ht hn h))
def rm_X11_holds : Room := { frames := 0, cells := 0, slots := 0, locals := 0 }
def P_X11_holds_0 (Q : Int64 → HS → Prop) (v0 : Nat) (S : HS) : Prop := ob S v0 11 ∧ (∃ a1 : Nat, fR S v0 3 = some a1 ∧ (ob S a1 10 ∧ (∃ a2 : Nat, fR S a1 19 = some a2 ∧ (∀ x3 : Int32, x3 = fI S v0 19 → (ob S a2 13 ∧ (vp_in x3 (hN S a2) ∧ ∀ x5 : Int32, x5 = fI S a2 x3.toNatClampNeg → (((¬ x5 = (2 : Int32)) → (Q (0 : Int64) S)) ∧ ((x5 = (2 : Int32)) → (∃ a7 : Nat, fR S v0 3 = some a7 ∧ (ob S a7 10 ∧ (∃ a8 : Nat, fR S a7 20 = some a8 ∧ (∀ x9 : Int32, x9 = fI S v0 19 → (ob S a8 13 ∧ (vp_in x9 (hN S a8) ∧ ∀ x11 : Int32, x11 = fI S a8 x9.toNatClampNeg → (Q ((2520 : Int64) * x11.toInt64) S)))))))))))))))
set_option maxRecDepth 20000 in
set_option maxHeartbeats 4000000 in
theorem T_X11_holds_0 {X : CX} {Q : Int64 → HS → Prop} (C : Cx X cX11_holds RX11 1 rm_X11_holds) (E : ReJ X rm_X11_holds Q) (ht : (xh X).sig.returnType = (some .long)) (hn : (xh X).name = yX11_holds.name) {v0 : Nat} {S : HS} (h : P_X11_holds_0 Q v0 S) : WS X 1 0 0 0 [(0, .ref v0)] [] S := by
  refine r_aload_n (pc := 0) C dX11_holds_0 0 rfl ?_
  obtain ⟨o_v0, h⟩ := h
  obtain ⟨a1, ea1, h⟩ := h
  refine r_getr (pc := 1) C fL_X11_338 dX11_holds_1 o_v0 ea1 ?_
  obtain ⟨o_a1, h⟩ := h
  obtain ⟨a2, ea2, h⟩ := h
  refine r_getNr (pc := 4) C fN_X11_302 dX11_holds_4 o_a1 ea2 ?_
  refine r_aload_n (pc := 7) C dX11_holds_7 0 rfl ?_
  refine r_geti (pc := 8) C fL_X11_28 dX11_holds_8 o_v0 ?_
  refine r_topi (fun x3 ex3 => ?_)
  have h := h x3 ex3
  obtain ⟨o_a2, h⟩ := h
  obtain ⟨i4, h⟩ := h
  refine r_iald (pc := 11) C dX11_holds_11 o_a2 i4 ?_
  refine r_topi (fun x5 ex5 => ?_)
  have h := h x5 ex5
  refine r_iconst (pc := 12) C (v := (2 : Int32)) dX11_holds_12 (by decide) ?_
  refine r_icmp_ne (pc := 13) C (tgt := 36) dX11_holds_13 (by decide) (fun c6 => ?_) (fun c6 => ?_)
  · have h := h.1 c6
    refine r_lconst (pc := 36) C (v := (0 : Int64)) dX11_holds_36 (by decide) ?_
    exact r_lret (pc := 37) C E ht dX11_holds_37 (by decide) (by decide) h
  · have h := h.2 c6
    refine r_ldc2 (pc := 16) C (v := (2520 : Int64)) dX11_holds_16 g_1585 ?_
    refine r_aload_n (pc := 19) C dX11_holds_19 0 rfl ?_
    obtain ⟨a7, ea7, h⟩ := h
    refine r_getr (pc := 20) C fL_X11_338 dX11_holds_20 o_v0 ea7 ?_
    obtain ⟨o_a7, h⟩ := h
    obtain ⟨a8, ea8, h⟩ := h
    refine r_getNr (pc := 23) C fN_X11_305 dX11_holds_23 o_a7 ea8 ?_
    refine r_aload_n (pc := 26) C dX11_holds_26 0 rfl ?_
    refine r_geti (pc := 27) C fL_X11_28 dX11_holds_27 o_v0 ?_
    refine r_topi (fun x9 ex9 => ?_)
    have h := h x9 ex9
    obtain ⟨o_a8, h⟩ := h
    obtain ⟨i10, h⟩ := h
    refine r_iald (pc := 30) C dX11_holds_30 o_a8 i10 ?_
    refine r_topi (fun x11 ex11 => ?_)
    have h := h x11 ex11
    refine r_i2l (pc := 31) C dX11_holds_31 ?_
    refine r_lmul (pc := 32) C dX11_holds_32 ?_
    refine r_goto (pc := 33) C (tgt := 37) dX11_holds_33 (by decide) ?_
    exact r_lret (pc := 37) C E ht dX11_holds_37 (by decide) (by decide) h
def P_X11_holds (v0 : Nat) (Q : Int64 → HS → Prop) (S : HS) : Prop := P_X11_holds_0 Q v0 S
theorem c_X11_holds {l : Launch} {Ee : EE} {S : HS} {v0 : Nat} {Q : Int64 → HS → Prop} (h : P_X11_holds v0 Q S) : MJ l yX11_holds cX11_holds 1 (some .long) rm_X11_holds Ee S [.ref v0] Q :=
  openJ (by decide) (Nat.le_of_ble_eq_true rfl) (fun X C E ht hn hE hl => by subst hE; exact r_sub [0] rfl (T_X11_holds_0 C E ht hn h))
def rm_X11_init : Room := { frames := 1, cells := 7, slots := 10664, locals := 20 }
def P_X11_init_0 (Q : HS → Prop) (v0 : Nat) (S : HS) : Prop := ob S v0 11 ∧ (∀ S1 : HS, S1 = sI S v0 2 (-1 : Int32) → (∀ a2 : Nat, a2 ∉ hL S1 → ∀ S3 : HS, S3 = nW S1 a2 12 900 → (∀ S4 : HS, S4 = sR S3 v0 5 (some a2) → (∀ a5 : Nat, a5 ∉ hL S4 → ∀ S6 : HS, S6 = nW S4 a5 14 3208 → (∀ S7 : HS, S7 = sR S6 v0 16 (some a5) → (∀ a8 : Nat, a8 ∉ hL S7 → ∀ S9 : HS, S9 = nW S7 a8 13 3208 → (∀ S10 : HS, S10 = sR S9 v0 17 (some a8) → (∀ a11 : Nat, a11 ∉ hL S10 → ∀ S12 : HS, S12 = nW S10 a11 13 3208 → (∀ S13 : HS, S13 = sR S12 v0 18 (some a11) → (∀ S14 : HS, S14 = sI S13 v0 19 (-2 : Int32) → (∀ a15 : Nat, a15 ∉ hL S14 → ∀ S16 : HS, S16 = nW S14 a15 14 7 → (∀ S17 : HS, S17 = sR S16 v0 21 (some a15) → (∀ a18 : Nat, a18 ∉ hL S17 → ∀ S19 : HS, S19 = nW S17 a18 14 112 → (∀ S20 : HS, S20 = sR S19 v0 22 (some a18) → (∀ a21 : Nat, a21 ∉ hL S20 → ∀ S22 : HS, S22 = nW S20 a21 14 21 → (∀ S23 : HS, S23 = sR S22 v0 23 (some a21) → (Q S23)))))))))))))))))
set_option maxRecDepth 20000 in
set_option maxHeartbeats 4000000 in
theorem T_X11_init_0 {X : CX} {Q : HS → Prop} (C : Cx X cX11_init RX11 1 rm_X11_init) (E : ReV X rm_X11_init Q) (ht : (xh X).sig.returnType = none) (hn : (xh X).name = yX11_init.name) {v0 : Nat} {S : HS} (h : P_X11_init_0 Q v0 S) : WS X 1 0 0 0 [(0, .ref v0)] [] S := by
  refine r_aload_n (pc := 0) C dX11_init_0 0 rfl ?_
  refine r_objinit (pc := 1) C g_1162 dX11_init_1 (by decide) (Nat.le_of_ble_eq_true rfl) ?_
  refine r_aload_n (pc := 4) C dX11_init_4 0 rfl ?_
  refine r_iconst (pc := 5) C (v := (-1 : Int32)) dX11_init_5 (by decide) ?_
  obtain ⟨o_v0, h⟩ := h
  refine r_puti (pc := 6) C pfL_X11_9 dX11_init_6 o_v0 ?_
  refine r_heap (fun S1 eS1 => ?_)
  have h := h S1 eS1
  have o_v0 := ob_I eS1 o_v0
  refine r_aload_n (pc := 9) C dX11_init_9 0 rfl ?_
  refine r_sipush (pc := 10) C (v := (900 : Int32)) dX11_init_10 (by decide) ?_
  refine r_newa12 (pc := 13) C (N := 900) g_71 dX11_init_13 (by decide) (by decide) (by decide) (by decide) (by decide) (fun a2 q36 => ?_)
  refine r_heap (fun S3 eS3 => ?_)
  have h := h a2 q36 S3 eS3
  have g37 := gr_of_new eS3 q36
  have o_a2 := ob_of_new eS3
  have o_v0 := gr_ob g37 o_v0
  refine r_putFr (pc := 15) C pfL_X11_13 hn dX11_init_15 o_v0 ?_
  refine r_heap (fun S4 eS4 => ?_)
  have h := h S4 eS4
  have o_a2 := ob_R eS4 o_a2
  have o_v0 := ob_R eS4 o_v0
  refine r_aload_n (pc := 18) C dX11_init_18 0 rfl ?_
  refine r_sipush (pc := 19) C (v := (3208 : Int32)) dX11_init_19 (by decide) ?_
  refine r_newa14 (pc := 22) C (N := 3208) g_266 dX11_init_22 (by decide) (by decide) (by decide) (by decide) (by decide) (fun a5 q34 => ?_)
  refine r_heap (fun S6 eS6 => ?_)
  have h := h a5 q34 S6 eS6
  have g35 := gr_of_new eS6 q34
  have o_a5 := ob_of_new eS6
  have o_a2 := gr_ob g35 o_a2
  have o_v0 := gr_ob g35 o_v0
  refine r_putFr (pc := 24) C pfL_X11_17 hn dX11_init_24 o_v0 ?_
  refine r_heap (fun S7 eS7 => ?_)
  have h := h S7 eS7
  have o_a2 := ob_R eS7 o_a2
  have o_a5 := ob_R eS7 o_a5
  have o_v0 := ob_R eS7 o_v0
  refine r_aload_n (pc := 27) C dX11_init_27 0 rfl ?_
  refine r_sipush (pc := 28) C (v := (3208 : Int32)) dX11_init_28 (by decide) ?_
  refine r_newa13 (pc := 31) C (N := 3208) g_72 dX11_init_31 (by decide) (by decide) (by decide) (by decide) (by decide) (fun a8 q32 => ?_)
  refine r_heap (fun S9 eS9 => ?_)
  have h := h a8 q32 S9 eS9
  have g33 := gr_of_new eS9 q32
  have o_a8 := ob_of_new eS9
  have o_a2 := gr_ob g33 o_a2
  have o_a5 := gr_ob g33 o_a5
  have o_v0 := gr_ob g33 o_v0
  refine r_putFr (pc := 33) C pfL_X11_21 hn dX11_init_33 o_v0 ?_
  refine r_heap (fun S10 eS10 => ?_)
  have h := h S10 eS10
  have o_a2 := ob_R eS10 o_a2
  have o_a5 := ob_R eS10 o_a5
  have o_a8 := ob_R eS10 o_a8
  have o_v0 := ob_R eS10 o_v0
  refine r_aload_n (pc := 36) C dX11_init_36 0 rfl ?_
  refine r_sipush (pc := 37) C (v := (3208 : Int32)) dX11_init_37 (by decide) ?_
  refine r_newa13 (pc := 40) C (N := 3208) g_72 dX11_init_40 (by decide) (by decide) (by decide) (by decide) (by decide) (fun a11 q30 => ?_)
  refine r_heap (fun S12 eS12 => ?_)
  have h := h a11 q30 S12 eS12
  have g31 := gr_of_new eS12 q30
  have o_a11 := ob_of_new eS12
  have o_a2 := gr_ob g31 o_a2
  have o_a5 := gr_ob g31 o_a5
  have o_a8 := gr_ob g31 o_a8
  have o_v0 := gr_ob g31 o_v0
  refine r_putFr (pc := 42) C pfL_X11_25 hn dX11_init_42 o_v0 ?_
  refine r_heap (fun S13 eS13 => ?_)
  have h := h S13 eS13
  have o_a11 := ob_R eS13 o_a11
  have o_a2 := ob_R eS13 o_a2
  have o_a5 := ob_R eS13 o_a5
  have o_a8 := ob_R eS13 o_a8
  have o_v0 := ob_R eS13 o_v0
  refine r_aload_n (pc := 45) C dX11_init_45 0 rfl ?_
  refine r_bipush (pc := 46) C (v := (-2 : Int32)) dX11_init_46 (by decide) ?_
  refine r_puti (pc := 48) C pfL_X11_28 dX11_init_48 o_v0 ?_
  refine r_heap (fun S14 eS14 => ?_)
  have h := h S14 eS14
  have o_a11 := ob_I eS14 o_a11
  have o_a2 := ob_I eS14 o_a2
  have o_a5 := ob_I eS14 o_a5
  have o_a8 := ob_I eS14 o_a8
  have o_v0 := ob_I eS14 o_v0
  refine r_aload_n (pc := 51) C dX11_init_51 0 rfl ?_
  refine r_bipush (pc := 52) C (v := (7 : Int32)) dX11_init_52 (by decide) ?_
  refine r_newa14 (pc := 54) C (N := 7) g_266 dX11_init_54 (by decide) (by decide) (by decide) (by decide) (by decide) (fun a15 q28 => ?_)
  refine r_heap (fun S16 eS16 => ?_)
  have h := h a15 q28 S16 eS16
  have g29 := gr_of_new eS16 q28
  have o_a15 := ob_of_new eS16
  have o_a11 := gr_ob g29 o_a11
  have o_a2 := gr_ob g29 o_a2
  have o_a5 := gr_ob g29 o_a5
  have o_a8 := gr_ob g29 o_a8
  have o_v0 := gr_ob g29 o_v0
  refine r_putFr (pc := 56) C pfL_X11_31 hn dX11_init_56 o_v0 ?_
  refine r_heap (fun S17 eS17 => ?_)
  have h := h S17 eS17
  have o_a11 := ob_R eS17 o_a11
  have o_a15 := ob_R eS17 o_a15
  have o_a2 := ob_R eS17 o_a2
  have o_a5 := ob_R eS17 o_a5
  have o_a8 := ob_R eS17 o_a8
  have o_v0 := ob_R eS17 o_v0
  refine r_aload_n (pc := 59) C dX11_init_59 0 rfl ?_
  refine r_bipush (pc := 60) C (v := (112 : Int32)) dX11_init_60 (by decide) ?_
  refine r_newa14 (pc := 62) C (N := 112) g_266 dX11_init_62 (by decide) (by decide) (by decide) (by decide) (by decide) (fun a18 q26 => ?_)
  refine r_heap (fun S19 eS19 => ?_)
  have h := h a18 q26 S19 eS19
  have g27 := gr_of_new eS19 q26
  have o_a18 := ob_of_new eS19
  have o_a11 := gr_ob g27 o_a11
  have o_a15 := gr_ob g27 o_a15
  have o_a2 := gr_ob g27 o_a2
  have o_a5 := gr_ob g27 o_a5
  have o_a8 := gr_ob g27 o_a8
  have o_v0 := gr_ob g27 o_v0
  refine r_putFr (pc := 64) C pfL_X11_34 hn dX11_init_64 o_v0 ?_
  refine r_heap (fun S20 eS20 => ?_)
  have h := h S20 eS20
  have o_a11 := ob_R eS20 o_a11
  have o_a15 := ob_R eS20 o_a15
  have o_a18 := ob_R eS20 o_a18
  have o_a2 := ob_R eS20 o_a2
  have o_a5 := ob_R eS20 o_a5
  have o_a8 := ob_R eS20 o_a8
  have o_v0 := ob_R eS20 o_v0
  refine r_aload_n (pc := 67) C dX11_init_67 0 rfl ?_
  refine r_bipush (pc := 68) C (v := (21 : Int32)) dX11_init_68 (by decide) ?_
  refine r_newa14 (pc := 70) C (N := 21) g_266 dX11_init_70 (by decide) (by decide) (by decide) (by decide) (by decide) (fun a21 q24 => ?_)
  refine r_heap (fun S22 eS22 => ?_)
  have h := h a21 q24 S22 eS22
  have g25 := gr_of_new eS22 q24
  have o_a21 := ob_of_new eS22
  have o_a11 := gr_ob g25 o_a11
  have o_a15 := gr_ob g25 o_a15
  have o_a18 := gr_ob g25 o_a18
  have o_a2 := gr_ob g25 o_a2
  have o_a5 := gr_ob g25 o_a5
  have o_a8 := gr_ob g25 o_a8
  have o_v0 := gr_ob g25 o_v0
  refine r_putFr (pc := 72) C pfL_X11_37 hn dX11_init_72 o_v0 ?_
  refine r_heap (fun S23 eS23 => ?_)
  have h := h S23 eS23
  have o_a11 := ob_R eS23 o_a11
  have o_a15 := ob_R eS23 o_a15
  have o_a18 := ob_R eS23 o_a18
  have o_a2 := ob_R eS23 o_a2
  have o_a21 := ob_R eS23 o_a21
  have o_a5 := ob_R eS23 o_a5
  have o_a8 := ob_R eS23 o_a8
  have o_v0 := ob_R eS23 o_v0
  exact r_vret (pc := 75) C E ht dX11_init_75 (by decide) (by decide) h
def P_X11_init (v0 : Nat) (Q : HS → Prop) (S : HS) : Prop := P_X11_init_0 Q v0 S
theorem c_X11_init {l : Launch} {Ee : EE} {S : HS} {v0 : Nat} {Q : HS → Prop} (h : P_X11_init v0 Q S) : MV l yX11_init cX11_init 1 none rm_X11_init Ee S [.ref v0] Q :=
  openV (by decide) (Nat.le_of_ble_eq_true rfl) (fun X C E ht hn hE hl => by subst hE; exact r_sub [0] rfl (T_X11_init_0 C E ht hn h))
def rm_X11_isName : Room := { frames := 7, cells := 0, slots := 0, locals := 164 }
def P_X11_isName_0 (Q : Int32 → HS → Prop) (v0 : Nat) (S : HS) : Prop := ob S v0 11 ∧ (∀ x1 : Int32, x1 = fI S v0 9 → (((¬ x1 = (2 : Int32)) → (Q (0 : Int32) S)) ∧ ((x1 = (2 : Int32)) → (P_X11_isWord v0 27 (fun x5 S3 => Gr S S3 → bl x5 → (((¬ x5 = 0) → (Q (0 : Int32) S3)) ∧ ((x5 = 0) → (P_X11_isWord v0 29 (fun x9 S7 => Gr S3 S7 → bl x9 → (((¬ x9 = 0) → (Q (0 : Int32) S7)) ∧ ((x9 = 0) → (P_X11_isWord v0 38 (fun x13 S11 => Gr S7 S11 → bl x13 → (((¬ x13 = 0) → (Q (0 : Int32) S11)) ∧ ((x13 = 0) → (P_X11_isWord v0 39 (fun x17 S15 => Gr S11 S15 → bl x17 → (((x17 = 0) → (P_X11_isWord v0 40 (fun x21 S19 => Gr S15 S19 → bl x21 → (((¬ x21 = 0) → (Q (0 : Int32) S19)) ∧ ((x21 = 0) → (P_X11_isWord v0 41 (fun x25 S23 => Gr S19 S23 → bl x25 → (((¬ x25 = 0) → (Q (0 : Int32) S23)) ∧ ((x25 = 0) → (P_X11_isWord v0 42 (fun x29 S27 => Gr S23 S27 → bl x29 → (((¬ x29 = 0) → (Q (0 : Int32) S27)) ∧ ((x29 = 0) → (P_X11_isWord v0 43 (fun x33 S31 => Gr S27 S31 → bl x33 → (((¬ x33 = 0) → (Q (0 : Int32) S31)) ∧ ((x33 = 0) → (P_X11_isWord v0 44 (fun x37 S35 => Gr S31 S35 → bl x37 → (((¬ x37 = 0) → (Q (0 : Int32) S35)) ∧ ((x37 = 0) → (Q (1 : Int32) S35)))) S31)))) S27)))) S23)))) S19)))) S15)) ∧ ((¬ x17 = 0) → (Q (0 : Int32) S15)))) S11)))) S7)))) S3)))) S))))
set_option maxRecDepth 20000 in
set_option maxHeartbeats 4000000 in
theorem T_X11_isName_0 {X : CX} {Q : Int32 → HS → Prop} (C : Cx X cX11_isName RX11 1 rm_X11_isName) (E : ReI X rm_X11_isName (fun r S => bl r ∧ Q r S)) (ht : (xh X).sig.returnType = (some .boolean)) (hn : (xh X).name = yX11_isName.name) {v0 : Nat} {S : HS} (h : P_X11_isName_0 Q v0 S) : WS X 1 0 0 0 [(0, .ref v0)] [] S := by
  refine r_aload_n (pc := 0) C dX11_isName_0 0 rfl ?_
  obtain ⟨o_v0, h⟩ := h
  refine r_geti (pc := 1) C fL_X11_68 dX11_isName_1 o_v0 ?_
  refine r_topi (fun x1 ex1 => ?_)
  have h := h x1 ex1
  refine r_iconst (pc := 4) C (v := (2 : Int32)) dX11_isName_4 (by decide) ?_
  refine r_icmp_ne (pc := 5) C (tgt := 44) dX11_isName_5 (by decide) (fun c2 => ?_) (fun c2 => ?_)
  · have h := h.1 c2
    refine r_iconst (pc := 44) C (v := (0 : Int32)) dX11_isName_44 (by decide) ?_
    exact r_zret (pc := 45) C E ht dX11_isName_45 (by decide) (by decide) (Or.inl rfl) h
  · have h := h.2 c2
    refine r_aload_n (pc := 8) C dX11_isName_8 0 rfl ?_
    refine r_lds (pc := 9) C 27 rfl dX11_isName_9 ?_
    refine r_callVi0 (pc := 11) C (rest := []) (a := v0) o_v0 [.ref (eK (xE X) 27)] yV_X11_isWord g_1404 (c_X11_isWord h) dX11_isName_11 rfl rfl (Nat.le_of_ble_eq_true rfl) ⟨by decide, by decide⟩ ⟨by decide, by decide⟩ ⟨rfl, rfl⟩ (fun x5 S3 h g4 => ?_)
    have bx5 := h.1
    have h := h.2 g4 bx5
    have o_v0 := gr_ob g4 o_v0
    refine r_if_ne (pc := 14) C (tgt := 44) dX11_isName_14 (by decide) (fun c6 => ?_) (fun c6 => ?_)
    · have h := h.1 c6
      refine r_iconst (pc := 44) C (v := (0 : Int32)) dX11_isName_44 (by decide) ?_
      exact r_zret (pc := 45) C E ht dX11_isName_45 (by decide) (by decide) (Or.inl rfl) h
    · have h := h.2 c6
      refine r_aload_n (pc := 17) C dX11_isName_17 0 rfl ?_
      refine r_lds (pc := 18) C 29 rfl dX11_isName_18 ?_
      refine r_callVi0 (pc := 20) C (rest := []) (a := v0) o_v0 [.ref (eK (xE X) 29)] yV_X11_isWord g_1404 (c_X11_isWord h) dX11_isName_20 rfl rfl (Nat.le_of_ble_eq_true rfl) ⟨by decide, by decide⟩ ⟨by decide, by decide⟩ ⟨rfl, rfl⟩ (fun x9 S7 h g8 => ?_)
      have bx9 := h.1
      have h := h.2 g8 bx9
      have o_v0 := gr_ob g8 o_v0
      refine r_if_ne (pc := 23) C (tgt := 44) dX11_isName_23 (by decide) (fun c10 => ?_) (fun c10 => ?_)
      · have h := h.1 c10
        refine r_iconst (pc := 44) C (v := (0 : Int32)) dX11_isName_44 (by decide) ?_
        exact r_zret (pc := 45) C E ht dX11_isName_45 (by decide) (by decide) (Or.inl rfl) h
      · have h := h.2 c10
        refine r_aload_n (pc := 26) C dX11_isName_26 0 rfl ?_
        refine r_lds (pc := 27) C 38 rfl dX11_isName_27 ?_
        refine r_callVi0 (pc := 29) C (rest := []) (a := v0) o_v0 [.ref (eK (xE X) 38)] yV_X11_isWord g_1404 (c_X11_isWord h) dX11_isName_29 rfl rfl (Nat.le_of_ble_eq_true rfl) ⟨by decide, by decide⟩ ⟨by decide, by decide⟩ ⟨rfl, rfl⟩ (fun x13 S11 h g12 => ?_)
        have bx13 := h.1
        have h := h.2 g12 bx13
        have o_v0 := gr_ob g12 o_v0
        refine r_if_ne (pc := 32) C (tgt := 44) dX11_isName_32 (by decide) (fun c14 => ?_) (fun c14 => ?_)
        · have h := h.1 c14
          refine r_iconst (pc := 44) C (v := (0 : Int32)) dX11_isName_44 (by decide) ?_
          exact r_zret (pc := 45) C E ht dX11_isName_45 (by decide) (by decide) (Or.inl rfl) h
        · have h := h.2 c14
          refine r_aload_n (pc := 35) C dX11_isName_35 0 rfl ?_
          refine r_lds (pc := 36) C 39 rfl dX11_isName_36 ?_
          refine r_callVi0 (pc := 38) C (rest := []) (a := v0) o_v0 [.ref (eK (xE X) 39)] yV_X11_isWord g_1404 (c_X11_isWord h) dX11_isName_38 rfl rfl (Nat.le_of_ble_eq_true rfl) ⟨by decide, by decide⟩ ⟨by decide, by decide⟩ ⟨rfl, rfl⟩ (fun x17 S15 h g16 => ?_)
          have bx17 := h.1
          have h := h.2 g16 bx17
          have o_v0 := gr_ob g16 o_v0
          refine r_if_eq (pc := 41) C (tgt := 46) dX11_isName_41 (by decide) (fun c18 => ?_) (fun c18 => ?_)
          · have h := h.1 c18
            refine r_aload_n (pc := 46) C dX11_isName_46 0 rfl ?_
            refine r_lds (pc := 47) C 40 rfl dX11_isName_47 ?_
            refine r_callVi0 (pc := 49) C (rest := []) (a := v0) o_v0 [.ref (eK (xE X) 40)] yV_X11_isWord g_1404 (c_X11_isWord h) dX11_isName_49 rfl rfl (Nat.le_of_ble_eq_true rfl) ⟨by decide, by decide⟩ ⟨by decide, by decide⟩ ⟨rfl, rfl⟩ (fun x21 S19 h g20 => ?_)
            have bx21 := h.1
            have h := h.2 g20 bx21
            have o_v0 := gr_ob g20 o_v0
            refine r_if_ne (pc := 52) C (tgt := 95) dX11_isName_52 (by decide) (fun c22 => ?_) (fun c22 => ?_)
            · have h := h.1 c22
              refine r_iconst (pc := 95) C (v := (0 : Int32)) dX11_isName_95 (by decide) ?_
              exact r_zret (pc := 96) C E ht dX11_isName_96 (by decide) (by decide) (Or.inl rfl) h
            · have h := h.2 c22
              refine r_aload_n (pc := 55) C dX11_isName_55 0 rfl ?_
              refine r_lds (pc := 56) C 41 rfl dX11_isName_56 ?_
              refine r_callVi0 (pc := 58) C (rest := []) (a := v0) o_v0 [.ref (eK (xE X) 41)] yV_X11_isWord g_1404 (c_X11_isWord h) dX11_isName_58 rfl rfl (Nat.le_of_ble_eq_true rfl) ⟨by decide, by decide⟩ ⟨by decide, by decide⟩ ⟨rfl, rfl⟩ (fun x25 S23 h g24 => ?_)
              have bx25 := h.1
              have h := h.2 g24 bx25
              have o_v0 := gr_ob g24 o_v0
              refine r_if_ne (pc := 61) C (tgt := 95) dX11_isName_61 (by decide) (fun c26 => ?_) (fun c26 => ?_)
              · have h := h.1 c26
                refine r_iconst (pc := 95) C (v := (0 : Int32)) dX11_isName_95 (by decide) ?_
                exact r_zret (pc := 96) C E ht dX11_isName_96 (by decide) (by decide) (Or.inl rfl) h
              · have h := h.2 c26
                refine r_aload_n (pc := 64) C dX11_isName_64 0 rfl ?_
                refine r_lds (pc := 65) C 42 rfl dX11_isName_65 ?_
                refine r_callVi0 (pc := 67) C (rest := []) (a := v0) o_v0 [.ref (eK (xE X) 42)] yV_X11_isWord g_1404 (c_X11_isWord h) dX11_isName_67 rfl rfl (Nat.le_of_ble_eq_true rfl) ⟨by decide, by decide⟩ ⟨by decide, by decide⟩ ⟨rfl, rfl⟩ (fun x29 S27 h g28 => ?_)
                have bx29 := h.1
                have h := h.2 g28 bx29
                have o_v0 := gr_ob g28 o_v0
                refine r_if_ne (pc := 70) C (tgt := 95) dX11_isName_70 (by decide) (fun c30 => ?_) (fun c30 => ?_)
                · have h := h.1 c30
                  refine r_iconst (pc := 95) C (v := (0 : Int32)) dX11_isName_95 (by decide) ?_
                  exact r_zret (pc := 96) C E ht dX11_isName_96 (by decide) (by decide) (Or.inl rfl) h
                · have h := h.2 c30
                  refine r_aload_n (pc := 73) C dX11_isName_73 0 rfl ?_
                  refine r_lds (pc := 74) C 43 rfl dX11_isName_74 ?_
                  refine r_callVi0 (pc := 76) C (rest := []) (a := v0) o_v0 [.ref (eK (xE X) 43)] yV_X11_isWord g_1404 (c_X11_isWord h) dX11_isName_76 rfl rfl (Nat.le_of_ble_eq_true rfl) ⟨by decide, by decide⟩ ⟨by decide, by decide⟩ ⟨rfl, rfl⟩ (fun x33 S31 h g32 => ?_)
                  have bx33 := h.1
                  have h := h.2 g32 bx33
                  have o_v0 := gr_ob g32 o_v0
                  refine r_if_ne (pc := 79) C (tgt := 95) dX11_isName_79 (by decide) (fun c34 => ?_) (fun c34 => ?_)
                  · have h := h.1 c34
                    refine r_iconst (pc := 95) C (v := (0 : Int32)) dX11_isName_95 (by decide) ?_
                    exact r_zret (pc := 96) C E ht dX11_isName_96 (by decide) (by decide) (Or.inl rfl) h
                  · have h := h.2 c34
                    refine r_aload_n (pc := 82) C dX11_isName_82 0 rfl ?_
                    refine r_lds (pc := 83) C 44 rfl dX11_isName_83 ?_
                    refine r_callVi0 (pc := 85) C (rest := []) (a := v0) o_v0 [.ref (eK (xE X) 44)] yV_X11_isWord g_1404 (c_X11_isWord h) dX11_isName_85 rfl rfl (Nat.le_of_ble_eq_true rfl) ⟨by decide, by decide⟩ ⟨by decide, by decide⟩ ⟨rfl, rfl⟩ (fun x37 S35 h g36 => ?_)
                    have bx37 := h.1
                    have h := h.2 g36 bx37
                    have o_v0 := gr_ob g36 o_v0
                    refine r_if_ne (pc := 88) C (tgt := 95) dX11_isName_88 (by decide) (fun c38 => ?_) (fun c38 => ?_)
                    · have h := h.1 c38
                      refine r_iconst (pc := 95) C (v := (0 : Int32)) dX11_isName_95 (by decide) ?_
                      exact r_zret (pc := 96) C E ht dX11_isName_96 (by decide) (by decide) (Or.inl rfl) h
                    · have h := h.2 c38
                      refine r_iconst (pc := 91) C (v := (1 : Int32)) dX11_isName_91 (by decide) ?_
                      refine r_goto (pc := 92) C (tgt := 96) dX11_isName_92 (by decide) ?_
                      exact r_zret (pc := 96) C E ht dX11_isName_96 (by decide) (by decide) (Or.inr rfl) h
          · have h := h.2 c18
            refine r_iconst (pc := 44) C (v := (0 : Int32)) dX11_isName_44 (by decide) ?_
            exact r_zret (pc := 45) C E ht dX11_isName_45 (by decide) (by decide) (Or.inl rfl) h
def P_X11_isName (v0 : Nat) (Q : Int32 → HS → Prop) (S : HS) : Prop := P_X11_isName_0 Q v0 S
theorem c_X11_isName {l : Launch} {Ee : EE} {S : HS} {v0 : Nat} {Q : Int32 → HS → Prop} (h : P_X11_isName v0 Q S) : MI l yX11_isName cX11_isName 1 (some .boolean) rm_X11_isName Ee S [.ref v0] (fun r S => bl r ∧ Q r S) :=
  openI (by decide) (Nat.le_of_ble_eq_true rfl) (fun X C E ht hn hE hl => by subst hE; exact r_sub [0] rfl (T_X11_isName_0 C E ht hn h))
def rm_X11_known : Room := { frames := 8, cells := 0, slots := 0, locals := 184 }
def P_X11_known_47 (Q : Int32 → HS → Prop) (v0 : Nat) (v2 : Int32) (S : HS) : Prop := ob S v0 11 ∧ (∀ x1 : Int32, x1 = fI S v0 9 → (((¬ x1 = (5 : Int32)) → (∃ a3 : Nat, fR S v0 4 = some a3 ∧ (ob S a3 10 ∧ (∃ a4 : Nat, fR S a3 30 = some a4 ∧ (ob S a4 13 ∧ (vp_in v2 (hN S a4) ∧ ∀ x6 : Int32, x6 = fI S a4 v2.toNatClampNeg → (Q x6 S))))))) ∧ ((x1 = (5 : Int32)) → (Q (0 : Int32) S))))
set_option maxRecDepth 20000 in
set_option maxHeartbeats 4000000 in
theorem T_X11_known_47 {X : CX} {Q : Int32 → HS → Prop} (C : Cx X cX11_known RX11 3 rm_X11_known) (E : ReI X rm_X11_known Q) (ht : (xh X).sig.returnType = (some .int)) (hn : (xh X).name = yX11_known.name) {v0 : Nat} {v2 : Int32} {S : HS} (h : P_X11_known_47 Q v0 v2 S) : WS X 3 0 0 47 [(0, .ref v0), (2, .int v2)] [] S := by
  refine r_aload_n (pc := 47) C dX11_known_47 0 rfl ?_
  obtain ⟨o_v0, h⟩ := h
  refine r_geti (pc := 48) C fL_X11_68 dX11_known_48 o_v0 ?_
  refine r_topi (fun x1 ex1 => ?_)
  have h := h x1 ex1
  refine r_iconst (pc := 51) C (v := (5 : Int32)) dX11_known_51 (by decide) ?_
  refine r_icmp_ne (pc := 52) C (tgt := 59) dX11_known_52 (by decide) (fun c2 => ?_) (fun c2 => ?_)
  · have h := h.1 c2
    refine r_aload_n (pc := 59) C dX11_known_59 0 rfl ?_
    obtain ⟨a3, ea3, h⟩ := h
    refine r_getr (pc := 60) C fL_X11_147 dX11_known_60 o_v0 ea3 ?_
    obtain ⟨o_a3, h⟩ := h
    obtain ⟨a4, ea4, h⟩ := h
    refine r_getNr (pc := 63) C fN_X11_173 dX11_known_63 o_a3 ea4 ?_
    refine r_iload_n (pc := 66) C dX11_known_66 1 rfl ?_
    obtain ⟨o_a4, h⟩ := h
    obtain ⟨i5, h⟩ := h
    refine r_iald (pc := 67) C dX11_known_67 o_a4 i5 ?_
    refine r_topi (fun x6 ex6 => ?_)
    have h := h x6 ex6
    exact r_iret (pc := 68) C E ht dX11_known_68 (by decide) (by decide) h
  · have h := h.2 c2
    refine r_iconst (pc := 55) C (v := (0 : Int32)) dX11_known_55 (by decide) ?_
    refine r_goto (pc := 56) C (tgt := 68) dX11_known_56 (by decide) ?_
    exact r_iret (pc := 68) C E ht dX11_known_68 (by decide) (by decide) h
def P_X11_known_42 (Q : Int32 → HS → Prop) (v0 : Nat) (v2 : Int32) (S : HS) : Prop := ob S v0 11 ∧ (P_X11_flaw v0 (2 : Int32) (fun S1 => Gr S S1 → (P_X11_known_47 Q v0 v2 S1)) S)
set_option maxRecDepth 20000 in
set_option maxHeartbeats 4000000 in
theorem T_X11_known_42 {X : CX} {Q : Int32 → HS → Prop} (C : Cx X cX11_known RX11 3 rm_X11_known) (E : ReI X rm_X11_known Q) (ht : (xh X).sig.returnType = (some .int)) (hn : (xh X).name = yX11_known.name) {v0 : Nat} {v2 : Int32} {S : HS} (h : P_X11_known_42 Q v0 v2 S) : WS X 3 0 0 42 [(0, .ref v0), (2, .int v2)] [] S := by
  refine r_aload_n (pc := 42) C dX11_known_42 0 rfl ?_
  refine r_iconst (pc := 43) C (v := (2 : Int32)) dX11_known_43 (by decide) ?_
  obtain ⟨o_v0, h⟩ := h
  refine r_callVv0 (pc := 44) C (rest := []) (a := v0) o_v0 [.int (2 : Int32)] yV_X11_flaw g_1417 (c_X11_flaw h) dX11_known_44 rfl rfl (Nat.le_of_ble_eq_true rfl) ⟨by decide, by decide⟩ ⟨by decide, by decide⟩ ⟨rfl, rfl⟩ (fun S1 h g2 => ?_)
  have h := h g2
  have o_v0 := gr_ob g2 o_v0
  exact r_sub [0, 1] rfl (T_X11_known_47 C E ht hn h)
def P_X11_known_12 (Q : Int32 → HS → Prop) (v0 : Nat) (v1 : Int32) (S : HS) : Prop := ob S v0 11 ∧ (∃ a1 : Nat, fR S v0 4 = some a1 ∧ (∀ x2 : Int64, x2 = fJ S v0 15 → (ob S a1 10 ∧ (P_X10_find a1 x2 (fun x5 S3 => Gr S S3 → (((x5 = (-1 : Int32)) → (P_X11_known_42 Q v0 x5 S3)) ∧ ((¬ x5 = (-1 : Int32)) → (∃ a7 : Nat, fR S3 v0 4 = some a7 ∧ (ob S3 a7 10 ∧ (∃ a8 : Nat, fR S3 a7 29 = some a8 ∧ (ob S3 a8 13 ∧ (vp_in x5 (hN S3 a8) ∧ ∀ x10 : Int32, x10 = fI S3 a8 x5.toNatClampNeg → (((x10 = v1) → (P_X11_known_47 Q v0 x5 S3)) ∧ ((¬ x10 = v1) → (P_X11_known_42 Q v0 x5 S3))))))))))) S))))
set_option maxRecDepth 20000 in
set_option maxHeartbeats 4000000 in
theorem T_X11_known_12 {X : CX} {Q : Int32 → HS → Prop} (C : Cx X cX11_known RX11 3 rm_X11_known) (E : ReI X rm_X11_known Q) (ht : (xh X).sig.returnType = (some .int)) (hn : (xh X).name = yX11_known.name) {v0 : Nat} {v1 : Int32} {S : HS} (h : P_X11_known_12 Q v0 v1 S) : WS X 3 0 0 12 [(0, .ref v0), (1, .int v1)] [] S := by
  refine r_aload_n (pc := 12) C dX11_known_12 0 rfl ?_
  obtain ⟨o_v0, h⟩ := h
  obtain ⟨a1, ea1, h⟩ := h
  refine r_getr (pc := 13) C fL_X11_147 dX11_known_13 o_v0 ea1 ?_
  refine r_aload_n (pc := 16) C dX11_known_16 0 rfl ?_
  refine r_getl (pc := 17) C fL_X11_87 dX11_known_17 o_v0 ?_
  refine r_topl (fun x2 ex2 => ?_)
  have h := h x2 ex2
  obtain ⟨o_a1, h⟩ := h
  refine r_callVi0 (pc := 20) C (rest := []) (a := a1) o_a1 [.long x2] yV_X10_find g_1477 (c_X10_find h) dX11_known_20 rfl rfl (Nat.le_of_ble_eq_true rfl) ⟨by decide, by decide⟩ ⟨by decide, by decide⟩ ⟨rfl, rfl⟩ (fun x5 S3 h g4 => ?_)
  have h := h g4
  have o_a1 := gr_ob g4 o_a1
  have o_v0 := gr_ob g4 o_v0
  refine r_istore_n (pc := 23) C dX11_known_23 rfl (by decide) (lv' := [(2, .int x5), (0, .ref v0), (1, .int v1)]) rfl ?_
  refine r_iload_n (pc := 24) C dX11_known_24 0 rfl ?_
  refine r_iconst (pc := 25) C (v := (-1 : Int32)) dX11_known_25 (by decide) ?_
  refine r_icmp_eq (pc := 26) C (tgt := 42) dX11_known_26 (by decide) (fun c6 => ?_) (fun c6 => ?_)
  · have h := h.1 c6
    exact r_sub [1, 0] rfl (T_X11_known_42 C E ht hn h)
  · have h := h.2 c6
    refine r_aload_n (pc := 29) C dX11_known_29 1 rfl ?_
    obtain ⟨a7, ea7, h⟩ := h
    refine r_getr (pc := 30) C fL_X11_147 dX11_known_30 o_v0 ea7 ?_
    obtain ⟨o_a7, h⟩ := h
    obtain ⟨a8, ea8, h⟩ := h
    refine r_getNr (pc := 33) C fN_X11_170 dX11_known_33 o_a7 ea8 ?_
    refine r_iload_n (pc := 36) C dX11_known_36 0 rfl ?_
    obtain ⟨o_a8, h⟩ := h
    obtain ⟨i9, h⟩ := h
    refine r_iald (pc := 37) C dX11_known_37 o_a8 i9 ?_
    refine r_topi (fun x10 ex10 => ?_)
    have h := h x10 ex10
    refine r_iload_n (pc := 38) C dX11_known_38 2 rfl ?_
    refine r_icmp_eq (pc := 39) C (tgt := 47) dX11_known_39 (by decide) (fun c11 => ?_) (fun c11 => ?_)
    · have h := h.1 c11
      exact r_sub [1, 0] rfl (T_X11_known_47 C E ht hn h)
    · have h := h.2 c11
      exact r_sub [1, 0] rfl (T_X11_known_42 C E ht hn h)
def P_X11_known_0 (Q : Int32 → HS → Prop) (v0 : Nat) (v1 : Int32) (S : HS) : Prop := ob S v0 11 ∧ (P_X11_isName v0 (fun x3 S1 => Gr S S1 → bl x3 → (((¬ x3 = 0) → (P_X11_known_12 Q v0 v1 S1)) ∧ ((x3 = 0) → (P_X11_flaw v0 (1 : Int32) (fun S5 => Gr S1 S5 → (P_X11_known_12 Q v0 v1 S5)) S1)))) S)
set_option maxRecDepth 20000 in
set_option maxHeartbeats 4000000 in
theorem T_X11_known_0 {X : CX} {Q : Int32 → HS → Prop} (C : Cx X cX11_known RX11 3 rm_X11_known) (E : ReI X rm_X11_known Q) (ht : (xh X).sig.returnType = (some .int)) (hn : (xh X).name = yX11_known.name) {v0 : Nat} {v1 : Int32} {S : HS} (h : P_X11_known_0 Q v0 v1 S) : WS X 3 0 0 0 [(0, .ref v0), (1, .int v1)] [] S := by
  refine r_aload_n (pc := 0) C dX11_known_0 0 rfl ?_
  obtain ⟨o_v0, h⟩ := h
  refine r_callVi0 (pc := 1) C (rest := []) (a := v0) o_v0 [] yV_X11_isName g_1467 (c_X11_isName h) dX11_known_1 rfl rfl (Nat.le_of_ble_eq_true rfl) ⟨by decide, by decide⟩ ⟨by decide, by decide⟩ ⟨rfl, rfl⟩ (fun x3 S1 h g2 => ?_)
  have bx3 := h.1
  have h := h.2 g2 bx3
  have o_v0 := gr_ob g2 o_v0
  refine r_if_ne (pc := 4) C (tgt := 12) dX11_known_4 (by decide) (fun c4 => ?_) (fun c4 => ?_)
  · have h := h.1 c4
    exact r_sub [0, 1] rfl (T_X11_known_12 C E ht hn h)
  · have h := h.2 c4
    refine r_aload_n (pc := 7) C dX11_known_7 0 rfl ?_
    refine r_iconst (pc := 8) C (v := (1 : Int32)) dX11_known_8 (by decide) ?_
    refine r_callVv0 (pc := 9) C (rest := []) (a := v0) o_v0 [.int (1 : Int32)] yV_X11_flaw g_1417 (c_X11_flaw h) dX11_known_9 rfl rfl (Nat.le_of_ble_eq_true rfl) ⟨by decide, by decide⟩ ⟨by decide, by decide⟩ ⟨rfl, rfl⟩ (fun S5 h g6 => ?_)
    have h := h g6
    have o_v0 := gr_ob g6 o_v0
    exact r_sub [0, 1] rfl (T_X11_known_12 C E ht hn h)
def P_X11_known (v0 : Nat) (v1 : Int32) (Q : Int32 → HS → Prop) (S : HS) : Prop := P_X11_known_0 Q v0 v1 S
theorem c_X11_known {l : Launch} {Ee : EE} {S : HS} {v0 : Nat} {v1 : Int32} {Q : Int32 → HS → Prop} (h : P_X11_known v0 v1 Q S) : MI l yX11_known cX11_known 3 (some .int) rm_X11_known Ee S [.ref v0, .int v1] Q :=
  openI (by decide) (Nat.le_of_ble_eq_true rfl) (fun X C E ht hn hE hl => by subst hE; exact r_sub [0, 1] rfl (T_X11_known_0 C E ht hn h))
def rm_X11_spotOf : Room := { frames := 0, cells := 0, slots := 0, locals := 0 }
def P_X11_spotOf_0 (Q : Int32 → HS → Prop) (v0 : Int32) (v1 : Int32) (S : HS) : Prop := Q (((8 : Int32) * v1) + v0) S
set_option maxRecDepth 20000 in
set_option maxHeartbeats 4000000 in
theorem T_X11_spotOf_0 {X : CX} {Q : Int32 → HS → Prop} (C : Cx X cX11_spotOf RX11 2 rm_X11_spotOf) (E : ReI X rm_X11_spotOf Q) (ht : (xh X).sig.returnType = (some .int)) (hn : (xh X).name = yX11_spotOf.name) {v0 : Int32} {v1 : Int32} {S : HS} (h : P_X11_spotOf_0 Q v0 v1 S) : WS X 2 0 0 0 [(0, .int v0), (1, .int v1)] [] S := by
  refine r_bipush (pc := 0) C (v := (8 : Int32)) dX11_spotOf_0 (by decide) ?_
  refine r_iload_n (pc := 2) C dX11_spotOf_2 1 rfl ?_
  refine r_imul (pc := 3) C dX11_spotOf_3 ?_
  refine r_iload_n (pc := 4) C dX11_spotOf_4 0 rfl ?_
  refine r_iadd (pc := 5) C dX11_spotOf_5 ?_
  exact r_iret (pc := 6) C E ht dX11_spotOf_6 (by decide) (by decide) h
def P_X11_spotOf (v0 : Int32) (v1 : Int32) (Q : Int32 → HS → Prop) (S : HS) : Prop := P_X11_spotOf_0 Q v0 v1 S
theorem c_X11_spotOf {l : Launch} {Ee : EE} {S : HS} {v0 : Int32} {v1 : Int32} {Q : Int32 → HS → Prop} (h : P_X11_spotOf v0 v1 Q S) : MI l yX11_spotOf cX11_spotOf 2 (some .int) rm_X11_spotOf Ee S [.int v0, .int v1] Q :=
  openI (by decide) (Nat.le_of_ble_eq_true rfl) (fun X C E ht hn hE hl => by subst hE; exact r_sub [0, 1] rfl (T_X11_spotOf_0 C E ht hn h))
def rm_X11_meanOf : Room := { frames := 6, cells := 0, slots := 0, locals := 163 }
def P_X11_meanOf_0 (Q : Int64 → HS → Prop) (v0 : Nat) (v1 : Int32) (v2 : Int32) (v3 : Int32) (v4 : Int32) (v5 : Int32) (S : HS) : Prop := ob S v0 11 ∧ (P_X11_hourOf v0 v4 (fun x3 S1 => Gr S S1 → (∃ a4 : Nat, fR S1 v0 3 = some a4 ∧ (ob S1 a4 10 ∧ (∀ x5 : Int32, x5 = fI S1 a4 1 → (((x5 ≤ x3) → (Q (0 : Int64) S1)) ∧ ((¬ x5 ≤ x3) → (P_X11_wetOf v0 v1 v2 v3 x3 v5 (fun x9 S7 => Gr S1 S7 → (∃ a10 : Nat, fR S7 v0 3 = some a10 ∧ (ob S7 a10 10 ∧ (∃ a11 : Nat, fR S7 a10 11 = some a11 ∧ (ob S7 a11 13 ∧ (vp_in x3 (hN S7 a11) ∧ ∀ x13 : Int32, x13 = fI S7 a11 x3.toNatClampNeg → (Q (x9 * x13.toInt64) S7))))))) S1))))))) S)
set_option maxRecDepth 20000 in
set_option maxHeartbeats 4000000 in
theorem T_X11_meanOf_0 {X : CX} {Q : Int64 → HS → Prop} (C : Cx X cX11_meanOf RX11 7 rm_X11_meanOf) (E : ReJ X rm_X11_meanOf Q) (ht : (xh X).sig.returnType = (some .long)) (hn : (xh X).name = yX11_meanOf.name) {v0 : Nat} {v1 : Int32} {v2 : Int32} {v3 : Int32} {v4 : Int32} {v5 : Int32} {S : HS} (h : P_X11_meanOf_0 Q v0 v1 v2 v3 v4 v5 S) : WS X 7 0 0 0 [(0, .ref v0), (1, .int v1), (2, .int v2), (3, .int v3), (4, .int v4), (5, .int v5)] [] S := by
  refine r_aload_n (pc := 0) C dX11_meanOf_0 0 rfl ?_
  refine r_iload (pc := 1) C dX11_meanOf_1 4 rfl ?_
  obtain ⟨o_v0, h⟩ := h
  refine r_callVi0 (pc := 3) C (rest := []) (a := v0) o_v0 [.int v4] yV_X11_hourOf g_1707 (c_X11_hourOf h) dX11_meanOf_3 rfl rfl (Nat.le_of_ble_eq_true rfl) ⟨by decide, by decide⟩ ⟨by decide, by decide⟩ ⟨rfl, rfl⟩ (fun x3 S1 h g2 => ?_)
  have h := h g2
  have o_v0 := gr_ob g2 o_v0
  refine r_istore (pc := 6) C dX11_meanOf_6 (by decide) (lv' := [(6, .int x3), (0, .ref v0), (1, .int v1), (2, .int v2), (3, .int v3), (4, .int v4), (5, .int v5)]) rfl ?_
  refine r_iload (pc := 8) C dX11_meanOf_8 0 rfl ?_
  refine r_aload_n (pc := 10) C dX11_meanOf_10 1 rfl ?_
  obtain ⟨a4, ea4, h⟩ := h
  refine r_getr (pc := 11) C fL_X11_338 dX11_meanOf_11 o_v0 ea4 ?_
  obtain ⟨o_a4, h⟩ := h
  refine r_getNi (pc := 14) C fN_X11_219 dX11_meanOf_14 o_a4 ?_
  refine r_topi (fun x5 ex5 => ?_)
  have h := h x5 ex5
  refine r_icmp_ge (pc := 17) C (tgt := 46) dX11_meanOf_17 (by decide) (fun c6 => ?_) (fun c6 => ?_)
  · have h := h.1 c6
    refine r_lconst (pc := 46) C (v := (0 : Int64)) dX11_meanOf_46 (by decide) ?_
    exact r_lret (pc := 47) C E ht dX11_meanOf_47 (by decide) (by decide) h
  · have h := h.2 c6
    refine r_aload_n (pc := 20) C dX11_meanOf_20 1 rfl ?_
    refine r_iload_n (pc := 21) C dX11_meanOf_21 2 rfl ?_
    refine r_iload_n (pc := 22) C dX11_meanOf_22 3 rfl ?_
    refine r_iload_n (pc := 23) C dX11_meanOf_23 4 rfl ?_
    refine r_iload (pc := 24) C dX11_meanOf_24 0 rfl ?_
    refine r_iload (pc := 26) C dX11_meanOf_26 6 rfl ?_
    refine r_callVl0 (pc := 28) C (rest := []) (a := v0) o_v0 [.int v1, .int v2, .int v3, .int x3, .int v5] yV_X11_wetOf g_1594 (c_X11_wetOf h) dX11_meanOf_28 rfl rfl (Nat.le_of_ble_eq_true rfl) ⟨by decide, by decide⟩ ⟨by decide, by decide⟩ ⟨rfl, rfl⟩ (fun x9 S7 h g8 => ?_)
    have h := h g8
    have o_a4 := gr_ob g8 o_a4
    have o_v0 := gr_ob g8 o_v0
    refine r_aload_n (pc := 31) C dX11_meanOf_31 1 rfl ?_
    obtain ⟨a10, ea10, h⟩ := h
    refine r_getr (pc := 32) C fL_X11_338 dX11_meanOf_32 o_v0 ea10 ?_
    obtain ⟨o_a10, h⟩ := h
    obtain ⟨a11, ea11, h⟩ := h
    refine r_getNr (pc := 35) C fN_X11_246 dX11_meanOf_35 o_a10 ea11 ?_
    refine r_iload (pc := 38) C dX11_meanOf_38 0 rfl ?_
    obtain ⟨o_a11, h⟩ := h
    obtain ⟨i12, h⟩ := h
    refine r_iald (pc := 40) C dX11_meanOf_40 o_a11 i12 ?_
    refine r_topi (fun x13 ex13 => ?_)
    have h := h x13 ex13
    refine r_i2l (pc := 41) C dX11_meanOf_41 ?_
    refine r_lmul (pc := 42) C dX11_meanOf_42 ?_
    refine r_goto (pc := 43) C (tgt := 47) dX11_meanOf_43 (by decide) ?_
    exact r_lret (pc := 47) C E ht dX11_meanOf_47 (by decide) (by decide) h
def P_X11_meanOf (v0 : Nat) (v1 : Int32) (v2 : Int32) (v3 : Int32) (v4 : Int32) (v5 : Int32) (Q : Int64 → HS → Prop) (S : HS) : Prop := P_X11_meanOf_0 Q v0 v1 v2 v3 v4 v5 S
theorem c_X11_meanOf {l : Launch} {Ee : EE} {S : HS} {v0 : Nat} {v1 : Int32} {v2 : Int32} {v3 : Int32} {v4 : Int32} {v5 : Int32} {Q : Int64 → HS → Prop} (h : P_X11_meanOf v0 v1 v2 v3 v4 v5 Q S) : MJ l yX11_meanOf cX11_meanOf 7 (some .long) rm_X11_meanOf Ee S [.ref v0, .int v1, .int v2, .int v3, .int v4, .int v5] Q :=
  openJ (by decide) (Nat.le_of_ble_eq_true rfl) (fun X C E ht hn hE hl => by subst hE; exact r_sub [0, 1, 2, 3, 4, 5] rfl (T_X11_meanOf_0 C E ht hn h))
def rm_X11_takes : Room := { frames := 0, cells := 0, slots := 0, locals := 0 }
def P_X11_takes_77 (Q : HS → Prop) (v0 : Nat) (v1 : Int32) (v2 : Int32) (v5 : Int32) (v6 : Int64) (S : HS) : Prop := ob S v0 11 ∧ (∃ a1 : Nat, fR S v0 16 = some a1 ∧ (ob S a1 14 ∧ (vp_in v1 (hN S a1) ∧ (∀ S3 : HS, S3 = sJ S a1 v1.toNatClampNeg v6 → (∃ a4 : Nat, fR S3 v0 17 = some a4 ∧ (∃ a5 : Nat, fR S3 v0 17 = some a5 ∧ (ob S3 a5 13 ∧ (vp_in v2 (hN S3 a5) ∧ ∀ x7 : Int32, x7 = fI S3 a5 v2.toNatClampNeg → (ob S3 a4 13 ∧ (vp_in v1 (hN S3 a4) ∧ (∀ S9 : HS, S9 = sI S3 a4 v1.toNatClampNeg x7 → (∃ a10 : Nat, fR S9 v0 18 = some a10 ∧ (ob S9 a10 13 ∧ (vp_in v1 (hN S9 a10) ∧ (∀ S12 : HS, S12 = sI S9 a10 v1.toNatClampNeg v5 → (Q S12))))))))))))))))
set_option maxRecDepth 20000 in
set_option maxHeartbeats 4000000 in
theorem T_X11_takes_77 {X : CX} {Q : HS → Prop} (C : Cx X cX11_takes RX11 8 rm_X11_takes) (E : ReV X rm_X11_takes Q) (ht : (xh X).sig.returnType = none) (hn : (xh X).name = yX11_takes.name) {v0 : Nat} {v1 : Int32} {v2 : Int32} {v5 : Int32} {v6 : Int64} {S : HS} (h : P_X11_takes_77 Q v0 v1 v2 v5 v6 S) : WS X 8 0 0 77 [(0, .ref v0), (1, .int v1), (2, .int v2), (5, .int v5), (6, .long v6)] [] S := by
  refine r_aload_n (pc := 77) C dX11_takes_77 0 rfl ?_
  obtain ⟨o_v0, h⟩ := h
  obtain ⟨a1, ea1, h⟩ := h
  refine r_getr (pc := 78) C fL_X11_17 dX11_takes_78 o_v0 ea1 ?_
  refine r_iload_n (pc := 81) C dX11_takes_81 1 rfl ?_
  refine r_lload (pc := 82) C dX11_takes_82 4 rfl ?_
  obtain ⟨o_a1, h⟩ := h
  obtain ⟨i2, h⟩ := h
  refine r_last (pc := 84) C dX11_takes_84 o_a1 i2 ?_
  refine r_heap (fun S3 eS3 => ?_)
  have h := h S3 eS3
  have o_a1 := ob_J eS3 o_a1
  have o_v0 := ob_J eS3 o_v0
  refine r_aload_n (pc := 85) C dX11_takes_85 0 rfl ?_
  obtain ⟨a4, ea4, h⟩ := h
  refine r_getr (pc := 86) C fL_X11_21 dX11_takes_86 o_v0 ea4 ?_
  refine r_iload_n (pc := 89) C dX11_takes_89 1 rfl ?_
  refine r_aload_n (pc := 90) C dX11_takes_90 0 rfl ?_
  obtain ⟨a5, ea5, h⟩ := h
  refine r_getr (pc := 91) C fL_X11_21 dX11_takes_91 o_v0 ea5 ?_
  refine r_iload_n (pc := 94) C dX11_takes_94 2 rfl ?_
  obtain ⟨o_a5, h⟩ := h
  obtain ⟨i6, h⟩ := h
  refine r_iald (pc := 95) C dX11_takes_95 o_a5 i6 ?_
  refine r_topi (fun x7 ex7 => ?_)
  have h := h x7 ex7
  obtain ⟨o_a4, h⟩ := h
  obtain ⟨i8, h⟩ := h
  refine r_iast (pc := 96) C dX11_takes_96 o_a4 i8 ?_
  refine r_heap (fun S9 eS9 => ?_)
  have h := h S9 eS9
  have o_a1 := ob_I eS9 o_a1
  have o_a4 := ob_I eS9 o_a4
  have o_a5 := ob_I eS9 o_a5
  have o_v0 := ob_I eS9 o_v0
  refine r_aload_n (pc := 97) C dX11_takes_97 0 rfl ?_
  obtain ⟨a10, ea10, h⟩ := h
  refine r_getr (pc := 98) C fL_X11_25 dX11_takes_98 o_v0 ea10 ?_
  refine r_iload_n (pc := 101) C dX11_takes_101 1 rfl ?_
  refine r_iload (pc := 102) C dX11_takes_102 3 rfl ?_
  obtain ⟨o_a10, h⟩ := h
  obtain ⟨i11, h⟩ := h
  refine r_iast (pc := 104) C dX11_takes_104 o_a10 i11 ?_
  refine r_heap (fun S12 eS12 => ?_)
  have h := h S12 eS12
  have o_a1 := ob_I eS12 o_a1
  have o_a10 := ob_I eS12 o_a10
  have o_a4 := ob_I eS12 o_a4
  have o_a5 := ob_I eS12 o_a5
  have o_v0 := ob_I eS12 o_v0
  exact r_vret (pc := 105) C E ht dX11_takes_105 (by decide) (by decide) h
def P_X11_takes_0 (Q : HS → Prop) (v0 : Nat) (v1 : Int32) (v2 : Int32) (v3 : Int64) (v5 : Int32) (S : HS) : Prop := ob S v0 11 ∧ (∃ a1 : Nat, fR S v0 16 = some a1 ∧ (ob S a1 14 ∧ (vp_in v2 (hN S a1) ∧ ∀ x3 : Int64, x3 = fJ S a1 v2.toNatClampNeg → (((¬ (lg_cmp x3 (-1 : Int64)) = 0) → (∃ a5 : Nat, fR S v0 16 = some a5 ∧ (ob S a5 14 ∧ (vp_in v2 (hN S a5) ∧ ∀ x7 : Int64, x7 = fJ S a5 v2.toNatClampNeg → (∀ x8 : Int64, x8 = v3 + x7 → (∃ a9 : Nat, fR S v0 16 = some a9 ∧ (ob S a9 14 ∧ (vp_in v1 (hN S a9) ∧ ∀ x11 : Int64, x11 = fJ S a9 v1.toNatClampNeg → ((((lg_cmp x11 (-1 : Int64)) = 0) → (P_X11_takes_77 Q v0 v1 v2 v5 x8 S)) ∧ ((¬ (lg_cmp x11 (-1 : Int64)) = 0) → (∃ a13 : Nat, fR S v0 16 = some a13 ∧ (ob S a13 14 ∧ (vp_in v1 (hN S a13) ∧ ∀ x15 : Int64, x15 = fJ S a13 v1.toNatClampNeg → (((0 < (lg_cmp x8 x15)) → (Q S)) ∧ ((¬ 0 < (lg_cmp x8 x15)) → (∃ a17 : Nat, fR S v0 16 = some a17 ∧ (ob S a17 14 ∧ (vp_in v1 (hN S a17) ∧ ∀ x19 : Int64, x19 = fJ S a17 v1.toNatClampNeg → (((¬ (lg_cmp x8 x19) = 0) → (P_X11_takes_77 Q v0 v1 v2 v5 x8 S)) ∧ (((lg_cmp x8 x19) = 0) → (∃ a21 : Nat, fR S v0 17 = some a21 ∧ (ob S a21 13 ∧ (vp_in v2 (hN S a21) ∧ ∀ x23 : Int32, x23 = fI S a21 v2.toNatClampNeg → (∃ a24 : Nat, fR S v0 17 = some a24 ∧ (ob S a24 13 ∧ (vp_in v1 (hN S a24) ∧ ∀ x26 : Int32, x26 = fI S a24 v1.toNatClampNeg → (((x23 < x26) → (P_X11_takes_77 Q v0 v1 v2 v5 x8 S)) ∧ ((¬ x23 < x26) → (Q S))))))))))))))))))))))))))))) ∧ (((lg_cmp x3 (-1 : Int64)) = 0) → (Q S))))))
set_option maxRecDepth 20000 in
set_option maxHeartbeats 4000000 in
theorem T_X11_takes_0 {X : CX} {Q : HS → Prop} (C : Cx X cX11_takes RX11 8 rm_X11_takes) (E : ReV X rm_X11_takes Q) (ht : (xh X).sig.returnType = none) (hn : (xh X).name = yX11_takes.name) {v0 : Nat} {v1 : Int32} {v2 : Int32} {v3 : Int64} {v5 : Int32} {S : HS} (h : P_X11_takes_0 Q v0 v1 v2 v3 v5 S) : WS X 8 0 0 0 [(0, .ref v0), (1, .int v1), (2, .int v2), (3, .long v3), (5, .int v5)] [] S := by
  refine r_aload_n (pc := 0) C dX11_takes_0 0 rfl ?_
  obtain ⟨o_v0, h⟩ := h
  obtain ⟨a1, ea1, h⟩ := h
  refine r_getr (pc := 1) C fL_X11_17 dX11_takes_1 o_v0 ea1 ?_
  refine r_iload_n (pc := 4) C dX11_takes_4 2 rfl ?_
  obtain ⟨o_a1, h⟩ := h
  obtain ⟨i2, h⟩ := h
  refine r_lald (pc := 5) C dX11_takes_5 o_a1 i2 ?_
  refine r_topl (fun x3 ex3 => ?_)
  have h := h x3 ex3
  refine r_ldc2 (pc := 6) C (v := (-1 : Int64)) dX11_takes_6 g_1690 ?_
  refine r_lcmp (pc := 9) C dX11_takes_9 ?_
  refine r_if_ne (pc := 10) C (tgt := 14) dX11_takes_10 (by decide) (fun c4 => ?_) (fun c4 => ?_)
  · have h := h.1 c4
    refine r_lload_n (pc := 14) C dX11_takes_14 3 rfl ?_
    refine r_aload_n (pc := 15) C dX11_takes_15 0 rfl ?_
    obtain ⟨a5, ea5, h⟩ := h
    refine r_getr (pc := 16) C fL_X11_17 dX11_takes_16 o_v0 ea5 ?_
    refine r_iload_n (pc := 19) C dX11_takes_19 2 rfl ?_
    obtain ⟨o_a5, h⟩ := h
    obtain ⟨i6, h⟩ := h
    refine r_lald (pc := 20) C dX11_takes_20 o_a5 i6 ?_
    refine r_topl (fun x7 ex7 => ?_)
    have h := h x7 ex7
    refine r_ladd (pc := 21) C dX11_takes_21 ?_
    refine r_topl (fun x8 ex8 => ?_)
    have h := h x8 ex8
    refine r_lstore (pc := 22) C dX11_takes_22 (by decide) (lv' := [(6, .long x8), (0, .ref v0), (1, .int v1), (2, .int v2), (3, .long v3), (5, .int v5)]) rfl ?_
    refine r_aload_n (pc := 24) C dX11_takes_24 1 rfl ?_
    obtain ⟨a9, ea9, h⟩ := h
    refine r_getr (pc := 25) C fL_X11_17 dX11_takes_25 o_v0 ea9 ?_
    refine r_iload_n (pc := 28) C dX11_takes_28 2 rfl ?_
    obtain ⟨o_a9, h⟩ := h
    obtain ⟨i10, h⟩ := h
    refine r_lald (pc := 29) C dX11_takes_29 o_a9 i10 ?_
    refine r_topl (fun x11 ex11 => ?_)
    have h := h x11 ex11
    refine r_ldc2 (pc := 30) C (v := (-1 : Int64)) dX11_takes_30 g_1690 ?_
    refine r_lcmp (pc := 33) C dX11_takes_33 ?_
    refine r_if_eq (pc := 34) C (tgt := 77) dX11_takes_34 (by decide) (fun c12 => ?_) (fun c12 => ?_)
    · have h := h.1 c12
      exact r_sub [1, 2, 3, 5, 0] rfl (T_X11_takes_77 C E ht hn h)
    · have h := h.2 c12
      refine r_lload (pc := 37) C dX11_takes_37 0 rfl ?_
      refine r_aload_n (pc := 39) C dX11_takes_39 1 rfl ?_
      obtain ⟨a13, ea13, h⟩ := h
      refine r_getr (pc := 40) C fL_X11_17 dX11_takes_40 o_v0 ea13 ?_
      refine r_iload_n (pc := 43) C dX11_takes_43 2 rfl ?_
      obtain ⟨o_a13, h⟩ := h
      obtain ⟨i14, h⟩ := h
      refine r_lald (pc := 44) C dX11_takes_44 o_a13 i14 ?_
      refine r_topl (fun x15 ex15 => ?_)
      have h := h x15 ex15
      refine r_lcmp (pc := 45) C dX11_takes_45 ?_
      refine r_if_gt (pc := 46) C (tgt := 76) dX11_takes_46 (by decide) (fun c16 => ?_) (fun c16 => ?_)
      · have h := h.1 c16
        exact r_vret (pc := 76) C E ht dX11_takes_76 (by decide) (by decide) h
      · have h := h.2 c16
        refine r_lload (pc := 49) C dX11_takes_49 0 rfl ?_
        refine r_aload_n (pc := 51) C dX11_takes_51 1 rfl ?_
        obtain ⟨a17, ea17, h⟩ := h
        refine r_getr (pc := 52) C fL_X11_17 dX11_takes_52 o_v0 ea17 ?_
        refine r_iload_n (pc := 55) C dX11_takes_55 2 rfl ?_
        obtain ⟨o_a17, h⟩ := h
        obtain ⟨i18, h⟩ := h
        refine r_lald (pc := 56) C dX11_takes_56 o_a17 i18 ?_
        refine r_topl (fun x19 ex19 => ?_)
        have h := h x19 ex19
        refine r_lcmp (pc := 57) C dX11_takes_57 ?_
        refine r_if_ne (pc := 58) C (tgt := 77) dX11_takes_58 (by decide) (fun c20 => ?_) (fun c20 => ?_)
        · have h := h.1 c20
          exact r_sub [1, 2, 3, 5, 0] rfl (T_X11_takes_77 C E ht hn h)
        · have h := h.2 c20
          refine r_aload_n (pc := 61) C dX11_takes_61 1 rfl ?_
          obtain ⟨a21, ea21, h⟩ := h
          refine r_getr (pc := 62) C fL_X11_21 dX11_takes_62 o_v0 ea21 ?_
          refine r_iload_n (pc := 65) C dX11_takes_65 3 rfl ?_
          obtain ⟨o_a21, h⟩ := h
          obtain ⟨i22, h⟩ := h
          refine r_iald (pc := 66) C dX11_takes_66 o_a21 i22 ?_
          refine r_topi (fun x23 ex23 => ?_)
          have h := h x23 ex23
          refine r_aload_n (pc := 67) C dX11_takes_67 1 rfl ?_
          obtain ⟨a24, ea24, h⟩ := h
          refine r_getr (pc := 68) C fL_X11_21 dX11_takes_68 o_v0 ea24 ?_
          refine r_iload_n (pc := 71) C dX11_takes_71 2 rfl ?_
          obtain ⟨o_a24, h⟩ := h
          obtain ⟨i25, h⟩ := h
          refine r_iald (pc := 72) C dX11_takes_72 o_a24 i25 ?_
          refine r_topi (fun x26 ex26 => ?_)
          have h := h x26 ex26
          refine r_icmp_lt (pc := 73) C (tgt := 77) dX11_takes_73 (by decide) (fun c27 => ?_) (fun c27 => ?_)
          · have h := h.1 c27
            exact r_sub [1, 2, 3, 5, 0] rfl (T_X11_takes_77 C E ht hn h)
          · have h := h.2 c27
            exact r_vret (pc := 76) C E ht dX11_takes_76 (by decide) (by decide) h
  · have h := h.2 c4
    exact r_vret (pc := 13) C E ht dX11_takes_13 (by decide) (by decide) h
def P_X11_takes (v0 : Nat) (v1 : Int32) (v2 : Int32) (v3 : Int64) (v5 : Int32) (Q : HS → Prop) (S : HS) : Prop := P_X11_takes_0 Q v0 v1 v2 v3 v5 S
theorem c_X11_takes {l : Launch} {Ee : EE} {S : HS} {v0 : Nat} {v1 : Int32} {v2 : Int32} {v3 : Int64} {v5 : Int32} {Q : HS → Prop} (h : P_X11_takes v0 v1 v2 v3 v5 Q S) : MV l yX11_takes cX11_takes 8 none rm_X11_takes Ee S [.ref v0, .int v1, .int v2, .long v3, .int v5] Q :=
  openV (by decide) (Nat.le_of_ble_eq_true rfl) (fun X C E ht hn hE hl => by subst hE; exact r_sub [0, 1, 2, 3, 4] rfl (T_X11_takes_0 C E ht hn h))
def rm_X11_waitsOf : Room := { frames := 2, cells := 0, slots := 0, locals := 43 }
def P_X11_waitsOf_0 (Q : Int64 → HS → Prop) (v0 : Nat) (v1 : Int32) (v2 : Int32) (v3 : Int32) (S : HS) : Prop := ob S v0 11 ∧ (P_X11_hourOf v0 v3 (fun x3 S1 => Gr S S1 → (∃ a4 : Nat, fR S1 v0 3 = some a4 ∧ (ob S1 a4 10 ∧ (∃ a5 : Nat, fR S1 a4 18 = some a5 ∧ (ob S1 a5 15 ∧ (vp_in v2 (hN S1 a5) ∧ ∀ x7 : Int32, x7 = fI S1 a5 v2.toNatClampNeg → (((¬ x7 = 0) → (Q (0 : Int64) S1)) ∧ ((x7 = 0) → (∃ a9 : Nat, fR S1 v0 3 = some a9 ∧ (ob S1 a9 10 ∧ (∀ x10 : Int32, x10 = fI S1 a9 1 → (((x3 < x10) → (P_X11_drips v0 v1 v2 (fun x14 S12 => Gr S1 S12 → (∃ a15 : Nat, fR S12 v0 3 = some a15 ∧ (ob S12 a15 10 ∧ (∃ a16 : Nat, fR S12 a15 11 = some a16 ∧ (ob S12 a16 13 ∧ (vp_in x3 (hN S12 a16) ∧ ∀ x18 : Int32, x18 = fI S12 a16 x3.toNatClampNeg → (Q (x14 * x18.toInt64) S12))))))) S1)) ∧ ((¬ x3 < x10) → (Q (0 : Int64) S1)))))))))))))) S)
set_option maxRecDepth 20000 in
set_option maxHeartbeats 4000000 in
theorem T_X11_waitsOf_0 {X : CX} {Q : Int64 → HS → Prop} (C : Cx X cX11_waitsOf RX11 5 rm_X11_waitsOf) (E : ReJ X rm_X11_waitsOf Q) (ht : (xh X).sig.returnType = (some .long)) (hn : (xh X).name = yX11_waitsOf.name) {v0 : Nat} {v1 : Int32} {v2 : Int32} {v3 : Int32} {S : HS} (h : P_X11_waitsOf_0 Q v0 v1 v2 v3 S) : WS X 5 0 0 0 [(0, .ref v0), (1, .int v1), (2, .int v2), (3, .int v3)] [] S := by
  refine r_aload_n (pc := 0) C dX11_waitsOf_0 0 rfl ?_
  refine r_iload_n (pc := 1) C dX11_waitsOf_1 3 rfl ?_
  obtain ⟨o_v0, h⟩ := h
  refine r_callVi0 (pc := 2) C (rest := []) (a := v0) o_v0 [.int v3] yV_X11_hourOf g_1707 (c_X11_hourOf h) dX11_waitsOf_2 rfl rfl (Nat.le_of_ble_eq_true rfl) ⟨by decide, by decide⟩ ⟨by decide, by decide⟩ ⟨rfl, rfl⟩ (fun x3 S1 h g2 => ?_)
  have h := h g2
  have o_v0 := gr_ob g2 o_v0
  refine r_istore (pc := 5) C dX11_waitsOf_5 (by decide) (lv' := [(4, .int x3), (0, .ref v0), (1, .int v1), (2, .int v2), (3, .int v3)]) rfl ?_
  refine r_aload_n (pc := 7) C dX11_waitsOf_7 1 rfl ?_
  obtain ⟨a4, ea4, h⟩ := h
  refine r_getr (pc := 8) C fL_X11_338 dX11_waitsOf_8 o_v0 ea4 ?_
  obtain ⟨o_a4, h⟩ := h
  obtain ⟨a5, ea5, h⟩ := h
  refine r_getNr (pc := 11) C fN_X11_258 dX11_waitsOf_11 o_a4 ea5 ?_
  refine r_iload_n (pc := 14) C dX11_waitsOf_14 3 rfl ?_
  obtain ⟨o_a5, h⟩ := h
  obtain ⟨i6, h⟩ := h
  refine r_zald (pc := 15) C dX11_waitsOf_15 o_a5 i6 ?_
  refine r_topi (fun x7 ex7 => ?_)
  have h := h x7 ex7
  refine r_if_ne (pc := 16) C (tgt := 31) dX11_waitsOf_16 (by decide) (fun c8 => ?_) (fun c8 => ?_)
  · have h := h.1 c8
    refine r_lconst (pc := 31) C (v := (0 : Int64)) dX11_waitsOf_31 (by decide) ?_
    refine r_goto (pc := 32) C (tgt := 53) dX11_waitsOf_32 (by decide) ?_
    exact r_lret (pc := 53) C E ht dX11_waitsOf_53 (by decide) (by decide) h
  · have h := h.2 c8
    refine r_iload (pc := 19) C dX11_waitsOf_19 0 rfl ?_
    refine r_aload_n (pc := 21) C dX11_waitsOf_21 1 rfl ?_
    obtain ⟨a9, ea9, h⟩ := h
    refine r_getr (pc := 22) C fL_X11_338 dX11_waitsOf_22 o_v0 ea9 ?_
    obtain ⟨o_a9, h⟩ := h
    refine r_getNi (pc := 25) C fN_X11_219 dX11_waitsOf_25 o_a9 ?_
    refine r_topi (fun x10 ex10 => ?_)
    have h := h x10 ex10
    refine r_icmp_lt (pc := 28) C (tgt := 35) dX11_waitsOf_28 (by decide) (fun c11 => ?_) (fun c11 => ?_)
    · have h := h.1 c11
      refine r_aload_n (pc := 35) C dX11_waitsOf_35 1 rfl ?_
      refine r_iload_n (pc := 36) C dX11_waitsOf_36 2 rfl ?_
      refine r_iload_n (pc := 37) C dX11_waitsOf_37 3 rfl ?_
      refine r_callVl0 (pc := 38) C (rest := []) (a := v0) o_v0 [.int v1, .int v2] yV_X11_drips g_1723 (c_X11_drips h) dX11_waitsOf_38 rfl rfl (Nat.le_of_ble_eq_true rfl) ⟨by decide, by decide⟩ ⟨by decide, by decide⟩ ⟨rfl, rfl⟩ (fun x14 S12 h g13 => ?_)
      have h := h g13
      have o_a4 := gr_ob g13 o_a4
      have o_a5 := gr_ob g13 o_a5
      have o_a9 := gr_ob g13 o_a9
      have o_v0 := gr_ob g13 o_v0
      refine r_aload_n (pc := 41) C dX11_waitsOf_41 1 rfl ?_
      obtain ⟨a15, ea15, h⟩ := h
      refine r_getr (pc := 42) C fL_X11_338 dX11_waitsOf_42 o_v0 ea15 ?_
      obtain ⟨o_a15, h⟩ := h
      obtain ⟨a16, ea16, h⟩ := h
      refine r_getNr (pc := 45) C fN_X11_246 dX11_waitsOf_45 o_a15 ea16 ?_
      refine r_iload (pc := 48) C dX11_waitsOf_48 0 rfl ?_
      obtain ⟨o_a16, h⟩ := h
      obtain ⟨i17, h⟩ := h
      refine r_iald (pc := 50) C dX11_waitsOf_50 o_a16 i17 ?_
      refine r_topi (fun x18 ex18 => ?_)
      have h := h x18 ex18
      refine r_i2l (pc := 51) C dX11_waitsOf_51 ?_
      refine r_lmul (pc := 52) C dX11_waitsOf_52 ?_
      exact r_lret (pc := 53) C E ht dX11_waitsOf_53 (by decide) (by decide) h
    · have h := h.2 c11
      refine r_lconst (pc := 31) C (v := (0 : Int64)) dX11_waitsOf_31 (by decide) ?_
      refine r_goto (pc := 32) C (tgt := 53) dX11_waitsOf_32 (by decide) ?_
      exact r_lret (pc := 53) C E ht dX11_waitsOf_53 (by decide) (by decide) h
def P_X11_waitsOf (v0 : Nat) (v1 : Int32) (v2 : Int32) (v3 : Int32) (Q : Int64 → HS → Prop) (S : HS) : Prop := P_X11_waitsOf_0 Q v0 v1 v2 v3 S
theorem c_X11_waitsOf {l : Launch} {Ee : EE} {S : HS} {v0 : Nat} {v1 : Int32} {v2 : Int32} {v3 : Int32} {Q : Int64 → HS → Prop} (h : P_X11_waitsOf v0 v1 v2 v3 Q S) : MJ l yX11_waitsOf cX11_waitsOf 5 (some .long) rm_X11_waitsOf Ee S [.ref v0, .int v1, .int v2, .int v3] Q :=
  openJ (by decide) (Nat.le_of_ble_eq_true rfl) (fun X C E ht hn hE hl => by subst hE; exact r_sub [0, 1, 2, 3] rfl (T_X11_waitsOf_0 C E ht hn h))
def rm_X11_tries : Room := { frames := 7, cells := 0, slots := 0, locals := 189 }
def P_X11_tries_140 (Q : HS → Prop) (X3 : Nat → Int32 → Int32 → Int32 → Int32 → Int32 → HS → Prop) (X18 : Nat → Int32 → Int32 → Int32 → Int32 → Int32 → Int32 → HS → Prop) (X53 : Nat → Int32 → Int32 → Int32 → Int32 → Int32 → Int32 → Int32 → HS → Prop) (v0 : Nat) (v1 : Int32) (v2 : Int32) (v3 : Int32) (v4 : Int32) (v5 : Int32) (v6 : Int32) (v7 : Int32) (S : HS) : Prop := ∀ x1 : Int32, x1 = v7 + (1 : Int32) → (X53 v0 v1 v2 v3 v4 v5 v6 x1 S)
set_option maxRecDepth 20000 in
set_option maxHeartbeats 4000000 in
theorem T_X11_tries_140 {X : CX} {Q : HS → Prop} (C : Cx X cX11_tries RX11 9 rm_X11_tries) (E : ReV X rm_X11_tries Q) (ht : (xh X).sig.returnType = none) (hn : (xh X).name = yX11_tries.name) {X3 : Nat → Int32 → Int32 → Int32 → Int32 → Int32 → HS → Prop} (hX3 : ∀ (v0 : Nat) (v1 : Int32) (v2 : Int32) (v3 : Int32) (v4 : Int32) (v5 : Int32) (S : HS), X3 v0 v1 v2 v3 v4 v5 S → WS X 9 0 0 3 [(0, .ref v0), (1, .int v1), (2, .int v2), (3, .int v3), (4, .int v4), (5, .int v5)] [] S) {X18 : Nat → Int32 → Int32 → Int32 → Int32 → Int32 → Int32 → HS → Prop} (hX18 : ∀ (v0 : Nat) (v1 : Int32) (v2 : Int32) (v3 : Int32) (v4 : Int32) (v5 : Int32) (v6 : Int32) (S : HS), X18 v0 v1 v2 v3 v4 v5 v6 S → WS X 9 0 0 18 [(0, .ref v0), (1, .int v1), (2, .int v2), (3, .int v3), (4, .int v4), (5, .int v5), (6, .int v6)] [] S) {X53 : Nat → Int32 → Int32 → Int32 → Int32 → Int32 → Int32 → Int32 → HS → Prop} (hX53 : ∀ (v0 : Nat) (v1 : Int32) (v2 : Int32) (v3 : Int32) (v4 : Int32) (v5 : Int32) (v6 : Int32) (v7 : Int32) (S : HS), X53 v0 v1 v2 v3 v4 v5 v6 v7 S → WS X 9 0 0 53 [(0, .ref v0), (1, .int v1), (2, .int v2), (3, .int v3), (4, .int v4), (5, .int v5), (6, .int v6), (7, .int v7)] [] S) {v0 : Nat} {v1 : Int32} {v2 : Int32} {v3 : Int32} {v4 : Int32} {v5 : Int32} {v6 : Int32} {v7 : Int32} {S : HS} (h : P_X11_tries_140 Q X3 X18 X53 v0 v1 v2 v3 v4 v5 v6 v7 S) : WS X 9 0 0 140 [(0, .ref v0), (1, .int v1), (2, .int v2), (3, .int v3), (4, .int v4), (5, .int v5), (6, .int v6), (7, .int v7)] [] S := by
  obtain ⟨x1, ex1⟩ : ∃ z : Int32, z = v7 + (1 : Int32) := ⟨_, rfl⟩
  have h := h x1 ex1
  refine r_iinc (pc := 140) C (v := x1) (lv' := [(7, .int x1), (0, .ref v0), (1, .int v1), (2, .int v2), (3, .int v3), (4, .int v4), (5, .int v5), (6, .int v6)]) dX11_tries_140 7 rfl ex1.symm (by decide) rfl ?_
  refine r_goto (pc := 143) C (tgt := 53) dX11_tries_143 (by decide) ?_
  exact r_sub [1, 2, 3, 4, 5, 6, 7, 0] rfl (hX53 v0 v1 v2 v3 v4 v5 v6 x1 S h)
def P_X11_tries_146 (Q : HS → Prop) (X3 : Nat → Int32 → Int32 → Int32 → Int32 → Int32 → HS → Prop) (X18 : Nat → Int32 → Int32 → Int32 → Int32 → Int32 → Int32 → HS → Prop) (v0 : Nat) (v1 : Int32) (v2 : Int32) (v3 : Int32) (v4 : Int32) (v5 : Int32) (v6 : Int32) (S : HS) : Prop := ∀ x1 : Int32, x1 = v6 + (1 : Int32) → (X18 v0 v1 v2 v3 v4 v5 x1 S)
set_option maxRecDepth 20000 in
set_option maxHeartbeats 4000000 in
theorem T_X11_tries_146 {X : CX} {Q : HS → Prop} (C : Cx X cX11_tries RX11 9 rm_X11_tries) (E : ReV X rm_X11_tries Q) (ht : (xh X).sig.returnType = none) (hn : (xh X).name = yX11_tries.name) {X3 : Nat → Int32 → Int32 → Int32 → Int32 → Int32 → HS → Prop} (hX3 : ∀ (v0 : Nat) (v1 : Int32) (v2 : Int32) (v3 : Int32) (v4 : Int32) (v5 : Int32) (S : HS), X3 v0 v1 v2 v3 v4 v5 S → WS X 9 0 0 3 [(0, .ref v0), (1, .int v1), (2, .int v2), (3, .int v3), (4, .int v4), (5, .int v5)] [] S) {X18 : Nat → Int32 → Int32 → Int32 → Int32 → Int32 → Int32 → HS → Prop} (hX18 : ∀ (v0 : Nat) (v1 : Int32) (v2 : Int32) (v3 : Int32) (v4 : Int32) (v5 : Int32) (v6 : Int32) (S : HS), X18 v0 v1 v2 v3 v4 v5 v6 S → WS X 9 0 0 18 [(0, .ref v0), (1, .int v1), (2, .int v2), (3, .int v3), (4, .int v4), (5, .int v5), (6, .int v6)] [] S) {v0 : Nat} {v1 : Int32} {v2 : Int32} {v3 : Int32} {v4 : Int32} {v5 : Int32} {v6 : Int32} {S : HS} (h : P_X11_tries_146 Q X3 X18 v0 v1 v2 v3 v4 v5 v6 S) : WS X 9 0 0 146 [(0, .ref v0), (1, .int v1), (2, .int v2), (3, .int v3), (4, .int v4), (5, .int v5), (6, .int v6)] [] S := by
  obtain ⟨x1, ex1⟩ : ∃ z : Int32, z = v6 + (1 : Int32) := ⟨_, rfl⟩
  have h := h x1 ex1
  refine r_iinc (pc := 146) C (v := x1) (lv' := [(6, .int x1), (0, .ref v0), (1, .int v1), (2, .int v2), (3, .int v3), (4, .int v4), (5, .int v5)]) dX11_tries_146 6 rfl ex1.symm (by decide) rfl ?_
  refine r_goto (pc := 149) C (tgt := 18) dX11_tries_149 (by decide) ?_
  exact r_sub [1, 2, 3, 4, 5, 6, 0] rfl (hX18 v0 v1 v2 v3 v4 v5 x1 S h)
def B_X11_tries_53 (Q : HS → Prop) (X3 : Nat → Int32 → Int32 → Int32 → Int32 → Int32 → HS → Prop) (X18 : Nat → Int32 → Int32 → Int32 → Int32 → Int32 → Int32 → HS → Prop) (X53 : Nat → Int32 → Int32 → Int32 → Int32 → Int32 → Int32 → Int32 → HS → Prop) (v0 : Nat) (v1 : Int32) (v2 : Int32) (v3 : Int32) (v4 : Int32) (v5 : Int32) (v6 : Int32) (v7 : Int32) (S : HS) : Prop := ob S v0 11 ∧ (∃ a1 : Nat, fR S v0 3 = some a1 ∧ (ob S a1 10 ∧ (∃ a2 : Nat, fR S a1 25 = some a2 ∧ (ob S a2 13 ∧ (vp_in v1 (hN S a2) ∧ ∀ x4 : Int32, x4 = fI S a2 v1.toNatClampNeg → (((x4 < v7) → (P_X11_tries_146 Q X3 X18 v0 v1 v2 v3 v4 v5 v6 S)) ∧ ((¬ x4 < v7) → (∃ a6 : Nat, fR S v0 3 = some a6 ∧ (ob S a6 10 ∧ (P_X10_minutes a6 v5 v7 (fun x9 S7 => Gr S S7 → (∀ x10 : Int32, x10 = v3 + x9 → (((v4 < x10) → (P_X11_tries_140 Q X3 X18 X53 v0 v1 v2 v3 v4 v5 v6 v7 S7)) ∧ ((¬ v4 < x10) → (P_X11_spotOf v2 v3 (fun x14 S12 => Gr S7 S12 → (∃ a15 : Nat, fR S12 v0 3 = some a15 ∧ (ob S12 a15 10 ∧ (P_X10_ends a15 v5 v6 (fun x18 S16 => Gr S12 S16 → (P_X11_spotOf x18 x10 (fun x21 S19 => Gr S16 S19 → (P_X11_meanOf v0 v1 v5 v6 v3 v7 (fun x24 S22 => Gr S19 S22 → (P_X11_takes v0 x14 x21 x24 ((((100 : Int32) * v5) + ((10 : Int32) * v6)) + v7) (fun S25 => Gr S22 S25 → (P_X11_tries_140 Q X3 X18 X53 v0 v1 v2 v3 v4 v5 v6 v7 S25)) S22)) S19)) S16)) S12)))) S7))))) S))))))))))
def P_X11_tries_53 (Q : HS → Prop) (X3 : Nat → Int32 → Int32 → Int32 → Int32 → Int32 → HS → Prop) (X18 : Nat → Int32 → Int32 → Int32 → Int32 → Int32 → Int32 → HS → Prop) (v0 : Nat) (v1 : Int32) (v2 : Int32) (v3 : Int32) (v4 : Int32) (v5 : Int32) (v6 : Int32) (v7 : Int32) (S : HS) : Prop := ∀ X53 : Nat → Int32 → Int32 → Int32 → Int32 → Int32 → Int32 → Int32 → HS → Prop, (∀ (v0 : Nat) (v1 : Int32) (v2 : Int32) (v3 : Int32) (v4 : Int32) (v5 : Int32) (v6 : Int32) (v7 : Int32) (S : HS), B_X11_tries_53 Q X3 X18 X53 v0 v1 v2 v3 v4 v5 v6 v7 S → X53 v0 v1 v2 v3 v4 v5 v6 v7 S) → X53 v0 v1 v2 v3 v4 v5 v6 v7 S
set_option maxRecDepth 20000 in
set_option maxHeartbeats 4000000 in
theorem TB_X11_tries_53 {X : CX} {Q : HS → Prop} (C : Cx X cX11_tries RX11 9 rm_X11_tries) (E : ReV X rm_X11_tries Q) (ht : (xh X).sig.returnType = none) (hn : (xh X).name = yX11_tries.name) {X3 : Nat → Int32 → Int32 → Int32 → Int32 → Int32 → HS → Prop} (hX3 : ∀ (v0 : Nat) (v1 : Int32) (v2 : Int32) (v3 : Int32) (v4 : Int32) (v5 : Int32) (S : HS), X3 v0 v1 v2 v3 v4 v5 S → WS X 9 0 0 3 [(0, .ref v0), (1, .int v1), (2, .int v2), (3, .int v3), (4, .int v4), (5, .int v5)] [] S) {X18 : Nat → Int32 → Int32 → Int32 → Int32 → Int32 → Int32 → HS → Prop} (hX18 : ∀ (v0 : Nat) (v1 : Int32) (v2 : Int32) (v3 : Int32) (v4 : Int32) (v5 : Int32) (v6 : Int32) (S : HS), X18 v0 v1 v2 v3 v4 v5 v6 S → WS X 9 0 0 18 [(0, .ref v0), (1, .int v1), (2, .int v2), (3, .int v3), (4, .int v4), (5, .int v5), (6, .int v6)] [] S) {X53 : Nat → Int32 → Int32 → Int32 → Int32 → Int32 → Int32 → Int32 → HS → Prop} (hX53 : ∀ (v0 : Nat) (v1 : Int32) (v2 : Int32) (v3 : Int32) (v4 : Int32) (v5 : Int32) (v6 : Int32) (v7 : Int32) (S : HS), X53 v0 v1 v2 v3 v4 v5 v6 v7 S → WS X 9 0 0 53 [(0, .ref v0), (1, .int v1), (2, .int v2), (3, .int v3), (4, .int v4), (5, .int v5), (6, .int v6), (7, .int v7)] [] S) {v0 : Nat} {v1 : Int32} {v2 : Int32} {v3 : Int32} {v4 : Int32} {v5 : Int32} {v6 : Int32} {v7 : Int32} {S : HS} (h : B_X11_tries_53 Q X3 X18 X53 v0 v1 v2 v3 v4 v5 v6 v7 S) : WS X 9 0 0 53 [(0, .ref v0), (1, .int v1), (2, .int v2), (3, .int v3), (4, .int v4), (5, .int v5), (6, .int v6), (7, .int v7)] [] S := by
  refine r_iload (pc := 53) C dX11_tries_53 7 rfl ?_
  refine r_aload_n (pc := 55) C dX11_tries_55 0 rfl ?_
  obtain ⟨o_v0, h⟩ := h
  obtain ⟨a1, ea1, h⟩ := h
  refine r_getr (pc := 56) C fL_X11_338 dX11_tries_56 o_v0 ea1 ?_
  obtain ⟨o_a1, h⟩ := h
  obtain ⟨a2, ea2, h⟩ := h
  refine r_getNr (pc := 59) C fN_X11_320 dX11_tries_59 o_a1 ea2 ?_
  refine r_iload_n (pc := 62) C dX11_tries_62 1 rfl ?_
  obtain ⟨o_a2, h⟩ := h
  obtain ⟨i3, h⟩ := h
  refine r_iald (pc := 63) C dX11_tries_63 o_a2 i3 ?_
  refine r_topi (fun x4 ex4 => ?_)
  have h := h x4 ex4
  refine r_icmp_gt (pc := 64) C (tgt := 146) dX11_tries_64 (by decide) (fun c5 => ?_) (fun c5 => ?_)
  · have h := h.1 c5
    exact r_sub [0, 1, 2, 3, 4, 5, 6] rfl (T_X11_tries_146 C E ht hn hX3 hX18 h)
  · have h := h.2 c5
    refine r_iload_n (pc := 67) C dX11_tries_67 3 rfl ?_
    refine r_aload_n (pc := 68) C dX11_tries_68 0 rfl ?_
    obtain ⟨a6, ea6, h⟩ := h
    refine r_getr (pc := 69) C fL_X11_338 dX11_tries_69 o_v0 ea6 ?_
    refine r_iload (pc := 72) C dX11_tries_72 5 rfl ?_
    refine r_iload (pc := 74) C dX11_tries_74 7 rfl ?_
    obtain ⟨o_a6, h⟩ := h
    refine r_callVi0 (pc := 76) C (rest := [.int v3]) (a := a6) o_a6 [.int v5, .int v7] yV_X10_minutes g_1607 (c_X10_minutes h) dX11_tries_76 rfl rfl (Nat.le_of_ble_eq_true rfl) ⟨by decide, by decide⟩ ⟨by decide, by decide⟩ ⟨rfl, rfl⟩ (fun x9 S7 h g8 => ?_)
    have h := h g8
    have o_a1 := gr_ob g8 o_a1
    have o_a2 := gr_ob g8 o_a2
    have o_a6 := gr_ob g8 o_a6
    have o_v0 := gr_ob g8 o_v0
    refine r_iadd (pc := 79) C dX11_tries_79 ?_
    refine r_topi (fun x10 ex10 => ?_)
    have h := h x10 ex10
    refine r_istore (pc := 80) C dX11_tries_80 (by decide) (lv' := [(8, .int x10), (0, .ref v0), (1, .int v1), (2, .int v2), (3, .int v3), (4, .int v4), (5, .int v5), (6, .int v6), (7, .int v7)]) rfl ?_
    refine r_iload (pc := 82) C dX11_tries_82 0 rfl ?_
    refine r_iload (pc := 84) C dX11_tries_84 5 rfl ?_
    refine r_icmp_gt (pc := 86) C (tgt := 140) dX11_tries_86 (by decide) (fun c11 => ?_) (fun c11 => ?_)
    · have h := h.1 c11
      exact r_sub [1, 2, 3, 4, 5, 6, 7, 8] rfl (T_X11_tries_140 C E ht hn hX3 hX18 hX53 h)
    · have h := h.2 c11
      refine r_aload_n (pc := 89) C dX11_tries_89 1 rfl ?_
      refine r_iload_n (pc := 90) C dX11_tries_90 3 rfl ?_
      refine r_iload_n (pc := 91) C dX11_tries_91 4 rfl ?_
      refine r_callSi0 (pc := 92) C (rest := [.ref v0]) rfl [.int v2, .int v3] yS_X11_spotOf g_1687 (c_X11_spotOf h) dX11_tries_92 rfl rfl (Nat.le_of_ble_eq_true rfl) ⟨by decide, by decide⟩ ⟨by decide, by decide⟩ ⟨rfl, rfl⟩ (fun x14 S12 h g13 => ?_)
      have h := h g13
      have o_a1 := gr_ob g13 o_a1
      have o_a2 := gr_ob g13 o_a2
      have o_a6 := gr_ob g13 o_a6
      have o_v0 := gr_ob g13 o_v0
      refine r_aload_n (pc := 95) C dX11_tries_95 1 rfl ?_
      obtain ⟨a15, ea15, h⟩ := h
      refine r_getr (pc := 96) C fL_X11_338 dX11_tries_96 o_v0 ea15 ?_
      refine r_iload (pc := 99) C dX11_tries_99 6 rfl ?_
      refine r_iload (pc := 101) C dX11_tries_101 7 rfl ?_
      obtain ⟨o_a15, h⟩ := h
      refine r_callVi0 (pc := 103) C (rest := [.int x14, .ref v0]) (a := a15) o_a15 [.int v5, .int v6] yV_X10_ends g_1699 (c_X10_ends h) dX11_tries_103 rfl rfl (Nat.le_of_ble_eq_true rfl) ⟨by decide, by decide⟩ ⟨by decide, by decide⟩ ⟨rfl, rfl⟩ (fun x18 S16 h g17 => ?_)
      have h := h g17
      have o_a1 := gr_ob g17 o_a1
      have o_a15 := gr_ob g17 o_a15
      have o_a2 := gr_ob g17 o_a2
      have o_a6 := gr_ob g17 o_a6
      have o_v0 := gr_ob g17 o_v0
      refine r_iload (pc := 106) C dX11_tries_106 0 rfl ?_
      refine r_callSi0 (pc := 108) C (rest := [.int x14, .ref v0]) rfl [.int x18, .int x10] yS_X11_spotOf g_1687 (c_X11_spotOf h) dX11_tries_108 rfl rfl (Nat.le_of_ble_eq_true rfl) ⟨by decide, by decide⟩ ⟨by decide, by decide⟩ ⟨rfl, rfl⟩ (fun x21 S19 h g20 => ?_)
      have h := h g20
      have o_a1 := gr_ob g20 o_a1
      have o_a15 := gr_ob g20 o_a15
      have o_a2 := gr_ob g20 o_a2
      have o_a6 := gr_ob g20 o_a6
      have o_v0 := gr_ob g20 o_v0
      refine r_aload_n (pc := 111) C dX11_tries_111 1 rfl ?_
      refine r_iload_n (pc := 112) C dX11_tries_112 2 rfl ?_
      refine r_iload (pc := 113) C dX11_tries_113 6 rfl ?_
      refine r_iload (pc := 115) C dX11_tries_115 7 rfl ?_
      refine r_iload_n (pc := 117) C dX11_tries_117 4 rfl ?_
      refine r_iload (pc := 118) C dX11_tries_118 8 rfl ?_
      refine r_callVl0 (pc := 120) C (rest := [.int x21, .int x14, .ref v0]) (a := v0) o_v0 [.int v1, .int v5, .int v6, .int v3, .int v7] yV_X11_meanOf g_1703 (c_X11_meanOf h) dX11_tries_120 rfl rfl (Nat.le_of_ble_eq_true rfl) ⟨by decide, by decide⟩ ⟨by decide, by decide⟩ ⟨rfl, rfl⟩ (fun x24 S22 h g23 => ?_)
      have h := h g23
      have o_a1 := gr_ob g23 o_a1
      have o_a15 := gr_ob g23 o_a15
      have o_a2 := gr_ob g23 o_a2
      have o_a6 := gr_ob g23 o_a6
      have o_v0 := gr_ob g23 o_v0
      refine r_bipush (pc := 123) C (v := (100 : Int32)) dX11_tries_123 (by decide) ?_
      refine r_iload (pc := 125) C dX11_tries_125 6 rfl ?_
      refine r_imul (pc := 127) C dX11_tries_127 ?_
      refine r_bipush (pc := 128) C (v := (10 : Int32)) dX11_tries_128 (by decide) ?_
      refine r_iload (pc := 130) C dX11_tries_130 7 rfl ?_
      refine r_imul (pc := 132) C dX11_tries_132 ?_
      refine r_iadd (pc := 133) C dX11_tries_133 ?_
      refine r_iload (pc := 134) C dX11_tries_134 8 rfl ?_
      refine r_iadd (pc := 136) C dX11_tries_136 ?_
      refine r_callVv0 (pc := 137) C (rest := []) (a := v0) o_v0 [.int x14, .int x21, .long x24, .int ((((100 : Int32) * v5) + ((10 : Int32) * v6)) + v7)] yV_X11_takes g_1711 (c_X11_takes h) dX11_tries_137 rfl rfl (Nat.le_of_ble_eq_true rfl) ⟨by decide, by decide⟩ ⟨by decide, by decide⟩ ⟨rfl, rfl⟩ (fun S25 h g26 => ?_)
      have h := h g26
      have o_a1 := gr_ob g26 o_a1
      have o_a15 := gr_ob g26 o_a15
      have o_a2 := gr_ob g26 o_a2
      have o_a6 := gr_ob g26 o_a6
      have o_v0 := gr_ob g26 o_v0
      exact r_sub [1, 2, 3, 4, 5, 6, 7, 8] rfl (T_X11_tries_140 C E ht hn hX3 hX18 hX53 h)
theorem T_X11_tries_53 {X : CX} {Q : HS → Prop} (C : Cx X cX11_tries RX11 9 rm_X11_tries) (E : ReV X rm_X11_tries Q) (ht : (xh X).sig.returnType = none) (hn : (xh X).name = yX11_tries.name) {X3 : Nat → Int32 → Int32 → Int32 → Int32 → Int32 → HS → Prop} (hX3 : ∀ (v0 : Nat) (v1 : Int32) (v2 : Int32) (v3 : Int32) (v4 : Int32) (v5 : Int32) (S : HS), X3 v0 v1 v2 v3 v4 v5 S → WS X 9 0 0 3 [(0, .ref v0), (1, .int v1), (2, .int v2), (3, .int v3), (4, .int v4), (5, .int v5)] [] S) {X18 : Nat → Int32 → Int32 → Int32 → Int32 → Int32 → Int32 → HS → Prop} (hX18 : ∀ (v0 : Nat) (v1 : Int32) (v2 : Int32) (v3 : Int32) (v4 : Int32) (v5 : Int32) (v6 : Int32) (S : HS), X18 v0 v1 v2 v3 v4 v5 v6 S → WS X 9 0 0 18 [(0, .ref v0), (1, .int v1), (2, .int v2), (3, .int v3), (4, .int v4), (5, .int v5), (6, .int v6)] [] S) {v0 : Nat} {v1 : Int32} {v2 : Int32} {v3 : Int32} {v4 : Int32} {v5 : Int32} {v6 : Int32} {v7 : Int32} {S : HS} (h : P_X11_tries_53 Q X3 X18 v0 v1 v2 v3 v4 v5 v6 v7 S) : WS X 9 0 0 53 [(0, .ref v0), (1, .int v1), (2, .int v2), (3, .int v3), (4, .int v4), (5, .int v5), (6, .int v6), (7, .int v7)] [] S :=
  h (fun v0 v1 v2 v3 v4 v5 v6 v7 S => WS X 9 0 0 53 [(0, .ref v0), (1, .int v1), (2, .int v2), (3, .int v3), (4, .int v4), (5, .int v5), (6, .int v6), (7, .int v7)] [] S) (fun v0 v1 v2 v3 v4 v5 v6 v7 S hh => TB_X11_tries_53 C E ht hn hX3 hX18 (fun v0 v1 v2 v3 v4 v5 v6 v7 S z => z) hh)
def B_X11_tries_18 (Q : HS → Prop) (X3 : Nat → Int32 → Int32 → Int32 → Int32 → Int32 → HS → Prop) (X18 : Nat → Int32 → Int32 → Int32 → Int32 → Int32 → Int32 → HS → Prop) (v0 : Nat) (v1 : Int32) (v2 : Int32) (v3 : Int32) (v4 : Int32) (v5 : Int32) (v6 : Int32) (S : HS) : Prop := (((2 : Int32) ≤ v6) → (∀ x2 : Int32, x2 = v5 + (1 : Int32) → (X3 v0 v1 v2 v3 v4 x2 S))) ∧ ((¬ (2 : Int32) ≤ v6) → (ob S v0 11 ∧ (∃ a3 : Nat, fR S v0 3 = some a3 ∧ (ob S a3 10 ∧ (P_X10_begins a3 v5 v6 (fun x6 S4 => Gr S S4 → (((x6 = v2) → (∃ a8 : Nat, fR S4 v0 3 = some a8 ∧ (ob S4 a8 10 ∧ (∃ a9 : Nat, fR S4 a8 24 = some a9 ∧ (ob S4 a9 13 ∧ (vp_in v1 (hN S4 a9) ∧ ∀ x11 : Int32, x11 = fI S4 a9 v1.toNatClampNeg → (P_X11_tries_53 Q X3 X18 v0 v1 v2 v3 v4 v5 v6 x11 S4))))))) ∧ ((¬ x6 = v2) → (P_X11_tries_146 Q X3 X18 v0 v1 v2 v3 v4 v5 v6 S4)))) S)))))
def P_X11_tries_18 (Q : HS → Prop) (X3 : Nat → Int32 → Int32 → Int32 → Int32 → Int32 → HS → Prop) (v0 : Nat) (v1 : Int32) (v2 : Int32) (v3 : Int32) (v4 : Int32) (v5 : Int32) (v6 : Int32) (S : HS) : Prop := ∀ X18 : Nat → Int32 → Int32 → Int32 → Int32 → Int32 → Int32 → HS → Prop, (∀ (v0 : Nat) (v1 : Int32) (v2 : Int32) (v3 : Int32) (v4 : Int32) (v5 : Int32) (v6 : Int32) (S : HS), B_X11_tries_18 Q X3 X18 v0 v1 v2 v3 v4 v5 v6 S → X18 v0 v1 v2 v3 v4 v5 v6 S) → X18 v0 v1 v2 v3 v4 v5 v6 S
set_option maxRecDepth 20000 in
set_option maxHeartbeats 4000000 in
theorem TB_X11_tries_18 {X : CX} {Q : HS → Prop} (C : Cx X cX11_tries RX11 9 rm_X11_tries) (E : ReV X rm_X11_tries Q) (ht : (xh X).sig.returnType = none) (hn : (xh X).name = yX11_tries.name) {X3 : Nat → Int32 → Int32 → Int32 → Int32 → Int32 → HS → Prop} (hX3 : ∀ (v0 : Nat) (v1 : Int32) (v2 : Int32) (v3 : Int32) (v4 : Int32) (v5 : Int32) (S : HS), X3 v0 v1 v2 v3 v4 v5 S → WS X 9 0 0 3 [(0, .ref v0), (1, .int v1), (2, .int v2), (3, .int v3), (4, .int v4), (5, .int v5)] [] S) {X18 : Nat → Int32 → Int32 → Int32 → Int32 → Int32 → Int32 → HS → Prop} (hX18 : ∀ (v0 : Nat) (v1 : Int32) (v2 : Int32) (v3 : Int32) (v4 : Int32) (v5 : Int32) (v6 : Int32) (S : HS), X18 v0 v1 v2 v3 v4 v5 v6 S → WS X 9 0 0 18 [(0, .ref v0), (1, .int v1), (2, .int v2), (3, .int v3), (4, .int v4), (5, .int v5), (6, .int v6)] [] S) {v0 : Nat} {v1 : Int32} {v2 : Int32} {v3 : Int32} {v4 : Int32} {v5 : Int32} {v6 : Int32} {S : HS} (h : B_X11_tries_18 Q X3 X18 v0 v1 v2 v3 v4 v5 v6 S) : WS X 9 0 0 18 [(0, .ref v0), (1, .int v1), (2, .int v2), (3, .int v3), (4, .int v4), (5, .int v5), (6, .int v6)] [] S := by
  refine r_iload (pc := 18) C dX11_tries_18 6 rfl ?_
  refine r_iconst (pc := 20) C (v := (2 : Int32)) dX11_tries_20 (by decide) ?_
  refine r_icmp_ge (pc := 21) C (tgt := 152) dX11_tries_21 (by decide) (fun c1 => ?_) (fun c1 => ?_)
  · have h := h.1 c1
    obtain ⟨x2, ex2⟩ : ∃ z : Int32, z = v5 + (1 : Int32) := ⟨_, rfl⟩
    have h := h x2 ex2
    refine r_iinc (pc := 152) C (v := x2) (lv' := [(5, .int x2), (0, .ref v0), (1, .int v1), (2, .int v2), (3, .int v3), (4, .int v4), (6, .int v6)]) dX11_tries_152 5 rfl ex2.symm (by decide) rfl ?_
    refine r_goto (pc := 155) C (tgt := 3) dX11_tries_155 (by decide) ?_
    exact r_sub [1, 2, 3, 4, 5, 0] rfl (hX3 v0 v1 v2 v3 v4 x2 S h)
  · have h := h.2 c1
    refine r_aload_n (pc := 24) C dX11_tries_24 0 rfl ?_
    obtain ⟨o_v0, h⟩ := h
    obtain ⟨a3, ea3, h⟩ := h
    refine r_getr (pc := 25) C fL_X11_338 dX11_tries_25 o_v0 ea3 ?_
    refine r_iload (pc := 28) C dX11_tries_28 5 rfl ?_
    refine r_iload (pc := 30) C dX11_tries_30 6 rfl ?_
    obtain ⟨o_a3, h⟩ := h
    refine r_callVi0 (pc := 32) C (rest := []) (a := a3) o_a3 [.int v5, .int v6] yV_X10_begins g_1695 (c_X10_begins h) dX11_tries_32 rfl rfl (Nat.le_of_ble_eq_true rfl) ⟨by decide, by decide⟩ ⟨by decide, by decide⟩ ⟨rfl, rfl⟩ (fun x6 S4 h g5 => ?_)
    have h := h g5
    have o_a3 := gr_ob g5 o_a3
    have o_v0 := gr_ob g5 o_v0
    refine r_iload_n (pc := 35) C dX11_tries_35 2 rfl ?_
    refine r_icmp_eq (pc := 36) C (tgt := 42) dX11_tries_36 (by decide) (fun c7 => ?_) (fun c7 => ?_)
    · have h := h.1 c7
      refine r_aload_n (pc := 42) C dX11_tries_42 0 rfl ?_
      obtain ⟨a8, ea8, h⟩ := h
      refine r_getr (pc := 43) C fL_X11_338 dX11_tries_43 o_v0 ea8 ?_
      obtain ⟨o_a8, h⟩ := h
      obtain ⟨a9, ea9, h⟩ := h
      refine r_getNr (pc := 46) C fN_X11_317 dX11_tries_46 o_a8 ea9 ?_
      refine r_iload_n (pc := 49) C dX11_tries_49 1 rfl ?_
      obtain ⟨o_a9, h⟩ := h
      obtain ⟨i10, h⟩ := h
      refine r_iald (pc := 50) C dX11_tries_50 o_a9 i10 ?_
      refine r_topi (fun x11 ex11 => ?_)
      have h := h x11 ex11
      refine r_istore (pc := 51) C dX11_tries_51 (by decide) (lv' := [(7, .int x11), (0, .ref v0), (1, .int v1), (2, .int v2), (3, .int v3), (4, .int v4), (5, .int v5), (6, .int v6)]) rfl ?_
      exact r_sub [1, 2, 3, 4, 5, 6, 7, 0] rfl (T_X11_tries_53 C E ht hn hX3 hX18 h)
    · have h := h.2 c7
      refine r_goto (pc := 39) C (tgt := 146) dX11_tries_39 (by decide) ?_
      exact r_sub [0, 1, 2, 3, 4, 5, 6] rfl (T_X11_tries_146 C E ht hn hX3 hX18 h)
theorem T_X11_tries_18 {X : CX} {Q : HS → Prop} (C : Cx X cX11_tries RX11 9 rm_X11_tries) (E : ReV X rm_X11_tries Q) (ht : (xh X).sig.returnType = none) (hn : (xh X).name = yX11_tries.name) {X3 : Nat → Int32 → Int32 → Int32 → Int32 → Int32 → HS → Prop} (hX3 : ∀ (v0 : Nat) (v1 : Int32) (v2 : Int32) (v3 : Int32) (v4 : Int32) (v5 : Int32) (S : HS), X3 v0 v1 v2 v3 v4 v5 S → WS X 9 0 0 3 [(0, .ref v0), (1, .int v1), (2, .int v2), (3, .int v3), (4, .int v4), (5, .int v5)] [] S) {v0 : Nat} {v1 : Int32} {v2 : Int32} {v3 : Int32} {v4 : Int32} {v5 : Int32} {v6 : Int32} {S : HS} (h : P_X11_tries_18 Q X3 v0 v1 v2 v3 v4 v5 v6 S) : WS X 9 0 0 18 [(0, .ref v0), (1, .int v1), (2, .int v2), (3, .int v3), (4, .int v4), (5, .int v5), (6, .int v6)] [] S :=
  h (fun v0 v1 v2 v3 v4 v5 v6 S => WS X 9 0 0 18 [(0, .ref v0), (1, .int v1), (2, .int v2), (3, .int v3), (4, .int v4), (5, .int v5), (6, .int v6)] [] S) (fun v0 v1 v2 v3 v4 v5 v6 S hh => TB_X11_tries_18 C E ht hn hX3 (fun v0 v1 v2 v3 v4 v5 v6 S z => z) hh)
def B_X11_tries_3 (Q : HS → Prop) (X3 : Nat → Int32 → Int32 → Int32 → Int32 → Int32 → HS → Prop) (v0 : Nat) (v1 : Int32) (v2 : Int32) (v3 : Int32) (v4 : Int32) (v5 : Int32) (S : HS) : Prop := ob S v0 11 ∧ (∃ a1 : Nat, fR S v0 3 = some a1 ∧ (ob S a1 10 ∧ (∀ x2 : Int32, x2 = fI S a1 3 → (((x2 ≤ v5) → (P_X11_canWait v0 v2 (fun x6 S4 => Gr S S4 → bl x6 → (((x6 = 0) → (Q S4)) ∧ ((¬ x6 = 0) → (((v4 ≤ v3) → (Q S4)) ∧ ((¬ v4 ≤ v3) → (P_X11_spotOf v2 v3 (fun x11 S9 => Gr S4 S9 → (P_X11_spotOf v2 (v3 + (1 : Int32)) (fun x14 S12 => Gr S9 S12 → (P_X11_waitsOf v0 v1 v2 v3 (fun x17 S15 => Gr S12 S15 → (P_X11_takes v0 x11 x14 x17 (-2 : Int32) (fun S18 => Gr S15 S18 → (Q S18)) S15)) S12)) S9)) S4)))))) S)) ∧ ((¬ x2 ≤ v5) → (P_X11_tries_18 Q X3 v0 v1 v2 v3 v4 v5 (0 : Int32) S))))))
def P_X11_tries_3 (Q : HS → Prop) (v0 : Nat) (v1 : Int32) (v2 : Int32) (v3 : Int32) (v4 : Int32) (v5 : Int32) (S : HS) : Prop := ∀ X3 : Nat → Int32 → Int32 → Int32 → Int32 → Int32 → HS → Prop, (∀ (v0 : Nat) (v1 : Int32) (v2 : Int32) (v3 : Int32) (v4 : Int32) (v5 : Int32) (S : HS), B_X11_tries_3 Q X3 v0 v1 v2 v3 v4 v5 S → X3 v0 v1 v2 v3 v4 v5 S) → X3 v0 v1 v2 v3 v4 v5 S
set_option maxRecDepth 20000 in
set_option maxHeartbeats 4000000 in
theorem TB_X11_tries_3 {X : CX} {Q : HS → Prop} (C : Cx X cX11_tries RX11 9 rm_X11_tries) (E : ReV X rm_X11_tries Q) (ht : (xh X).sig.returnType = none) (hn : (xh X).name = yX11_tries.name) {X3 : Nat → Int32 → Int32 → Int32 → Int32 → Int32 → HS → Prop} (hX3 : ∀ (v0 : Nat) (v1 : Int32) (v2 : Int32) (v3 : Int32) (v4 : Int32) (v5 : Int32) (S : HS), X3 v0 v1 v2 v3 v4 v5 S → WS X 9 0 0 3 [(0, .ref v0), (1, .int v1), (2, .int v2), (3, .int v3), (4, .int v4), (5, .int v5)] [] S) {v0 : Nat} {v1 : Int32} {v2 : Int32} {v3 : Int32} {v4 : Int32} {v5 : Int32} {S : HS} (h : B_X11_tries_3 Q X3 v0 v1 v2 v3 v4 v5 S) : WS X 9 0 0 3 [(0, .ref v0), (1, .int v1), (2, .int v2), (3, .int v3), (4, .int v4), (5, .int v5)] [] S := by
  refine r_iload (pc := 3) C dX11_tries_3 5 rfl ?_
  refine r_aload_n (pc := 5) C dX11_tries_5 0 rfl ?_
  obtain ⟨o_v0, h⟩ := h
  obtain ⟨a1, ea1, h⟩ := h
  refine r_getr (pc := 6) C fL_X11_338 dX11_tries_6 o_v0 ea1 ?_
  obtain ⟨o_a1, h⟩ := h
  refine r_getNi (pc := 9) C fN_X11_264 dX11_tries_9 o_a1 ?_
  refine r_topi (fun x2 ex2 => ?_)
  have h := h x2 ex2
  refine r_icmp_ge (pc := 12) C (tgt := 158) dX11_tries_12 (by decide) (fun c3 => ?_) (fun c3 => ?_)
  · have h := h.1 c3
    refine r_aload_n (pc := 158) C dX11_tries_158 0 rfl ?_
    refine r_iload_n (pc := 159) C dX11_tries_159 2 rfl ?_
    refine r_callVi0 (pc := 160) C (rest := []) (a := v0) o_v0 [.int v2] yV_X11_canWait g_1715 (c_X11_canWait h) dX11_tries_160 rfl rfl (Nat.le_of_ble_eq_true rfl) ⟨by decide, by decide⟩ ⟨by decide, by decide⟩ ⟨rfl, rfl⟩ (fun x6 S4 h g5 => ?_)
    have bx6 := h.1
    have h := h.2 g5 bx6
    have o_a1 := gr_ob g5 o_a1
    have o_v0 := gr_ob g5 o_v0
    refine r_if_eq (pc := 163) C (tgt := 197) dX11_tries_163 (by decide) (fun c7 => ?_) (fun c7 => ?_)
    · have h := h.1 c7
      exact r_vret (pc := 197) C E ht dX11_tries_197 (by decide) (by decide) h
    · have h := h.2 c7
      refine r_iload_n (pc := 166) C dX11_tries_166 3 rfl ?_
      refine r_iload (pc := 167) C dX11_tries_167 4 rfl ?_
      refine r_icmp_ge (pc := 169) C (tgt := 197) dX11_tries_169 (by decide) (fun c8 => ?_) (fun c8 => ?_)
      · have h := h.1 c8
        exact r_vret (pc := 197) C E ht dX11_tries_197 (by decide) (by decide) h
      · have h := h.2 c8
        refine r_aload_n (pc := 172) C dX11_tries_172 0 rfl ?_
        refine r_iload_n (pc := 173) C dX11_tries_173 2 rfl ?_
        refine r_iload_n (pc := 174) C dX11_tries_174 3 rfl ?_
        refine r_callSi0 (pc := 175) C (rest := [.ref v0]) rfl [.int v2, .int v3] yS_X11_spotOf g_1687 (c_X11_spotOf h) dX11_tries_175 rfl rfl (Nat.le_of_ble_eq_true rfl) ⟨by decide, by decide⟩ ⟨by decide, by decide⟩ ⟨rfl, rfl⟩ (fun x11 S9 h g10 => ?_)
        have h := h g10
        have o_a1 := gr_ob g10 o_a1
        have o_v0 := gr_ob g10 o_v0
        refine r_iload_n (pc := 178) C dX11_tries_178 2 rfl ?_
        refine r_iload_n (pc := 179) C dX11_tries_179 3 rfl ?_
        refine r_iconst (pc := 180) C (v := (1 : Int32)) dX11_tries_180 (by decide) ?_
        refine r_iadd (pc := 181) C dX11_tries_181 ?_
        refine r_callSi0 (pc := 182) C (rest := [.int x11, .ref v0]) rfl [.int v2, .int (v3 + (1 : Int32))] yS_X11_spotOf g_1687 (c_X11_spotOf h) dX11_tries_182 rfl rfl (Nat.le_of_ble_eq_true rfl) ⟨by decide, by decide⟩ ⟨by decide, by decide⟩ ⟨rfl, rfl⟩ (fun x14 S12 h g13 => ?_)
        have h := h g13
        have o_a1 := gr_ob g13 o_a1
        have o_v0 := gr_ob g13 o_v0
        refine r_aload_n (pc := 185) C dX11_tries_185 0 rfl ?_
        refine r_iload_n (pc := 186) C dX11_tries_186 1 rfl ?_
        refine r_iload_n (pc := 187) C dX11_tries_187 2 rfl ?_
        refine r_iload_n (pc := 188) C dX11_tries_188 3 rfl ?_
        refine r_callVl0 (pc := 189) C (rest := [.int x14, .int x11, .ref v0]) (a := v0) o_v0 [.int v1, .int v2, .int v3] yV_X11_waitsOf g_1719 (c_X11_waitsOf h) dX11_tries_189 rfl rfl (Nat.le_of_ble_eq_true rfl) ⟨by decide, by decide⟩ ⟨by decide, by decide⟩ ⟨rfl, rfl⟩ (fun x17 S15 h g16 => ?_)
        have h := h g16
        have o_a1 := gr_ob g16 o_a1
        have o_v0 := gr_ob g16 o_v0
        refine r_bipush (pc := 192) C (v := (-2 : Int32)) dX11_tries_192 (by decide) ?_
        refine r_callVv0 (pc := 194) C (rest := []) (a := v0) o_v0 [.int x11, .int x14, .long x17, .int (-2 : Int32)] yV_X11_takes g_1711 (c_X11_takes h) dX11_tries_194 rfl rfl (Nat.le_of_ble_eq_true rfl) ⟨by decide, by decide⟩ ⟨by decide, by decide⟩ ⟨rfl, rfl⟩ (fun S18 h g19 => ?_)
        have h := h g19
        have o_a1 := gr_ob g19 o_a1
        have o_v0 := gr_ob g19 o_v0
        exact r_vret (pc := 197) C E ht dX11_tries_197 (by decide) (by decide) h
  · have h := h.2 c3
    refine r_iconst (pc := 15) C (v := (0 : Int32)) dX11_tries_15 (by decide) ?_
    refine r_istore (pc := 16) C dX11_tries_16 (by decide) (lv' := [(6, .int (0 : Int32)), (0, .ref v0), (1, .int v1), (2, .int v2), (3, .int v3), (4, .int v4), (5, .int v5)]) rfl ?_
    exact r_sub [1, 2, 3, 4, 5, 6, 0] rfl (T_X11_tries_18 C E ht hn hX3 h)
theorem T_X11_tries_3 {X : CX} {Q : HS → Prop} (C : Cx X cX11_tries RX11 9 rm_X11_tries) (E : ReV X rm_X11_tries Q) (ht : (xh X).sig.returnType = none) (hn : (xh X).name = yX11_tries.name) {v0 : Nat} {v1 : Int32} {v2 : Int32} {v3 : Int32} {v4 : Int32} {v5 : Int32} {S : HS} (h : P_X11_tries_3 Q v0 v1 v2 v3 v4 v5 S) : WS X 9 0 0 3 [(0, .ref v0), (1, .int v1), (2, .int v2), (3, .int v3), (4, .int v4), (5, .int v5)] [] S :=
  h (fun v0 v1 v2 v3 v4 v5 S => WS X 9 0 0 3 [(0, .ref v0), (1, .int v1), (2, .int v2), (3, .int v3), (4, .int v4), (5, .int v5)] [] S) (fun v0 v1 v2 v3 v4 v5 S hh => TB_X11_tries_3 C E ht hn (fun v0 v1 v2 v3 v4 v5 S z => z) hh)
def P_X11_tries_0 (Q : HS → Prop) (v0 : Nat) (v1 : Int32) (v2 : Int32) (v3 : Int32) (v4 : Int32) (S : HS) : Prop := P_X11_tries_3 Q v0 v1 v2 v3 v4 (0 : Int32) S
set_option maxRecDepth 20000 in
set_option maxHeartbeats 4000000 in
theorem T_X11_tries_0 {X : CX} {Q : HS → Prop} (C : Cx X cX11_tries RX11 9 rm_X11_tries) (E : ReV X rm_X11_tries Q) (ht : (xh X).sig.returnType = none) (hn : (xh X).name = yX11_tries.name) {v0 : Nat} {v1 : Int32} {v2 : Int32} {v3 : Int32} {v4 : Int32} {S : HS} (h : P_X11_tries_0 Q v0 v1 v2 v3 v4 S) : WS X 9 0 0 0 [(0, .ref v0), (1, .int v1), (2, .int v2), (3, .int v3), (4, .int v4)] [] S := by
  refine r_iconst (pc := 0) C (v := (0 : Int32)) dX11_tries_0 (by decide) ?_
  refine r_istore (pc := 1) C dX11_tries_1 (by decide) (lv' := [(5, .int (0 : Int32)), (0, .ref v0), (1, .int v1), (2, .int v2), (3, .int v3), (4, .int v4)]) rfl ?_
  exact r_sub [1, 2, 3, 4, 5, 0] rfl (T_X11_tries_3 C E ht hn h)
def P_X11_tries (v0 : Nat) (v1 : Int32) (v2 : Int32) (v3 : Int32) (v4 : Int32) (Q : HS → Prop) (S : HS) : Prop := P_X11_tries_0 Q v0 v1 v2 v3 v4 S
theorem c_X11_tries {l : Launch} {Ee : EE} {S : HS} {v0 : Nat} {v1 : Int32} {v2 : Int32} {v3 : Int32} {v4 : Int32} {Q : HS → Prop} (h : P_X11_tries v0 v1 v2 v3 v4 Q S) : MV l yX11_tries cX11_tries 9 none rm_X11_tries Ee S [.ref v0, .int v1, .int v2, .int v3, .int v4] Q :=
  openV (by decide) (Nat.le_of_ble_eq_true rfl) (fun X C E ht hn hE hl => by subst hE; exact r_sub [0, 1, 2, 3, 4] rfl (T_X11_tries_0 C E ht hn h))
end
section
def rm_X11_laysWays : Room := { frames := 8, cells := 0, slots := 0, locals := 217 }
def P_X11_laysWays_85 (Q : HS → Prop) (X3 : Nat → Int32 → Int32 → Int32 → Int32 → HS → Prop) (X11 : Nat → Int32 → Int32 → Int32 → Int32 → Int32 → HS → Prop) (v0 : Nat) (v1 : Int32) (v2 : Int32) (v3 : Int32) (v4 : Int32) (v5 : Int32) (S : HS) : Prop := ∀ x1 : Int32, x1 = v5 + (1 : Int32) → (X11 v0 v1 v2 v3 v4 x1 S)
set_option maxRecDepth 20000 in
set_option maxHeartbeats 4000000 in
theorem T_X11_laysWays_85 {X : CX} {Q : HS → Prop} (C : Cx X cX11_laysWays RX11 7 rm_X11_laysWays) (E : ReV X rm_X11_laysWays Q) (ht : (xh X).sig.returnType = none) (hn : (xh X).name = yX11_laysWays.name) {X3 : Nat → Int32 → Int32 → Int32 → Int32 → HS → Prop} (hX3 : ∀ (v0 : Nat) (v1 : Int32) (v2 : Int32) (v3 : Int32) (v4 : Int32) (S : HS), X3 v0 v1 v2 v3 v4 S → WS X 7 0 0 3 [(0, .ref v0), (1, .int v1), (2, .int v2), (3, .int v3), (4, .int v4)] [] S) {X11 : Nat → Int32 → Int32 → Int32 → Int32 → Int32 → HS → Prop} (hX11 : ∀ (v0 : Nat) (v1 : Int32) (v2 : Int32) (v3 : Int32) (v4 : Int32) (v5 : Int32) (S : HS), X11 v0 v1 v2 v3 v4 v5 S → WS X 7 0 0 11 [(0, .ref v0), (1, .int v1), (2, .int v2), (3, .int v3), (4, .int v4), (5, .int v5)] [] S) {v0 : Nat} {v1 : Int32} {v2 : Int32} {v3 : Int32} {v4 : Int32} {v5 : Int32} {S : HS} (h : P_X11_laysWays_85 Q X3 X11 v0 v1 v2 v3 v4 v5 S) : WS X 7 0 0 85 [(0, .ref v0), (1, .int v1), (2, .int v2), (3, .int v3), (4, .int v4), (5, .int v5)] [] S := by
  obtain ⟨x1, ex1⟩ : ∃ z : Int32, z = v5 + (1 : Int32) := ⟨_, rfl⟩
  have h := h x1 ex1
  refine r_iinc (pc := 85) C (v := x1) (lv' := [(5, .int x1), (0, .ref v0), (1, .int v1), (2, .int v2), (3, .int v3), (4, .int v4)]) dX11_laysWays_85 5 rfl ex1.symm (by decide) rfl ?_
  refine r_goto (pc := 88) C (tgt := 11) dX11_laysWays_88 (by decide) ?_
  exact r_sub [1, 2, 3, 4, 5, 0] rfl (hX11 v0 v1 v2 v3 v4 x1 S h)
def P_X11_laysWays_51 (Q : HS → Prop) (X3 : Nat → Int32 → Int32 → Int32 → Int32 → HS → Prop) (X11 : Nat → Int32 → Int32 → Int32 → Int32 → Int32 → HS → Prop) (v0 : Nat) (v1 : Int32) (v2 : Int32) (v3 : Int32) (v4 : Int32) (v5 : Int32) (v6 : Int32) (s0 : Nat) (s1 : Int32) (s2 : Int64) (S : HS) : Prop := ob S s0 14 ∧ (vp_in s1 (hN S s0) ∧ (∀ S2 : HS, S2 = sJ S s0 s1.toNatClampNeg s2 → (ob S2 v0 11 ∧ (∃ a3 : Nat, fR S2 v0 17 = some a3 ∧ (ob S2 a3 13 ∧ (vp_in v6 (hN S2 a3) ∧ (∀ S5 : HS, S5 = sI S2 a3 v6.toNatClampNeg v4 → (∃ a6 : Nat, fR S5 v0 18 = some a6 ∧ (ob S5 a6 13 ∧ (vp_in v6 (hN S5 a6) ∧ (∀ S8 : HS, S8 = sI S5 a6 v6.toNatClampNeg (-1 : Int32) → (((v5 = v2) → (P_X11_laysWays_85 Q X3 X11 v0 v1 v2 v3 v4 v5 S8)) ∧ ((¬ v5 = v2) → (P_X11_tries v0 v1 v5 v4 v3 (fun S10 => Gr S8 S10 → (P_X11_laysWays_85 Q X3 X11 v0 v1 v2 v3 v4 v5 S10)) S8))))))))))))))
set_option maxRecDepth 20000 in
set_option maxHeartbeats 4000000 in
theorem T_X11_laysWays_51 {X : CX} {Q : HS → Prop} (C : Cx X cX11_laysWays RX11 7 rm_X11_laysWays) (E : ReV X rm_X11_laysWays Q) (ht : (xh X).sig.returnType = none) (hn : (xh X).name = yX11_laysWays.name) {X3 : Nat → Int32 → Int32 → Int32 → Int32 → HS → Prop} (hX3 : ∀ (v0 : Nat) (v1 : Int32) (v2 : Int32) (v3 : Int32) (v4 : Int32) (S : HS), X3 v0 v1 v2 v3 v4 S → WS X 7 0 0 3 [(0, .ref v0), (1, .int v1), (2, .int v2), (3, .int v3), (4, .int v4)] [] S) {X11 : Nat → Int32 → Int32 → Int32 → Int32 → Int32 → HS → Prop} (hX11 : ∀ (v0 : Nat) (v1 : Int32) (v2 : Int32) (v3 : Int32) (v4 : Int32) (v5 : Int32) (S : HS), X11 v0 v1 v2 v3 v4 v5 S → WS X 7 0 0 11 [(0, .ref v0), (1, .int v1), (2, .int v2), (3, .int v3), (4, .int v4), (5, .int v5)] [] S) {v0 : Nat} {v1 : Int32} {v2 : Int32} {v3 : Int32} {v4 : Int32} {v5 : Int32} {v6 : Int32} {s0 : Nat} {s1 : Int32} {s2 : Int64} {S : HS} (h : P_X11_laysWays_51 Q X3 X11 v0 v1 v2 v3 v4 v5 v6 s0 s1 s2 S) : WS X 7 0 0 51 [(0, .ref v0), (1, .int v1), (2, .int v2), (3, .int v3), (4, .int v4), (5, .int v5), (6, .int v6)] [.long s2, .int s1, .ref s0] S := by
  obtain ⟨o_s0, h⟩ := h
  obtain ⟨i1, h⟩ := h
  refine r_last (pc := 51) C dX11_laysWays_51 o_s0 i1 ?_
  refine r_heap (fun S2 eS2 => ?_)
  have h := h S2 eS2
  have o_s0 := ob_J eS2 o_s0
  refine r_aload_n (pc := 52) C dX11_laysWays_52 0 rfl ?_
  obtain ⟨o_v0, h⟩ := h
  obtain ⟨a3, ea3, h⟩ := h
  refine r_getr (pc := 53) C fL_X11_21 dX11_laysWays_53 o_v0 ea3 ?_
  refine r_iload (pc := 56) C dX11_laysWays_56 6 rfl ?_
  refine r_iload (pc := 58) C dX11_laysWays_58 4 rfl ?_
  obtain ⟨o_a3, h⟩ := h
  obtain ⟨i4, h⟩ := h
  refine r_iast (pc := 60) C dX11_laysWays_60 o_a3 i4 ?_
  refine r_heap (fun S5 eS5 => ?_)
  have h := h S5 eS5
  have o_a3 := ob_I eS5 o_a3
  have o_s0 := ob_I eS5 o_s0
  have o_v0 := ob_I eS5 o_v0
  refine r_aload_n (pc := 61) C dX11_laysWays_61 0 rfl ?_
  obtain ⟨a6, ea6, h⟩ := h
  refine r_getr (pc := 62) C fL_X11_25 dX11_laysWays_62 o_v0 ea6 ?_
  refine r_iload (pc := 65) C dX11_laysWays_65 6 rfl ?_
  refine r_iconst (pc := 67) C (v := (-1 : Int32)) dX11_laysWays_67 (by decide) ?_
  obtain ⟨o_a6, h⟩ := h
  obtain ⟨i7, h⟩ := h
  refine r_iast (pc := 68) C dX11_laysWays_68 o_a6 i7 ?_
  refine r_heap (fun S8 eS8 => ?_)
  have h := h S8 eS8
  have o_a3 := ob_I eS8 o_a3
  have o_a6 := ob_I eS8 o_a6
  have o_s0 := ob_I eS8 o_s0
  have o_v0 := ob_I eS8 o_v0
  refine r_iload (pc := 69) C dX11_laysWays_69 5 rfl ?_
  refine r_iload_n (pc := 71) C dX11_laysWays_71 2 rfl ?_
  refine r_icmp_eq (pc := 72) C (tgt := 85) dX11_laysWays_72 (by decide) (fun c9 => ?_) (fun c9 => ?_)
  · have h := h.1 c9
    exact r_sub [0, 1, 2, 3, 4, 5] rfl (T_X11_laysWays_85 C E ht hn hX3 hX11 h)
  · have h := h.2 c9
    refine r_aload_n (pc := 75) C dX11_laysWays_75 0 rfl ?_
    refine r_iload_n (pc := 76) C dX11_laysWays_76 1 rfl ?_
    refine r_iload (pc := 77) C dX11_laysWays_77 5 rfl ?_
    refine r_iload (pc := 79) C dX11_laysWays_79 4 rfl ?_
    refine r_iload_n (pc := 81) C dX11_laysWays_81 3 rfl ?_
    refine r_callVv0 (pc := 82) C (rest := []) (a := v0) o_v0 [.int v1, .int v5, .int v4, .int v3] yV_X11_tries g_1691 (c_X11_tries h) dX11_laysWays_82 rfl rfl (Nat.le_of_ble_eq_true rfl) ⟨by decide, by decide⟩ ⟨by decide, by decide⟩ ⟨rfl, rfl⟩ (fun S10 h g11 => ?_)
    have h := h g11
    have o_a3 := gr_ob g11 o_a3
    have o_a6 := gr_ob g11 o_a6
    have o_s0 := gr_ob g11 o_s0
    have o_v0 := gr_ob g11 o_v0
    exact r_sub [0, 1, 2, 3, 4, 5] rfl (T_X11_laysWays_85 C E ht hn hX3 hX11 h)
def B_X11_laysWays_11 (Q : HS → Prop) (X3 : Nat → Int32 → Int32 → Int32 → Int32 → HS → Prop) (X11 : Nat → Int32 → Int32 → Int32 → Int32 → Int32 → HS → Prop) (v0 : Nat) (v1 : Int32) (v2 : Int32) (v3 : Int32) (v4 : Int32) (v5 : Int32) (S : HS) : Prop := ob S v0 11 ∧ (∃ a1 : Nat, fR S v0 3 = some a1 ∧ (ob S a1 10 ∧ (∀ x2 : Int32, x2 = fI S a1 2 → (((x2 ≤ v5) → (∀ x4 : Int32, x4 = v4 + (-1 : Int32) → (X3 v0 v1 v2 v3 x4 S))) ∧ ((¬ x2 ≤ v5) → (P_X11_spotOf v5 v4 (fun x7 S5 => Gr S S5 → (∃ a8 : Nat, fR S5 v0 16 = some a8 ∧ (((¬ v5 = v2) → (P_X11_laysWays_51 Q X3 X11 v0 v1 v2 v3 v4 v5 x7 a8 x7 (-1 : Int64) S5)) ∧ ((v5 = v2) → (P_X11_laysWays_51 Q X3 X11 v0 v1 v2 v3 v4 v5 x7 a8 x7 (0 : Int64) S5))))) S))))))
def P_X11_laysWays_11 (Q : HS → Prop) (X3 : Nat → Int32 → Int32 → Int32 → Int32 → HS → Prop) (v0 : Nat) (v1 : Int32) (v2 : Int32) (v3 : Int32) (v4 : Int32) (v5 : Int32) (S : HS) : Prop := ∀ X11 : Nat → Int32 → Int32 → Int32 → Int32 → Int32 → HS → Prop, (∀ (v0 : Nat) (v1 : Int32) (v2 : Int32) (v3 : Int32) (v4 : Int32) (v5 : Int32) (S : HS), B_X11_laysWays_11 Q X3 X11 v0 v1 v2 v3 v4 v5 S → X11 v0 v1 v2 v3 v4 v5 S) → X11 v0 v1 v2 v3 v4 v5 S
set_option maxRecDepth 20000 in
set_option maxHeartbeats 4000000 in
theorem TB_X11_laysWays_11 {X : CX} {Q : HS → Prop} (C : Cx X cX11_laysWays RX11 7 rm_X11_laysWays) (E : ReV X rm_X11_laysWays Q) (ht : (xh X).sig.returnType = none) (hn : (xh X).name = yX11_laysWays.name) {X3 : Nat → Int32 → Int32 → Int32 → Int32 → HS → Prop} (hX3 : ∀ (v0 : Nat) (v1 : Int32) (v2 : Int32) (v3 : Int32) (v4 : Int32) (S : HS), X3 v0 v1 v2 v3 v4 S → WS X 7 0 0 3 [(0, .ref v0), (1, .int v1), (2, .int v2), (3, .int v3), (4, .int v4)] [] S) {X11 : Nat → Int32 → Int32 → Int32 → Int32 → Int32 → HS → Prop} (hX11 : ∀ (v0 : Nat) (v1 : Int32) (v2 : Int32) (v3 : Int32) (v4 : Int32) (v5 : Int32) (S : HS), X11 v0 v1 v2 v3 v4 v5 S → WS X 7 0 0 11 [(0, .ref v0), (1, .int v1), (2, .int v2), (3, .int v3), (4, .int v4), (5, .int v5)] [] S) {v0 : Nat} {v1 : Int32} {v2 : Int32} {v3 : Int32} {v4 : Int32} {v5 : Int32} {S : HS} (h : B_X11_laysWays_11 Q X3 X11 v0 v1 v2 v3 v4 v5 S) : WS X 7 0 0 11 [(0, .ref v0), (1, .int v1), (2, .int v2), (3, .int v3), (4, .int v4), (5, .int v5)] [] S := by
  refine r_iload (pc := 11) C dX11_laysWays_11 5 rfl ?_
  refine r_aload_n (pc := 13) C dX11_laysWays_13 0 rfl ?_
  obtain ⟨o_v0, h⟩ := h
  obtain ⟨a1, ea1, h⟩ := h
  refine r_getr (pc := 14) C fL_X11_338 dX11_laysWays_14 o_v0 ea1 ?_
  obtain ⟨o_a1, h⟩ := h
  refine r_getNi (pc := 17) C fN_X11_190 dX11_laysWays_17 o_a1 ?_
  refine r_topi (fun x2 ex2 => ?_)
  have h := h x2 ex2
  refine r_icmp_ge (pc := 20) C (tgt := 91) dX11_laysWays_20 (by decide) (fun c3 => ?_) (fun c3 => ?_)
  · have h := h.1 c3
    obtain ⟨x4, ex4⟩ : ∃ z : Int32, z = v4 + (-1 : Int32) := ⟨_, rfl⟩
    have h := h x4 ex4
    refine r_iinc (pc := 91) C (v := x4) (lv' := [(4, .int x4), (0, .ref v0), (1, .int v1), (2, .int v2), (3, .int v3), (5, .int v5)]) dX11_laysWays_91 4 rfl ex4.symm (by decide) rfl ?_
    refine r_goto (pc := 94) C (tgt := 3) dX11_laysWays_94 (by decide) ?_
    exact r_sub [1, 2, 3, 4, 0] rfl (hX3 v0 v1 v2 v3 x4 S h)
  · have h := h.2 c3
    refine r_iload (pc := 23) C dX11_laysWays_23 5 rfl ?_
    refine r_iload (pc := 25) C dX11_laysWays_25 4 rfl ?_
    refine r_callSi0 (pc := 27) C (rest := []) rfl [.int v5, .int v4] yS_X11_spotOf g_1687 (c_X11_spotOf h) dX11_laysWays_27 rfl rfl (Nat.le_of_ble_eq_true rfl) ⟨by decide, by decide⟩ ⟨by decide, by decide⟩ ⟨rfl, rfl⟩ (fun x7 S5 h g6 => ?_)
    have h := h g6
    have o_a1 := gr_ob g6 o_a1
    have o_v0 := gr_ob g6 o_v0
    refine r_istore (pc := 30) C dX11_laysWays_30 (by decide) (lv' := [(6, .int x7), (0, .ref v0), (1, .int v1), (2, .int v2), (3, .int v3), (4, .int v4), (5, .int v5)]) rfl ?_
    refine r_aload_n (pc := 32) C dX11_laysWays_32 1 rfl ?_
    obtain ⟨a8, ea8, h⟩ := h
    refine r_getr (pc := 33) C fL_X11_17 dX11_laysWays_33 o_v0 ea8 ?_
    refine r_iload (pc := 36) C dX11_laysWays_36 0 rfl ?_
    refine r_iload (pc := 38) C dX11_laysWays_38 6 rfl ?_
    refine r_iload_n (pc := 40) C dX11_laysWays_40 3 rfl ?_
    refine r_icmp_ne (pc := 41) C (tgt := 48) dX11_laysWays_41 (by decide) (fun c9 => ?_) (fun c9 => ?_)
    · have h := h.1 c9
      refine r_ldc2 (pc := 48) C (v := (-1 : Int64)) dX11_laysWays_48 g_1690 ?_
      exact r_sub [1, 2, 3, 4, 5, 6, 0] rfl (T_X11_laysWays_51 C E ht hn hX3 hX11 h)
    · have h := h.2 c9
      refine r_lconst (pc := 44) C (v := (0 : Int64)) dX11_laysWays_44 (by decide) ?_
      refine r_goto (pc := 45) C (tgt := 51) dX11_laysWays_45 (by decide) ?_
      exact r_sub [1, 2, 3, 4, 5, 6, 0] rfl (T_X11_laysWays_51 C E ht hn hX3 hX11 h)
theorem T_X11_laysWays_11 {X : CX} {Q : HS → Prop} (C : Cx X cX11_laysWays RX11 7 rm_X11_laysWays) (E : ReV X rm_X11_laysWays Q) (ht : (xh X).sig.returnType = none) (hn : (xh X).name = yX11_laysWays.name) {X3 : Nat → Int32 → Int32 → Int32 → Int32 → HS → Prop} (hX3 : ∀ (v0 : Nat) (v1 : Int32) (v2 : Int32) (v3 : Int32) (v4 : Int32) (S : HS), X3 v0 v1 v2 v3 v4 S → WS X 7 0 0 3 [(0, .ref v0), (1, .int v1), (2, .int v2), (3, .int v3), (4, .int v4)] [] S) {v0 : Nat} {v1 : Int32} {v2 : Int32} {v3 : Int32} {v4 : Int32} {v5 : Int32} {S : HS} (h : P_X11_laysWays_11 Q X3 v0 v1 v2 v3 v4 v5 S) : WS X 7 0 0 11 [(0, .ref v0), (1, .int v1), (2, .int v2), (3, .int v3), (4, .int v4), (5, .int v5)] [] S :=
  h (fun v0 v1 v2 v3 v4 v5 S => WS X 7 0 0 11 [(0, .ref v0), (1, .int v1), (2, .int v2), (3, .int v3), (4, .int v4), (5, .int v5)] [] S) (fun v0 v1 v2 v3 v4 v5 S hh => TB_X11_laysWays_11 C E ht hn hX3 (fun v0 v1 v2 v3 v4 v5 S z => z) hh)
def B_X11_laysWays_3 (Q : HS → Prop) (X3 : Nat → Int32 → Int32 → Int32 → Int32 → HS → Prop) (v0 : Nat) (v1 : Int32) (v2 : Int32) (v3 : Int32) (v4 : Int32) (S : HS) : Prop := ((v4 < 0) → (Q S)) ∧ ((¬ v4 < 0) → (P_X11_laysWays_11 Q X3 v0 v1 v2 v3 v4 (0 : Int32) S))
def P_X11_laysWays_3 (Q : HS → Prop) (v0 : Nat) (v1 : Int32) (v2 : Int32) (v3 : Int32) (v4 : Int32) (S : HS) : Prop := ∀ X3 : Nat → Int32 → Int32 → Int32 → Int32 → HS → Prop, (∀ (v0 : Nat) (v1 : Int32) (v2 : Int32) (v3 : Int32) (v4 : Int32) (S : HS), B_X11_laysWays_3 Q X3 v0 v1 v2 v3 v4 S → X3 v0 v1 v2 v3 v4 S) → X3 v0 v1 v2 v3 v4 S
set_option maxRecDepth 20000 in
set_option maxHeartbeats 4000000 in
theorem TB_X11_laysWays_3 {X : CX} {Q : HS → Prop} (C : Cx X cX11_laysWays RX11 7 rm_X11_laysWays) (E : ReV X rm_X11_laysWays Q) (ht : (xh X).sig.returnType = none) (hn : (xh X).name = yX11_laysWays.name) {X3 : Nat → Int32 → Int32 → Int32 → Int32 → HS → Prop} (hX3 : ∀ (v0 : Nat) (v1 : Int32) (v2 : Int32) (v3 : Int32) (v4 : Int32) (S : HS), X3 v0 v1 v2 v3 v4 S → WS X 7 0 0 3 [(0, .ref v0), (1, .int v1), (2, .int v2), (3, .int v3), (4, .int v4)] [] S) {v0 : Nat} {v1 : Int32} {v2 : Int32} {v3 : Int32} {v4 : Int32} {S : HS} (h : B_X11_laysWays_3 Q X3 v0 v1 v2 v3 v4 S) : WS X 7 0 0 3 [(0, .ref v0), (1, .int v1), (2, .int v2), (3, .int v3), (4, .int v4)] [] S := by
  refine r_iload (pc := 3) C dX11_laysWays_3 4 rfl ?_
  refine r_if_lt (pc := 5) C (tgt := 97) dX11_laysWays_5 (by decide) (fun c1 => ?_) (fun c1 => ?_)
  · have h := h.1 c1
    exact r_vret (pc := 97) C E ht dX11_laysWays_97 (by decide) (by decide) h
  · have h := h.2 c1
    refine r_iconst (pc := 8) C (v := (0 : Int32)) dX11_laysWays_8 (by decide) ?_
    refine r_istore (pc := 9) C dX11_laysWays_9 (by decide) (lv' := [(5, .int (0 : Int32)), (0, .ref v0), (1, .int v1), (2, .int v2), (3, .int v3), (4, .int v4)]) rfl ?_
    exact r_sub [1, 2, 3, 4, 5, 0] rfl (T_X11_laysWays_11 C E ht hn hX3 h)
theorem T_X11_laysWays_3 {X : CX} {Q : HS → Prop} (C : Cx X cX11_laysWays RX11 7 rm_X11_laysWays) (E : ReV X rm_X11_laysWays Q) (ht : (xh X).sig.returnType = none) (hn : (xh X).name = yX11_laysWays.name) {v0 : Nat} {v1 : Int32} {v2 : Int32} {v3 : Int32} {v4 : Int32} {S : HS} (h : P_X11_laysWays_3 Q v0 v1 v2 v3 v4 S) : WS X 7 0 0 3 [(0, .ref v0), (1, .int v1), (2, .int v2), (3, .int v3), (4, .int v4)] [] S :=
  h (fun v0 v1 v2 v3 v4 S => WS X 7 0 0 3 [(0, .ref v0), (1, .int v1), (2, .int v2), (3, .int v3), (4, .int v4)] [] S) (fun v0 v1 v2 v3 v4 S hh => TB_X11_laysWays_3 C E ht hn (fun v0 v1 v2 v3 v4 S z => z) hh)
def P_X11_laysWays_0 (Q : HS → Prop) (v0 : Nat) (v1 : Int32) (v2 : Int32) (v3 : Int32) (S : HS) : Prop := P_X11_laysWays_3 Q v0 v1 v2 v3 v3 S
set_option maxRecDepth 20000 in
set_option maxHeartbeats 4000000 in
theorem T_X11_laysWays_0 {X : CX} {Q : HS → Prop} (C : Cx X cX11_laysWays RX11 7 rm_X11_laysWays) (E : ReV X rm_X11_laysWays Q) (ht : (xh X).sig.returnType = none) (hn : (xh X).name = yX11_laysWays.name) {v0 : Nat} {v1 : Int32} {v2 : Int32} {v3 : Int32} {S : HS} (h : P_X11_laysWays_0 Q v0 v1 v2 v3 S) : WS X 7 0 0 0 [(0, .ref v0), (1, .int v1), (2, .int v2), (3, .int v3)] [] S := by
  refine r_iload_n (pc := 0) C dX11_laysWays_0 3 rfl ?_
  refine r_istore (pc := 1) C dX11_laysWays_1 (by decide) (lv' := [(4, .int v3), (0, .ref v0), (1, .int v1), (2, .int v2), (3, .int v3)]) rfl ?_
  exact r_sub [1, 2, 3, 4, 0] rfl (T_X11_laysWays_3 C E ht hn h)
def P_X11_laysWays (v0 : Nat) (v1 : Int32) (v2 : Int32) (v3 : Int32) (Q : HS → Prop) (S : HS) : Prop := P_X11_laysWays_0 Q v0 v1 v2 v3 S
theorem c_X11_laysWays {l : Launch} {Ee : EE} {S : HS} {v0 : Nat} {v1 : Int32} {v2 : Int32} {v3 : Int32} {Q : HS → Prop} (h : P_X11_laysWays v0 v1 v2 v3 Q S) : MV l yX11_laysWays cX11_laysWays 7 none rm_X11_laysWays Ee S [.ref v0, .int v1, .int v2, .int v3] Q :=
  openV (by decide) (Nat.le_of_ble_eq_true rfl) (fun X C E ht hn hE hl => by subst hE; exact r_sub [0, 1, 2, 3] rfl (T_X11_laysWays_0 C E ht hn h))
def rm_X11_refusesWay : Room := { frames := 9, cells := 0, slots := 0, locals := 243 }
def P_X11_refusesWay_0 (Q : Int32 → HS → Prop) (v0 : Nat) (v1 : Int32) (v2 : Int32) (v3 : Int32) (v4 : Int32) (v5 : Int32) (S : HS) : Prop := ob S v0 11 ∧ (P_X11_isWalker v0 v1 (fun x3 S1 => Gr S S1 → bl x3 → (((x3 = 0) → (Q (1 : Int32) S1)) ∧ ((¬ x3 = 0) → (P_X11_isPlace v0 v2 (fun x7 S5 => Gr S1 S5 → bl x7 → (((x7 = 0) → (Q (1 : Int32) S5)) ∧ ((¬ x7 = 0) → (P_X11_isPlace v0 v3 (fun x11 S9 => Gr S5 S9 → bl x11 → (((¬ x11 = 0) → (P_X11_in v5 (0 : Int32) (400 : Int32) (fun x15 S13 => Gr S9 S13 → bl x15 → (((x15 = 0) → (Q (2 : Int32) S13)) ∧ ((¬ x15 = 0) → (P_X11_in v4 (0 : Int32) v5 (fun x19 S17 => Gr S13 S17 → bl x19 → (((¬ x19 = 0) → (P_X11_laysWays v0 v1 v3 v5 (fun S21 => Gr S17 S21 → (∃ a24 : Nat, fR S21 v0 16 = some a24 ∧ (P_X11_spotOf v2 v4 (fun x27 S25 => Gr S21 S25 → (ob S25 a24 14 ∧ (vp_in x27 (hN S25 a24) ∧ ∀ x29 : Int64, x29 = fJ S25 a24 x27.toNatClampNeg → (((¬ (lg_cmp x29 (-1 : Int64)) = 0) → (Q (0 : Int32) S25)) ∧ (((lg_cmp x29 (-1 : Int64)) = 0) → (Q (6 : Int32) S25)))))) S21))) S17)) ∧ ((x19 = 0) → (Q (2 : Int32) S17)))) S13)))) S9)) ∧ ((x11 = 0) → (Q (1 : Int32) S9)))) S5)))) S1)))) S)
set_option maxRecDepth 20000 in
set_option maxHeartbeats 4000000 in
theorem T_X11_refusesWay_0 {X : CX} {Q : Int32 → HS → Prop} (C : Cx X cX11_refusesWay RX11 6 rm_X11_refusesWay) (E : ReI X rm_X11_refusesWay Q) (ht : (xh X).sig.returnType = (some .int)) (hn : (xh X).name = yX11_refusesWay.name) {v0 : Nat} {v1 : Int32} {v2 : Int32} {v3 : Int32} {v4 : Int32} {v5 : Int32} {S : HS} (h : P_X11_refusesWay_0 Q v0 v1 v2 v3 v4 v5 S) : WS X 6 0 0 0 [(0, .ref v0), (1, .int v1), (2, .int v2), (3, .int v3), (4, .int v4), (5, .int v5)] [] S := by
  refine r_aload_n (pc := 0) C dX11_refusesWay_0 0 rfl ?_
  refine r_iload_n (pc := 1) C dX11_refusesWay_1 1 rfl ?_
  obtain ⟨o_v0, h⟩ := h
  refine r_callVi0 (pc := 2) C (rest := []) (a := v0) o_v0 [.int v1] yV_X11_isWalker g_1538 (c_X11_isWalker h) dX11_refusesWay_2 rfl rfl (Nat.le_of_ble_eq_true rfl) ⟨by decide, by decide⟩ ⟨by decide, by decide⟩ ⟨rfl, rfl⟩ (fun x3 S1 h g2 => ?_)
  have bx3 := h.1
  have h := h.2 g2 bx3
  have o_v0 := gr_ob g2 o_v0
  refine r_if_eq (pc := 5) C (tgt := 24) dX11_refusesWay_5 (by decide) (fun c4 => ?_) (fun c4 => ?_)
  · have h := h.1 c4
    refine r_iconst (pc := 24) C (v := (1 : Int32)) dX11_refusesWay_24 (by decide) ?_
    exact r_iret (pc := 25) C E ht dX11_refusesWay_25 (by decide) (by decide) h
  · have h := h.2 c4
    refine r_aload_n (pc := 8) C dX11_refusesWay_8 0 rfl ?_
    refine r_iload_n (pc := 9) C dX11_refusesWay_9 2 rfl ?_
    refine r_callVi0 (pc := 10) C (rest := []) (a := v0) o_v0 [.int v2] yV_X11_isPlace g_1679 (c_X11_isPlace h) dX11_refusesWay_10 rfl rfl (Nat.le_of_ble_eq_true rfl) ⟨by decide, by decide⟩ ⟨by decide, by decide⟩ ⟨rfl, rfl⟩ (fun x7 S5 h g6 => ?_)
    have bx7 := h.1
    have h := h.2 g6 bx7
    have o_v0 := gr_ob g6 o_v0
    refine r_if_eq (pc := 13) C (tgt := 24) dX11_refusesWay_13 (by decide) (fun c8 => ?_) (fun c8 => ?_)
    · have h := h.1 c8
      refine r_iconst (pc := 24) C (v := (1 : Int32)) dX11_refusesWay_24 (by decide) ?_
      exact r_iret (pc := 25) C E ht dX11_refusesWay_25 (by decide) (by decide) h
    · have h := h.2 c8
      refine r_aload_n (pc := 16) C dX11_refusesWay_16 0 rfl ?_
      refine r_iload_n (pc := 17) C dX11_refusesWay_17 3 rfl ?_
      refine r_callVi0 (pc := 18) C (rest := []) (a := v0) o_v0 [.int v3] yV_X11_isPlace g_1679 (c_X11_isPlace h) dX11_refusesWay_18 rfl rfl (Nat.le_of_ble_eq_true rfl) ⟨by decide, by decide⟩ ⟨by decide, by decide⟩ ⟨rfl, rfl⟩ (fun x11 S9 h g10 => ?_)
      have bx11 := h.1
      have h := h.2 g10 bx11
      have o_v0 := gr_ob g10 o_v0
      refine r_if_ne (pc := 21) C (tgt := 26) dX11_refusesWay_21 (by decide) (fun c12 => ?_) (fun c12 => ?_)
      · have h := h.1 c12
        refine r_iload (pc := 26) C dX11_refusesWay_26 5 rfl ?_
        refine r_iconst (pc := 28) C (v := (0 : Int32)) dX11_refusesWay_28 (by decide) ?_
        refine r_sipush (pc := 29) C (v := (400 : Int32)) dX11_refusesWay_29 (by decide) ?_
        refine r_callSi0 (pc := 32) C (rest := []) rfl [.int v5, .int (0 : Int32), .int (400 : Int32)] yS_X11_in g_1434 (c_X11_in h) dX11_refusesWay_32 rfl rfl (Nat.le_of_ble_eq_true rfl) ⟨by decide, by decide⟩ ⟨by decide, by decide⟩ ⟨rfl, rfl⟩ (fun x15 S13 h g14 => ?_)
        have bx15 := h.1
        have h := h.2 g14 bx15
        have o_v0 := gr_ob g14 o_v0
        refine r_if_eq (pc := 35) C (tgt := 49) dX11_refusesWay_35 (by decide) (fun c16 => ?_) (fun c16 => ?_)
        · have h := h.1 c16
          refine r_iconst (pc := 49) C (v := (2 : Int32)) dX11_refusesWay_49 (by decide) ?_
          exact r_iret (pc := 50) C E ht dX11_refusesWay_50 (by decide) (by decide) h
        · have h := h.2 c16
          refine r_iload (pc := 38) C dX11_refusesWay_38 4 rfl ?_
          refine r_iconst (pc := 40) C (v := (0 : Int32)) dX11_refusesWay_40 (by decide) ?_
          refine r_iload (pc := 41) C dX11_refusesWay_41 5 rfl ?_
          refine r_callSi0 (pc := 43) C (rest := []) rfl [.int v4, .int (0 : Int32), .int v5] yS_X11_in g_1434 (c_X11_in h) dX11_refusesWay_43 rfl rfl (Nat.le_of_ble_eq_true rfl) ⟨by decide, by decide⟩ ⟨by decide, by decide⟩ ⟨rfl, rfl⟩ (fun x19 S17 h g18 => ?_)
          have bx19 := h.1
          have h := h.2 g18 bx19
          have o_v0 := gr_ob g18 o_v0
          refine r_if_ne (pc := 46) C (tgt := 51) dX11_refusesWay_46 (by decide) (fun c20 => ?_) (fun c20 => ?_)
          · have h := h.1 c20
            refine r_aload_n (pc := 51) C dX11_refusesWay_51 0 rfl ?_
            refine r_iload_n (pc := 52) C dX11_refusesWay_52 1 rfl ?_
            refine r_iload_n (pc := 53) C dX11_refusesWay_53 3 rfl ?_
            refine r_iload (pc := 54) C dX11_refusesWay_54 5 rfl ?_
            refine r_callVv0 (pc := 56) C (rest := []) (a := v0) o_v0 [.int v1, .int v3, .int v5] yV_X11_laysWays g_1683 (c_X11_laysWays h) dX11_refusesWay_56 rfl rfl (Nat.le_of_ble_eq_true rfl) ⟨by decide, by decide⟩ ⟨by decide, by decide⟩ ⟨rfl, rfl⟩ (fun S21 h g22 => ?_)
            have h := h g22
            have o_v0 := gr_ob g22 o_v0
            refine r_aload_n (pc := 59) C dX11_refusesWay_59 0 rfl ?_
            obtain ⟨a24, ea24, h⟩ := h
            refine r_getr (pc := 60) C fL_X11_17 dX11_refusesWay_60 o_v0 ea24 ?_
            refine r_iload_n (pc := 63) C dX11_refusesWay_63 2 rfl ?_
            refine r_iload (pc := 64) C dX11_refusesWay_64 4 rfl ?_
            refine r_callSi0 (pc := 66) C (rest := [.ref a24]) rfl [.int v2, .int v4] yS_X11_spotOf g_1687 (c_X11_spotOf h) dX11_refusesWay_66 rfl rfl (Nat.le_of_ble_eq_true rfl) ⟨by decide, by decide⟩ ⟨by decide, by decide⟩ ⟨rfl, rfl⟩ (fun x27 S25 h g26 => ?_)
            have h := h g26
            have o_v0 := gr_ob g26 o_v0
            obtain ⟨o_a24, h⟩ := h
            obtain ⟨i28, h⟩ := h
            refine r_lald (pc := 69) C dX11_refusesWay_69 o_a24 i28 ?_
            refine r_topl (fun x29 ex29 => ?_)
            have h := h x29 ex29
            refine r_ldc2 (pc := 70) C (v := (-1 : Int64)) dX11_refusesWay_70 g_1690 ?_
            refine r_lcmp (pc := 73) C dX11_refusesWay_73 ?_
            refine r_if_ne (pc := 74) C (tgt := 82) dX11_refusesWay_74 (by decide) (fun c30 => ?_) (fun c30 => ?_)
            · have h := h.1 c30
              refine r_iconst (pc := 82) C (v := (0 : Int32)) dX11_refusesWay_82 (by decide) ?_
              exact r_iret (pc := 83) C E ht dX11_refusesWay_83 (by decide) (by decide) h
            · have h := h.2 c30
              refine r_bipush (pc := 77) C (v := (6 : Int32)) dX11_refusesWay_77 (by decide) ?_
              refine r_goto (pc := 79) C (tgt := 83) dX11_refusesWay_79 (by decide) ?_
              exact r_iret (pc := 83) C E ht dX11_refusesWay_83 (by decide) (by decide) h
          · have h := h.2 c20
            refine r_iconst (pc := 49) C (v := (2 : Int32)) dX11_refusesWay_49 (by decide) ?_
            exact r_iret (pc := 50) C E ht dX11_refusesWay_50 (by decide) (by decide) h
      · have h := h.2 c12
        refine r_iconst (pc := 24) C (v := (1 : Int32)) dX11_refusesWay_24 (by decide) ?_
        exact r_iret (pc := 25) C E ht dX11_refusesWay_25 (by decide) (by decide) h
def P_X11_refusesWay (v0 : Nat) (v1 : Int32) (v2 : Int32) (v3 : Int32) (v4 : Int32) (v5 : Int32) (Q : Int32 → HS → Prop) (S : HS) : Prop := P_X11_refusesWay_0 Q v0 v1 v2 v3 v4 v5 S
theorem c_X11_refusesWay {l : Launch} {Ee : EE} {S : HS} {v0 : Nat} {v1 : Int32} {v2 : Int32} {v3 : Int32} {v4 : Int32} {v5 : Int32} {Q : Int32 → HS → Prop} (h : P_X11_refusesWay v0 v1 v2 v3 v4 v5 Q S) : MI l yX11_refusesWay cX11_refusesWay 6 (some .int) rm_X11_refusesWay Ee S [.ref v0, .int v1, .int v2, .int v3, .int v4, .int v5] Q :=
  openI (by decide) (Nat.le_of_ble_eq_true rfl) (fun X C E ht hn hE hl => by subst hE; exact r_sub [0, 1, 2, 3, 4, 5] rfl (T_X11_refusesWay_0 C E ht hn h))
def rm_X11_least : Room := { frames := 10, cells := 0, slots := 0, locals := 268 }
def P_X11_least_0 (Q : Int64 → HS → Prop) (v0 : Nat) (v1 : Int32) (v2 : Int32) (v3 : Int32) (v4 : Int32) (v5 : Int32) (v6 : Int32) (S : HS) : Prop := ob S v0 11 ∧ (∀ S1 : HS, S1 = sI S v0 0 (0 : Int32) → (P_X11_refusesWay v0 v1 v2 v3 v4 v5 (fun x4 S2 => Gr S1 S2 → (((x4 ≤ 0) → (∃ a6 : Nat, fR S2 v0 16 = some a6 ∧ (P_X11_spotOf v2 v4 (fun x9 S7 => Gr S2 S7 → (ob S7 a6 14 ∧ (vp_in x9 (hN S7 a6) ∧ ∀ x11 : Int64, x11 = fJ S7 a6 x9.toNatClampNeg → (P_X11_told v0 x11 (252000 : Int64) v6 (fun x14 S12 => Gr S7 S12 → (Q x14 S12)) S7)))) S2))) ∧ ((¬ x4 ≤ 0) → (P_X11_refused v0 x4 (fun x17 S15 => Gr S2 S15 → (Q x17.toInt64 S15)) S2)))) S1))
set_option maxRecDepth 20000 in
set_option maxHeartbeats 4000000 in
theorem T_X11_least_0 {X : CX} {Q : Int64 → HS → Prop} (C : Cx X cX11_least RX11 8 rm_X11_least) (E : ReJ X rm_X11_least Q) (ht : (xh X).sig.returnType = (some .long)) (hn : (xh X).name = yX11_least.name) {v0 : Nat} {v1 : Int32} {v2 : Int32} {v3 : Int32} {v4 : Int32} {v5 : Int32} {v6 : Int32} {S : HS} (h : P_X11_least_0 Q v0 v1 v2 v3 v4 v5 v6 S) : WS X 8 0 0 0 [(0, .ref v0), (1, .int v1), (2, .int v2), (3, .int v3), (4, .int v4), (5, .int v5), (6, .int v6)] [] S := by
  refine r_aload_n (pc := 0) C dX11_least_0 0 rfl ?_
  refine r_iconst (pc := 1) C (v := (0 : Int32)) dX11_least_1 (by decide) ?_
  obtain ⟨o_v0, h⟩ := h
  refine r_puti (pc := 2) C pfL_X11_40 dX11_least_2 o_v0 ?_
  refine r_heap (fun S1 eS1 => ?_)
  have h := h S1 eS1
  have o_v0 := ob_I eS1 o_v0
  refine r_aload_n (pc := 5) C dX11_least_5 0 rfl ?_
  refine r_iload_n (pc := 6) C dX11_least_6 1 rfl ?_
  refine r_iload_n (pc := 7) C dX11_least_7 2 rfl ?_
  refine r_iload_n (pc := 8) C dX11_least_8 3 rfl ?_
  refine r_iload (pc := 9) C dX11_least_9 4 rfl ?_
  refine r_iload (pc := 11) C dX11_least_11 5 rfl ?_
  refine r_callVi0 (pc := 13) C (rest := []) (a := v0) o_v0 [.int v1, .int v2, .int v3, .int v4, .int v5] yV_X11_refusesWay g_1675 (c_X11_refusesWay h) dX11_least_13 rfl rfl (Nat.le_of_ble_eq_true rfl) ⟨by decide, by decide⟩ ⟨by decide, by decide⟩ ⟨rfl, rfl⟩ (fun x4 S2 h g3 => ?_)
  have h := h g3
  have o_v0 := gr_ob g3 o_v0
  refine r_istore (pc := 16) C dX11_least_16 (by decide) (lv' := [(7, .int x4), (0, .ref v0), (1, .int v1), (2, .int v2), (3, .int v3), (4, .int v4), (5, .int v5), (6, .int v6)]) rfl ?_
  refine r_iload (pc := 18) C dX11_least_18 0 rfl ?_
  refine r_if_le (pc := 20) C (tgt := 33) dX11_least_20 (by decide) (fun c5 => ?_) (fun c5 => ?_)
  · have h := h.1 c5
    refine r_aload_n (pc := 33) C dX11_least_33 1 rfl ?_
    refine r_aload_n (pc := 34) C dX11_least_34 1 rfl ?_
    obtain ⟨a6, ea6, h⟩ := h
    refine r_getr (pc := 35) C fL_X11_17 dX11_least_35 o_v0 ea6 ?_
    refine r_iload_n (pc := 38) C dX11_least_38 3 rfl ?_
    refine r_iload (pc := 39) C dX11_least_39 5 rfl ?_
    refine r_callSi0 (pc := 41) C (rest := [.ref a6, .ref v0]) rfl [.int v2, .int v4] yS_X11_spotOf g_1687 (c_X11_spotOf h) dX11_least_41 rfl rfl (Nat.le_of_ble_eq_true rfl) ⟨by decide, by decide⟩ ⟨by decide, by decide⟩ ⟨rfl, rfl⟩ (fun x9 S7 h g8 => ?_)
    have h := h g8
    have o_v0 := gr_ob g8 o_v0
    obtain ⟨o_a6, h⟩ := h
    obtain ⟨i10, h⟩ := h
    refine r_lald (pc := 44) C dX11_least_44 o_a6 i10 ?_
    refine r_topl (fun x11 ex11 => ?_)
    have h := h x11 ex11
    refine r_ldc2 (pc := 45) C (v := (252000 : Int64)) dX11_least_45 g_1602 ?_
    refine r_iload (pc := 48) C dX11_least_48 7 rfl ?_
    refine r_callVl0 (pc := 50) C (rest := []) (a := v0) o_v0 [.long x11, .long (252000 : Int64), .int v6] yV_X11_told g_1586 (c_X11_told h) dX11_least_50 rfl rfl (Nat.le_of_ble_eq_true rfl) ⟨by decide, by decide⟩ ⟨by decide, by decide⟩ ⟨rfl, rfl⟩ (fun x14 S12 h g13 => ?_)
    have h := h g13
    have o_a6 := gr_ob g13 o_a6
    have o_v0 := gr_ob g13 o_v0
    exact r_lret (pc := 53) C E ht dX11_least_53 (by decide) (by decide) h
  · have h := h.2 c5
    refine r_aload_n (pc := 23) C dX11_least_23 1 rfl ?_
    refine r_iload (pc := 24) C dX11_least_24 0 rfl ?_
    refine r_callVi0 (pc := 26) C (rest := []) (a := v0) o_v0 [.int x4] yV_X11_refused g_1250 (c_X11_refused h) dX11_least_26 rfl rfl (Nat.le_of_ble_eq_true rfl) ⟨by decide, by decide⟩ ⟨by decide, by decide⟩ ⟨rfl, rfl⟩ (fun x17 S15 h g16 => ?_)
    have h := h g16
    have o_v0 := gr_ob g16 o_v0
    refine r_i2l (pc := 29) C dX11_least_29 ?_
    refine r_goto (pc := 30) C (tgt := 53) dX11_least_30 (by decide) ?_
    exact r_lret (pc := 53) C E ht dX11_least_53 (by decide) (by decide) h
def P_X11_least (v0 : Nat) (v1 : Int32) (v2 : Int32) (v3 : Int32) (v4 : Int32) (v5 : Int32) (v6 : Int32) (Q : Int64 → HS → Prop) (S : HS) : Prop := P_X11_least_0 Q v0 v1 v2 v3 v4 v5 v6 S
theorem c_X11_least {l : Launch} {Ee : EE} {S : HS} {v0 : Nat} {v1 : Int32} {v2 : Int32} {v3 : Int32} {v4 : Int32} {v5 : Int32} {v6 : Int32} {Q : Int64 → HS → Prop} (h : P_X11_least v0 v1 v2 v3 v4 v5 v6 Q S) : MJ l yX11_least cX11_least 8 (some .long) rm_X11_least Ee S [.ref v0, .int v1, .int v2, .int v3, .int v4, .int v5, .int v6] Q :=
  openJ (by decide) (Nat.le_of_ble_eq_true rfl) (fun X C E ht hn hE hl => by subst hE; exact r_sub [0, 1, 2, 3, 4, 5, 6] rfl (T_X11_least_0 C E ht hn h))
def rm_X11_led : Room := { frames := 1, cells := 0, slots := 0, locals := 20 }
def P_X11_led_80 (Q : Int32 → HS → Prop) (X9 : Nat → Int32 → Int32 → Int32 → HS → Prop) (v0 : Nat) (v1 : Int32) (v2 : Int32) (v3 : Int32) (S : HS) : Prop := ∀ x1 : Int32, x1 = v3 + (1 : Int32) → (X9 v0 v1 v2 x1 S)
set_option maxRecDepth 20000 in
set_option maxHeartbeats 4000000 in
theorem T_X11_led_80 {X : CX} {Q : Int32 → HS → Prop} (C : Cx X cX11_led RX11 4 rm_X11_led) (E : ReI X rm_X11_led Q) (ht : (xh X).sig.returnType = (some .int)) (hn : (xh X).name = yX11_led.name) {X9 : Nat → Int32 → Int32 → Int32 → HS → Prop} (hX9 : ∀ (v0 : Nat) (v1 : Int32) (v2 : Int32) (v3 : Int32) (S : HS), X9 v0 v1 v2 v3 S → WS X 4 0 0 9 [(0, .ref v0), (1, .int v1), (2, .int v2), (3, .int v3)] [] S) {v0 : Nat} {v1 : Int32} {v2 : Int32} {v3 : Int32} {S : HS} (h : P_X11_led_80 Q X9 v0 v1 v2 v3 S) : WS X 4 0 0 80 [(0, .ref v0), (1, .int v1), (2, .int v2), (3, .int v3)] [] S := by
  obtain ⟨x1, ex1⟩ : ∃ z : Int32, z = v3 + (1 : Int32) := ⟨_, rfl⟩
  have h := h x1 ex1
  refine r_iinc (pc := 80) C (v := x1) (lv' := [(3, .int x1), (0, .ref v0), (1, .int v1), (2, .int v2)]) dX11_led_80 3 rfl ex1.symm (by decide) rfl ?_
  refine r_goto (pc := 83) C (tgt := 9) dX11_led_83 (by decide) ?_
  exact r_sub [1, 2, 3, 0] rfl (hX9 v0 v1 v2 x1 S h)
def P_X11_led_70 (Q : Int32 → HS → Prop) (X9 : Nat → Int32 → Int32 → Int32 → HS → Prop) (v0 : Nat) (v1 : Int32) (v2 : Int32) (v3 : Int32) (S : HS) : Prop := ((¬ v2 = v1) → (∀ x2 : Int32, x2 = v2 + (1 : Int32) → (P_X11_led_80 Q X9 v0 v1 x2 v3 S))) ∧ ((v2 = v1) → (Q v3 S))
set_option maxRecDepth 20000 in
set_option maxHeartbeats 4000000 in
theorem T_X11_led_70 {X : CX} {Q : Int32 → HS → Prop} (C : Cx X cX11_led RX11 4 rm_X11_led) (E : ReI X rm_X11_led Q) (ht : (xh X).sig.returnType = (some .int)) (hn : (xh X).name = yX11_led.name) {X9 : Nat → Int32 → Int32 → Int32 → HS → Prop} (hX9 : ∀ (v0 : Nat) (v1 : Int32) (v2 : Int32) (v3 : Int32) (S : HS), X9 v0 v1 v2 v3 S → WS X 4 0 0 9 [(0, .ref v0), (1, .int v1), (2, .int v2), (3, .int v3)] [] S) {v0 : Nat} {v1 : Int32} {v2 : Int32} {v3 : Int32} {S : HS} (h : P_X11_led_70 Q X9 v0 v1 v2 v3 S) : WS X 4 0 0 70 [(0, .ref v0), (1, .int v1), (2, .int v2), (3, .int v3)] [] S := by
  refine r_iload_n (pc := 70) C dX11_led_70 2 rfl ?_
  refine r_iload_n (pc := 71) C dX11_led_71 1 rfl ?_
  refine r_icmp_ne (pc := 72) C (tgt := 77) dX11_led_72 (by decide) (fun c1 => ?_) (fun c1 => ?_)
  · have h := h.1 c1
    obtain ⟨x2, ex2⟩ : ∃ z : Int32, z = v2 + (1 : Int32) := ⟨_, rfl⟩
    have h := h x2 ex2
    refine r_iinc (pc := 77) C (v := x2) (lv' := [(2, .int x2), (0, .ref v0), (1, .int v1), (3, .int v3)]) dX11_led_77 2 rfl ex2.symm (by decide) rfl ?_
    exact r_sub [1, 2, 0, 3] rfl (T_X11_led_80 C E ht hn hX9 h)
  · have h := h.2 c1
    refine r_iload_n (pc := 75) C dX11_led_75 3 rfl ?_
    exact r_iret (pc := 76) C E ht dX11_led_76 (by decide) (by decide) h
def B_X11_led_9 (Q : Int32 → HS → Prop) (X9 : Nat → Int32 → Int32 → Int32 → HS → Prop) (v0 : Nat) (v1 : Int32) (v2 : Int32) (v3 : Int32) (S : HS) : Prop := ob S v0 11 ∧ (P_X11_isDay v0 (fun x3 S1 => Gr S S1 → bl x3 → (((x3 = 0) → (∀ S5 : HS, S5 = sI S1 v0 0 (1 : Int32) → (Q (0 : Int32) S5))) ∧ ((¬ x3 = 0) → (∃ a6 : Nat, fR S1 v0 3 = some a6 ∧ (ob S1 a6 10 ∧ (∀ x7 : Int32, x7 = fI S1 a6 3 → (((x7 ≤ v3) → (∀ S9 : HS, S9 = sI S1 v0 0 (1 : Int32) → (Q (0 : Int32) S9))) ∧ ((¬ x7 ≤ v3) → (∃ a10 : Nat, fR S1 v0 3 = some a10 ∧ (ob S1 a10 10 ∧ (∃ a11 : Nat, fR S1 a10 13 = some a11 ∧ (ob S1 a11 13 ∧ (vp_in v3 (hN S1 a11) ∧ ∀ x13 : Int32, x13 = fI S1 a11 v3.toNatClampNeg → (∃ a14 : Nat, fR S1 v0 21 = some a14 ∧ (ob S1 a14 14 ∧ (vp_in (0 : Int32) (hN S1 a14) ∧ ∀ x16 : Int64, x16 = fJ S1 a14 (0 : Int32).toNatClampNeg → ((((lg_cmp x13.toInt64 x16) = 0) → (P_X11_led_70 Q X9 v0 v1 v2 v3 S1)) ∧ ((¬ (lg_cmp x13.toInt64 x16) = 0) → (∃ a18 : Nat, fR S1 v0 3 = some a18 ∧ (ob S1 a18 10 ∧ (∃ a19 : Nat, fR S1 a18 14 = some a19 ∧ (ob S1 a19 13 ∧ (vp_in v3 (hN S1 a19) ∧ ∀ x21 : Int32, x21 = fI S1 a19 v3.toNatClampNeg → (∃ a22 : Nat, fR S1 v0 21 = some a22 ∧ (ob S1 a22 14 ∧ (vp_in (0 : Int32) (hN S1 a22) ∧ ∀ x24 : Int64, x24 = fJ S1 a22 (0 : Int32).toNatClampNeg → ((((lg_cmp x21.toInt64 x24) = 0) → (P_X11_led_70 Q X9 v0 v1 v2 v3 S1)) ∧ ((¬ (lg_cmp x21.toInt64 x24) = 0) → (P_X11_led_80 Q X9 v0 v1 v2 v3 S1))))))))))))))))))))))))))))) S)
def P_X11_led_9 (Q : Int32 → HS → Prop) (v0 : Nat) (v1 : Int32) (v2 : Int32) (v3 : Int32) (S : HS) : Prop := ∀ X9 : Nat → Int32 → Int32 → Int32 → HS → Prop, (∀ (v0 : Nat) (v1 : Int32) (v2 : Int32) (v3 : Int32) (S : HS), B_X11_led_9 Q X9 v0 v1 v2 v3 S → X9 v0 v1 v2 v3 S) → X9 v0 v1 v2 v3 S
set_option maxRecDepth 20000 in
set_option maxHeartbeats 4000000 in
theorem TB_X11_led_9 {X : CX} {Q : Int32 → HS → Prop} (C : Cx X cX11_led RX11 4 rm_X11_led) (E : ReI X rm_X11_led Q) (ht : (xh X).sig.returnType = (some .int)) (hn : (xh X).name = yX11_led.name) {X9 : Nat → Int32 → Int32 → Int32 → HS → Prop} (hX9 : ∀ (v0 : Nat) (v1 : Int32) (v2 : Int32) (v3 : Int32) (S : HS), X9 v0 v1 v2 v3 S → WS X 4 0 0 9 [(0, .ref v0), (1, .int v1), (2, .int v2), (3, .int v3)] [] S) {v0 : Nat} {v1 : Int32} {v2 : Int32} {v3 : Int32} {S : HS} (h : B_X11_led_9 Q X9 v0 v1 v2 v3 S) : WS X 4 0 0 9 [(0, .ref v0), (1, .int v1), (2, .int v2), (3, .int v3)] [] S := by
  refine r_aload_n (pc := 9) C dX11_led_9 0 rfl ?_
  obtain ⟨o_v0, h⟩ := h
  refine r_callVi0 (pc := 10) C (rest := []) (a := v0) o_v0 [] yV_X11_isDay g_1779 (c_X11_isDay h) dX11_led_10 rfl rfl (Nat.le_of_ble_eq_true rfl) ⟨by decide, by decide⟩ ⟨by decide, by decide⟩ ⟨rfl, rfl⟩ (fun x3 S1 h g2 => ?_)
  have bx3 := h.1
  have h := h.2 g2 bx3
  have o_v0 := gr_ob g2 o_v0
  refine r_if_eq (pc := 13) C (tgt := 86) dX11_led_13 (by decide) (fun c4 => ?_) (fun c4 => ?_)
  · have h := h.1 c4
    refine r_aload_n (pc := 86) C dX11_led_86 0 rfl ?_
    refine r_iconst (pc := 87) C (v := (1 : Int32)) dX11_led_87 (by decide) ?_
    refine r_puti (pc := 88) C pfL_X11_40 dX11_led_88 o_v0 ?_
    refine r_heap (fun S5 eS5 => ?_)
    have h := h S5 eS5
    have o_v0 := ob_I eS5 o_v0
    refine r_iconst (pc := 91) C (v := (0 : Int32)) dX11_led_91 (by decide) ?_
    exact r_iret (pc := 92) C E ht dX11_led_92 (by decide) (by decide) h
  · have h := h.2 c4
    refine r_iload_n (pc := 16) C dX11_led_16 3 rfl ?_
    refine r_aload_n (pc := 17) C dX11_led_17 0 rfl ?_
    obtain ⟨a6, ea6, h⟩ := h
    refine r_getr (pc := 18) C fL_X11_338 dX11_led_18 o_v0 ea6 ?_
    obtain ⟨o_a6, h⟩ := h
    refine r_getNi (pc := 21) C fN_X11_264 dX11_led_21 o_a6 ?_
    refine r_topi (fun x7 ex7 => ?_)
    have h := h x7 ex7
    refine r_icmp_ge (pc := 24) C (tgt := 86) dX11_led_24 (by decide) (fun c8 => ?_) (fun c8 => ?_)
    · have h := h.1 c8
      refine r_aload_n (pc := 86) C dX11_led_86 0 rfl ?_
      refine r_iconst (pc := 87) C (v := (1 : Int32)) dX11_led_87 (by decide) ?_
      refine r_puti (pc := 88) C pfL_X11_40 dX11_led_88 o_v0 ?_
      refine r_heap (fun S9 eS9 => ?_)
      have h := h S9 eS9
      have o_a6 := ob_I eS9 o_a6
      have o_v0 := ob_I eS9 o_v0
      refine r_iconst (pc := 91) C (v := (0 : Int32)) dX11_led_91 (by decide) ?_
      exact r_iret (pc := 92) C E ht dX11_led_92 (by decide) (by decide) h
    · have h := h.2 c8
      refine r_aload_n (pc := 27) C dX11_led_27 0 rfl ?_
      obtain ⟨a10, ea10, h⟩ := h
      refine r_getr (pc := 28) C fL_X11_338 dX11_led_28 o_v0 ea10 ?_
      obtain ⟨o_a10, h⟩ := h
      obtain ⟨a11, ea11, h⟩ := h
      refine r_getNr (pc := 31) C fN_X11_270 dX11_led_31 o_a10 ea11 ?_
      refine r_iload_n (pc := 34) C dX11_led_34 3 rfl ?_
      obtain ⟨o_a11, h⟩ := h
      obtain ⟨i12, h⟩ := h
      refine r_iald (pc := 35) C dX11_led_35 o_a11 i12 ?_
      refine r_topi (fun x13 ex13 => ?_)
      have h := h x13 ex13
      refine r_i2l (pc := 36) C dX11_led_36 ?_
      refine r_aload_n (pc := 37) C dX11_led_37 0 rfl ?_
      obtain ⟨a14, ea14, h⟩ := h
      refine r_getr (pc := 38) C fL_X11_31 dX11_led_38 o_v0 ea14 ?_
      refine r_iconst (pc := 41) C (v := (0 : Int32)) dX11_led_41 (by decide) ?_
      obtain ⟨o_a14, h⟩ := h
      obtain ⟨i15, h⟩ := h
      refine r_lald (pc := 42) C dX11_led_42 o_a14 i15 ?_
      refine r_topl (fun x16 ex16 => ?_)
      have h := h x16 ex16
      refine r_lcmp (pc := 43) C dX11_led_43 ?_
      refine r_if_eq (pc := 44) C (tgt := 70) dX11_led_44 (by decide) (fun c17 => ?_) (fun c17 => ?_)
      · have h := h.1 c17
        exact r_sub [0, 1, 2, 3] rfl (T_X11_led_70 C E ht hn hX9 h)
      · have h := h.2 c17
        refine r_aload_n (pc := 47) C dX11_led_47 0 rfl ?_
        obtain ⟨a18, ea18, h⟩ := h
        refine r_getr (pc := 48) C fL_X11_338 dX11_led_48 o_v0 ea18 ?_
        obtain ⟨o_a18, h⟩ := h
        obtain ⟨a19, ea19, h⟩ := h
        refine r_getNr (pc := 51) C fN_X11_273 dX11_led_51 o_a18 ea19 ?_
        refine r_iload_n (pc := 54) C dX11_led_54 3 rfl ?_
        obtain ⟨o_a19, h⟩ := h
        obtain ⟨i20, h⟩ := h
        refine r_iald (pc := 55) C dX11_led_55 o_a19 i20 ?_
        refine r_topi (fun x21 ex21 => ?_)
        have h := h x21 ex21
        refine r_i2l (pc := 56) C dX11_led_56 ?_
        refine r_aload_n (pc := 57) C dX11_led_57 0 rfl ?_
        obtain ⟨a22, ea22, h⟩ := h
        refine r_getr (pc := 58) C fL_X11_31 dX11_led_58 o_v0 ea22 ?_
        refine r_iconst (pc := 61) C (v := (0 : Int32)) dX11_led_61 (by decide) ?_
        obtain ⟨o_a22, h⟩ := h
        obtain ⟨i23, h⟩ := h
        refine r_lald (pc := 62) C dX11_led_62 o_a22 i23 ?_
        refine r_topl (fun x24 ex24 => ?_)
        have h := h x24 ex24
        refine r_lcmp (pc := 63) C dX11_led_63 ?_
        refine r_if_eq (pc := 64) C (tgt := 70) dX11_led_64 (by decide) (fun c25 => ?_) (fun c25 => ?_)
        · have h := h.1 c25
          exact r_sub [0, 1, 2, 3] rfl (T_X11_led_70 C E ht hn hX9 h)
        · have h := h.2 c25
          refine r_goto (pc := 67) C (tgt := 80) dX11_led_67 (by decide) ?_
          exact r_sub [0, 1, 2, 3] rfl (T_X11_led_80 C E ht hn hX9 h)
theorem T_X11_led_9 {X : CX} {Q : Int32 → HS → Prop} (C : Cx X cX11_led RX11 4 rm_X11_led) (E : ReI X rm_X11_led Q) (ht : (xh X).sig.returnType = (some .int)) (hn : (xh X).name = yX11_led.name) {v0 : Nat} {v1 : Int32} {v2 : Int32} {v3 : Int32} {S : HS} (h : P_X11_led_9 Q v0 v1 v2 v3 S) : WS X 4 0 0 9 [(0, .ref v0), (1, .int v1), (2, .int v2), (3, .int v3)] [] S :=
  h (fun v0 v1 v2 v3 S => WS X 4 0 0 9 [(0, .ref v0), (1, .int v1), (2, .int v2), (3, .int v3)] [] S) (fun v0 v1 v2 v3 S hh => TB_X11_led_9 C E ht hn (fun v0 v1 v2 v3 S z => z) hh)
def P_X11_led_0 (Q : Int32 → HS → Prop) (v0 : Nat) (v1 : Int32) (S : HS) : Prop := ob S v0 11 ∧ (∀ S1 : HS, S1 = sI S v0 0 (0 : Int32) → (P_X11_led_9 Q v0 v1 (0 : Int32) (0 : Int32) S1))
set_option maxRecDepth 20000 in
set_option maxHeartbeats 4000000 in
theorem T_X11_led_0 {X : CX} {Q : Int32 → HS → Prop} (C : Cx X cX11_led RX11 4 rm_X11_led) (E : ReI X rm_X11_led Q) (ht : (xh X).sig.returnType = (some .int)) (hn : (xh X).name = yX11_led.name) {v0 : Nat} {v1 : Int32} {S : HS} (h : P_X11_led_0 Q v0 v1 S) : WS X 4 0 0 0 [(0, .ref v0), (1, .int v1)] [] S := by
  refine r_aload_n (pc := 0) C dX11_led_0 0 rfl ?_
  refine r_iconst (pc := 1) C (v := (0 : Int32)) dX11_led_1 (by decide) ?_
  obtain ⟨o_v0, h⟩ := h
  refine r_puti (pc := 2) C pfL_X11_40 dX11_led_2 o_v0 ?_
  refine r_heap (fun S1 eS1 => ?_)
  have h := h S1 eS1
  have o_v0 := ob_I eS1 o_v0
  refine r_iconst (pc := 5) C (v := (0 : Int32)) dX11_led_5 (by decide) ?_
  refine r_istore_n (pc := 6) C dX11_led_6 rfl (by decide) (lv' := [(2, .int (0 : Int32)), (0, .ref v0), (1, .int v1)]) rfl ?_
  refine r_iconst (pc := 7) C (v := (0 : Int32)) dX11_led_7 (by decide) ?_
  refine r_istore_n (pc := 8) C dX11_led_8 rfl (by decide) (lv' := [(3, .int (0 : Int32)), (2, .int (0 : Int32)), (0, .ref v0), (1, .int v1)]) rfl ?_
  exact r_sub [2, 3, 1, 0] rfl (T_X11_led_9 C E ht hn h)
def P_X11_led (v0 : Nat) (v1 : Int32) (Q : Int32 → HS → Prop) (S : HS) : Prop := P_X11_led_0 Q v0 v1 S
theorem c_X11_led {l : Launch} {Ee : EE} {S : HS} {v0 : Nat} {v1 : Int32} {Q : Int32 → HS → Prop} (h : P_X11_led v0 v1 Q S) : MI l yX11_led cX11_led 4 (some .int) rm_X11_led Ee S [.ref v0, .int v1] Q :=
  openI (by decide) (Nat.le_of_ble_eq_true rfl) (fun X C E ht hn hE hl => by subst hE; exact r_sub [0, 1] rfl (T_X11_led_0 C E ht hn h))
def rm_X11_lee : Room := { frames := 5, cells := 0, slots := 0, locals := 138 }
def P_X11_lee_0 (Q : Int64 → HS → Prop) (v0 : Nat) (v1 : Int32) (v2 : Int32) (v3 : Int32) (v4 : Int32) (v5 : Int32) (v6 : Int32) (v7 : Int32) (S : HS) : Prop := ob S v0 11 ∧ (∀ S1 : HS, S1 = sI S v0 0 (0 : Int32) → (P_X11_refusesTwo v0 v1 v2 v3 v4 v5 v6 (fun x4 S2 => Gr S1 S2 → (((x4 ≤ 0) → (P_X11_together v0 v1 v2 v3 v4 v5 v6 (fun x8 S6 => Gr S2 S6 → (P_X11_told v0 x8 (2520 : Int64) v7 (fun x11 S9 => Gr S6 S9 → (Q x11 S9)) S6)) S2)) ∧ ((¬ x4 ≤ 0) → (P_X11_refused v0 x4 (fun x14 S12 => Gr S2 S12 → (Q x14.toInt64 S12)) S2)))) S1))
set_option maxRecDepth 20000 in
set_option maxHeartbeats 4000000 in
theorem T_X11_lee_0 {X : CX} {Q : Int64 → HS → Prop} (C : Cx X cX11_lee RX11 9 rm_X11_lee) (E : ReJ X rm_X11_lee Q) (ht : (xh X).sig.returnType = (some .long)) (hn : (xh X).name = yX11_lee.name) {v0 : Nat} {v1 : Int32} {v2 : Int32} {v3 : Int32} {v4 : Int32} {v5 : Int32} {v6 : Int32} {v7 : Int32} {S : HS} (h : P_X11_lee_0 Q v0 v1 v2 v3 v4 v5 v6 v7 S) : WS X 9 0 0 0 [(0, .ref v0), (1, .int v1), (2, .int v2), (3, .int v3), (4, .int v4), (5, .int v5), (6, .int v6), (7, .int v7)] [] S := by
  refine r_aload_n (pc := 0) C dX11_lee_0 0 rfl ?_
  refine r_iconst (pc := 1) C (v := (0 : Int32)) dX11_lee_1 (by decide) ?_
  obtain ⟨o_v0, h⟩ := h
  refine r_puti (pc := 2) C pfL_X11_40 dX11_lee_2 o_v0 ?_
  refine r_heap (fun S1 eS1 => ?_)
  have h := h S1 eS1
  have o_v0 := ob_I eS1 o_v0
  refine r_aload_n (pc := 5) C dX11_lee_5 0 rfl ?_
  refine r_iload_n (pc := 6) C dX11_lee_6 1 rfl ?_
  refine r_iload_n (pc := 7) C dX11_lee_7 2 rfl ?_
  refine r_iload_n (pc := 8) C dX11_lee_8 3 rfl ?_
  refine r_iload (pc := 9) C dX11_lee_9 4 rfl ?_
  refine r_iload (pc := 11) C dX11_lee_11 5 rfl ?_
  refine r_iload (pc := 13) C dX11_lee_13 6 rfl ?_
  refine r_callVi0 (pc := 15) C (rest := []) (a := v0) o_v0 [.int v1, .int v2, .int v3, .int v4, .int v5, .int v6] yV_X11_refusesTwo g_1659 (c_X11_refusesTwo h) dX11_lee_15 rfl rfl (Nat.le_of_ble_eq_true rfl) ⟨by decide, by decide⟩ ⟨by decide, by decide⟩ ⟨rfl, rfl⟩ (fun x4 S2 h g3 => ?_)
  have h := h g3
  have o_v0 := gr_ob g3 o_v0
  refine r_istore (pc := 18) C dX11_lee_18 (by decide) (lv' := [(8, .int x4), (0, .ref v0), (1, .int v1), (2, .int v2), (3, .int v3), (4, .int v4), (5, .int v5), (6, .int v6), (7, .int v7)]) rfl ?_
  refine r_iload (pc := 20) C dX11_lee_20 0 rfl ?_
  refine r_if_le (pc := 22) C (tgt := 35) dX11_lee_22 (by decide) (fun c5 => ?_) (fun c5 => ?_)
  · have h := h.1 c5
    refine r_aload_n (pc := 35) C dX11_lee_35 1 rfl ?_
    refine r_aload_n (pc := 36) C dX11_lee_36 1 rfl ?_
    refine r_iload_n (pc := 37) C dX11_lee_37 2 rfl ?_
    refine r_iload_n (pc := 38) C dX11_lee_38 3 rfl ?_
    refine r_iload_n (pc := 39) C dX11_lee_39 4 rfl ?_
    refine r_iload (pc := 40) C dX11_lee_40 5 rfl ?_
    refine r_iload (pc := 42) C dX11_lee_42 6 rfl ?_
    refine r_iload (pc := 44) C dX11_lee_44 7 rfl ?_
    refine r_callVl0 (pc := 46) C (rest := [.ref v0]) (a := v0) o_v0 [.int v1, .int v2, .int v3, .int v4, .int v5, .int v6] yV_X11_together g_1663 (c_X11_together h) dX11_lee_46 rfl rfl (Nat.le_of_ble_eq_true rfl) ⟨by decide, by decide⟩ ⟨by decide, by decide⟩ ⟨rfl, rfl⟩ (fun x8 S6 h g7 => ?_)
    have h := h g7
    have o_v0 := gr_ob g7 o_v0
    refine r_ldc2 (pc := 49) C (v := (2520 : Int64)) dX11_lee_49 g_1585 ?_
    refine r_iload (pc := 52) C dX11_lee_52 8 rfl ?_
    refine r_callVl0 (pc := 54) C (rest := []) (a := v0) o_v0 [.long x8, .long (2520 : Int64), .int v7] yV_X11_told g_1586 (c_X11_told h) dX11_lee_54 rfl rfl (Nat.le_of_ble_eq_true rfl) ⟨by decide, by decide⟩ ⟨by decide, by decide⟩ ⟨rfl, rfl⟩ (fun x11 S9 h g10 => ?_)
    have h := h g10
    have o_v0 := gr_ob g10 o_v0
    exact r_lret (pc := 57) C E ht dX11_lee_57 (by decide) (by decide) h
  · have h := h.2 c5
    refine r_aload_n (pc := 25) C dX11_lee_25 1 rfl ?_
    refine r_iload (pc := 26) C dX11_lee_26 0 rfl ?_
    refine r_callVi0 (pc := 28) C (rest := []) (a := v0) o_v0 [.int x4] yV_X11_refused g_1250 (c_X11_refused h) dX11_lee_28 rfl rfl (Nat.le_of_ble_eq_true rfl) ⟨by decide, by decide⟩ ⟨by decide, by decide⟩ ⟨rfl, rfl⟩ (fun x14 S12 h g13 => ?_)
    have h := h g13
    have o_v0 := gr_ob g13 o_v0
    refine r_i2l (pc := 31) C dX11_lee_31 ?_
    refine r_goto (pc := 32) C (tgt := 57) dX11_lee_32 (by decide) ?_
    exact r_lret (pc := 57) C E ht dX11_lee_57 (by decide) (by decide) h
def P_X11_lee (v0 : Nat) (v1 : Int32) (v2 : Int32) (v3 : Int32) (v4 : Int32) (v5 : Int32) (v6 : Int32) (v7 : Int32) (Q : Int64 → HS → Prop) (S : HS) : Prop := P_X11_lee_0 Q v0 v1 v2 v3 v4 v5 v6 v7 S
theorem c_X11_lee {l : Launch} {Ee : EE} {S : HS} {v0 : Nat} {v1 : Int32} {v2 : Int32} {v3 : Int32} {v4 : Int32} {v5 : Int32} {v6 : Int32} {v7 : Int32} {Q : Int64 → HS → Prop} (h : P_X11_lee v0 v1 v2 v3 v4 v5 v6 v7 Q S) : MJ l yX11_lee cX11_lee 9 (some .long) rm_X11_lee Ee S [.ref v0, .int v1, .int v2, .int v3, .int v4, .int v5, .int v6, .int v7] Q :=
  openJ (by decide) (Nat.le_of_ble_eq_true rfl) (fun X C E ht hn hE hl => by subst hE; exact r_sub [0, 1, 2, 3, 4, 5, 6, 7] rfl (T_X11_lee_0 C E ht hn h))
def rm_X11_lies : Room := { frames := 6, cells := 0, slots := 0, locals := 165 }
def P_X11_lies_50 (Q : Int32 → HS → Prop) (X22 : Nat → Int32 → Int32 → HS → Prop) (v0 : Nat) (v2 : Int32) (s0 : Int32) (s1 : Int32) (S : HS) : Prop := ∀ x1 : Int32, x1 = s0 ||| s1 → (∀ x2 : Int32, x2 = v2 + (1 : Int32) → (X22 v0 x1 x2 S))
set_option maxRecDepth 20000 in
set_option maxHeartbeats 4000000 in
theorem T_X11_lies_50 {X : CX} {Q : Int32 → HS → Prop} (C : Cx X cX11_lies RX11 3 rm_X11_lies) (E : ReI X rm_X11_lies Q) (ht : (xh X).sig.returnType = (some .int)) (hn : (xh X).name = yX11_lies.name) {X22 : Nat → Int32 → Int32 → HS → Prop} (hX22 : ∀ (v0 : Nat) (v1 : Int32) (v2 : Int32) (S : HS), X22 v0 v1 v2 S → WS X 3 0 0 22 [(0, .ref v0), (1, .int v1), (2, .int v2)] [] S) {v0 : Nat} {v2 : Int32} {s0 : Int32} {s1 : Int32} {S : HS} (h : P_X11_lies_50 Q X22 v0 v2 s0 s1 S) : WS X 3 0 0 50 [(0, .ref v0), (2, .int v2)] [.int s1, .int s0] S := by
  refine r_ior (pc := 50) C dX11_lies_50 ?_
  refine r_topi (fun x1 ex1 => ?_)
  have h := h x1 ex1
  refine r_istore_n (pc := 51) C dX11_lies_51 rfl (by decide) (lv' := [(1, .int x1), (0, .ref v0), (2, .int v2)]) rfl ?_
  obtain ⟨x2, ex2⟩ : ∃ z : Int32, z = v2 + (1 : Int32) := ⟨_, rfl⟩
  have h := h x2 ex2
  refine r_iinc (pc := 52) C (v := x2) (lv' := [(2, .int x2), (1, .int x1), (0, .ref v0)]) dX11_lies_52 2 rfl ex2.symm (by decide) rfl ?_
  refine r_goto (pc := 55) C (tgt := 22) dX11_lies_55 (by decide) ?_
  exact r_sub [2, 1, 0] rfl (hX22 v0 x1 x2 S h)
def B_X11_lies_22 (Q : Int32 → HS → Prop) (X22 : Nat → Int32 → Int32 → HS → Prop) (v0 : Nat) (v1 : Int32) (v2 : Int32) (S : HS) : Prop := ob S v0 11 ∧ (∃ a1 : Nat, fR S v0 3 = some a1 ∧ (ob S a1 10 ∧ (∀ x2 : Int32, x2 = fI S a1 5 → (((x2 ≤ v2) → (P_X11_good v0 v1 (fun x6 S4 => Gr S S4 → (Q x6 S4)) S)) ∧ ((¬ x2 ≤ v2) → (P_X11_fitOf v0 v2 (-1 : Int32) (fun x9 S7 => Gr S S7 → (((¬ x9 = 0) → (P_X11_lies_50 Q X22 v0 v2 v1 (0 : Int32) S7)) ∧ ((x9 = 0) → (P_X11_lies_50 Q X22 v0 v2 v1 ((1 : Int32) <<< (v2 &&& 31)) S7)))) S))))))
def P_X11_lies_22 (Q : Int32 → HS → Prop) (v0 : Nat) (v1 : Int32) (v2 : Int32) (S : HS) : Prop := ∀ X22 : Nat → Int32 → Int32 → HS → Prop, (∀ (v0 : Nat) (v1 : Int32) (v2 : Int32) (S : HS), B_X11_lies_22 Q X22 v0 v1 v2 S → X22 v0 v1 v2 S) → X22 v0 v1 v2 S
set_option maxRecDepth 20000 in
set_option maxHeartbeats 4000000 in
theorem TB_X11_lies_22 {X : CX} {Q : Int32 → HS → Prop} (C : Cx X cX11_lies RX11 3 rm_X11_lies) (E : ReI X rm_X11_lies Q) (ht : (xh X).sig.returnType = (some .int)) (hn : (xh X).name = yX11_lies.name) {X22 : Nat → Int32 → Int32 → HS → Prop} (hX22 : ∀ (v0 : Nat) (v1 : Int32) (v2 : Int32) (S : HS), X22 v0 v1 v2 S → WS X 3 0 0 22 [(0, .ref v0), (1, .int v1), (2, .int v2)] [] S) {v0 : Nat} {v1 : Int32} {v2 : Int32} {S : HS} (h : B_X11_lies_22 Q X22 v0 v1 v2 S) : WS X 3 0 0 22 [(0, .ref v0), (1, .int v1), (2, .int v2)] [] S := by
  refine r_iload_n (pc := 22) C dX11_lies_22 2 rfl ?_
  refine r_aload_n (pc := 23) C dX11_lies_23 0 rfl ?_
  obtain ⟨o_v0, h⟩ := h
  obtain ⟨a1, ea1, h⟩ := h
  refine r_getr (pc := 24) C fL_X11_338 dX11_lies_24 o_v0 ea1 ?_
  obtain ⟨o_a1, h⟩ := h
  refine r_getNi (pc := 27) C fN_X11_323 dX11_lies_27 o_a1 ?_
  refine r_topi (fun x2 ex2 => ?_)
  have h := h x2 ex2
  refine r_icmp_ge (pc := 30) C (tgt := 58) dX11_lies_30 (by decide) (fun c3 => ?_) (fun c3 => ?_)
  · have h := h.1 c3
    refine r_aload_n (pc := 58) C dX11_lies_58 0 rfl ?_
    refine r_iload_n (pc := 59) C dX11_lies_59 1 rfl ?_
    refine r_callVi0 (pc := 60) C (rest := []) (a := v0) o_v0 [.int v1] yV_X11_good g_1518 (c_X11_good h) dX11_lies_60 rfl rfl (Nat.le_of_ble_eq_true rfl) ⟨by decide, by decide⟩ ⟨by decide, by decide⟩ ⟨rfl, rfl⟩ (fun x6 S4 h g5 => ?_)
    have h := h g5
    have o_a1 := gr_ob g5 o_a1
    have o_v0 := gr_ob g5 o_v0
    exact r_iret (pc := 63) C E ht dX11_lies_63 (by decide) (by decide) h
  · have h := h.2 c3
    refine r_iload_n (pc := 33) C dX11_lies_33 1 rfl ?_
    refine r_aload_n (pc := 34) C dX11_lies_34 0 rfl ?_
    refine r_iload_n (pc := 35) C dX11_lies_35 2 rfl ?_
    refine r_iconst (pc := 36) C (v := (-1 : Int32)) dX11_lies_36 (by decide) ?_
    refine r_callVi0 (pc := 37) C (rest := [.int v1]) (a := v0) o_v0 [.int v2, .int (-1 : Int32)] yV_X11_fitOf g_1755 (c_X11_fitOf h) dX11_lies_37 rfl rfl (Nat.le_of_ble_eq_true rfl) ⟨by decide, by decide⟩ ⟨by decide, by decide⟩ ⟨rfl, rfl⟩ (fun x9 S7 h g8 => ?_)
    have h := h g8
    have o_a1 := gr_ob g8 o_a1
    have o_v0 := gr_ob g8 o_v0
    refine r_if_ne (pc := 40) C (tgt := 49) dX11_lies_40 (by decide) (fun c10 => ?_) (fun c10 => ?_)
    · have h := h.1 c10
      refine r_iconst (pc := 49) C (v := (0 : Int32)) dX11_lies_49 (by decide) ?_
      exact r_sub [0, 2] rfl (T_X11_lies_50 C E ht hn hX22 h)
    · have h := h.2 c10
      refine r_iconst (pc := 43) C (v := (1 : Int32)) dX11_lies_43 (by decide) ?_
      refine r_iload_n (pc := 44) C dX11_lies_44 2 rfl ?_
      refine r_ishl (pc := 45) C dX11_lies_45 ?_
      refine r_goto (pc := 46) C (tgt := 50) dX11_lies_46 (by decide) ?_
      exact r_sub [0, 2] rfl (T_X11_lies_50 C E ht hn hX22 h)
theorem T_X11_lies_22 {X : CX} {Q : Int32 → HS → Prop} (C : Cx X cX11_lies RX11 3 rm_X11_lies) (E : ReI X rm_X11_lies Q) (ht : (xh X).sig.returnType = (some .int)) (hn : (xh X).name = yX11_lies.name) {v0 : Nat} {v1 : Int32} {v2 : Int32} {S : HS} (h : P_X11_lies_22 Q v0 v1 v2 S) : WS X 3 0 0 22 [(0, .ref v0), (1, .int v1), (2, .int v2)] [] S :=
  h (fun v0 v1 v2 S => WS X 3 0 0 22 [(0, .ref v0), (1, .int v1), (2, .int v2)] [] S) (fun v0 v1 v2 S hh => TB_X11_lies_22 C E ht hn (fun v0 v1 v2 S z => z) hh)
def P_X11_lies_0 (Q : Int32 → HS → Prop) (v0 : Nat) (S : HS) : Prop := ob S v0 11 ∧ (∀ S1 : HS, S1 = sI S v0 0 (0 : Int32) → ((fR S1 v0 3 = none → (P_X11_refused v0 (1 : Int32) (fun x6 S4 => Gr S1 S4 → (Q x6 S4)) S1)) ∧ (∀ a2 : Nat, fR S1 v0 3 = some a2 → (P_X11_lies_22 Q v0 (0 : Int32) (0 : Int32) S1))))
set_option maxRecDepth 20000 in
set_option maxHeartbeats 4000000 in
theorem T_X11_lies_0 {X : CX} {Q : Int32 → HS → Prop} (C : Cx X cX11_lies RX11 3 rm_X11_lies) (E : ReI X rm_X11_lies Q) (ht : (xh X).sig.returnType = (some .int)) (hn : (xh X).name = yX11_lies.name) {v0 : Nat} {S : HS} (h : P_X11_lies_0 Q v0 S) : WS X 3 0 0 0 [(0, .ref v0)] [] S := by
  refine r_aload_n (pc := 0) C dX11_lies_0 0 rfl ?_
  refine r_iconst (pc := 1) C (v := (0 : Int32)) dX11_lies_1 (by decide) ?_
  obtain ⟨o_v0, h⟩ := h
  refine r_puti (pc := 2) C pfL_X11_40 dX11_lies_2 o_v0 ?_
  refine r_heap (fun S1 eS1 => ?_)
  have h := h S1 eS1
  have o_v0 := ob_I eS1 o_v0
  refine r_aload_n (pc := 5) C dX11_lies_5 0 rfl ?_
  rcases e3 : fR S1 v0 3 with _ | a2
  · refine r_get0 (pc := 6) C fL_X11_338 dX11_lies_6 o_v0 e3 ?_
    refine r_ifnonnull0 (pc := 9) C dX11_lies_9 ?_
    have h := h.1 e3
    refine r_aload_n (pc := 12) C dX11_lies_12 0 rfl ?_
    refine r_iconst (pc := 13) C (v := (1 : Int32)) dX11_lies_13 (by decide) ?_
    refine r_callVi0 (pc := 14) C (rest := []) (a := v0) o_v0 [.int (1 : Int32)] yV_X11_refused g_1250 (c_X11_refused h) dX11_lies_14 rfl rfl (Nat.le_of_ble_eq_true rfl) ⟨by decide, by decide⟩ ⟨by decide, by decide⟩ ⟨rfl, rfl⟩ (fun x6 S4 h g5 => ?_)
    have h := h g5
    have o_v0 := gr_ob g5 o_v0
    exact r_iret (pc := 17) C E ht dX11_lies_17 (by decide) (by decide) h
  · refine r_getr (pc := 6) C fL_X11_338 dX11_lies_6 o_v0 e3 ?_
    refine r_ifnonnull (pc := 9) C (tgt := 18) dX11_lies_9 (by decide) ?_
    have h := h.2 a2 e3
    refine r_iconst (pc := 18) C (v := (0 : Int32)) dX11_lies_18 (by decide) ?_
    refine r_istore_n (pc := 19) C dX11_lies_19 rfl (by decide) (lv' := [(1, .int (0 : Int32)), (0, .ref v0)]) rfl ?_
    refine r_iconst (pc := 20) C (v := (0 : Int32)) dX11_lies_20 (by decide) ?_
    refine r_istore_n (pc := 21) C dX11_lies_21 rfl (by decide) (lv' := [(2, .int (0 : Int32)), (1, .int (0 : Int32)), (0, .ref v0)]) rfl ?_
    exact r_sub [2, 1, 0] rfl (T_X11_lies_22 C E ht hn h)
def P_X11_lies (v0 : Nat) (Q : Int32 → HS → Prop) (S : HS) : Prop := P_X11_lies_0 Q v0 S
theorem c_X11_lies {l : Launch} {Ee : EE} {S : HS} {v0 : Nat} {Q : Int32 → HS → Prop} (h : P_X11_lies v0 Q S) : MI l yX11_lies cX11_lies 3 (some .int) rm_X11_lies Ee S [.ref v0] Q :=
  openI (by decide) (Nat.le_of_ble_eq_true rfl) (fun X C E ht hn hE hl => by subst hE; exact r_sub [0] rfl (T_X11_lies_0 C E ht hn h))
def rm_X11_mark : Room := { frames := 1, cells := 0, slots := 0, locals := 21 }
def B_X11_mark_34 (Q : Int32 → HS → Prop) (X34 : Nat → Int32 → HS → Prop) (v0 : Nat) (v1 : Int32) (S : HS) : Prop := (((7 : Int32) ≤ v1) → (ob S v0 11 ∧ (∀ x2 : Int32, x2 = fI S v0 25 → (∀ x3 : Int32, x3 = x2 + (1 : Int32) → (∀ S4 : HS, S4 = sI S v0 25 x3 → (∀ x5 : Int32, x5 = fI S4 v0 25 → (P_X11_good v0 (x5 - (1 : Int32)) (fun x8 S6 => Gr S4 S6 → (Q x8 S6)) S4))))))) ∧ ((¬ (7 : Int32) ≤ v1) → (ob S v0 11 ∧ (∃ a9 : Nat, fR S v0 23 = some a9 ∧ (∀ x10 : Int32, x10 = fI S v0 25 → (∃ a11 : Nat, fR S v0 21 = some a11 ∧ (ob S a11 14 ∧ (vp_in v1 (hN S a11) ∧ ∀ x13 : Int64, x13 = fJ S a11 v1.toNatClampNeg → (ob S a9 14 ∧ (vp_in (((7 : Int32) * x10) + v1) (hN S a9) ∧ (∀ S15 : HS, S15 = sJ S a9 (((7 : Int32) * x10) + v1).toNatClampNeg x13 → (∀ x16 : Int32, x16 = v1 + (1 : Int32) → (X34 v0 x16 S15))))))))))))
def P_X11_mark_34 (Q : Int32 → HS → Prop) (v0 : Nat) (v1 : Int32) (S : HS) : Prop := ∀ X34 : Nat → Int32 → HS → Prop, (∀ (v0 : Nat) (v1 : Int32) (S : HS), B_X11_mark_34 Q X34 v0 v1 S → X34 v0 v1 S) → X34 v0 v1 S
set_option maxRecDepth 20000 in
set_option maxHeartbeats 4000000 in
theorem TB_X11_mark_34 {X : CX} {Q : Int32 → HS → Prop} (C : Cx X cX11_mark RX11 2 rm_X11_mark) (E : ReI X rm_X11_mark Q) (ht : (xh X).sig.returnType = (some .int)) (hn : (xh X).name = yX11_mark.name) {X34 : Nat → Int32 → HS → Prop} (hX34 : ∀ (v0 : Nat) (v1 : Int32) (S : HS), X34 v0 v1 S → WS X 2 0 0 34 [(0, .ref v0), (1, .int v1)] [] S) {v0 : Nat} {v1 : Int32} {S : HS} (h : B_X11_mark_34 Q X34 v0 v1 S) : WS X 2 0 0 34 [(0, .ref v0), (1, .int v1)] [] S := by
  refine r_iload_n (pc := 34) C dX11_mark_34 1 rfl ?_
  refine r_bipush (pc := 35) C (v := (7 : Int32)) dX11_mark_35 (by decide) ?_
  refine r_icmp_ge (pc := 37) C (tgt := 66) dX11_mark_37 (by decide) (fun c1 => ?_) (fun c1 => ?_)
  · have h := h.1 c1
    refine r_aload_n (pc := 66) C dX11_mark_66 0 rfl ?_
    refine r_dup (pc := 67) C dX11_mark_67 rfl ?_
    obtain ⟨o_v0, h⟩ := h
    refine r_geti (pc := 68) C fL_X11_343 dX11_mark_68 o_v0 ?_
    refine r_topi (fun x2 ex2 => ?_)
    have h := h x2 ex2
    refine r_iconst (pc := 71) C (v := (1 : Int32)) dX11_mark_71 (by decide) ?_
    refine r_iadd (pc := 72) C dX11_mark_72 ?_
    refine r_topi (fun x3 ex3 => ?_)
    have h := h x3 ex3
    refine r_puti (pc := 73) C pfL_X11_343 dX11_mark_73 o_v0 ?_
    refine r_heap (fun S4 eS4 => ?_)
    have h := h S4 eS4
    have o_v0 := ob_I eS4 o_v0
    refine r_aload_n (pc := 76) C dX11_mark_76 0 rfl ?_
    refine r_aload_n (pc := 77) C dX11_mark_77 0 rfl ?_
    refine r_geti (pc := 78) C fL_X11_343 dX11_mark_78 o_v0 ?_
    refine r_topi (fun x5 ex5 => ?_)
    have h := h x5 ex5
    refine r_iconst (pc := 81) C (v := (1 : Int32)) dX11_mark_81 (by decide) ?_
    refine r_isub (pc := 82) C dX11_mark_82 ?_
    refine r_callVi0 (pc := 83) C (rest := []) (a := v0) o_v0 [.int (x5 - (1 : Int32))] yV_X11_good g_1518 (c_X11_good h) dX11_mark_83 rfl rfl (Nat.le_of_ble_eq_true rfl) ⟨by decide, by decide⟩ ⟨by decide, by decide⟩ ⟨rfl, rfl⟩ (fun x8 S6 h g7 => ?_)
    have h := h g7
    have o_v0 := gr_ob g7 o_v0
    exact r_iret (pc := 86) C E ht dX11_mark_86 (by decide) (by decide) h
  · have h := h.2 c1
    refine r_aload_n (pc := 40) C dX11_mark_40 0 rfl ?_
    obtain ⟨o_v0, h⟩ := h
    obtain ⟨a9, ea9, h⟩ := h
    refine r_getr (pc := 41) C fL_X11_37 dX11_mark_41 o_v0 ea9 ?_
    refine r_bipush (pc := 44) C (v := (7 : Int32)) dX11_mark_44 (by decide) ?_
    refine r_aload_n (pc := 46) C dX11_mark_46 0 rfl ?_
    refine r_geti (pc := 47) C fL_X11_343 dX11_mark_47 o_v0 ?_
    refine r_topi (fun x10 ex10 => ?_)
    have h := h x10 ex10
    refine r_imul (pc := 50) C dX11_mark_50 ?_
    refine r_iload_n (pc := 51) C dX11_mark_51 1 rfl ?_
    refine r_iadd (pc := 52) C dX11_mark_52 ?_
    refine r_aload_n (pc := 53) C dX11_mark_53 0 rfl ?_
    obtain ⟨a11, ea11, h⟩ := h
    refine r_getr (pc := 54) C fL_X11_31 dX11_mark_54 o_v0 ea11 ?_
    refine r_iload_n (pc := 57) C dX11_mark_57 1 rfl ?_
    obtain ⟨o_a11, h⟩ := h
    obtain ⟨i12, h⟩ := h
    refine r_lald (pc := 58) C dX11_mark_58 o_a11 i12 ?_
    refine r_topl (fun x13 ex13 => ?_)
    have h := h x13 ex13
    obtain ⟨o_a9, h⟩ := h
    obtain ⟨i14, h⟩ := h
    refine r_last (pc := 59) C dX11_mark_59 o_a9 i14 ?_
    refine r_heap (fun S15 eS15 => ?_)
    have h := h S15 eS15
    have o_a11 := ob_J eS15 o_a11
    have o_a9 := ob_J eS15 o_a9
    have o_v0 := ob_J eS15 o_v0
    obtain ⟨x16, ex16⟩ : ∃ z : Int32, z = v1 + (1 : Int32) := ⟨_, rfl⟩
    have h := h x16 ex16
    refine r_iinc (pc := 60) C (v := x16) (lv' := [(1, .int x16), (0, .ref v0)]) dX11_mark_60 1 rfl ex16.symm (by decide) rfl ?_
    refine r_goto (pc := 63) C (tgt := 34) dX11_mark_63 (by decide) ?_
    exact r_sub [1, 0] rfl (hX34 v0 x16 S15 h)
theorem T_X11_mark_34 {X : CX} {Q : Int32 → HS → Prop} (C : Cx X cX11_mark RX11 2 rm_X11_mark) (E : ReI X rm_X11_mark Q) (ht : (xh X).sig.returnType = (some .int)) (hn : (xh X).name = yX11_mark.name) {v0 : Nat} {v1 : Int32} {S : HS} (h : P_X11_mark_34 Q v0 v1 S) : WS X 2 0 0 34 [(0, .ref v0), (1, .int v1)] [] S :=
  h (fun v0 v1 S => WS X 2 0 0 34 [(0, .ref v0), (1, .int v1)] [] S) (fun v0 v1 S hh => TB_X11_mark_34 C E ht hn (fun v0 v1 S z => z) hh)
def P_X11_mark_0 (Q : Int32 → HS → Prop) (v0 : Nat) (S : HS) : Prop := ob S v0 11 ∧ (∀ S1 : HS, S1 = sI S v0 0 (0 : Int32) → (P_X11_isDay v0 (fun x4 S2 => Gr S1 S2 → bl x4 → (((¬ x4 = 0) → (∀ x6 : Int32, x6 = fI S2 v0 25 → (((¬ x6 = (3 : Int32)) → (P_X11_mark_34 Q v0 (0 : Int32) S2)) ∧ ((x6 = (3 : Int32)) → (P_X11_refused v0 (3 : Int32) (fun x10 S8 => Gr S2 S8 → (Q x10 S8)) S2))))) ∧ ((x4 = 0) → (P_X11_refused v0 (1 : Int32) (fun x13 S11 => Gr S2 S11 → (Q x13 S11)) S2)))) S1))
set_option maxRecDepth 20000 in
set_option maxHeartbeats 4000000 in
theorem T_X11_mark_0 {X : CX} {Q : Int32 → HS → Prop} (C : Cx X cX11_mark RX11 2 rm_X11_mark) (E : ReI X rm_X11_mark Q) (ht : (xh X).sig.returnType = (some .int)) (hn : (xh X).name = yX11_mark.name) {v0 : Nat} {S : HS} (h : P_X11_mark_0 Q v0 S) : WS X 2 0 0 0 [(0, .ref v0)] [] S := by
  refine r_aload_n (pc := 0) C dX11_mark_0 0 rfl ?_
  refine r_iconst (pc := 1) C (v := (0 : Int32)) dX11_mark_1 (by decide) ?_
  obtain ⟨o_v0, h⟩ := h
  refine r_puti (pc := 2) C pfL_X11_40 dX11_mark_2 o_v0 ?_
  refine r_heap (fun S1 eS1 => ?_)
  have h := h S1 eS1
  have o_v0 := ob_I eS1 o_v0
  refine r_aload_n (pc := 5) C dX11_mark_5 0 rfl ?_
  refine r_callVi0 (pc := 6) C (rest := []) (a := v0) o_v0 [] yV_X11_isDay g_1779 (c_X11_isDay h) dX11_mark_6 rfl rfl (Nat.le_of_ble_eq_true rfl) ⟨by decide, by decide⟩ ⟨by decide, by decide⟩ ⟨rfl, rfl⟩ (fun x4 S2 h g3 => ?_)
  have bx4 := h.1
  have h := h.2 g3 bx4
  have o_v0 := gr_ob g3 o_v0
  refine r_if_ne (pc := 9) C (tgt := 18) dX11_mark_9 (by decide) (fun c5 => ?_) (fun c5 => ?_)
  · have h := h.1 c5
    refine r_aload_n (pc := 18) C dX11_mark_18 0 rfl ?_
    refine r_geti (pc := 19) C fL_X11_343 dX11_mark_19 o_v0 ?_
    refine r_topi (fun x6 ex6 => ?_)
    have h := h x6 ex6
    refine r_iconst (pc := 22) C (v := (3 : Int32)) dX11_mark_22 (by decide) ?_
    refine r_icmp_ne (pc := 23) C (tgt := 32) dX11_mark_23 (by decide) (fun c7 => ?_) (fun c7 => ?_)
    · have h := h.1 c7
      refine r_iconst (pc := 32) C (v := (0 : Int32)) dX11_mark_32 (by decide) ?_
      refine r_istore_n (pc := 33) C dX11_mark_33 rfl (by decide) (lv' := [(1, .int (0 : Int32)), (0, .ref v0)]) rfl ?_
      exact r_sub [1, 0] rfl (T_X11_mark_34 C E ht hn h)
    · have h := h.2 c7
      refine r_aload_n (pc := 26) C dX11_mark_26 0 rfl ?_
      refine r_iconst (pc := 27) C (v := (3 : Int32)) dX11_mark_27 (by decide) ?_
      refine r_callVi0 (pc := 28) C (rest := []) (a := v0) o_v0 [.int (3 : Int32)] yV_X11_refused g_1250 (c_X11_refused h) dX11_mark_28 rfl rfl (Nat.le_of_ble_eq_true rfl) ⟨by decide, by decide⟩ ⟨by decide, by decide⟩ ⟨rfl, rfl⟩ (fun x10 S8 h g9 => ?_)
      have h := h g9
      have o_v0 := gr_ob g9 o_v0
      exact r_iret (pc := 31) C E ht dX11_mark_31 (by decide) (by decide) h
  · have h := h.2 c5
    refine r_aload_n (pc := 12) C dX11_mark_12 0 rfl ?_
    refine r_iconst (pc := 13) C (v := (1 : Int32)) dX11_mark_13 (by decide) ?_
    refine r_callVi0 (pc := 14) C (rest := []) (a := v0) o_v0 [.int (1 : Int32)] yV_X11_refused g_1250 (c_X11_refused h) dX11_mark_14 rfl rfl (Nat.le_of_ble_eq_true rfl) ⟨by decide, by decide⟩ ⟨by decide, by decide⟩ ⟨rfl, rfl⟩ (fun x13 S11 h g12 => ?_)
    have h := h g12
    have o_v0 := gr_ob g12 o_v0
    exact r_iret (pc := 17) C E ht dX11_mark_17 (by decide) (by decide) h
def P_X11_mark (v0 : Nat) (Q : Int32 → HS → Prop) (S : HS) : Prop := P_X11_mark_0 Q v0 S
theorem c_X11_mark {l : Launch} {Ee : EE} {S : HS} {v0 : Nat} {Q : Int32 → HS → Prop} (h : P_X11_mark v0 Q S) : MI l yX11_mark cX11_mark 2 (some .int) rm_X11_mark Ee S [.ref v0] Q :=
  openI (by decide) (Nat.le_of_ble_eq_true rfl) (fun X C E ht hn hE hl => by subst hE; exact r_sub [0] rfl (T_X11_mark_0 C E ht hn h))
def rm_X11_mean : Room := { frames := 6, cells := 0, slots := 0, locals := 163 }
def P_X11_mean_0 (Q : Int64 → HS → Prop) (v0 : Nat) (v1 : Int32) (v2 : Int32) (v3 : Int32) (v4 : Int32) (v5 : Int32) (v6 : Int32) (S : HS) : Prop := ob S v0 11 ∧ (∀ S1 : HS, S1 = sI S v0 0 (0 : Int32) → (P_X11_refuses v0 v1 v2 v3 v4 v5 (fun x4 S2 => Gr S1 S2 → (((x4 ≤ 0) → (P_X11_wetOf v0 v1 v2 v3 v4 v5 (fun x8 S6 => Gr S2 S6 → (∃ a9 : Nat, fR S6 v0 3 = some a9 ∧ (ob S6 a9 10 ∧ (∃ a10 : Nat, fR S6 a9 11 = some a10 ∧ (ob S6 a10 13 ∧ (vp_in v4 (hN S6 a10) ∧ ∀ x12 : Int32, x12 = fI S6 a10 v4.toNatClampNeg → (P_X11_told v0 (x8 * x12.toInt64) (252000 : Int64) v6 (fun x15 S13 => Gr S6 S13 → (Q x15 S13)) S6))))))) S2)) ∧ ((¬ x4 ≤ 0) → (P_X11_refused v0 x4 (fun x18 S16 => Gr S2 S16 → (Q x18.toInt64 S16)) S2)))) S1))
set_option maxRecDepth 20000 in
set_option maxHeartbeats 4000000 in
theorem T_X11_mean_0 {X : CX} {Q : Int64 → HS → Prop} (C : Cx X cX11_mean RX11 8 rm_X11_mean) (E : ReJ X rm_X11_mean Q) (ht : (xh X).sig.returnType = (some .long)) (hn : (xh X).name = yX11_mean.name) {v0 : Nat} {v1 : Int32} {v2 : Int32} {v3 : Int32} {v4 : Int32} {v5 : Int32} {v6 : Int32} {S : HS} (h : P_X11_mean_0 Q v0 v1 v2 v3 v4 v5 v6 S) : WS X 8 0 0 0 [(0, .ref v0), (1, .int v1), (2, .int v2), (3, .int v3), (4, .int v4), (5, .int v5), (6, .int v6)] [] S := by
  refine r_aload_n (pc := 0) C dX11_mean_0 0 rfl ?_
  refine r_iconst (pc := 1) C (v := (0 : Int32)) dX11_mean_1 (by decide) ?_
  obtain ⟨o_v0, h⟩ := h
  refine r_puti (pc := 2) C pfL_X11_40 dX11_mean_2 o_v0 ?_
  refine r_heap (fun S1 eS1 => ?_)
  have h := h S1 eS1
  have o_v0 := ob_I eS1 o_v0
  refine r_aload_n (pc := 5) C dX11_mean_5 0 rfl ?_
  refine r_iload_n (pc := 6) C dX11_mean_6 1 rfl ?_
  refine r_iload_n (pc := 7) C dX11_mean_7 2 rfl ?_
  refine r_iload_n (pc := 8) C dX11_mean_8 3 rfl ?_
  refine r_iload (pc := 9) C dX11_mean_9 4 rfl ?_
  refine r_iload (pc := 11) C dX11_mean_11 5 rfl ?_
  refine r_callVi0 (pc := 13) C (rest := []) (a := v0) o_v0 [.int v1, .int v2, .int v3, .int v4, .int v5] yV_X11_refuses g_1534 (c_X11_refuses h) dX11_mean_13 rfl rfl (Nat.le_of_ble_eq_true rfl) ⟨by decide, by decide⟩ ⟨by decide, by decide⟩ ⟨rfl, rfl⟩ (fun x4 S2 h g3 => ?_)
  have h := h g3
  have o_v0 := gr_ob g3 o_v0
  refine r_istore (pc := 16) C dX11_mean_16 (by decide) (lv' := [(7, .int x4), (0, .ref v0), (1, .int v1), (2, .int v2), (3, .int v3), (4, .int v4), (5, .int v5), (6, .int v6)]) rfl ?_
  refine r_iload (pc := 18) C dX11_mean_18 0 rfl ?_
  refine r_if_le (pc := 20) C (tgt := 33) dX11_mean_20 (by decide) (fun c5 => ?_) (fun c5 => ?_)
  · have h := h.1 c5
    refine r_aload_n (pc := 33) C dX11_mean_33 1 rfl ?_
    refine r_aload_n (pc := 34) C dX11_mean_34 1 rfl ?_
    refine r_iload_n (pc := 35) C dX11_mean_35 2 rfl ?_
    refine r_iload_n (pc := 36) C dX11_mean_36 3 rfl ?_
    refine r_iload_n (pc := 37) C dX11_mean_37 4 rfl ?_
    refine r_iload (pc := 38) C dX11_mean_38 5 rfl ?_
    refine r_iload (pc := 40) C dX11_mean_40 6 rfl ?_
    refine r_callVl0 (pc := 42) C (rest := [.ref v0]) (a := v0) o_v0 [.int v1, .int v2, .int v3, .int v4, .int v5] yV_X11_wetOf g_1594 (c_X11_wetOf h) dX11_mean_42 rfl rfl (Nat.le_of_ble_eq_true rfl) ⟨by decide, by decide⟩ ⟨by decide, by decide⟩ ⟨rfl, rfl⟩ (fun x8 S6 h g7 => ?_)
    have h := h g7
    have o_v0 := gr_ob g7 o_v0
    refine r_aload_n (pc := 45) C dX11_mean_45 1 rfl ?_
    obtain ⟨a9, ea9, h⟩ := h
    refine r_getr (pc := 46) C fL_X11_338 dX11_mean_46 o_v0 ea9 ?_
    obtain ⟨o_a9, h⟩ := h
    obtain ⟨a10, ea10, h⟩ := h
    refine r_getNr (pc := 49) C fN_X11_246 dX11_mean_49 o_a9 ea10 ?_
    refine r_iload (pc := 52) C dX11_mean_52 5 rfl ?_
    obtain ⟨o_a10, h⟩ := h
    obtain ⟨i11, h⟩ := h
    refine r_iald (pc := 54) C dX11_mean_54 o_a10 i11 ?_
    refine r_topi (fun x12 ex12 => ?_)
    have h := h x12 ex12
    refine r_i2l (pc := 55) C dX11_mean_55 ?_
    refine r_lmul (pc := 56) C dX11_mean_56 ?_
    refine r_ldc2 (pc := 57) C (v := (252000 : Int64)) dX11_mean_57 g_1602 ?_
    refine r_iload (pc := 60) C dX11_mean_60 7 rfl ?_
    refine r_callVl0 (pc := 62) C (rest := []) (a := v0) o_v0 [.long (x8 * x12.toInt64), .long (252000 : Int64), .int v6] yV_X11_told g_1586 (c_X11_told h) dX11_mean_62 rfl rfl (Nat.le_of_ble_eq_true rfl) ⟨by decide, by decide⟩ ⟨by decide, by decide⟩ ⟨rfl, rfl⟩ (fun x15 S13 h g14 => ?_)
    have h := h g14
    have o_a10 := gr_ob g14 o_a10
    have o_a9 := gr_ob g14 o_a9
    have o_v0 := gr_ob g14 o_v0
    exact r_lret (pc := 65) C E ht dX11_mean_65 (by decide) (by decide) h
  · have h := h.2 c5
    refine r_aload_n (pc := 23) C dX11_mean_23 1 rfl ?_
    refine r_iload (pc := 24) C dX11_mean_24 0 rfl ?_
    refine r_callVi0 (pc := 26) C (rest := []) (a := v0) o_v0 [.int x4] yV_X11_refused g_1250 (c_X11_refused h) dX11_mean_26 rfl rfl (Nat.le_of_ble_eq_true rfl) ⟨by decide, by decide⟩ ⟨by decide, by decide⟩ ⟨rfl, rfl⟩ (fun x18 S16 h g17 => ?_)
    have h := h g17
    have o_v0 := gr_ob g17 o_v0
    refine r_i2l (pc := 29) C dX11_mean_29 ?_
    refine r_goto (pc := 30) C (tgt := 65) dX11_mean_30 (by decide) ?_
    exact r_lret (pc := 65) C E ht dX11_mean_65 (by decide) (by decide) h
def P_X11_mean (v0 : Nat) (v1 : Int32) (v2 : Int32) (v3 : Int32) (v4 : Int32) (v5 : Int32) (v6 : Int32) (Q : Int64 → HS → Prop) (S : HS) : Prop := P_X11_mean_0 Q v0 v1 v2 v3 v4 v5 v6 S
theorem c_X11_mean {l : Launch} {Ee : EE} {S : HS} {v0 : Nat} {v1 : Int32} {v2 : Int32} {v3 : Int32} {v4 : Int32} {v5 : Int32} {v6 : Int32} {Q : Int64 → HS → Prop} (h : P_X11_mean v0 v1 v2 v3 v4 v5 v6 Q S) : MJ l yX11_mean cX11_mean 8 (some .long) rm_X11_mean Ee S [.ref v0, .int v1, .int v2, .int v3, .int v4, .int v5, .int v6] Q :=
  openJ (by decide) (Nat.le_of_ble_eq_true rfl) (fun X C E ht hn hE hl => by subst hE; exact r_sub [0, 1, 2, 3, 4, 5, 6] rfl (T_X11_mean_0 C E ht hn h))
def rm_X11_minutes : Room := { frames := 2, cells := 0, slots := 0, locals := 44 }
def P_X11_minutes_21 (Q : Int32 → HS → Prop) (v0 : Nat) (S : HS) : Prop := ob S v0 11 ∧ (P_X11_refused v0 (1 : Int32) (fun x3 S1 => Gr S S1 → (Q x3 S1)) S)
set_option maxRecDepth 20000 in
set_option maxHeartbeats 4000000 in
theorem T_X11_minutes_21 {X : CX} {Q : Int32 → HS → Prop} (C : Cx X cX11_minutes RX11 4 rm_X11_minutes) (E : ReI X rm_X11_minutes Q) (ht : (xh X).sig.returnType = (some .int)) (hn : (xh X).name = yX11_minutes.name) {v0 : Nat} {S : HS} (h : P_X11_minutes_21 Q v0 S) : WS X 4 0 0 21 [(0, .ref v0)] [] S := by
  refine r_aload_n (pc := 21) C dX11_minutes_21 0 rfl ?_
  refine r_iconst (pc := 22) C (v := (1 : Int32)) dX11_minutes_22 (by decide) ?_
  obtain ⟨o_v0, h⟩ := h
  refine r_callVi0 (pc := 23) C (rest := []) (a := v0) o_v0 [.int (1 : Int32)] yV_X11_refused g_1250 (c_X11_refused h) dX11_minutes_23 rfl rfl (Nat.le_of_ble_eq_true rfl) ⟨by decide, by decide⟩ ⟨by decide, by decide⟩ ⟨rfl, rfl⟩ (fun x3 S1 h g2 => ?_)
  have h := h g2
  have o_v0 := gr_ob g2 o_v0
  exact r_iret (pc := 26) C E ht dX11_minutes_26 (by decide) (by decide) h
def P_X11_minutes_0 (Q : Int32 → HS → Prop) (v0 : Nat) (v1 : Int32) (v2 : Int32) (v3 : Int32) (S : HS) : Prop := ob S v0 11 ∧ (∀ S1 : HS, S1 = sI S v0 0 (0 : Int32) → (P_X11_isWalker v0 v1 (fun x4 S2 => Gr S1 S2 → bl x4 → (((x4 = 0) → (P_X11_minutes_21 Q v0 S2)) ∧ ((¬ x4 = 0) → (P_X11_isRoad v0 v2 (fun x8 S6 => Gr S2 S6 → bl x8 → (((¬ x8 = 0) → (P_X11_isSpeed v0 v1 v3 (fun x12 S10 => Gr S6 S10 → bl x12 → (((x12 = 0) → (P_X11_refused v0 (2 : Int32) (fun x16 S14 => Gr S10 S14 → (Q x16 S14)) S10)) ∧ ((¬ x12 = 0) → (∃ a17 : Nat, fR S10 v0 3 = some a17 ∧ (ob S10 a17 10 ∧ (P_X10_minutes a17 v2 v3 (fun x20 S18 => Gr S10 S18 → (P_X11_good v0 x20 (fun x23 S21 => Gr S18 S21 → (Q x23 S21)) S18)) S10)))))) S6)) ∧ ((x8 = 0) → (P_X11_minutes_21 Q v0 S6)))) S2)))) S1))
set_option maxRecDepth 20000 in
set_option maxHeartbeats 4000000 in
theorem T_X11_minutes_0 {X : CX} {Q : Int32 → HS → Prop} (C : Cx X cX11_minutes RX11 4 rm_X11_minutes) (E : ReI X rm_X11_minutes Q) (ht : (xh X).sig.returnType = (some .int)) (hn : (xh X).name = yX11_minutes.name) {v0 : Nat} {v1 : Int32} {v2 : Int32} {v3 : Int32} {S : HS} (h : P_X11_minutes_0 Q v0 v1 v2 v3 S) : WS X 4 0 0 0 [(0, .ref v0), (1, .int v1), (2, .int v2), (3, .int v3)] [] S := by
  refine r_aload_n (pc := 0) C dX11_minutes_0 0 rfl ?_
  refine r_iconst (pc := 1) C (v := (0 : Int32)) dX11_minutes_1 (by decide) ?_
  obtain ⟨o_v0, h⟩ := h
  refine r_puti (pc := 2) C pfL_X11_40 dX11_minutes_2 o_v0 ?_
  refine r_heap (fun S1 eS1 => ?_)
  have h := h S1 eS1
  have o_v0 := ob_I eS1 o_v0
  refine r_aload_n (pc := 5) C dX11_minutes_5 0 rfl ?_
  refine r_iload_n (pc := 6) C dX11_minutes_6 1 rfl ?_
  refine r_callVi0 (pc := 7) C (rest := []) (a := v0) o_v0 [.int v1] yV_X11_isWalker g_1538 (c_X11_isWalker h) dX11_minutes_7 rfl rfl (Nat.le_of_ble_eq_true rfl) ⟨by decide, by decide⟩ ⟨by decide, by decide⟩ ⟨rfl, rfl⟩ (fun x4 S2 h g3 => ?_)
  have bx4 := h.1
  have h := h.2 g3 bx4
  have o_v0 := gr_ob g3 o_v0
  refine r_if_eq (pc := 10) C (tgt := 21) dX11_minutes_10 (by decide) (fun c5 => ?_) (fun c5 => ?_)
  · have h := h.1 c5
    exact r_sub [0] rfl (T_X11_minutes_21 C E ht hn h)
  · have h := h.2 c5
    refine r_aload_n (pc := 13) C dX11_minutes_13 0 rfl ?_
    refine r_iload_n (pc := 14) C dX11_minutes_14 2 rfl ?_
    refine r_callVi0 (pc := 15) C (rest := []) (a := v0) o_v0 [.int v2] yV_X11_isRoad g_1542 (c_X11_isRoad h) dX11_minutes_15 rfl rfl (Nat.le_of_ble_eq_true rfl) ⟨by decide, by decide⟩ ⟨by decide, by decide⟩ ⟨rfl, rfl⟩ (fun x8 S6 h g7 => ?_)
    have bx8 := h.1
    have h := h.2 g7 bx8
    have o_v0 := gr_ob g7 o_v0
    refine r_if_ne (pc := 18) C (tgt := 27) dX11_minutes_18 (by decide) (fun c9 => ?_) (fun c9 => ?_)
    · have h := h.1 c9
      refine r_aload_n (pc := 27) C dX11_minutes_27 0 rfl ?_
      refine r_iload_n (pc := 28) C dX11_minutes_28 1 rfl ?_
      refine r_iload_n (pc := 29) C dX11_minutes_29 3 rfl ?_
      refine r_callVi0 (pc := 30) C (rest := []) (a := v0) o_v0 [.int v1, .int v3] yV_X11_isSpeed g_1550 (c_X11_isSpeed h) dX11_minutes_30 rfl rfl (Nat.le_of_ble_eq_true rfl) ⟨by decide, by decide⟩ ⟨by decide, by decide⟩ ⟨rfl, rfl⟩ (fun x12 S10 h g11 => ?_)
      have bx12 := h.1
      have h := h.2 g11 bx12
      have o_v0 := gr_ob g11 o_v0
      refine r_if_eq (pc := 33) C (tgt := 52) dX11_minutes_33 (by decide) (fun c13 => ?_) (fun c13 => ?_)
      · have h := h.1 c13
        refine r_aload_n (pc := 52) C dX11_minutes_52 0 rfl ?_
        refine r_iconst (pc := 53) C (v := (2 : Int32)) dX11_minutes_53 (by decide) ?_
        refine r_callVi0 (pc := 54) C (rest := []) (a := v0) o_v0 [.int (2 : Int32)] yV_X11_refused g_1250 (c_X11_refused h) dX11_minutes_54 rfl rfl (Nat.le_of_ble_eq_true rfl) ⟨by decide, by decide⟩ ⟨by decide, by decide⟩ ⟨rfl, rfl⟩ (fun x16 S14 h g15 => ?_)
        have h := h g15
        have o_v0 := gr_ob g15 o_v0
        exact r_iret (pc := 57) C E ht dX11_minutes_57 (by decide) (by decide) h
      · have h := h.2 c13
        refine r_aload_n (pc := 36) C dX11_minutes_36 0 rfl ?_
        refine r_aload_n (pc := 37) C dX11_minutes_37 0 rfl ?_
        obtain ⟨a17, ea17, h⟩ := h
        refine r_getr (pc := 38) C fL_X11_338 dX11_minutes_38 o_v0 ea17 ?_
        refine r_iload_n (pc := 41) C dX11_minutes_41 2 rfl ?_
        refine r_iload_n (pc := 42) C dX11_minutes_42 3 rfl ?_
        obtain ⟨o_a17, h⟩ := h
        refine r_callVi0 (pc := 43) C (rest := [.ref v0]) (a := a17) o_a17 [.int v2, .int v3] yV_X10_minutes g_1607 (c_X10_minutes h) dX11_minutes_43 rfl rfl (Nat.le_of_ble_eq_true rfl) ⟨by decide, by decide⟩ ⟨by decide, by decide⟩ ⟨rfl, rfl⟩ (fun x20 S18 h g19 => ?_)
        have h := h g19
        have o_a17 := gr_ob g19 o_a17
        have o_v0 := gr_ob g19 o_v0
        refine r_callVi0 (pc := 46) C (rest := []) (a := v0) o_v0 [.int x20] yV_X11_good g_1518 (c_X11_good h) dX11_minutes_46 rfl rfl (Nat.le_of_ble_eq_true rfl) ⟨by decide, by decide⟩ ⟨by decide, by decide⟩ ⟨rfl, rfl⟩ (fun x23 S21 h g22 => ?_)
        have h := h g22
        have o_a17 := gr_ob g22 o_a17
        have o_v0 := gr_ob g22 o_v0
        refine r_goto (pc := 49) C (tgt := 57) dX11_minutes_49 (by decide) ?_
        exact r_iret (pc := 57) C E ht dX11_minutes_57 (by decide) (by decide) h
    · have h := h.2 c9
      exact r_sub [0] rfl (T_X11_minutes_21 C E ht hn h)
def P_X11_minutes (v0 : Nat) (v1 : Int32) (v2 : Int32) (v3 : Int32) (Q : Int32 → HS → Prop) (S : HS) : Prop := P_X11_minutes_0 Q v0 v1 v2 v3 S
theorem c_X11_minutes {l : Launch} {Ee : EE} {S : HS} {v0 : Nat} {v1 : Int32} {v2 : Int32} {v3 : Int32} {Q : Int32 → HS → Prop} (h : P_X11_minutes v0 v1 v2 v3 Q S) : MI l yX11_minutes cX11_minutes 4 (some .int) rm_X11_minutes Ee S [.ref v0, .int v1, .int v2, .int v3] Q :=
  openI (by decide) (Nat.le_of_ble_eq_true rfl) (fun X C E ht hn hE hl => by subst hE; exact r_sub [0, 1, 2, 3] rfl (T_X11_minutes_0 C E ht hn h))
def rm_X11_names : Room := { frames := 0, cells := 0, slots := 0, locals := 0 }
def P_X11_names_0 (Q : HS → Prop) (v0 : Nat) (v1 : Int64) (v3 : Int32) (v4 : Int32) (S : HS) : Prop := ob S v0 11 ∧ (∃ a1 : Nat, fR S v0 4 = some a1 ∧ (ob S a1 10 ∧ (∃ a2 : Nat, fR S a1 28 = some a2 ∧ (∃ a3 : Nat, fR S v0 4 = some a3 ∧ (ob S a3 10 ∧ (∀ x4 : Int32, x4 = fI S a3 6 → (ob S a2 14 ∧ (vp_in x4 (hN S a2) ∧ (∀ S6 : HS, S6 = sJ S a2 x4.toNatClampNeg v1 → (∃ a7 : Nat, fR S6 v0 4 = some a7 ∧ (ob S6 a7 10 ∧ (∃ a8 : Nat, fR S6 a7 29 = some a8 ∧ (∃ a9 : Nat, fR S6 v0 4 = some a9 ∧ (ob S6 a9 10 ∧ (∀ x10 : Int32, x10 = fI S6 a9 6 → (ob S6 a8 13 ∧ (vp_in x10 (hN S6 a8) ∧ (∀ S12 : HS, S12 = sI S6 a8 x10.toNatClampNeg v3 → (∃ a13 : Nat, fR S12 v0 4 = some a13 ∧ (ob S12 a13 10 ∧ (∃ a14 : Nat, fR S12 a13 30 = some a14 ∧ (∃ a15 : Nat, fR S12 v0 4 = some a15 ∧ (ob S12 a15 10 ∧ (∀ x16 : Int32, x16 = fI S12 a15 6 → (ob S12 a14 13 ∧ (vp_in x16 (hN S12 a14) ∧ (∀ S18 : HS, S18 = sI S12 a14 x16.toNatClampNeg v4 → (∃ a19 : Nat, fR S18 v0 4 = some a19 ∧ (ob S18 a19 10 ∧ (∀ x20 : Int32, x20 = fI S18 a19 6 → (∀ x21 : Int32, x21 = x20 + (1 : Int32) → (∀ S22 : HS, S22 = sI S18 a19 6 x21 → (Q S22)))))))))))))))))))))))))))))))))
set_option maxRecDepth 20000 in
set_option maxHeartbeats 4000000 in
theorem T_X11_names_0 {X : CX} {Q : HS → Prop} (C : Cx X cX11_names RX11 5 rm_X11_names) (E : ReV X rm_X11_names Q) (ht : (xh X).sig.returnType = none) (hn : (xh X).name = yX11_names.name) {v0 : Nat} {v1 : Int64} {v3 : Int32} {v4 : Int32} {S : HS} (h : P_X11_names_0 Q v0 v1 v3 v4 S) : WS X 5 0 0 0 [(0, .ref v0), (1, .long v1), (3, .int v3), (4, .int v4)] [] S := by
  refine r_aload_n (pc := 0) C dX11_names_0 0 rfl ?_
  obtain ⟨o_v0, h⟩ := h
  obtain ⟨a1, ea1, h⟩ := h
  refine r_getr (pc := 1) C fL_X11_147 dX11_names_1 o_v0 ea1 ?_
  obtain ⟨o_a1, h⟩ := h
  obtain ⟨a2, ea2, h⟩ := h
  refine r_getNr (pc := 4) C fN_X11_164 dX11_names_4 o_a1 ea2 ?_
  refine r_aload_n (pc := 7) C dX11_names_7 0 rfl ?_
  obtain ⟨a3, ea3, h⟩ := h
  refine r_getr (pc := 8) C fL_X11_147 dX11_names_8 o_v0 ea3 ?_
  obtain ⟨o_a3, h⟩ := h
  refine r_getNi (pc := 11) C fN_X11_167 dX11_names_11 o_a3 ?_
  refine r_topi (fun x4 ex4 => ?_)
  have h := h x4 ex4
  refine r_lload_n (pc := 14) C dX11_names_14 1 rfl ?_
  obtain ⟨o_a2, h⟩ := h
  obtain ⟨i5, h⟩ := h
  refine r_last (pc := 15) C dX11_names_15 o_a2 i5 ?_
  refine r_heap (fun S6 eS6 => ?_)
  have h := h S6 eS6
  have o_a1 := ob_J eS6 o_a1
  have o_a2 := ob_J eS6 o_a2
  have o_a3 := ob_J eS6 o_a3
  have o_v0 := ob_J eS6 o_v0
  refine r_aload_n (pc := 16) C dX11_names_16 0 rfl ?_
  obtain ⟨a7, ea7, h⟩ := h
  refine r_getr (pc := 17) C fL_X11_147 dX11_names_17 o_v0 ea7 ?_
  obtain ⟨o_a7, h⟩ := h
  obtain ⟨a8, ea8, h⟩ := h
  refine r_getNr (pc := 20) C fN_X11_170 dX11_names_20 o_a7 ea8 ?_
  refine r_aload_n (pc := 23) C dX11_names_23 0 rfl ?_
  obtain ⟨a9, ea9, h⟩ := h
  refine r_getr (pc := 24) C fL_X11_147 dX11_names_24 o_v0 ea9 ?_
  obtain ⟨o_a9, h⟩ := h
  refine r_getNi (pc := 27) C fN_X11_167 dX11_names_27 o_a9 ?_
  refine r_topi (fun x10 ex10 => ?_)
  have h := h x10 ex10
  refine r_iload_n (pc := 30) C dX11_names_30 2 rfl ?_
  obtain ⟨o_a8, h⟩ := h
  obtain ⟨i11, h⟩ := h
  refine r_iast (pc := 31) C dX11_names_31 o_a8 i11 ?_
  refine r_heap (fun S12 eS12 => ?_)
  have h := h S12 eS12
  have o_a1 := ob_I eS12 o_a1
  have o_a2 := ob_I eS12 o_a2
  have o_a3 := ob_I eS12 o_a3
  have o_a7 := ob_I eS12 o_a7
  have o_a8 := ob_I eS12 o_a8
  have o_a9 := ob_I eS12 o_a9
  have o_v0 := ob_I eS12 o_v0
  refine r_aload_n (pc := 32) C dX11_names_32 0 rfl ?_
  obtain ⟨a13, ea13, h⟩ := h
  refine r_getr (pc := 33) C fL_X11_147 dX11_names_33 o_v0 ea13 ?_
  obtain ⟨o_a13, h⟩ := h
  obtain ⟨a14, ea14, h⟩ := h
  refine r_getNr (pc := 36) C fN_X11_173 dX11_names_36 o_a13 ea14 ?_
  refine r_aload_n (pc := 39) C dX11_names_39 0 rfl ?_
  obtain ⟨a15, ea15, h⟩ := h
  refine r_getr (pc := 40) C fL_X11_147 dX11_names_40 o_v0 ea15 ?_
  obtain ⟨o_a15, h⟩ := h
  refine r_getNi (pc := 43) C fN_X11_167 dX11_names_43 o_a15 ?_
  refine r_topi (fun x16 ex16 => ?_)
  have h := h x16 ex16
  refine r_iload (pc := 46) C dX11_names_46 3 rfl ?_
  obtain ⟨o_a14, h⟩ := h
  obtain ⟨i17, h⟩ := h
  refine r_iast (pc := 48) C dX11_names_48 o_a14 i17 ?_
  refine r_heap (fun S18 eS18 => ?_)
  have h := h S18 eS18
  have o_a1 := ob_I eS18 o_a1
  have o_a13 := ob_I eS18 o_a13
  have o_a14 := ob_I eS18 o_a14
  have o_a15 := ob_I eS18 o_a15
  have o_a2 := ob_I eS18 o_a2
  have o_a3 := ob_I eS18 o_a3
  have o_a7 := ob_I eS18 o_a7
  have o_a8 := ob_I eS18 o_a8
  have o_a9 := ob_I eS18 o_a9
  have o_v0 := ob_I eS18 o_v0
  refine r_aload_n (pc := 49) C dX11_names_49 0 rfl ?_
  obtain ⟨a19, ea19, h⟩ := h
  refine r_getr (pc := 50) C fL_X11_147 dX11_names_50 o_v0 ea19 ?_
  refine r_dup (pc := 53) C dX11_names_53 rfl ?_
  obtain ⟨o_a19, h⟩ := h
  refine r_getNi (pc := 54) C fN_X11_167 dX11_names_54 o_a19 ?_
  refine r_topi (fun x20 ex20 => ?_)
  have h := h x20 ex20
  refine r_iconst (pc := 57) C (v := (1 : Int32)) dX11_names_57 (by decide) ?_
  refine r_iadd (pc := 58) C dX11_names_58 ?_
  refine r_topi (fun x21 ex21 => ?_)
  have h := h x21 ex21
  refine r_putNi (pc := 59) C pfN_X11_167 dX11_names_59 o_a19 ?_
  refine r_heap (fun S22 eS22 => ?_)
  have h := h S22 eS22
  have o_a1 := ob_I eS22 o_a1
  have o_a13 := ob_I eS22 o_a13
  have o_a14 := ob_I eS22 o_a14
  have o_a15 := ob_I eS22 o_a15
  have o_a19 := ob_I eS22 o_a19
  have o_a2 := ob_I eS22 o_a2
  have o_a3 := ob_I eS22 o_a3
  have o_a7 := ob_I eS22 o_a7
  have o_a8 := ob_I eS22 o_a8
  have o_a9 := ob_I eS22 o_a9
  have o_v0 := ob_I eS22 o_v0
  exact r_vret (pc := 62) C E ht dX11_names_62 (by decide) (by decide) h
def P_X11_names (v0 : Nat) (v1 : Int64) (v3 : Int32) (v4 : Int32) (Q : HS → Prop) (S : HS) : Prop := P_X11_names_0 Q v0 v1 v3 v4 S
theorem c_X11_names {l : Launch} {Ee : EE} {S : HS} {v0 : Nat} {v1 : Int64} {v3 : Int32} {v4 : Int32} {Q : HS → Prop} (h : P_X11_names v0 v1 v3 v4 Q S) : MV l yX11_names cX11_names 5 none rm_X11_names Ee S [.ref v0, .long v1, .int v3, .int v4] Q :=
  openV (by decide) (Nat.le_of_ble_eq_true rfl) (fun X C E ht hn hE hl => by subst hE; exact r_sub [0, 1, 2, 3] rfl (T_X11_names_0 C E ht hn h))
def rm_X11_needs : Room := { frames := 7, cells := 0, slots := 0, locals := 164 }
def P_X11_needs_13 (Q : HS → Prop) (v0 : Nat) (S : HS) : Prop := ob S v0 11 ∧ (P_X11_goesOn v0 (fun S1 => Gr S S1 → (Q S1)) S)
set_option maxRecDepth 20000 in
set_option maxHeartbeats 4000000 in
theorem T_X11_needs_13 {X : CX} {Q : HS → Prop} (C : Cx X cX11_needs RX11 2 rm_X11_needs) (E : ReV X rm_X11_needs Q) (ht : (xh X).sig.returnType = none) (hn : (xh X).name = yX11_needs.name) {v0 : Nat} {S : HS} (h : P_X11_needs_13 Q v0 S) : WS X 2 0 0 13 [(0, .ref v0)] [] S := by
  refine r_aload_n (pc := 13) C dX11_needs_13 0 rfl ?_
  obtain ⟨o_v0, h⟩ := h
  refine r_callVv0 (pc := 14) C (rest := []) (a := v0) o_v0 [] yV_X11_goesOn g_1380 (c_X11_goesOn h) dX11_needs_14 rfl rfl (Nat.le_of_ble_eq_true rfl) ⟨by decide, by decide⟩ ⟨by decide, by decide⟩ ⟨rfl, rfl⟩ (fun S1 h g2 => ?_)
  have h := h g2
  have o_v0 := gr_ob g2 o_v0
  exact r_vret (pc := 17) C E ht dX11_needs_17 (by decide) (by decide) h
def P_X11_needs_0 (Q : HS → Prop) (v0 : Nat) (v1 : Nat) (S : HS) : Prop := ob S v0 11 ∧ (P_X11_isWord v0 v1 (fun x3 S1 => Gr S S1 → bl x3 → (((¬ x3 = 0) → (P_X11_needs_13 Q v0 S1)) ∧ ((x3 = 0) → (P_X11_flaw v0 (1 : Int32) (fun S5 => Gr S1 S5 → (P_X11_needs_13 Q v0 S5)) S1)))) S)
set_option maxRecDepth 20000 in
set_option maxHeartbeats 4000000 in
theorem T_X11_needs_0 {X : CX} {Q : HS → Prop} (C : Cx X cX11_needs RX11 2 rm_X11_needs) (E : ReV X rm_X11_needs Q) (ht : (xh X).sig.returnType = none) (hn : (xh X).name = yX11_needs.name) {v0 : Nat} {v1 : Nat} {S : HS} (h : P_X11_needs_0 Q v0 v1 S) : WS X 2 0 0 0 [(0, .ref v0), (1, .ref (eK (xE X) v1))] [] S := by
  refine r_aload_n (pc := 0) C dX11_needs_0 0 rfl ?_
  refine r_aload_n (pc := 1) C dX11_needs_1 1 rfl ?_
  obtain ⟨o_v0, h⟩ := h
  refine r_callVi0 (pc := 2) C (rest := []) (a := v0) o_v0 [.ref (eK (xE X) v1)] yV_X11_isWord g_1404 (c_X11_isWord h) dX11_needs_2 rfl rfl (Nat.le_of_ble_eq_true rfl) ⟨by decide, by decide⟩ ⟨by decide, by decide⟩ ⟨rfl, rfl⟩ (fun x3 S1 h g2 => ?_)
  have bx3 := h.1
  have h := h.2 g2 bx3
  have o_v0 := gr_ob g2 o_v0
  refine r_if_ne (pc := 5) C (tgt := 13) dX11_needs_5 (by decide) (fun c4 => ?_) (fun c4 => ?_)
  · have h := h.1 c4
    exact r_sub [0] rfl (T_X11_needs_13 C E ht hn h)
  · have h := h.2 c4
    refine r_aload_n (pc := 8) C dX11_needs_8 0 rfl ?_
    refine r_iconst (pc := 9) C (v := (1 : Int32)) dX11_needs_9 (by decide) ?_
    refine r_callVv0 (pc := 10) C (rest := []) (a := v0) o_v0 [.int (1 : Int32)] yV_X11_flaw g_1417 (c_X11_flaw h) dX11_needs_10 rfl rfl (Nat.le_of_ble_eq_true rfl) ⟨by decide, by decide⟩ ⟨by decide, by decide⟩ ⟨rfl, rfl⟩ (fun S5 h g6 => ?_)
    have h := h g6
    have o_v0 := gr_ob g6 o_v0
    exact r_sub [0] rfl (T_X11_needs_13 C E ht hn h)
def P_X11_needs (v0 : Nat) (v1 : Nat) (Q : HS → Prop) (S : HS) : Prop := P_X11_needs_0 Q v0 v1 S
theorem c_X11_needs {l : Launch} {Ee : EE} {S : HS} {v0 : Nat} {v1 : Nat} {Q : HS → Prop} (h : P_X11_needs v0 v1 Q S) : MV l yX11_needs cX11_needs 2 none rm_X11_needs Ee S [.ref v0, .ref (eK Ee v1)] Q :=
  openV (by decide) (Nat.le_of_ble_eq_true rfl) (fun X C E ht hn hE hl => by subst hE; exact r_sub [0, 1] rfl (T_X11_needs_0 C E ht hn h))
def rm_X11_off : Room := { frames := 9, cells := 0, slots := 0, locals := 243 }
def P_X11_off_29 (Q : Int32 → HS → Prop) (v0 : Nat) (S : HS) : Prop := ob S v0 11 ∧ (P_X11_refused v0 (1 : Int32) (fun x3 S1 => Gr S S1 → (Q x3 S1)) S)
set_option maxRecDepth 20000 in
set_option maxHeartbeats 4000000 in
theorem T_X11_off_29 {X : CX} {Q : Int32 → HS → Prop} (C : Cx X cX11_off RX11 7 rm_X11_off) (E : ReI X rm_X11_off Q) (ht : (xh X).sig.returnType = (some .int)) (hn : (xh X).name = yX11_off.name) {v0 : Nat} {S : HS} (h : P_X11_off_29 Q v0 S) : WS X 7 0 0 29 [(0, .ref v0)] [] S := by
  refine r_aload_n (pc := 29) C dX11_off_29 0 rfl ?_
  refine r_iconst (pc := 30) C (v := (1 : Int32)) dX11_off_30 (by decide) ?_
  obtain ⟨o_v0, h⟩ := h
  refine r_callVi0 (pc := 31) C (rest := []) (a := v0) o_v0 [.int (1 : Int32)] yV_X11_refused g_1250 (c_X11_refused h) dX11_off_31 rfl rfl (Nat.le_of_ble_eq_true rfl) ⟨by decide, by decide⟩ ⟨by decide, by decide⟩ ⟨rfl, rfl⟩ (fun x3 S1 h g2 => ?_)
  have h := h g2
  have o_v0 := gr_ob g2 o_v0
  exact r_iret (pc := 34) C E ht dX11_off_34 (by decide) (by decide) h
def P_X11_off_128 (Q : Int32 → HS → Prop) (X67 : Nat → Int32 → Int32 → Int32 → Int32 → HS → Prop) (v0 : Nat) (v2 : Int32) (v4 : Int32) (v5 : Int32) (v6 : Int32) (S : HS) : Prop := ∀ x1 : Int32, x1 = v6 + (1 : Int32) → (X67 v0 v2 v4 v5 x1 S)
set_option maxRecDepth 20000 in
set_option maxHeartbeats 4000000 in
theorem T_X11_off_128 {X : CX} {Q : Int32 → HS → Prop} (C : Cx X cX11_off RX11 7 rm_X11_off) (E : ReI X rm_X11_off Q) (ht : (xh X).sig.returnType = (some .int)) (hn : (xh X).name = yX11_off.name) {X67 : Nat → Int32 → Int32 → Int32 → Int32 → HS → Prop} (hX67 : ∀ (v0 : Nat) (v2 : Int32) (v4 : Int32) (v5 : Int32) (v6 : Int32) (S : HS), X67 v0 v2 v4 v5 v6 S → WS X 7 0 0 67 [(0, .ref v0), (2, .int v2), (4, .int v4), (5, .int v5), (6, .int v6)] [] S) {v0 : Nat} {v2 : Int32} {v4 : Int32} {v5 : Int32} {v6 : Int32} {S : HS} (h : P_X11_off_128 Q X67 v0 v2 v4 v5 v6 S) : WS X 7 0 0 128 [(0, .ref v0), (2, .int v2), (4, .int v4), (5, .int v5), (6, .int v6)] [] S := by
  obtain ⟨x1, ex1⟩ : ∃ z : Int32, z = v6 + (1 : Int32) := ⟨_, rfl⟩
  have h := h x1 ex1
  refine r_iinc (pc := 128) C (v := x1) (lv' := [(6, .int x1), (0, .ref v0), (2, .int v2), (4, .int v4), (5, .int v5)]) dX11_off_128 4 rfl ex1.symm (by decide) rfl ?_
  refine r_goto (pc := 131) C (tgt := 67) dX11_off_131 (by decide) ?_
  exact r_sub [1, 2, 3, 4, 0] rfl (hX67 v0 v2 v4 v5 x1 S h)
def P_X11_off_124 (Q : Int32 → HS → Prop) (X67 : Nat → Int32 → Int32 → Int32 → Int32 → HS → Prop) (v0 : Nat) (v2 : Int32) (v4 : Int32) (v6 : Int32) (S : HS) : Prop := P_X11_off_128 Q X67 v0 v2 v4 v6 v6 S
set_option maxRecDepth 20000 in
set_option maxHeartbeats 4000000 in
theorem T_X11_off_124 {X : CX} {Q : Int32 → HS → Prop} (C : Cx X cX11_off RX11 7 rm_X11_off) (E : ReI X rm_X11_off Q) (ht : (xh X).sig.returnType = (some .int)) (hn : (xh X).name = yX11_off.name) {X67 : Nat → Int32 → Int32 → Int32 → Int32 → HS → Prop} (hX67 : ∀ (v0 : Nat) (v2 : Int32) (v4 : Int32) (v5 : Int32) (v6 : Int32) (S : HS), X67 v0 v2 v4 v5 v6 S → WS X 7 0 0 67 [(0, .ref v0), (2, .int v2), (4, .int v4), (5, .int v5), (6, .int v6)] [] S) {v0 : Nat} {v2 : Int32} {v4 : Int32} {v6 : Int32} {S : HS} (h : P_X11_off_124 Q X67 v0 v2 v4 v6 S) : WS X 7 0 0 124 [(0, .ref v0), (2, .int v2), (4, .int v4), (6, .int v6)] [] S := by
  refine r_iload (pc := 124) C dX11_off_124 3 rfl ?_
  refine r_istore (pc := 126) C dX11_off_126 (by decide) (lv' := [(5, .int v6), (0, .ref v0), (2, .int v2), (4, .int v4), (6, .int v6)]) rfl ?_
  exact r_sub [1, 2, 3, 0, 4] rfl (T_X11_off_128 C E ht hn hX67 h)
def B_X11_off_67 (Q : Int32 → HS → Prop) (X67 : Nat → Int32 → Int32 → Int32 → Int32 → HS → Prop) (v0 : Nat) (v2 : Int32) (v4 : Int32) (v5 : Int32) (v6 : Int32) (S : HS) : Prop := ((v4 < v6) → (((¬ v5 = (-1 : Int32)) → (ob S v0 11 ∧ (P_X11_good v0 v5 (fun x5 S3 => Gr S S3 → (Q x5 S3)) S))) ∧ ((v5 = (-1 : Int32)) → (ob S v0 11 ∧ (P_X11_refused v0 (6 : Int32) (fun x8 S6 => Gr S S6 → (Q x8 S6)) S))))) ∧ ((¬ v4 < v6) → (ob S v0 11 ∧ (∃ a9 : Nat, fR S v0 16 = some a9 ∧ (P_X11_spotOf v2 v6 (fun x12 S10 => Gr S S10 → (ob S10 a9 14 ∧ (vp_in x12 (hN S10 a9) ∧ ∀ x14 : Int64, x14 = fJ S10 a9 x12.toNatClampNeg → ((((lg_cmp x14 (-1 : Int64)) = 0) → (P_X11_off_128 Q X67 v0 v2 v4 v5 v6 S10)) ∧ ((¬ (lg_cmp x14 (-1 : Int64)) = 0) → (((v5 = (-1 : Int32)) → (P_X11_off_124 Q X67 v0 v2 v4 v6 S10)) ∧ ((¬ v5 = (-1 : Int32)) → (∃ a17 : Nat, fR S10 v0 16 = some a17 ∧ (P_X11_spotOf v2 v6 (fun x20 S18 => Gr S10 S18 → (ob S18 a17 14 ∧ (vp_in x20 (hN S18 a17) ∧ ∀ x22 : Int64, x22 = fJ S18 a17 x20.toNatClampNeg → (∃ a23 : Nat, fR S18 v0 16 = some a23 ∧ (P_X11_spotOf v2 v5 (fun x26 S24 => Gr S18 S24 → (ob S24 a23 14 ∧ (vp_in x26 (hN S24 a23) ∧ ∀ x28 : Int64, x28 = fJ S24 a23 x26.toNatClampNeg → (((0 ≤ (lg_cmp x22 x28)) → (P_X11_off_128 Q X67 v0 v2 v4 v5 v6 S24)) ∧ ((¬ 0 ≤ (lg_cmp x22 x28)) → (P_X11_off_124 Q X67 v0 v2 v4 v6 S24)))))) S18))))) S10))))))))) S))))
def P_X11_off_67 (Q : Int32 → HS → Prop) (v0 : Nat) (v2 : Int32) (v4 : Int32) (v5 : Int32) (v6 : Int32) (S : HS) : Prop := ∀ X67 : Nat → Int32 → Int32 → Int32 → Int32 → HS → Prop, (∀ (v0 : Nat) (v2 : Int32) (v4 : Int32) (v5 : Int32) (v6 : Int32) (S : HS), B_X11_off_67 Q X67 v0 v2 v4 v5 v6 S → X67 v0 v2 v4 v5 v6 S) → X67 v0 v2 v4 v5 v6 S
set_option maxRecDepth 20000 in
set_option maxHeartbeats 4000000 in
theorem TB_X11_off_67 {X : CX} {Q : Int32 → HS → Prop} (C : Cx X cX11_off RX11 7 rm_X11_off) (E : ReI X rm_X11_off Q) (ht : (xh X).sig.returnType = (some .int)) (hn : (xh X).name = yX11_off.name) {X67 : Nat → Int32 → Int32 → Int32 → Int32 → HS → Prop} (hX67 : ∀ (v0 : Nat) (v2 : Int32) (v4 : Int32) (v5 : Int32) (v6 : Int32) (S : HS), X67 v0 v2 v4 v5 v6 S → WS X 7 0 0 67 [(0, .ref v0), (2, .int v2), (4, .int v4), (5, .int v5), (6, .int v6)] [] S) {v0 : Nat} {v2 : Int32} {v4 : Int32} {v5 : Int32} {v6 : Int32} {S : HS} (h : B_X11_off_67 Q X67 v0 v2 v4 v5 v6 S) : WS X 7 0 0 67 [(0, .ref v0), (2, .int v2), (4, .int v4), (5, .int v5), (6, .int v6)] [] S := by
  refine r_iload (pc := 67) C dX11_off_67 4 rfl ?_
  refine r_iload (pc := 69) C dX11_off_69 2 rfl ?_
  refine r_icmp_gt (pc := 71) C (tgt := 134) dX11_off_71 (by decide) (fun c1 => ?_) (fun c1 => ?_)
  · have h := h.1 c1
    refine r_iload (pc := 134) C dX11_off_134 3 rfl ?_
    refine r_iconst (pc := 136) C (v := (-1 : Int32)) dX11_off_136 (by decide) ?_
    refine r_icmp_ne (pc := 137) C (tgt := 149) dX11_off_137 (by decide) (fun c2 => ?_) (fun c2 => ?_)
    · have h := h.1 c2
      refine r_aload_n (pc := 149) C dX11_off_149 0 rfl ?_
      refine r_iload (pc := 150) C dX11_off_150 3 rfl ?_
      obtain ⟨o_v0, h⟩ := h
      refine r_callVi0 (pc := 152) C (rest := []) (a := v0) o_v0 [.int v5] yV_X11_good g_1518 (c_X11_good h) dX11_off_152 rfl rfl (Nat.le_of_ble_eq_true rfl) ⟨by decide, by decide⟩ ⟨by decide, by decide⟩ ⟨rfl, rfl⟩ (fun x5 S3 h g4 => ?_)
      have h := h g4
      have o_v0 := gr_ob g4 o_v0
      exact r_iret (pc := 155) C E ht dX11_off_155 (by decide) (by decide) h
    · have h := h.2 c2
      refine r_aload_n (pc := 140) C dX11_off_140 0 rfl ?_
      refine r_bipush (pc := 141) C (v := (6 : Int32)) dX11_off_141 (by decide) ?_
      obtain ⟨o_v0, h⟩ := h
      refine r_callVi0 (pc := 143) C (rest := []) (a := v0) o_v0 [.int (6 : Int32)] yV_X11_refused g_1250 (c_X11_refused h) dX11_off_143 rfl rfl (Nat.le_of_ble_eq_true rfl) ⟨by decide, by decide⟩ ⟨by decide, by decide⟩ ⟨rfl, rfl⟩ (fun x8 S6 h g7 => ?_)
      have h := h g7
      have o_v0 := gr_ob g7 o_v0
      refine r_goto (pc := 146) C (tgt := 155) dX11_off_146 (by decide) ?_
      exact r_iret (pc := 155) C E ht dX11_off_155 (by decide) (by decide) h
  · have h := h.2 c1
    refine r_aload_n (pc := 74) C dX11_off_74 0 rfl ?_
    obtain ⟨o_v0, h⟩ := h
    obtain ⟨a9, ea9, h⟩ := h
    refine r_getr (pc := 75) C fL_X11_17 dX11_off_75 o_v0 ea9 ?_
    refine r_iload_n (pc := 78) C dX11_off_78 1 rfl ?_
    refine r_iload (pc := 79) C dX11_off_79 4 rfl ?_
    refine r_callSi0 (pc := 81) C (rest := [.ref a9]) rfl [.int v2, .int v6] yS_X11_spotOf g_1687 (c_X11_spotOf h) dX11_off_81 rfl rfl (Nat.le_of_ble_eq_true rfl) ⟨by decide, by decide⟩ ⟨by decide, by decide⟩ ⟨rfl, rfl⟩ (fun x12 S10 h g11 => ?_)
    have h := h g11
    have o_v0 := gr_ob g11 o_v0
    obtain ⟨o_a9, h⟩ := h
    obtain ⟨i13, h⟩ := h
    refine r_lald (pc := 84) C dX11_off_84 o_a9 i13 ?_
    refine r_topl (fun x14 ex14 => ?_)
    have h := h x14 ex14
    refine r_ldc2 (pc := 85) C (v := (-1 : Int64)) dX11_off_85 g_1690 ?_
    refine r_lcmp (pc := 88) C dX11_off_88 ?_
    refine r_if_eq (pc := 89) C (tgt := 128) dX11_off_89 (by decide) (fun c15 => ?_) (fun c15 => ?_)
    · have h := h.1 c15
      exact r_sub [0, 1, 2, 3, 4] rfl (T_X11_off_128 C E ht hn hX67 h)
    · have h := h.2 c15
      refine r_iload (pc := 92) C dX11_off_92 3 rfl ?_
      refine r_iconst (pc := 94) C (v := (-1 : Int32)) dX11_off_94 (by decide) ?_
      refine r_icmp_eq (pc := 95) C (tgt := 124) dX11_off_95 (by decide) (fun c16 => ?_) (fun c16 => ?_)
      · have h := h.1 c16
        exact r_sub [0, 1, 2, 4] rfl (T_X11_off_124 C E ht hn hX67 h)
      · have h := h.2 c16
        refine r_aload_n (pc := 98) C dX11_off_98 0 rfl ?_
        obtain ⟨a17, ea17, h⟩ := h
        refine r_getr (pc := 99) C fL_X11_17 dX11_off_99 o_v0 ea17 ?_
        refine r_iload_n (pc := 102) C dX11_off_102 1 rfl ?_
        refine r_iload (pc := 103) C dX11_off_103 4 rfl ?_
        refine r_callSi0 (pc := 105) C (rest := [.ref a17]) rfl [.int v2, .int v6] yS_X11_spotOf g_1687 (c_X11_spotOf h) dX11_off_105 rfl rfl (Nat.le_of_ble_eq_true rfl) ⟨by decide, by decide⟩ ⟨by decide, by decide⟩ ⟨rfl, rfl⟩ (fun x20 S18 h g19 => ?_)
        have h := h g19
        have o_a9 := gr_ob g19 o_a9
        have o_v0 := gr_ob g19 o_v0
        obtain ⟨o_a17, h⟩ := h
        obtain ⟨i21, h⟩ := h
        refine r_lald (pc := 108) C dX11_off_108 o_a17 i21 ?_
        refine r_topl (fun x22 ex22 => ?_)
        have h := h x22 ex22
        refine r_aload_n (pc := 109) C dX11_off_109 0 rfl ?_
        obtain ⟨a23, ea23, h⟩ := h
        refine r_getr (pc := 110) C fL_X11_17 dX11_off_110 o_v0 ea23 ?_
        refine r_iload_n (pc := 113) C dX11_off_113 1 rfl ?_
        refine r_iload (pc := 114) C dX11_off_114 3 rfl ?_
        refine r_callSi0 (pc := 116) C (rest := [.ref a23, .long x22]) rfl [.int v2, .int v5] yS_X11_spotOf g_1687 (c_X11_spotOf h) dX11_off_116 rfl rfl (Nat.le_of_ble_eq_true rfl) ⟨by decide, by decide⟩ ⟨by decide, by decide⟩ ⟨rfl, rfl⟩ (fun x26 S24 h g25 => ?_)
        have h := h g25
        have o_a17 := gr_ob g25 o_a17
        have o_a9 := gr_ob g25 o_a9
        have o_v0 := gr_ob g25 o_v0
        obtain ⟨o_a23, h⟩ := h
        obtain ⟨i27, h⟩ := h
        refine r_lald (pc := 119) C dX11_off_119 o_a23 i27 ?_
        refine r_topl (fun x28 ex28 => ?_)
        have h := h x28 ex28
        refine r_lcmp (pc := 120) C dX11_off_120 ?_
        refine r_if_ge (pc := 121) C (tgt := 128) dX11_off_121 (by decide) (fun c29 => ?_) (fun c29 => ?_)
        · have h := h.1 c29
          exact r_sub [0, 1, 2, 3, 4] rfl (T_X11_off_128 C E ht hn hX67 h)
        · have h := h.2 c29
          exact r_sub [0, 1, 2, 4] rfl (T_X11_off_124 C E ht hn hX67 h)
theorem T_X11_off_67 {X : CX} {Q : Int32 → HS → Prop} (C : Cx X cX11_off RX11 7 rm_X11_off) (E : ReI X rm_X11_off Q) (ht : (xh X).sig.returnType = (some .int)) (hn : (xh X).name = yX11_off.name) {v0 : Nat} {v2 : Int32} {v4 : Int32} {v5 : Int32} {v6 : Int32} {S : HS} (h : P_X11_off_67 Q v0 v2 v4 v5 v6 S) : WS X 7 0 0 67 [(0, .ref v0), (2, .int v2), (4, .int v4), (5, .int v5), (6, .int v6)] [] S :=
  h (fun v0 v2 v4 v5 v6 S => WS X 7 0 0 67 [(0, .ref v0), (2, .int v2), (4, .int v4), (5, .int v5), (6, .int v6)] [] S) (fun v0 v2 v4 v5 v6 S hh => TB_X11_off_67 C E ht hn (fun v0 v2 v4 v5 v6 S z => z) hh)
def P_X11_off_0 (Q : Int32 → HS → Prop) (v0 : Nat) (v1 : Int32) (v2 : Int32) (v3 : Int32) (v4 : Int32) (S : HS) : Prop := ob S v0 11 ∧ (∀ S1 : HS, S1 = sI S v0 0 (0 : Int32) → (P_X11_isWalker v0 v1 (fun x4 S2 => Gr S1 S2 → bl x4 → (((x4 = 0) → (P_X11_off_29 Q v0 S2)) ∧ ((¬ x4 = 0) → (P_X11_isPlace v0 v2 (fun x8 S6 => Gr S2 S6 → bl x8 → (((x8 = 0) → (P_X11_off_29 Q v0 S6)) ∧ ((¬ x8 = 0) → (P_X11_isPlace v0 v3 (fun x12 S10 => Gr S6 S10 → bl x12 → (((¬ x12 = 0) → (P_X11_in v4 (0 : Int32) (400 : Int32) (fun x16 S14 => Gr S10 S14 → bl x16 → (((¬ x16 = 0) → (P_X11_laysWays v0 v1 v3 v4 (fun S18 => Gr S14 S18 → (P_X11_off_67 Q v0 v2 v4 (-1 : Int32) (0 : Int32) S18)) S14)) ∧ ((x16 = 0) → (P_X11_refused v0 (2 : Int32) (fun x23 S21 => Gr S14 S21 → (Q x23 S21)) S14)))) S10)) ∧ ((x12 = 0) → (P_X11_off_29 Q v0 S10)))) S6)))) S2)))) S1))
set_option maxRecDepth 20000 in
set_option maxHeartbeats 4000000 in
theorem T_X11_off_0 {X : CX} {Q : Int32 → HS → Prop} (C : Cx X cX11_off RX11 7 rm_X11_off) (E : ReI X rm_X11_off Q) (ht : (xh X).sig.returnType = (some .int)) (hn : (xh X).name = yX11_off.name) {v0 : Nat} {v1 : Int32} {v2 : Int32} {v3 : Int32} {v4 : Int32} {S : HS} (h : P_X11_off_0 Q v0 v1 v2 v3 v4 S) : WS X 7 0 0 0 [(0, .ref v0), (1, .int v1), (2, .int v2), (3, .int v3), (4, .int v4)] [] S := by
  refine r_aload_n (pc := 0) C dX11_off_0 0 rfl ?_
  refine r_iconst (pc := 1) C (v := (0 : Int32)) dX11_off_1 (by decide) ?_
  obtain ⟨o_v0, h⟩ := h
  refine r_puti (pc := 2) C pfL_X11_40 dX11_off_2 o_v0 ?_
  refine r_heap (fun S1 eS1 => ?_)
  have h := h S1 eS1
  have o_v0 := ob_I eS1 o_v0
  refine r_aload_n (pc := 5) C dX11_off_5 0 rfl ?_
  refine r_iload_n (pc := 6) C dX11_off_6 1 rfl ?_
  refine r_callVi0 (pc := 7) C (rest := []) (a := v0) o_v0 [.int v1] yV_X11_isWalker g_1538 (c_X11_isWalker h) dX11_off_7 rfl rfl (Nat.le_of_ble_eq_true rfl) ⟨by decide, by decide⟩ ⟨by decide, by decide⟩ ⟨rfl, rfl⟩ (fun x4 S2 h g3 => ?_)
  have bx4 := h.1
  have h := h.2 g3 bx4
  have o_v0 := gr_ob g3 o_v0
  refine r_if_eq (pc := 10) C (tgt := 29) dX11_off_10 (by decide) (fun c5 => ?_) (fun c5 => ?_)
  · have h := h.1 c5
    exact r_sub [0] rfl (T_X11_off_29 C E ht hn h)
  · have h := h.2 c5
    refine r_aload_n (pc := 13) C dX11_off_13 0 rfl ?_
    refine r_iload_n (pc := 14) C dX11_off_14 2 rfl ?_
    refine r_callVi0 (pc := 15) C (rest := []) (a := v0) o_v0 [.int v2] yV_X11_isPlace g_1679 (c_X11_isPlace h) dX11_off_15 rfl rfl (Nat.le_of_ble_eq_true rfl) ⟨by decide, by decide⟩ ⟨by decide, by decide⟩ ⟨rfl, rfl⟩ (fun x8 S6 h g7 => ?_)
    have bx8 := h.1
    have h := h.2 g7 bx8
    have o_v0 := gr_ob g7 o_v0
    refine r_if_eq (pc := 18) C (tgt := 29) dX11_off_18 (by decide) (fun c9 => ?_) (fun c9 => ?_)
    · have h := h.1 c9
      exact r_sub [0] rfl (T_X11_off_29 C E ht hn h)
    · have h := h.2 c9
      refine r_aload_n (pc := 21) C dX11_off_21 0 rfl ?_
      refine r_iload_n (pc := 22) C dX11_off_22 3 rfl ?_
      refine r_callVi0 (pc := 23) C (rest := []) (a := v0) o_v0 [.int v3] yV_X11_isPlace g_1679 (c_X11_isPlace h) dX11_off_23 rfl rfl (Nat.le_of_ble_eq_true rfl) ⟨by decide, by decide⟩ ⟨by decide, by decide⟩ ⟨rfl, rfl⟩ (fun x12 S10 h g11 => ?_)
      have bx12 := h.1
      have h := h.2 g11 bx12
      have o_v0 := gr_ob g11 o_v0
      refine r_if_ne (pc := 26) C (tgt := 35) dX11_off_26 (by decide) (fun c13 => ?_) (fun c13 => ?_)
      · have h := h.1 c13
        refine r_iload (pc := 35) C dX11_off_35 4 rfl ?_
        refine r_iconst (pc := 37) C (v := (0 : Int32)) dX11_off_37 (by decide) ?_
        refine r_sipush (pc := 38) C (v := (400 : Int32)) dX11_off_38 (by decide) ?_
        refine r_callSi0 (pc := 41) C (rest := []) rfl [.int v4, .int (0 : Int32), .int (400 : Int32)] yS_X11_in g_1434 (c_X11_in h) dX11_off_41 rfl rfl (Nat.le_of_ble_eq_true rfl) ⟨by decide, by decide⟩ ⟨by decide, by decide⟩ ⟨rfl, rfl⟩ (fun x16 S14 h g15 => ?_)
        have bx16 := h.1
        have h := h.2 g15 bx16
        have o_v0 := gr_ob g15 o_v0
        refine r_if_ne (pc := 44) C (tgt := 53) dX11_off_44 (by decide) (fun c17 => ?_) (fun c17 => ?_)
        · have h := h.1 c17
          refine r_aload_n (pc := 53) C dX11_off_53 0 rfl ?_
          refine r_iload_n (pc := 54) C dX11_off_54 1 rfl ?_
          refine r_iload_n (pc := 55) C dX11_off_55 3 rfl ?_
          refine r_iload (pc := 56) C dX11_off_56 4 rfl ?_
          refine r_callVv0 (pc := 58) C (rest := []) (a := v0) o_v0 [.int v1, .int v3, .int v4] yV_X11_laysWays g_1683 (c_X11_laysWays h) dX11_off_58 rfl rfl (Nat.le_of_ble_eq_true rfl) ⟨by decide, by decide⟩ ⟨by decide, by decide⟩ ⟨rfl, rfl⟩ (fun S18 h g19 => ?_)
          have h := h g19
          have o_v0 := gr_ob g19 o_v0
          refine r_iconst (pc := 61) C (v := (-1 : Int32)) dX11_off_61 (by decide) ?_
          refine r_istore (pc := 62) C dX11_off_62 (by decide) (lv' := [(5, .int (-1 : Int32)), (0, .ref v0), (1, .int v1), (2, .int v2), (3, .int v3), (4, .int v4)]) rfl ?_
          refine r_iconst (pc := 64) C (v := (0 : Int32)) dX11_off_64 (by decide) ?_
          refine r_istore (pc := 65) C dX11_off_65 (by decide) (lv' := [(6, .int (0 : Int32)), (5, .int (-1 : Int32)), (0, .ref v0), (1, .int v1), (2, .int v2), (3, .int v3), (4, .int v4)]) rfl ?_
          exact r_sub [2, 4, 6, 1, 0] rfl (T_X11_off_67 C E ht hn h)
        · have h := h.2 c17
          refine r_aload_n (pc := 47) C dX11_off_47 0 rfl ?_
          refine r_iconst (pc := 48) C (v := (2 : Int32)) dX11_off_48 (by decide) ?_
          refine r_callVi0 (pc := 49) C (rest := []) (a := v0) o_v0 [.int (2 : Int32)] yV_X11_refused g_1250 (c_X11_refused h) dX11_off_49 rfl rfl (Nat.le_of_ble_eq_true rfl) ⟨by decide, by decide⟩ ⟨by decide, by decide⟩ ⟨rfl, rfl⟩ (fun x23 S21 h g22 => ?_)
          have h := h g22
          have o_v0 := gr_ob g22 o_v0
          exact r_iret (pc := 52) C E ht dX11_off_52 (by decide) (by decide) h
      · have h := h.2 c13
        exact r_sub [0] rfl (T_X11_off_29 C E ht hn h)
def P_X11_off (v0 : Nat) (v1 : Int32) (v2 : Int32) (v3 : Int32) (v4 : Int32) (Q : Int32 → HS → Prop) (S : HS) : Prop := P_X11_off_0 Q v0 v1 v2 v3 v4 S
theorem c_X11_off {l : Launch} {Ee : EE} {S : HS} {v0 : Nat} {v1 : Int32} {v2 : Int32} {v3 : Int32} {v4 : Int32} {Q : Int32 → HS → Prop} (h : P_X11_off v0 v1 v2 v3 v4 Q S) : MI l yX11_off cX11_off 7 (some .int) rm_X11_off Ee S [.ref v0, .int v1, .int v2, .int v3, .int v4] Q :=
  openI (by decide) (Nat.le_of_ble_eq_true rfl) (fun X C E ht hn hE hl => by subst hE; exact r_sub [0, 1, 2, 3, 4] rfl (T_X11_off_0 C E ht hn h))
def rm_X11_readFresh : Room := { frames := 8, cells := 0, slots := 0, locals := 184 }
def P_X11_readFresh_32 (Q : Int64 → HS → Prop) (v0 : Nat) (S : HS) : Prop := ob S v0 11 ∧ (∀ x1 : Int64, x1 = fJ S v0 15 → (P_X11_goesOn v0 (fun S2 => Gr S S2 → (Q x1 S2)) S))
set_option maxRecDepth 20000 in
set_option maxHeartbeats 4000000 in
theorem T_X11_readFresh_32 {X : CX} {Q : Int64 → HS → Prop} (C : Cx X cX11_readFresh RX11 3 rm_X11_readFresh) (E : ReJ X rm_X11_readFresh Q) (ht : (xh X).sig.returnType = (some .long)) (hn : (xh X).name = yX11_readFresh.name) {v0 : Nat} {S : HS} (h : P_X11_readFresh_32 Q v0 S) : WS X 3 0 0 32 [(0, .ref v0)] [] S := by
  refine r_aload_n (pc := 32) C dX11_readFresh_32 0 rfl ?_
  obtain ⟨o_v0, h⟩ := h
  refine r_getl (pc := 33) C fL_X11_87 dX11_readFresh_33 o_v0 ?_
  refine r_topl (fun x1 ex1 => ?_)
  have h := h x1 ex1
  refine r_lstore_n (pc := 36) C dX11_readFresh_36 rfl (by decide) (lv' := [(1, .long x1), (0, .ref v0)]) rfl ?_
  refine r_aload_n (pc := 37) C dX11_readFresh_37 1 rfl ?_
  refine r_callVv0 (pc := 38) C (rest := []) (a := v0) o_v0 [] yV_X11_goesOn g_1380 (c_X11_goesOn h) dX11_readFresh_38 rfl rfl (Nat.le_of_ble_eq_true rfl) ⟨by decide, by decide⟩ ⟨by decide, by decide⟩ ⟨rfl, rfl⟩ (fun S2 h g3 => ?_)
  have h := h g3
  have o_v0 := gr_ob g3 o_v0
  refine r_lload_n (pc := 41) C dX11_readFresh_41 0 rfl ?_
  exact r_lret (pc := 42) C E ht dX11_readFresh_42 (by decide) (by decide) h
def P_X11_readFresh_12 (Q : Int64 → HS → Prop) (v0 : Nat) (S : HS) : Prop := ob S v0 11 ∧ (∃ a1 : Nat, fR S v0 4 = some a1 ∧ (∀ x2 : Int64, x2 = fJ S v0 15 → (ob S a1 10 ∧ (P_X10_find a1 x2 (fun x5 S3 => Gr S S3 → (((x5 = (-1 : Int32)) → (P_X11_readFresh_32 Q v0 S3)) ∧ ((¬ x5 = (-1 : Int32)) → (P_X11_flaw v0 (3 : Int32) (fun S7 => Gr S3 S7 → (P_X11_readFresh_32 Q v0 S7)) S3)))) S))))
set_option maxRecDepth 20000 in
set_option maxHeartbeats 4000000 in
theorem T_X11_readFresh_12 {X : CX} {Q : Int64 → HS → Prop} (C : Cx X cX11_readFresh RX11 3 rm_X11_readFresh) (E : ReJ X rm_X11_readFresh Q) (ht : (xh X).sig.returnType = (some .long)) (hn : (xh X).name = yX11_readFresh.name) {v0 : Nat} {S : HS} (h : P_X11_readFresh_12 Q v0 S) : WS X 3 0 0 12 [(0, .ref v0)] [] S := by
  refine r_aload_n (pc := 12) C dX11_readFresh_12 0 rfl ?_
  obtain ⟨o_v0, h⟩ := h
  obtain ⟨a1, ea1, h⟩ := h
  refine r_getr (pc := 13) C fL_X11_147 dX11_readFresh_13 o_v0 ea1 ?_
  refine r_aload_n (pc := 16) C dX11_readFresh_16 0 rfl ?_
  refine r_getl (pc := 17) C fL_X11_87 dX11_readFresh_17 o_v0 ?_
  refine r_topl (fun x2 ex2 => ?_)
  have h := h x2 ex2
  obtain ⟨o_a1, h⟩ := h
  refine r_callVi0 (pc := 20) C (rest := []) (a := a1) o_a1 [.long x2] yV_X10_find g_1477 (c_X10_find h) dX11_readFresh_20 rfl rfl (Nat.le_of_ble_eq_true rfl) ⟨by decide, by decide⟩ ⟨by decide, by decide⟩ ⟨rfl, rfl⟩ (fun x5 S3 h g4 => ?_)
  have h := h g4
  have o_a1 := gr_ob g4 o_a1
  have o_v0 := gr_ob g4 o_v0
  refine r_iconst (pc := 23) C (v := (-1 : Int32)) dX11_readFresh_23 (by decide) ?_
  refine r_icmp_eq (pc := 24) C (tgt := 32) dX11_readFresh_24 (by decide) (fun c6 => ?_) (fun c6 => ?_)
  · have h := h.1 c6
    exact r_sub [0] rfl (T_X11_readFresh_32 C E ht hn h)
  · have h := h.2 c6
    refine r_aload_n (pc := 27) C dX11_readFresh_27 0 rfl ?_
    refine r_iconst (pc := 28) C (v := (3 : Int32)) dX11_readFresh_28 (by decide) ?_
    refine r_callVv0 (pc := 29) C (rest := []) (a := v0) o_v0 [.int (3 : Int32)] yV_X11_flaw g_1417 (c_X11_flaw h) dX11_readFresh_29 rfl rfl (Nat.le_of_ble_eq_true rfl) ⟨by decide, by decide⟩ ⟨by decide, by decide⟩ ⟨rfl, rfl⟩ (fun S7 h g8 => ?_)
    have h := h g8
    have o_a1 := gr_ob g8 o_a1
    have o_v0 := gr_ob g8 o_v0
    exact r_sub [0] rfl (T_X11_readFresh_32 C E ht hn h)
def P_X11_readFresh_0 (Q : Int64 → HS → Prop) (v0 : Nat) (S : HS) : Prop := ob S v0 11 ∧ (P_X11_isName v0 (fun x3 S1 => Gr S S1 → bl x3 → (((¬ x3 = 0) → (P_X11_readFresh_12 Q v0 S1)) ∧ ((x3 = 0) → (P_X11_flaw v0 (1 : Int32) (fun S5 => Gr S1 S5 → (P_X11_readFresh_12 Q v0 S5)) S1)))) S)
set_option maxRecDepth 20000 in
set_option maxHeartbeats 4000000 in
theorem T_X11_readFresh_0 {X : CX} {Q : Int64 → HS → Prop} (C : Cx X cX11_readFresh RX11 3 rm_X11_readFresh) (E : ReJ X rm_X11_readFresh Q) (ht : (xh X).sig.returnType = (some .long)) (hn : (xh X).name = yX11_readFresh.name) {v0 : Nat} {S : HS} (h : P_X11_readFresh_0 Q v0 S) : WS X 3 0 0 0 [(0, .ref v0)] [] S := by
  refine r_aload_n (pc := 0) C dX11_readFresh_0 0 rfl ?_
  obtain ⟨o_v0, h⟩ := h
  refine r_callVi0 (pc := 1) C (rest := []) (a := v0) o_v0 [] yV_X11_isName g_1467 (c_X11_isName h) dX11_readFresh_1 rfl rfl (Nat.le_of_ble_eq_true rfl) ⟨by decide, by decide⟩ ⟨by decide, by decide⟩ ⟨rfl, rfl⟩ (fun x3 S1 h g2 => ?_)
  have bx3 := h.1
  have h := h.2 g2 bx3
  have o_v0 := gr_ob g2 o_v0
  refine r_if_ne (pc := 4) C (tgt := 12) dX11_readFresh_4 (by decide) (fun c4 => ?_) (fun c4 => ?_)
  · have h := h.1 c4
    exact r_sub [0] rfl (T_X11_readFresh_12 C E ht hn h)
  · have h := h.2 c4
    refine r_aload_n (pc := 7) C dX11_readFresh_7 0 rfl ?_
    refine r_iconst (pc := 8) C (v := (1 : Int32)) dX11_readFresh_8 (by decide) ?_
    refine r_callVv0 (pc := 9) C (rest := []) (a := v0) o_v0 [.int (1 : Int32)] yV_X11_flaw g_1417 (c_X11_flaw h) dX11_readFresh_9 rfl rfl (Nat.le_of_ble_eq_true rfl) ⟨by decide, by decide⟩ ⟨by decide, by decide⟩ ⟨rfl, rfl⟩ (fun S5 h g6 => ?_)
    have h := h g6
    have o_v0 := gr_ob g6 o_v0
    exact r_sub [0] rfl (T_X11_readFresh_12 C E ht hn h)
def P_X11_readFresh (v0 : Nat) (Q : Int64 → HS → Prop) (S : HS) : Prop := P_X11_readFresh_0 Q v0 S
theorem c_X11_readFresh {l : Launch} {Ee : EE} {S : HS} {v0 : Nat} {Q : Int64 → HS → Prop} (h : P_X11_readFresh v0 Q S) : MJ l yX11_readFresh cX11_readFresh 3 (some .long) rm_X11_readFresh Ee S [.ref v0] Q :=
  openJ (by decide) (Nat.le_of_ble_eq_true rfl) (fun X C E ht hn hE hl => by subst hE; exact r_sub [0] rfl (T_X11_readFresh_0 C E ht hn h))
def rm_X11_readWhole : Room := { frames := 2, cells := 0, slots := 0, locals := 43 }
def P_X11_readWhole_49 (Q : Int32 → HS → Prop) (v0 : Nat) (s0 : Int32) (S : HS) : Prop := ob S v0 11 ∧ (P_X11_goesOn v0 (fun S1 => Gr S S1 → (Q s0 S1)) S)
set_option maxRecDepth 20000 in
set_option maxHeartbeats 4000000 in
theorem T_X11_readWhole_49 {X : CX} {Q : Int32 → HS → Prop} (C : Cx X cX11_readWhole RX11 4 rm_X11_readWhole) (E : ReI X rm_X11_readWhole Q) (ht : (xh X).sig.returnType = (some .int)) (hn : (xh X).name = yX11_readWhole.name) {v0 : Nat} {s0 : Int32} {S : HS} (h : P_X11_readWhole_49 Q v0 s0 S) : WS X 4 0 0 49 [(0, .ref v0)] [.int s0] S := by
  refine r_istore_n (pc := 49) C dX11_readWhole_49 rfl (by decide) (lv' := [(3, .int s0), (0, .ref v0)]) rfl ?_
  refine r_aload_n (pc := 50) C dX11_readWhole_50 1 rfl ?_
  obtain ⟨o_v0, h⟩ := h
  refine r_callVv0 (pc := 51) C (rest := []) (a := v0) o_v0 [] yV_X11_goesOn g_1380 (c_X11_goesOn h) dX11_readWhole_51 rfl rfl (Nat.le_of_ble_eq_true rfl) ⟨by decide, by decide⟩ ⟨by decide, by decide⟩ ⟨rfl, rfl⟩ (fun S1 h g2 => ?_)
  have h := h g2
  have o_v0 := gr_ob g2 o_v0
  refine r_iload_n (pc := 54) C dX11_readWhole_54 0 rfl ?_
  exact r_iret (pc := 55) C E ht dX11_readWhole_55 (by decide) (by decide) h
def P_X11_readWhole_33 (Q : Int32 → HS → Prop) (v0 : Nat) (v1 : Int32) (S : HS) : Prop := ob S v0 11 ∧ (∀ x1 : Int32, x1 = fI S v0 9 → (((¬ x1 = (5 : Int32)) → (∀ x3 : Int32, x3 = fI S v0 12 → (P_X11_readWhole_49 Q v0 x3 S))) ∧ ((x1 = (5 : Int32)) → (P_X11_readWhole_49 Q v0 v1 S))))
set_option maxRecDepth 20000 in
set_option maxHeartbeats 4000000 in
theorem T_X11_readWhole_33 {X : CX} {Q : Int32 → HS → Prop} (C : Cx X cX11_readWhole RX11 4 rm_X11_readWhole) (E : ReI X rm_X11_readWhole Q) (ht : (xh X).sig.returnType = (some .int)) (hn : (xh X).name = yX11_readWhole.name) {v0 : Nat} {v1 : Int32} {S : HS} (h : P_X11_readWhole_33 Q v0 v1 S) : WS X 4 0 0 33 [(0, .ref v0), (1, .int v1)] [] S := by
  refine r_aload_n (pc := 33) C dX11_readWhole_33 0 rfl ?_
  obtain ⟨o_v0, h⟩ := h
  refine r_geti (pc := 34) C fL_X11_68 dX11_readWhole_34 o_v0 ?_
  refine r_topi (fun x1 ex1 => ?_)
  have h := h x1 ex1
  refine r_iconst (pc := 37) C (v := (5 : Int32)) dX11_readWhole_37 (by decide) ?_
  refine r_icmp_ne (pc := 38) C (tgt := 45) dX11_readWhole_38 (by decide) (fun c2 => ?_) (fun c2 => ?_)
  · have h := h.1 c2
    refine r_aload_n (pc := 45) C dX11_readWhole_45 0 rfl ?_
    refine r_geti (pc := 46) C fL_X11_94 dX11_readWhole_46 o_v0 ?_
    refine r_topi (fun x3 ex3 => ?_)
    have h := h x3 ex3
    exact r_sub [0] rfl (T_X11_readWhole_49 C E ht hn h)
  · have h := h.2 c2
    refine r_iload_n (pc := 41) C dX11_readWhole_41 1 rfl ?_
    refine r_goto (pc := 42) C (tgt := 49) dX11_readWhole_42 (by decide) ?_
    exact r_sub [0] rfl (T_X11_readWhole_49 C E ht hn h)
def P_X11_readWhole_0 (Q : Int32 → HS → Prop) (v0 : Nat) (v1 : Int32) (v2 : Int32) (S : HS) : Prop := ob S v0 11 ∧ (∀ x1 : Int32, x1 = fI S v0 9 → (((x1 = (3 : Int32)) → (∀ x3 : Int32, x3 = fI S v0 12 → (P_X11_in x3 v1 v2 (fun x6 S4 => Gr S S4 → bl x6 → (((¬ x6 = 0) → (P_X11_readWhole_33 Q v0 v1 S4)) ∧ ((x6 = 0) → (P_X11_flaw v0 (4 : Int32) (fun S8 => Gr S4 S8 → (P_X11_readWhole_33 Q v0 v1 S8)) S4)))) S))) ∧ ((¬ x1 = (3 : Int32)) → (P_X11_flaw v0 (1 : Int32) (fun S11 => Gr S S11 → (P_X11_readWhole_33 Q v0 v1 S11)) S))))
set_option maxRecDepth 20000 in
set_option maxHeartbeats 4000000 in
theorem T_X11_readWhole_0 {X : CX} {Q : Int32 → HS → Prop} (C : Cx X cX11_readWhole RX11 4 rm_X11_readWhole) (E : ReI X rm_X11_readWhole Q) (ht : (xh X).sig.returnType = (some .int)) (hn : (xh X).name = yX11_readWhole.name) {v0 : Nat} {v1 : Int32} {v2 : Int32} {S : HS} (h : P_X11_readWhole_0 Q v0 v1 v2 S) : WS X 4 0 0 0 [(0, .ref v0), (1, .int v1), (2, .int v2)] [] S := by
  refine r_aload_n (pc := 0) C dX11_readWhole_0 0 rfl ?_
  obtain ⟨o_v0, h⟩ := h
  refine r_geti (pc := 1) C fL_X11_68 dX11_readWhole_1 o_v0 ?_
  refine r_topi (fun x1 ex1 => ?_)
  have h := h x1 ex1
  refine r_iconst (pc := 4) C (v := (3 : Int32)) dX11_readWhole_4 (by decide) ?_
  refine r_icmp_eq (pc := 5) C (tgt := 16) dX11_readWhole_5 (by decide) (fun c2 => ?_) (fun c2 => ?_)
  · have h := h.1 c2
    refine r_aload_n (pc := 16) C dX11_readWhole_16 0 rfl ?_
    refine r_geti (pc := 17) C fL_X11_94 dX11_readWhole_17 o_v0 ?_
    refine r_topi (fun x3 ex3 => ?_)
    have h := h x3 ex3
    refine r_iload_n (pc := 20) C dX11_readWhole_20 1 rfl ?_
    refine r_iload_n (pc := 21) C dX11_readWhole_21 2 rfl ?_
    refine r_callSi0 (pc := 22) C (rest := []) rfl [.int x3, .int v1, .int v2] yS_X11_in g_1434 (c_X11_in h) dX11_readWhole_22 rfl rfl (Nat.le_of_ble_eq_true rfl) ⟨by decide, by decide⟩ ⟨by decide, by decide⟩ ⟨rfl, rfl⟩ (fun x6 S4 h g5 => ?_)
    have bx6 := h.1
    have h := h.2 g5 bx6
    have o_v0 := gr_ob g5 o_v0
    refine r_if_ne (pc := 25) C (tgt := 33) dX11_readWhole_25 (by decide) (fun c7 => ?_) (fun c7 => ?_)
    · have h := h.1 c7
      exact r_sub [0, 1] rfl (T_X11_readWhole_33 C E ht hn h)
    · have h := h.2 c7
      refine r_aload_n (pc := 28) C dX11_readWhole_28 0 rfl ?_
      refine r_iconst (pc := 29) C (v := (4 : Int32)) dX11_readWhole_29 (by decide) ?_
      refine r_callVv0 (pc := 30) C (rest := []) (a := v0) o_v0 [.int (4 : Int32)] yV_X11_flaw g_1417 (c_X11_flaw h) dX11_readWhole_30 rfl rfl (Nat.le_of_ble_eq_true rfl) ⟨by decide, by decide⟩ ⟨by decide, by decide⟩ ⟨rfl, rfl⟩ (fun S8 h g9 => ?_)
      have h := h g9
      have o_v0 := gr_ob g9 o_v0
      exact r_sub [0, 1] rfl (T_X11_readWhole_33 C E ht hn h)
  · have h := h.2 c2
    refine r_aload_n (pc := 8) C dX11_readWhole_8 0 rfl ?_
    refine r_iconst (pc := 9) C (v := (1 : Int32)) dX11_readWhole_9 (by decide) ?_
    refine r_callVv0 (pc := 10) C (rest := []) (a := v0) o_v0 [.int (1 : Int32)] yV_X11_flaw g_1417 (c_X11_flaw h) dX11_readWhole_10 rfl rfl (Nat.le_of_ble_eq_true rfl) ⟨by decide, by decide⟩ ⟨by decide, by decide⟩ ⟨rfl, rfl⟩ (fun S11 h g12 => ?_)
    have h := h g12
    have o_v0 := gr_ob g12 o_v0
    refine r_goto (pc := 13) C (tgt := 33) dX11_readWhole_13 (by decide) ?_
    exact r_sub [0, 1] rfl (T_X11_readWhole_33 C E ht hn h)
def P_X11_readWhole (v0 : Nat) (v1 : Int32) (v2 : Int32) (Q : Int32 → HS → Prop) (S : HS) : Prop := P_X11_readWhole_0 Q v0 v1 v2 S
theorem c_X11_readWhole {l : Launch} {Ee : EE} {S : HS} {v0 : Nat} {v1 : Int32} {v2 : Int32} {Q : Int32 → HS → Prop} (h : P_X11_readWhole v0 v1 v2 Q S) : MI l yX11_readWhole cX11_readWhole 4 (some .int) rm_X11_readWhole Ee S [.ref v0, .int v1, .int v2] Q :=
  openI (by decide) (Nat.le_of_ble_eq_true rfl) (fun X C E ht hn hE hl => by subst hE; exact r_sub [0, 1, 2] rfl (T_X11_readWhole_0 C E ht hn h))
def rm_X11_readPlace : Room := { frames := 9, cells := 0, slots := 0, locals := 206 }
def P_X11_readPlace_50 (Q : HS → Prop) (v0 : Nat) (v1 : Int64) (v3 : Int32) (s0 : Int32) (S : HS) : Prop := ob S v0 11 ∧ (∀ x1 : Int32, x1 = fI S v0 9 → (((¬ x1 = (5 : Int32)) → (∃ a3 : Nat, fR S v0 4 = some a3 ∧ (ob S a3 10 ∧ (∀ x4 : Int32, x4 = fI S a3 2 → (P_X11_names v0 v1 (0 : Int32) x4 (fun S5 => Gr S S5 → (∃ a8 : Nat, fR S5 v0 4 = some a8 ∧ (ob S5 a8 10 ∧ (∃ a9 : Nat, fR S5 a8 18 = some a9 ∧ (∃ a10 : Nat, fR S5 v0 4 = some a10 ∧ (ob S5 a10 10 ∧ (∀ x11 : Int32, x11 = fI S5 a10 2 → (ob S5 a9 15 ∧ (vp_in x11 (hN S5 a9) ∧ (∀ S13 : HS, S13 = sI S5 a9 x11.toNatClampNeg (vp_nar .boolean v3) → (∃ a14 : Nat, fR S13 v0 4 = some a14 ∧ (ob S13 a14 10 ∧ (∃ a15 : Nat, fR S13 a14 12 = some a15 ∧ (∃ a16 : Nat, fR S13 v0 4 = some a16 ∧ (ob S13 a16 10 ∧ (∀ x17 : Int32, x17 = fI S13 a16 2 → (ob S13 a15 13 ∧ (vp_in x17 (hN S13 a15) ∧ (∀ S19 : HS, S19 = sI S13 a15 x17.toNatClampNeg s0 → (∃ a20 : Nat, fR S19 v0 4 = some a20 ∧ (ob S19 a20 10 ∧ (∀ x21 : Int32, x21 = fI S19 a20 2 → (∀ x22 : Int32, x22 = x21 + (1 : Int32) → (∀ S23 : HS, S23 = sI S19 a20 2 x22 → (Q S23))))))))))))))))))))))))) S))))) ∧ ((x1 = (5 : Int32)) → (Q S))))
set_option maxRecDepth 20000 in
set_option maxHeartbeats 4000000 in
theorem T_X11_readPlace_50 {X : CX} {Q : HS → Prop} (C : Cx X cX11_readPlace RX11 5 rm_X11_readPlace) (E : ReV X rm_X11_readPlace Q) (ht : (xh X).sig.returnType = none) (hn : (xh X).name = yX11_readPlace.name) {v0 : Nat} {v1 : Int64} {v3 : Int32} {s0 : Int32} {S : HS} (h : P_X11_readPlace_50 Q v0 v1 v3 s0 S) : WS X 5 0 0 50 [(0, .ref v0), (1, .long v1), (3, .int v3)] [.int s0] S := by
  refine r_istore (pc := 50) C dX11_readPlace_50 (by decide) (lv' := [(4, .int s0), (0, .ref v0), (1, .long v1), (3, .int v3)]) rfl ?_
  refine r_aload_n (pc := 52) C dX11_readPlace_52 1 rfl ?_
  obtain ⟨o_v0, h⟩ := h
  refine r_geti (pc := 53) C fL_X11_68 dX11_readPlace_53 o_v0 ?_
  refine r_topi (fun x1 ex1 => ?_)
  have h := h x1 ex1
  refine r_iconst (pc := 56) C (v := (5 : Int32)) dX11_readPlace_56 (by decide) ?_
  refine r_icmp_ne (pc := 57) C (tgt := 61) dX11_readPlace_57 (by decide) (fun c2 => ?_) (fun c2 => ?_)
  · have h := h.1 c2
    refine r_aload_n (pc := 61) C dX11_readPlace_61 1 rfl ?_
    refine r_lload_n (pc := 62) C dX11_readPlace_62 2 rfl ?_
    refine r_iconst (pc := 63) C (v := (0 : Int32)) dX11_readPlace_63 (by decide) ?_
    refine r_aload_n (pc := 64) C dX11_readPlace_64 1 rfl ?_
    obtain ⟨a3, ea3, h⟩ := h
    refine r_getr (pc := 65) C fL_X11_147 dX11_readPlace_65 o_v0 ea3 ?_
    obtain ⟨o_a3, h⟩ := h
    refine r_getNi (pc := 68) C fN_X11_190 dX11_readPlace_68 o_a3 ?_
    refine r_topi (fun x4 ex4 => ?_)
    have h := h x4 ex4
    refine r_callVv0 (pc := 71) C (rest := []) (a := v0) o_v0 [.long v1, .int (0 : Int32), .int x4] yV_X11_names g_1485 (c_X11_names h) dX11_readPlace_71 rfl rfl (Nat.le_of_ble_eq_true rfl) ⟨by decide, by decide⟩ ⟨by decide, by decide⟩ ⟨rfl, rfl⟩ (fun S5 h g6 => ?_)
    have h := h g6
    have o_a3 := gr_ob g6 o_a3
    have o_v0 := gr_ob g6 o_v0
    refine r_aload_n (pc := 74) C dX11_readPlace_74 1 rfl ?_
    obtain ⟨a8, ea8, h⟩ := h
    refine r_getr (pc := 75) C fL_X11_147 dX11_readPlace_75 o_v0 ea8 ?_
    obtain ⟨o_a8, h⟩ := h
    obtain ⟨a9, ea9, h⟩ := h
    refine r_getNr (pc := 78) C fN_X11_258 dX11_readPlace_78 o_a8 ea9 ?_
    refine r_aload_n (pc := 81) C dX11_readPlace_81 1 rfl ?_
    obtain ⟨a10, ea10, h⟩ := h
    refine r_getr (pc := 82) C fL_X11_147 dX11_readPlace_82 o_v0 ea10 ?_
    obtain ⟨o_a10, h⟩ := h
    refine r_getNi (pc := 85) C fN_X11_190 dX11_readPlace_85 o_a10 ?_
    refine r_topi (fun x11 ex11 => ?_)
    have h := h x11 ex11
    refine r_iload_n (pc := 88) C dX11_readPlace_88 3 rfl ?_
    obtain ⟨o_a9, h⟩ := h
    obtain ⟨i12, h⟩ := h
    refine r_zast (pc := 89) C dX11_readPlace_89 o_a9 i12 ?_
    refine r_heap (fun S13 eS13 => ?_)
    have h := h S13 eS13
    have o_a10 := ob_I eS13 o_a10
    have o_a3 := ob_I eS13 o_a3
    have o_a8 := ob_I eS13 o_a8
    have o_a9 := ob_I eS13 o_a9
    have o_v0 := ob_I eS13 o_v0
    refine r_aload_n (pc := 90) C dX11_readPlace_90 1 rfl ?_
    obtain ⟨a14, ea14, h⟩ := h
    refine r_getr (pc := 91) C fL_X11_147 dX11_readPlace_91 o_v0 ea14 ?_
    obtain ⟨o_a14, h⟩ := h
    obtain ⟨a15, ea15, h⟩ := h
    refine r_getNr (pc := 94) C fN_X11_262 dX11_readPlace_94 o_a14 ea15 ?_
    refine r_aload_n (pc := 97) C dX11_readPlace_97 1 rfl ?_
    obtain ⟨a16, ea16, h⟩ := h
    refine r_getr (pc := 98) C fL_X11_147 dX11_readPlace_98 o_v0 ea16 ?_
    obtain ⟨o_a16, h⟩ := h
    refine r_getNi (pc := 101) C fN_X11_190 dX11_readPlace_101 o_a16 ?_
    refine r_topi (fun x17 ex17 => ?_)
    have h := h x17 ex17
    refine r_iload (pc := 104) C dX11_readPlace_104 0 rfl ?_
    obtain ⟨o_a15, h⟩ := h
    obtain ⟨i18, h⟩ := h
    refine r_iast (pc := 106) C dX11_readPlace_106 o_a15 i18 ?_
    refine r_heap (fun S19 eS19 => ?_)
    have h := h S19 eS19
    have o_a10 := ob_I eS19 o_a10
    have o_a14 := ob_I eS19 o_a14
    have o_a15 := ob_I eS19 o_a15
    have o_a16 := ob_I eS19 o_a16
    have o_a3 := ob_I eS19 o_a3
    have o_a8 := ob_I eS19 o_a8
    have o_a9 := ob_I eS19 o_a9
    have o_v0 := ob_I eS19 o_v0
    refine r_aload_n (pc := 107) C dX11_readPlace_107 1 rfl ?_
    obtain ⟨a20, ea20, h⟩ := h
    refine r_getr (pc := 108) C fL_X11_147 dX11_readPlace_108 o_v0 ea20 ?_
    refine r_dup (pc := 111) C dX11_readPlace_111 rfl ?_
    obtain ⟨o_a20, h⟩ := h
    refine r_getNi (pc := 112) C fN_X11_190 dX11_readPlace_112 o_a20 ?_
    refine r_topi (fun x21 ex21 => ?_)
    have h := h x21 ex21
    refine r_iconst (pc := 115) C (v := (1 : Int32)) dX11_readPlace_115 (by decide) ?_
    refine r_iadd (pc := 116) C dX11_readPlace_116 ?_
    refine r_topi (fun x22 ex22 => ?_)
    have h := h x22 ex22
    refine r_putNi (pc := 117) C pfN_X11_190 dX11_readPlace_117 o_a20 ?_
    refine r_heap (fun S23 eS23 => ?_)
    have h := h S23 eS23
    have o_a10 := ob_I eS23 o_a10
    have o_a14 := ob_I eS23 o_a14
    have o_a15 := ob_I eS23 o_a15
    have o_a16 := ob_I eS23 o_a16
    have o_a20 := ob_I eS23 o_a20
    have o_a3 := ob_I eS23 o_a3
    have o_a8 := ob_I eS23 o_a8
    have o_a9 := ob_I eS23 o_a9
    have o_v0 := ob_I eS23 o_v0
    exact r_vret (pc := 120) C E ht dX11_readPlace_120 (by decide) (by decide) h
  · have h := h.2 c2
    exact r_vret (pc := 60) C E ht dX11_readPlace_60 (by decide) (by decide) h
def P_X11_readPlace_48 (Q : HS → Prop) (v0 : Nat) (v1 : Int64) (v3 : Int32) (S : HS) : Prop := P_X11_readPlace_50 Q v0 v1 v3 (-2 : Int32) S
set_option maxRecDepth 20000 in
set_option maxHeartbeats 4000000 in
theorem T_X11_readPlace_48 {X : CX} {Q : HS → Prop} (C : Cx X cX11_readPlace RX11 5 rm_X11_readPlace) (E : ReV X rm_X11_readPlace Q) (ht : (xh X).sig.returnType = none) (hn : (xh X).name = yX11_readPlace.name) {v0 : Nat} {v1 : Int64} {v3 : Int32} {S : HS} (h : P_X11_readPlace_48 Q v0 v1 v3 S) : WS X 5 0 0 48 [(0, .ref v0), (1, .long v1), (3, .int v3)] [] S := by
  refine r_bipush (pc := 48) C (v := (-2 : Int32)) dX11_readPlace_48 (by decide) ?_
  exact r_sub [0, 1, 2] rfl (T_X11_readPlace_50 C E ht hn h)
def P_X11_readPlace_0 (Q : HS → Prop) (v0 : Nat) (S : HS) : Prop := ob S v0 11 ∧ (∃ a1 : Nat, fR S v0 4 = some a1 ∧ (ob S a1 10 ∧ (∀ x2 : Int32, x2 = fI S a1 2 → (P_X11_begins v0 x2 (8 : Int32) (fun S3 => Gr S S3 → (P_X11_readFresh v0 (fun x8 S6 => Gr S3 S6 → (P_X11_eatsWord v0 42 (fun x11 S9 => Gr S6 S9 → bl x11 → (((¬ x11 = 0) → (P_X11_readPlace_48 Q v0 x8 x11 S9)) ∧ ((x11 = 0) → (P_X11_eatsWord v0 43 (fun x15 S13 => Gr S9 S13 → bl x15 → (((x15 = 0) → (P_X11_readPlace_48 Q v0 x8 x11 S13)) ∧ ((¬ x15 = 0) → (P_X11_readWhole v0 (0 : Int32) (9 : Int32) (fun x19 S17 => Gr S13 S17 → (P_X11_readPlace_50 Q v0 x8 x11 x19 S17)) S13)))) S9)))) S6)) S3)) S))))
set_option maxRecDepth 20000 in
set_option maxHeartbeats 4000000 in
theorem T_X11_readPlace_0 {X : CX} {Q : HS → Prop} (C : Cx X cX11_readPlace RX11 5 rm_X11_readPlace) (E : ReV X rm_X11_readPlace Q) (ht : (xh X).sig.returnType = none) (hn : (xh X).name = yX11_readPlace.name) {v0 : Nat} {S : HS} (h : P_X11_readPlace_0 Q v0 S) : WS X 5 0 0 0 [(0, .ref v0)] [] S := by
  refine r_aload_n (pc := 0) C dX11_readPlace_0 0 rfl ?_
  refine r_aload_n (pc := 1) C dX11_readPlace_1 0 rfl ?_
  obtain ⟨o_v0, h⟩ := h
  obtain ⟨a1, ea1, h⟩ := h
  refine r_getr (pc := 2) C fL_X11_147 dX11_readPlace_2 o_v0 ea1 ?_
  obtain ⟨o_a1, h⟩ := h
  refine r_getNi (pc := 5) C fN_X11_190 dX11_readPlace_5 o_a1 ?_
  refine r_topi (fun x2 ex2 => ?_)
  have h := h x2 ex2
  refine r_bipush (pc := 8) C (v := (8 : Int32)) dX11_readPlace_8 (by decide) ?_
  refine r_callVv0 (pc := 10) C (rest := []) (a := v0) o_v0 [.int x2, .int (8 : Int32)] yV_X11_begins g_1442 (c_X11_begins h) dX11_readPlace_10 rfl rfl (Nat.le_of_ble_eq_true rfl) ⟨by decide, by decide⟩ ⟨by decide, by decide⟩ ⟨rfl, rfl⟩ (fun S3 h g4 => ?_)
  have h := h g4
  have o_a1 := gr_ob g4 o_a1
  have o_v0 := gr_ob g4 o_v0
  refine r_aload_n (pc := 13) C dX11_readPlace_13 0 rfl ?_
  refine r_callVl0 (pc := 14) C (rest := []) (a := v0) o_v0 [] yV_X11_readFresh g_1463 (c_X11_readFresh h) dX11_readPlace_14 rfl rfl (Nat.le_of_ble_eq_true rfl) ⟨by decide, by decide⟩ ⟨by decide, by decide⟩ ⟨rfl, rfl⟩ (fun x8 S6 h g7 => ?_)
  have h := h g7
  have o_a1 := gr_ob g7 o_a1
  have o_v0 := gr_ob g7 o_v0
  refine r_lstore_n (pc := 17) C dX11_readPlace_17 rfl (by decide) (lv' := [(1, .long x8), (0, .ref v0)]) rfl ?_
  refine r_aload_n (pc := 18) C dX11_readPlace_18 1 rfl ?_
  refine r_lds (pc := 19) C 42 rfl dX11_readPlace_19 ?_
  refine r_callVi0 (pc := 21) C (rest := []) (a := v0) o_v0 [.ref (eK (xE X) 42)] yV_X11_eatsWord g_1481 (c_X11_eatsWord h) dX11_readPlace_21 rfl rfl (Nat.le_of_ble_eq_true rfl) ⟨by decide, by decide⟩ ⟨by decide, by decide⟩ ⟨rfl, rfl⟩ (fun x11 S9 h g10 => ?_)
  have bx11 := h.1
  have h := h.2 g10 bx11
  have o_a1 := gr_ob g10 o_a1
  have o_v0 := gr_ob g10 o_v0
  refine r_istore_n (pc := 24) C dX11_readPlace_24 rfl (by decide) (lv' := [(3, .int x11), (1, .long x8), (0, .ref v0)]) rfl ?_
  refine r_iload_n (pc := 25) C dX11_readPlace_25 0 rfl ?_
  refine r_if_ne (pc := 26) C (tgt := 48) dX11_readPlace_26 (by decide) (fun c12 => ?_) (fun c12 => ?_)
  · have h := h.1 c12
    exact r_sub [2, 1, 0] rfl (T_X11_readPlace_48 C E ht hn h)
  · have h := h.2 c12
    refine r_aload_n (pc := 29) C dX11_readPlace_29 2 rfl ?_
    refine r_lds (pc := 30) C 43 rfl dX11_readPlace_30 ?_
    refine r_callVi0 (pc := 32) C (rest := []) (a := v0) o_v0 [.ref (eK (xE X) 43)] yV_X11_eatsWord g_1481 (c_X11_eatsWord h) dX11_readPlace_32 rfl rfl (Nat.le_of_ble_eq_true rfl) ⟨by decide, by decide⟩ ⟨by decide, by decide⟩ ⟨rfl, rfl⟩ (fun x15 S13 h g14 => ?_)
    have bx15 := h.1
    have h := h.2 g14 bx15
    have o_a1 := gr_ob g14 o_a1
    have o_v0 := gr_ob g14 o_v0
    refine r_if_eq (pc := 35) C (tgt := 48) dX11_readPlace_35 (by decide) (fun c16 => ?_) (fun c16 => ?_)
    · have h := h.1 c16
      exact r_sub [2, 1, 0] rfl (T_X11_readPlace_48 C E ht hn h)
    · have h := h.2 c16
      refine r_aload_n (pc := 38) C dX11_readPlace_38 2 rfl ?_
      refine r_iconst (pc := 39) C (v := (0 : Int32)) dX11_readPlace_39 (by decide) ?_
      refine r_bipush (pc := 40) C (v := (9 : Int32)) dX11_readPlace_40 (by decide) ?_
      refine r_callVi0 (pc := 42) C (rest := []) (a := v0) o_v0 [.int (0 : Int32), .int (9 : Int32)] yV_X11_readWhole g_1430 (c_X11_readWhole h) dX11_readPlace_42 rfl rfl (Nat.le_of_ble_eq_true rfl) ⟨by decide, by decide⟩ ⟨by decide, by decide⟩ ⟨rfl, rfl⟩ (fun x19 S17 h g18 => ?_)
      have h := h g18
      have o_a1 := gr_ob g18 o_a1
      have o_v0 := gr_ob g18 o_v0
      refine r_goto (pc := 45) C (tgt := 50) dX11_readPlace_45 (by decide) ?_
      exact r_sub [2, 1, 0] rfl (T_X11_readPlace_50 C E ht hn h)
def P_X11_readPlace (v0 : Nat) (Q : HS → Prop) (S : HS) : Prop := P_X11_readPlace_0 Q v0 S
theorem c_X11_readPlace {l : Launch} {Ee : EE} {S : HS} {v0 : Nat} {Q : HS → Prop} (h : P_X11_readPlace v0 Q S) : MV l yX11_readPlace cX11_readPlace 5 none rm_X11_readPlace Ee S [.ref v0] Q :=
  openV (by decide) (Nat.le_of_ble_eq_true rfl) (fun X C E ht hn hE hl => by subst hE; exact r_sub [0] rfl (T_X11_readPlace_0 C E ht hn h))
end
section
def rm_X11_readPart : Room := { frames := 8, cells := 0, slots := 0, locals := 185 }
def P_X11_readPart_0 (Q : Int32 → HS → Prop) (v0 : Nat) (v1 : Nat) (v2 : Int32) (v3 : Int32) (S : HS) : Prop := ob S v0 11 ∧ (P_X11_needs v0 v1 (fun S1 => Gr S S1 → (P_X11_readWhole v0 v2 v3 (fun x6 S4 => Gr S1 S4 → (Q x6 S4)) S1)) S)
set_option maxRecDepth 20000 in
set_option maxHeartbeats 4000000 in
theorem T_X11_readPart_0 {X : CX} {Q : Int32 → HS → Prop} (C : Cx X cX11_readPart RX11 4 rm_X11_readPart) (E : ReI X rm_X11_readPart Q) (ht : (xh X).sig.returnType = (some .int)) (hn : (xh X).name = yX11_readPart.name) {v0 : Nat} {v1 : Nat} {v2 : Int32} {v3 : Int32} {S : HS} (h : P_X11_readPart_0 Q v0 v1 v2 v3 S) : WS X 4 0 0 0 [(0, .ref v0), (1, .ref (eK (xE X) v1)), (2, .int v2), (3, .int v3)] [] S := by
  refine r_aload_n (pc := 0) C dX11_readPart_0 0 rfl ?_
  refine r_aload_n (pc := 1) C dX11_readPart_1 1 rfl ?_
  obtain ⟨o_v0, h⟩ := h
  refine r_callVv0 (pc := 2) C (rest := []) (a := v0) o_v0 [.ref (eK (xE X) v1)] yV_X11_needs g_1426 (c_X11_needs h) dX11_readPart_2 rfl rfl (Nat.le_of_ble_eq_true rfl) ⟨by decide, by decide⟩ ⟨by decide, by decide⟩ ⟨rfl, rfl⟩ (fun S1 h g2 => ?_)
  have h := h g2
  have o_v0 := gr_ob g2 o_v0
  refine r_aload_n (pc := 5) C dX11_readPart_5 0 rfl ?_
  refine r_iload_n (pc := 6) C dX11_readPart_6 2 rfl ?_
  refine r_iload_n (pc := 7) C dX11_readPart_7 3 rfl ?_
  refine r_callVi0 (pc := 8) C (rest := []) (a := v0) o_v0 [.int v2, .int v3] yV_X11_readWhole g_1430 (c_X11_readWhole h) dX11_readPart_8 rfl rfl (Nat.le_of_ble_eq_true rfl) ⟨by decide, by decide⟩ ⟨by decide, by decide⟩ ⟨rfl, rfl⟩ (fun x6 S4 h g5 => ?_)
  have h := h g5
  have o_v0 := gr_ob g5 o_v0
  exact r_iret (pc := 11) C E ht dX11_readPart_11 (by decide) (by decide) h
def P_X11_readPart (v0 : Nat) (v1 : Nat) (v2 : Int32) (v3 : Int32) (Q : Int32 → HS → Prop) (S : HS) : Prop := P_X11_readPart_0 Q v0 v1 v2 v3 S
theorem c_X11_readPart {l : Launch} {Ee : EE} {S : HS} {v0 : Nat} {v1 : Nat} {v2 : Int32} {v3 : Int32} {Q : Int32 → HS → Prop} (h : P_X11_readPart v0 v1 v2 v3 Q S) : MI l yX11_readPart cX11_readPart 4 (some .int) rm_X11_readPart Ee S [.ref v0, .ref (eK Ee v1), .int v2, .int v3] Q :=
  openI (by decide) (Nat.le_of_ble_eq_true rfl) (fun X C E ht hn hE hl => by subst hE; exact r_sub [0, 1, 2, 3] rfl (T_X11_readPart_0 C E ht hn h))
def rm_X11_readSide : Room := { frames := 7, cells := 0, slots := 0, locals := 164 }
def P_X11_readSide_64 (Q : Int32 → HS → Prop) (v0 : Nat) (v1 : Int32) (S : HS) : Prop := ob S v0 11 ∧ (P_X11_goesOn v0 (fun S1 => Gr S S1 → (Q v1 S1)) S)
set_option maxRecDepth 20000 in
set_option maxHeartbeats 4000000 in
theorem T_X11_readSide_64 {X : CX} {Q : Int32 → HS → Prop} (C : Cx X cX11_readSide RX11 2 rm_X11_readSide) (E : ReI X rm_X11_readSide Q) (ht : (xh X).sig.returnType = (some .int)) (hn : (xh X).name = yX11_readSide.name) {v0 : Nat} {v1 : Int32} {S : HS} (h : P_X11_readSide_64 Q v0 v1 S) : WS X 2 0 0 64 [(0, .ref v0), (1, .int v1)] [] S := by
  refine r_aload_n (pc := 64) C dX11_readSide_64 0 rfl ?_
  obtain ⟨o_v0, h⟩ := h
  refine r_callVv0 (pc := 65) C (rest := []) (a := v0) o_v0 [] yV_X11_goesOn g_1380 (c_X11_goesOn h) dX11_readSide_65 rfl rfl (Nat.le_of_ble_eq_true rfl) ⟨by decide, by decide⟩ ⟨by decide, by decide⟩ ⟨rfl, rfl⟩ (fun S1 h g2 => ?_)
  have h := h g2
  have o_v0 := gr_ob g2 o_v0
  refine r_iload_n (pc := 68) C dX11_readSide_68 1 rfl ?_
  exact r_iret (pc := 69) C E ht dX11_readSide_69 (by decide) (by decide) h
def P_X11_readSide_53 (Q : Int32 → HS → Prop) (v0 : Nat) (s0 : Int32) (S : HS) : Prop := ((¬ s0 = (-1 : Int32)) → (P_X11_readSide_64 Q v0 s0 S)) ∧ ((s0 = (-1 : Int32)) → (ob S v0 11 ∧ (P_X11_flaw v0 (1 : Int32) (fun S2 => Gr S S2 → (P_X11_readSide_64 Q v0 s0 S2)) S)))
set_option maxRecDepth 20000 in
set_option maxHeartbeats 4000000 in
theorem T_X11_readSide_53 {X : CX} {Q : Int32 → HS → Prop} (C : Cx X cX11_readSide RX11 2 rm_X11_readSide) (E : ReI X rm_X11_readSide Q) (ht : (xh X).sig.returnType = (some .int)) (hn : (xh X).name = yX11_readSide.name) {v0 : Nat} {s0 : Int32} {S : HS} (h : P_X11_readSide_53 Q v0 s0 S) : WS X 2 0 0 53 [(0, .ref v0)] [.int s0] S := by
  refine r_istore_n (pc := 53) C dX11_readSide_53 rfl (by decide) (lv' := [(1, .int s0), (0, .ref v0)]) rfl ?_
  refine r_iload_n (pc := 54) C dX11_readSide_54 0 rfl ?_
  refine r_iconst (pc := 55) C (v := (-1 : Int32)) dX11_readSide_55 (by decide) ?_
  refine r_icmp_ne (pc := 56) C (tgt := 64) dX11_readSide_56 (by decide) (fun c1 => ?_) (fun c1 => ?_)
  · have h := h.1 c1
    exact r_sub [1, 0] rfl (T_X11_readSide_64 C E ht hn h)
  · have h := h.2 c1
    refine r_aload_n (pc := 59) C dX11_readSide_59 1 rfl ?_
    refine r_iconst (pc := 60) C (v := (1 : Int32)) dX11_readSide_60 (by decide) ?_
    obtain ⟨o_v0, h⟩ := h
    refine r_callVv0 (pc := 61) C (rest := []) (a := v0) o_v0 [.int (1 : Int32)] yV_X11_flaw g_1417 (c_X11_flaw h) dX11_readSide_61 rfl rfl (Nat.le_of_ble_eq_true rfl) ⟨by decide, by decide⟩ ⟨by decide, by decide⟩ ⟨rfl, rfl⟩ (fun S2 h g3 => ?_)
    have h := h g3
    have o_v0 := gr_ob g3 o_v0
    exact r_sub [1, 0] rfl (T_X11_readSide_64 C E ht hn h)
def P_X11_readSide_0 (Q : Int32 → HS → Prop) (v0 : Nat) (S : HS) : Prop := ob S v0 11 ∧ (P_X11_isWord v0 33 (fun x3 S1 => Gr S S1 → bl x3 → (((x3 = 0) → (P_X11_isWord v0 34 (fun x7 S5 => Gr S1 S5 → bl x7 → (((x7 = 0) → (P_X11_isWord v0 35 (fun x11 S9 => Gr S5 S9 → bl x11 → (((x11 = 0) → (P_X11_isWord v0 36 (fun x15 S13 => Gr S9 S13 → bl x15 → (((x15 = 0) → (P_X11_readSide_53 Q v0 (-1 : Int32) S13)) ∧ ((¬ x15 = 0) → (P_X11_readSide_53 Q v0 (3 : Int32) S13)))) S9)) ∧ ((¬ x11 = 0) → (P_X11_readSide_53 Q v0 (2 : Int32) S9)))) S5)) ∧ ((¬ x7 = 0) → (P_X11_readSide_53 Q v0 (1 : Int32) S5)))) S1)) ∧ ((¬ x3 = 0) → (P_X11_readSide_53 Q v0 (0 : Int32) S1)))) S)
set_option maxRecDepth 20000 in
set_option maxHeartbeats 4000000 in
theorem T_X11_readSide_0 {X : CX} {Q : Int32 → HS → Prop} (C : Cx X cX11_readSide RX11 2 rm_X11_readSide) (E : ReI X rm_X11_readSide Q) (ht : (xh X).sig.returnType = (some .int)) (hn : (xh X).name = yX11_readSide.name) {v0 : Nat} {S : HS} (h : P_X11_readSide_0 Q v0 S) : WS X 2 0 0 0 [(0, .ref v0)] [] S := by
  refine r_aload_n (pc := 0) C dX11_readSide_0 0 rfl ?_
  refine r_lds (pc := 1) C 33 rfl dX11_readSide_1 ?_
  obtain ⟨o_v0, h⟩ := h
  refine r_callVi0 (pc := 3) C (rest := []) (a := v0) o_v0 [.ref (eK (xE X) 33)] yV_X11_isWord g_1404 (c_X11_isWord h) dX11_readSide_3 rfl rfl (Nat.le_of_ble_eq_true rfl) ⟨by decide, by decide⟩ ⟨by decide, by decide⟩ ⟨rfl, rfl⟩ (fun x3 S1 h g2 => ?_)
  have bx3 := h.1
  have h := h.2 g2 bx3
  have o_v0 := gr_ob g2 o_v0
  refine r_if_eq (pc := 6) C (tgt := 13) dX11_readSide_6 (by decide) (fun c4 => ?_) (fun c4 => ?_)
  · have h := h.1 c4
    refine r_aload_n (pc := 13) C dX11_readSide_13 0 rfl ?_
    refine r_lds (pc := 14) C 34 rfl dX11_readSide_14 ?_
    refine r_callVi0 (pc := 16) C (rest := []) (a := v0) o_v0 [.ref (eK (xE X) 34)] yV_X11_isWord g_1404 (c_X11_isWord h) dX11_readSide_16 rfl rfl (Nat.le_of_ble_eq_true rfl) ⟨by decide, by decide⟩ ⟨by decide, by decide⟩ ⟨rfl, rfl⟩ (fun x7 S5 h g6 => ?_)
    have bx7 := h.1
    have h := h.2 g6 bx7
    have o_v0 := gr_ob g6 o_v0
    refine r_if_eq (pc := 19) C (tgt := 26) dX11_readSide_19 (by decide) (fun c8 => ?_) (fun c8 => ?_)
    · have h := h.1 c8
      refine r_aload_n (pc := 26) C dX11_readSide_26 0 rfl ?_
      refine r_lds (pc := 27) C 35 rfl dX11_readSide_27 ?_
      refine r_callVi0 (pc := 29) C (rest := []) (a := v0) o_v0 [.ref (eK (xE X) 35)] yV_X11_isWord g_1404 (c_X11_isWord h) dX11_readSide_29 rfl rfl (Nat.le_of_ble_eq_true rfl) ⟨by decide, by decide⟩ ⟨by decide, by decide⟩ ⟨rfl, rfl⟩ (fun x11 S9 h g10 => ?_)
      have bx11 := h.1
      have h := h.2 g10 bx11
      have o_v0 := gr_ob g10 o_v0
      refine r_if_eq (pc := 32) C (tgt := 39) dX11_readSide_32 (by decide) (fun c12 => ?_) (fun c12 => ?_)
      · have h := h.1 c12
        refine r_aload_n (pc := 39) C dX11_readSide_39 0 rfl ?_
        refine r_lds (pc := 40) C 36 rfl dX11_readSide_40 ?_
        refine r_callVi0 (pc := 42) C (rest := []) (a := v0) o_v0 [.ref (eK (xE X) 36)] yV_X11_isWord g_1404 (c_X11_isWord h) dX11_readSide_42 rfl rfl (Nat.le_of_ble_eq_true rfl) ⟨by decide, by decide⟩ ⟨by decide, by decide⟩ ⟨rfl, rfl⟩ (fun x15 S13 h g14 => ?_)
        have bx15 := h.1
        have h := h.2 g14 bx15
        have o_v0 := gr_ob g14 o_v0
        refine r_if_eq (pc := 45) C (tgt := 52) dX11_readSide_45 (by decide) (fun c16 => ?_) (fun c16 => ?_)
        · have h := h.1 c16
          refine r_iconst (pc := 52) C (v := (-1 : Int32)) dX11_readSide_52 (by decide) ?_
          exact r_sub [0] rfl (T_X11_readSide_53 C E ht hn h)
        · have h := h.2 c16
          refine r_iconst (pc := 48) C (v := (3 : Int32)) dX11_readSide_48 (by decide) ?_
          refine r_goto (pc := 49) C (tgt := 53) dX11_readSide_49 (by decide) ?_
          exact r_sub [0] rfl (T_X11_readSide_53 C E ht hn h)
      · have h := h.2 c12
        refine r_iconst (pc := 35) C (v := (2 : Int32)) dX11_readSide_35 (by decide) ?_
        refine r_goto (pc := 36) C (tgt := 53) dX11_readSide_36 (by decide) ?_
        exact r_sub [0] rfl (T_X11_readSide_53 C E ht hn h)
    · have h := h.2 c8
      refine r_iconst (pc := 22) C (v := (1 : Int32)) dX11_readSide_22 (by decide) ?_
      refine r_goto (pc := 23) C (tgt := 53) dX11_readSide_23 (by decide) ?_
      exact r_sub [0] rfl (T_X11_readSide_53 C E ht hn h)
  · have h := h.2 c4
    refine r_iconst (pc := 9) C (v := (0 : Int32)) dX11_readSide_9 (by decide) ?_
    refine r_goto (pc := 10) C (tgt := 53) dX11_readSide_10 (by decide) ?_
    exact r_sub [0] rfl (T_X11_readSide_53 C E ht hn h)
def P_X11_readSide (v0 : Nat) (Q : Int32 → HS → Prop) (S : HS) : Prop := P_X11_readSide_0 Q v0 S
theorem c_X11_readSide {l : Launch} {Ee : EE} {S : HS} {v0 : Nat} {Q : Int32 → HS → Prop} (h : P_X11_readSide v0 Q S) : MI l yX11_readSide cX11_readSide 2 (some .int) rm_X11_readSide Ee S [.ref v0] Q :=
  openI (by decide) (Nat.le_of_ble_eq_true rfl) (fun X C E ht hn hE hl => by subst hE; exact r_sub [0] rfl (T_X11_readSide_0 C E ht hn h))
def rm_X11_readRain : Room := { frames := 9, cells := 0, slots := 0, locals := 208 }
def P_X11_readRain_0 (Q : HS → Prop) (v0 : Nat) (S : HS) : Prop := ob S v0 11 ∧ (∃ a1 : Nat, fR S v0 4 = some a1 ∧ (ob S a1 10 ∧ (∀ x2 : Int32, x2 = fI S a1 1 → (P_X11_begins v0 x2 (6 : Int32) (fun S3 => Gr S S3 → (P_X11_readPart v0 30 (0 : Int32) (9 : Int32) (fun x8 S6 => Gr S3 S6 → (P_X11_readPart v0 31 (1 : Int32) (9 : Int32) (fun x11 S9 => Gr S6 S9 → (P_X11_needs v0 32 (fun S12 => Gr S9 S12 → (P_X11_readSide v0 (fun x17 S15 => Gr S12 S15 → (P_X11_readWhole v0 (0 : Int32) (9 : Int32) (fun x20 S18 => Gr S15 S18 → (P_X11_readPart v0 37 (0 : Int32) (100 : Int32) (fun x23 S21 => Gr S18 S21 → (∀ x24 : Int32, x24 = fI S21 v0 9 → (((¬ x24 = (5 : Int32)) → (∃ a26 : Nat, fR S21 v0 4 = some a26 ∧ (ob S21 a26 10 ∧ (∃ a27 : Nat, fR S21 a26 7 = some a27 ∧ (∃ a28 : Nat, fR S21 v0 4 = some a28 ∧ (ob S21 a28 10 ∧ (∀ x29 : Int32, x29 = fI S21 a28 1 → (ob S21 a27 13 ∧ (vp_in x29 (hN S21 a27) ∧ (∀ S31 : HS, S31 = sI S21 a27 x29.toNatClampNeg x8 → (∃ a32 : Nat, fR S31 v0 4 = some a32 ∧ (ob S31 a32 10 ∧ (∃ a33 : Nat, fR S31 a32 8 = some a33 ∧ (∃ a34 : Nat, fR S31 v0 4 = some a34 ∧ (ob S31 a34 10 ∧ (∀ x35 : Int32, x35 = fI S31 a34 1 → (ob S31 a33 13 ∧ (vp_in x35 (hN S31 a33) ∧ (∀ S37 : HS, S37 = sI S31 a33 x35.toNatClampNeg x11 → (∃ a38 : Nat, fR S37 v0 4 = some a38 ∧ (ob S37 a38 10 ∧ (∃ a39 : Nat, fR S37 a38 9 = some a39 ∧ (∃ a40 : Nat, fR S37 v0 4 = some a40 ∧ (ob S37 a40 10 ∧ (∀ x41 : Int32, x41 = fI S37 a40 1 → (ob S37 a39 13 ∧ (vp_in x41 (hN S37 a39) ∧ (∀ S43 : HS, S43 = sI S37 a39 x41.toNatClampNeg x17 → (∃ a44 : Nat, fR S43 v0 4 = some a44 ∧ (ob S43 a44 10 ∧ (∃ a45 : Nat, fR S43 a44 10 = some a45 ∧ (∃ a46 : Nat, fR S43 v0 4 = some a46 ∧ (ob S43 a46 10 ∧ (∀ x47 : Int32, x47 = fI S43 a46 1 → (ob S43 a45 13 ∧ (vp_in x47 (hN S43 a45) ∧ (∀ S49 : HS, S49 = sI S43 a45 x47.toNatClampNeg x20 → (∃ a50 : Nat, fR S49 v0 4 = some a50 ∧ (ob S49 a50 10 ∧ (∃ a51 : Nat, fR S49 a50 11 = some a51 ∧ (∃ a52 : Nat, fR S49 v0 4 = some a52 ∧ (ob S49 a52 10 ∧ (∀ x53 : Int32, x53 = fI S49 a52 1 → (ob S49 a51 13 ∧ (vp_in x53 (hN S49 a51) ∧ (∀ S55 : HS, S55 = sI S49 a51 x53.toNatClampNeg x23 → (∃ a56 : Nat, fR S55 v0 4 = some a56 ∧ (ob S55 a56 10 ∧ (∀ x57 : Int32, x57 = fI S55 a56 1 → (∀ x58 : Int32, x58 = x57 + (1 : Int32) → (∀ S59 : HS, S59 = sI S55 a56 1 x58 → (Q S59)))))))))))))))))))))))))))))))))))))))))))))))))))) ∧ ((x24 = (5 : Int32)) → (Q S21))))) S18)) S15)) S12)) S9)) S6)) S3)) S))))
set_option maxRecDepth 20000 in
set_option maxHeartbeats 4000000 in
theorem T_X11_readRain_0 {X : CX} {Q : HS → Prop} (C : Cx X cX11_readRain RX11 6 rm_X11_readRain) (E : ReV X rm_X11_readRain Q) (ht : (xh X).sig.returnType = none) (hn : (xh X).name = yX11_readRain.name) {v0 : Nat} {S : HS} (h : P_X11_readRain_0 Q v0 S) : WS X 6 0 0 0 [(0, .ref v0)] [] S := by
  refine r_aload_n (pc := 0) C dX11_readRain_0 0 rfl ?_
  refine r_aload_n (pc := 1) C dX11_readRain_1 0 rfl ?_
  obtain ⟨o_v0, h⟩ := h
  obtain ⟨a1, ea1, h⟩ := h
  refine r_getr (pc := 2) C fL_X11_147 dX11_readRain_2 o_v0 ea1 ?_
  obtain ⟨o_a1, h⟩ := h
  refine r_getNi (pc := 5) C fN_X11_219 dX11_readRain_5 o_a1 ?_
  refine r_topi (fun x2 ex2 => ?_)
  have h := h x2 ex2
  refine r_bipush (pc := 8) C (v := (6 : Int32)) dX11_readRain_8 (by decide) ?_
  refine r_callVv0 (pc := 10) C (rest := []) (a := v0) o_v0 [.int x2, .int (6 : Int32)] yV_X11_begins g_1442 (c_X11_begins h) dX11_readRain_10 rfl rfl (Nat.le_of_ble_eq_true rfl) ⟨by decide, by decide⟩ ⟨by decide, by decide⟩ ⟨rfl, rfl⟩ (fun S3 h g4 => ?_)
  have h := h g4
  have o_a1 := gr_ob g4 o_a1
  have o_v0 := gr_ob g4 o_v0
  refine r_aload_n (pc := 13) C dX11_readRain_13 0 rfl ?_
  refine r_lds (pc := 14) C 30 rfl dX11_readRain_14 ?_
  refine r_iconst (pc := 16) C (v := (0 : Int32)) dX11_readRain_16 (by decide) ?_
  refine r_bipush (pc := 17) C (v := (9 : Int32)) dX11_readRain_17 (by decide) ?_
  refine r_callVi0 (pc := 19) C (rest := []) (a := v0) o_v0 [.ref (eK (xE X) 30), .int (0 : Int32), .int (9 : Int32)] yV_X11_readPart g_1422 (c_X11_readPart h) dX11_readRain_19 rfl rfl (Nat.le_of_ble_eq_true rfl) ⟨by decide, by decide⟩ ⟨by decide, by decide⟩ ⟨rfl, rfl⟩ (fun x8 S6 h g7 => ?_)
  have h := h g7
  have o_a1 := gr_ob g7 o_a1
  have o_v0 := gr_ob g7 o_v0
  refine r_istore_n (pc := 22) C dX11_readRain_22 rfl (by decide) (lv' := [(1, .int x8), (0, .ref v0)]) rfl ?_
  refine r_aload_n (pc := 23) C dX11_readRain_23 1 rfl ?_
  refine r_lds (pc := 24) C 31 rfl dX11_readRain_24 ?_
  refine r_iconst (pc := 26) C (v := (1 : Int32)) dX11_readRain_26 (by decide) ?_
  refine r_bipush (pc := 27) C (v := (9 : Int32)) dX11_readRain_27 (by decide) ?_
  refine r_callVi0 (pc := 29) C (rest := []) (a := v0) o_v0 [.ref (eK (xE X) 31), .int (1 : Int32), .int (9 : Int32)] yV_X11_readPart g_1422 (c_X11_readPart h) dX11_readRain_29 rfl rfl (Nat.le_of_ble_eq_true rfl) ⟨by decide, by decide⟩ ⟨by decide, by decide⟩ ⟨rfl, rfl⟩ (fun x11 S9 h g10 => ?_)
  have h := h g10
  have o_a1 := gr_ob g10 o_a1
  have o_v0 := gr_ob g10 o_v0
  refine r_istore_n (pc := 32) C dX11_readRain_32 rfl (by decide) (lv' := [(2, .int x11), (1, .int x8), (0, .ref v0)]) rfl ?_
  refine r_aload_n (pc := 33) C dX11_readRain_33 2 rfl ?_
  refine r_lds (pc := 34) C 32 rfl dX11_readRain_34 ?_
  refine r_callVv0 (pc := 36) C (rest := []) (a := v0) o_v0 [.ref (eK (xE X) 32)] yV_X11_needs g_1426 (c_X11_needs h) dX11_readRain_36 rfl rfl (Nat.le_of_ble_eq_true rfl) ⟨by decide, by decide⟩ ⟨by decide, by decide⟩ ⟨rfl, rfl⟩ (fun S12 h g13 => ?_)
  have h := h g13
  have o_a1 := gr_ob g13 o_a1
  have o_v0 := gr_ob g13 o_v0
  refine r_aload_n (pc := 39) C dX11_readRain_39 2 rfl ?_
  refine r_callVi0 (pc := 40) C (rest := []) (a := v0) o_v0 [] yV_X11_readSide g_1449 (c_X11_readSide h) dX11_readRain_40 rfl rfl (Nat.le_of_ble_eq_true rfl) ⟨by decide, by decide⟩ ⟨by decide, by decide⟩ ⟨rfl, rfl⟩ (fun x17 S15 h g16 => ?_)
  have h := h g16
  have o_a1 := gr_ob g16 o_a1
  have o_v0 := gr_ob g16 o_v0
  refine r_istore_n (pc := 43) C dX11_readRain_43 rfl (by decide) (lv' := [(3, .int x17), (2, .int x11), (1, .int x8), (0, .ref v0)]) rfl ?_
  refine r_aload_n (pc := 44) C dX11_readRain_44 3 rfl ?_
  refine r_iconst (pc := 45) C (v := (0 : Int32)) dX11_readRain_45 (by decide) ?_
  refine r_bipush (pc := 46) C (v := (9 : Int32)) dX11_readRain_46 (by decide) ?_
  refine r_callVi0 (pc := 48) C (rest := []) (a := v0) o_v0 [.int (0 : Int32), .int (9 : Int32)] yV_X11_readWhole g_1430 (c_X11_readWhole h) dX11_readRain_48 rfl rfl (Nat.le_of_ble_eq_true rfl) ⟨by decide, by decide⟩ ⟨by decide, by decide⟩ ⟨rfl, rfl⟩ (fun x20 S18 h g19 => ?_)
  have h := h g19
  have o_a1 := gr_ob g19 o_a1
  have o_v0 := gr_ob g19 o_v0
  refine r_istore (pc := 51) C dX11_readRain_51 (by decide) (lv' := [(4, .int x20), (3, .int x17), (2, .int x11), (1, .int x8), (0, .ref v0)]) rfl ?_
  refine r_aload_n (pc := 53) C dX11_readRain_53 4 rfl ?_
  refine r_lds (pc := 54) C 37 rfl dX11_readRain_54 ?_
  refine r_iconst (pc := 56) C (v := (0 : Int32)) dX11_readRain_56 (by decide) ?_
  refine r_bipush (pc := 57) C (v := (100 : Int32)) dX11_readRain_57 (by decide) ?_
  refine r_callVi0 (pc := 59) C (rest := []) (a := v0) o_v0 [.ref (eK (xE X) 37), .int (0 : Int32), .int (100 : Int32)] yV_X11_readPart g_1422 (c_X11_readPart h) dX11_readRain_59 rfl rfl (Nat.le_of_ble_eq_true rfl) ⟨by decide, by decide⟩ ⟨by decide, by decide⟩ ⟨rfl, rfl⟩ (fun x23 S21 h g22 => ?_)
  have h := h g22
  have o_a1 := gr_ob g22 o_a1
  have o_v0 := gr_ob g22 o_v0
  refine r_istore (pc := 62) C dX11_readRain_62 (by decide) (lv' := [(5, .int x23), (4, .int x20), (3, .int x17), (2, .int x11), (1, .int x8), (0, .ref v0)]) rfl ?_
  refine r_aload_n (pc := 64) C dX11_readRain_64 5 rfl ?_
  refine r_geti (pc := 65) C fL_X11_68 dX11_readRain_65 o_v0 ?_
  refine r_topi (fun x24 ex24 => ?_)
  have h := h x24 ex24
  refine r_iconst (pc := 68) C (v := (5 : Int32)) dX11_readRain_68 (by decide) ?_
  refine r_icmp_ne (pc := 69) C (tgt := 73) dX11_readRain_69 (by decide) (fun c25 => ?_) (fun c25 => ?_)
  · have h := h.1 c25
    refine r_aload_n (pc := 73) C dX11_readRain_73 5 rfl ?_
    obtain ⟨a26, ea26, h⟩ := h
    refine r_getr (pc := 74) C fL_X11_147 dX11_readRain_74 o_v0 ea26 ?_
    obtain ⟨o_a26, h⟩ := h
    obtain ⟨a27, ea27, h⟩ := h
    refine r_getNr (pc := 77) C fN_X11_237 dX11_readRain_77 o_a26 ea27 ?_
    refine r_aload_n (pc := 80) C dX11_readRain_80 5 rfl ?_
    obtain ⟨a28, ea28, h⟩ := h
    refine r_getr (pc := 81) C fL_X11_147 dX11_readRain_81 o_v0 ea28 ?_
    obtain ⟨o_a28, h⟩ := h
    refine r_getNi (pc := 84) C fN_X11_219 dX11_readRain_84 o_a28 ?_
    refine r_topi (fun x29 ex29 => ?_)
    have h := h x29 ex29
    refine r_iload_n (pc := 87) C dX11_readRain_87 4 rfl ?_
    obtain ⟨o_a27, h⟩ := h
    obtain ⟨i30, h⟩ := h
    refine r_iast (pc := 88) C dX11_readRain_88 o_a27 i30 ?_
    refine r_heap (fun S31 eS31 => ?_)
    have h := h S31 eS31
    have o_a1 := ob_I eS31 o_a1
    have o_a26 := ob_I eS31 o_a26
    have o_a27 := ob_I eS31 o_a27
    have o_a28 := ob_I eS31 o_a28
    have o_v0 := ob_I eS31 o_v0
    refine r_aload_n (pc := 89) C dX11_readRain_89 5 rfl ?_
    obtain ⟨a32, ea32, h⟩ := h
    refine r_getr (pc := 90) C fL_X11_147 dX11_readRain_90 o_v0 ea32 ?_
    obtain ⟨o_a32, h⟩ := h
    obtain ⟨a33, ea33, h⟩ := h
    refine r_getNr (pc := 93) C fN_X11_239 dX11_readRain_93 o_a32 ea33 ?_
    refine r_aload_n (pc := 96) C dX11_readRain_96 5 rfl ?_
    obtain ⟨a34, ea34, h⟩ := h
    refine r_getr (pc := 97) C fL_X11_147 dX11_readRain_97 o_v0 ea34 ?_
    obtain ⟨o_a34, h⟩ := h
    refine r_getNi (pc := 100) C fN_X11_219 dX11_readRain_100 o_a34 ?_
    refine r_topi (fun x35 ex35 => ?_)
    have h := h x35 ex35
    refine r_iload_n (pc := 103) C dX11_readRain_103 3 rfl ?_
    obtain ⟨o_a33, h⟩ := h
    obtain ⟨i36, h⟩ := h
    refine r_iast (pc := 104) C dX11_readRain_104 o_a33 i36 ?_
    refine r_heap (fun S37 eS37 => ?_)
    have h := h S37 eS37
    have o_a1 := ob_I eS37 o_a1
    have o_a26 := ob_I eS37 o_a26
    have o_a27 := ob_I eS37 o_a27
    have o_a28 := ob_I eS37 o_a28
    have o_a32 := ob_I eS37 o_a32
    have o_a33 := ob_I eS37 o_a33
    have o_a34 := ob_I eS37 o_a34
    have o_v0 := ob_I eS37 o_v0
    refine r_aload_n (pc := 105) C dX11_readRain_105 5 rfl ?_
    obtain ⟨a38, ea38, h⟩ := h
    refine r_getr (pc := 106) C fL_X11_147 dX11_readRain_106 o_v0 ea38 ?_
    obtain ⟨o_a38, h⟩ := h
    obtain ⟨a39, ea39, h⟩ := h
    refine r_getNr (pc := 109) C fN_X11_241 dX11_readRain_109 o_a38 ea39 ?_
    refine r_aload_n (pc := 112) C dX11_readRain_112 5 rfl ?_
    obtain ⟨a40, ea40, h⟩ := h
    refine r_getr (pc := 113) C fL_X11_147 dX11_readRain_113 o_v0 ea40 ?_
    obtain ⟨o_a40, h⟩ := h
    refine r_getNi (pc := 116) C fN_X11_219 dX11_readRain_116 o_a40 ?_
    refine r_topi (fun x41 ex41 => ?_)
    have h := h x41 ex41
    refine r_iload_n (pc := 119) C dX11_readRain_119 2 rfl ?_
    obtain ⟨o_a39, h⟩ := h
    obtain ⟨i42, h⟩ := h
    refine r_iast (pc := 120) C dX11_readRain_120 o_a39 i42 ?_
    refine r_heap (fun S43 eS43 => ?_)
    have h := h S43 eS43
    have o_a1 := ob_I eS43 o_a1
    have o_a26 := ob_I eS43 o_a26
    have o_a27 := ob_I eS43 o_a27
    have o_a28 := ob_I eS43 o_a28
    have o_a32 := ob_I eS43 o_a32
    have o_a33 := ob_I eS43 o_a33
    have o_a34 := ob_I eS43 o_a34
    have o_a38 := ob_I eS43 o_a38
    have o_a39 := ob_I eS43 o_a39
    have o_a40 := ob_I eS43 o_a40
    have o_v0 := ob_I eS43 o_v0
    refine r_aload_n (pc := 121) C dX11_readRain_121 5 rfl ?_
    obtain ⟨a44, ea44, h⟩ := h
    refine r_getr (pc := 122) C fL_X11_147 dX11_readRain_122 o_v0 ea44 ?_
    obtain ⟨o_a44, h⟩ := h
    obtain ⟨a45, ea45, h⟩ := h
    refine r_getNr (pc := 125) C fN_X11_244 dX11_readRain_125 o_a44 ea45 ?_
    refine r_aload_n (pc := 128) C dX11_readRain_128 5 rfl ?_
    obtain ⟨a46, ea46, h⟩ := h
    refine r_getr (pc := 129) C fL_X11_147 dX11_readRain_129 o_v0 ea46 ?_
    obtain ⟨o_a46, h⟩ := h
    refine r_getNi (pc := 132) C fN_X11_219 dX11_readRain_132 o_a46 ?_
    refine r_topi (fun x47 ex47 => ?_)
    have h := h x47 ex47
    refine r_iload (pc := 135) C dX11_readRain_135 1 rfl ?_
    obtain ⟨o_a45, h⟩ := h
    obtain ⟨i48, h⟩ := h
    refine r_iast (pc := 137) C dX11_readRain_137 o_a45 i48 ?_
    refine r_heap (fun S49 eS49 => ?_)
    have h := h S49 eS49
    have o_a1 := ob_I eS49 o_a1
    have o_a26 := ob_I eS49 o_a26
    have o_a27 := ob_I eS49 o_a27
    have o_a28 := ob_I eS49 o_a28
    have o_a32 := ob_I eS49 o_a32
    have o_a33 := ob_I eS49 o_a33
    have o_a34 := ob_I eS49 o_a34
    have o_a38 := ob_I eS49 o_a38
    have o_a39 := ob_I eS49 o_a39
    have o_a40 := ob_I eS49 o_a40
    have o_a44 := ob_I eS49 o_a44
    have o_a45 := ob_I eS49 o_a45
    have o_a46 := ob_I eS49 o_a46
    have o_v0 := ob_I eS49 o_v0
    refine r_aload_n (pc := 138) C dX11_readRain_138 5 rfl ?_
    obtain ⟨a50, ea50, h⟩ := h
    refine r_getr (pc := 139) C fL_X11_147 dX11_readRain_139 o_v0 ea50 ?_
    obtain ⟨o_a50, h⟩ := h
    obtain ⟨a51, ea51, h⟩ := h
    refine r_getNr (pc := 142) C fN_X11_246 dX11_readRain_142 o_a50 ea51 ?_
    refine r_aload_n (pc := 145) C dX11_readRain_145 5 rfl ?_
    obtain ⟨a52, ea52, h⟩ := h
    refine r_getr (pc := 146) C fL_X11_147 dX11_readRain_146 o_v0 ea52 ?_
    obtain ⟨o_a52, h⟩ := h
    refine r_getNi (pc := 149) C fN_X11_219 dX11_readRain_149 o_a52 ?_
    refine r_topi (fun x53 ex53 => ?_)
    have h := h x53 ex53
    refine r_iload (pc := 152) C dX11_readRain_152 0 rfl ?_
    obtain ⟨o_a51, h⟩ := h
    obtain ⟨i54, h⟩ := h
    refine r_iast (pc := 154) C dX11_readRain_154 o_a51 i54 ?_
    refine r_heap (fun S55 eS55 => ?_)
    have h := h S55 eS55
    have o_a1 := ob_I eS55 o_a1
    have o_a26 := ob_I eS55 o_a26
    have o_a27 := ob_I eS55 o_a27
    have o_a28 := ob_I eS55 o_a28
    have o_a32 := ob_I eS55 o_a32
    have o_a33 := ob_I eS55 o_a33
    have o_a34 := ob_I eS55 o_a34
    have o_a38 := ob_I eS55 o_a38
    have o_a39 := ob_I eS55 o_a39
    have o_a40 := ob_I eS55 o_a40
    have o_a44 := ob_I eS55 o_a44
    have o_a45 := ob_I eS55 o_a45
    have o_a46 := ob_I eS55 o_a46
    have o_a50 := ob_I eS55 o_a50
    have o_a51 := ob_I eS55 o_a51
    have o_a52 := ob_I eS55 o_a52
    have o_v0 := ob_I eS55 o_v0
    refine r_aload_n (pc := 155) C dX11_readRain_155 5 rfl ?_
    obtain ⟨a56, ea56, h⟩ := h
    refine r_getr (pc := 156) C fL_X11_147 dX11_readRain_156 o_v0 ea56 ?_
    refine r_dup (pc := 159) C dX11_readRain_159 rfl ?_
    obtain ⟨o_a56, h⟩ := h
    refine r_getNi (pc := 160) C fN_X11_219 dX11_readRain_160 o_a56 ?_
    refine r_topi (fun x57 ex57 => ?_)
    have h := h x57 ex57
    refine r_iconst (pc := 163) C (v := (1 : Int32)) dX11_readRain_163 (by decide) ?_
    refine r_iadd (pc := 164) C dX11_readRain_164 ?_
    refine r_topi (fun x58 ex58 => ?_)
    have h := h x58 ex58
    refine r_putNi (pc := 165) C pfN_X11_219 dX11_readRain_165 o_a56 ?_
    refine r_heap (fun S59 eS59 => ?_)
    have h := h S59 eS59
    have o_a1 := ob_I eS59 o_a1
    have o_a26 := ob_I eS59 o_a26
    have o_a27 := ob_I eS59 o_a27
    have o_a28 := ob_I eS59 o_a28
    have o_a32 := ob_I eS59 o_a32
    have o_a33 := ob_I eS59 o_a33
    have o_a34 := ob_I eS59 o_a34
    have o_a38 := ob_I eS59 o_a38
    have o_a39 := ob_I eS59 o_a39
    have o_a40 := ob_I eS59 o_a40
    have o_a44 := ob_I eS59 o_a44
    have o_a45 := ob_I eS59 o_a45
    have o_a46 := ob_I eS59 o_a46
    have o_a50 := ob_I eS59 o_a50
    have o_a51 := ob_I eS59 o_a51
    have o_a52 := ob_I eS59 o_a52
    have o_a56 := ob_I eS59 o_a56
    have o_v0 := ob_I eS59 o_v0
    exact r_vret (pc := 168) C E ht dX11_readRain_168 (by decide) (by decide) h
  · have h := h.2 c25
    exact r_vret (pc := 72) C E ht dX11_readRain_72 (by decide) (by decide) h
def P_X11_readRain (v0 : Nat) (Q : HS → Prop) (S : HS) : Prop := P_X11_readRain_0 Q v0 S
theorem c_X11_readRain {l : Launch} {Ee : EE} {S : HS} {v0 : Nat} {Q : HS → Prop} (h : P_X11_readRain v0 Q S) : MV l yX11_readRain cX11_readRain 6 none rm_X11_readRain Ee S [.ref v0] Q :=
  openV (by decide) (Nat.le_of_ble_eq_true rfl) (fun X C E ht hn hE hl => by subst hE; exact r_sub [0] rfl (T_X11_readRain_0 C E ht hn h))
def rm_X11_readRoad : Room := { frames := 9, cells := 0, slots := 0, locals := 206 }
def P_X11_readRoad_85 (Q : HS → Prop) (v0 : Nat) (v1 : Int32) (v2 : Int32) (v3 : Int32) (v4 : Int32) (s0 : Int32) (S : HS) : Prop := ob S v0 11 ∧ (∀ x1 : Int32, x1 = fI S v0 9 → (((¬ x1 = (5 : Int32)) → (∃ a3 : Nat, fR S v0 4 = some a3 ∧ (ob S a3 10 ∧ (∀ x4 : Int32, x4 = fI S a3 3 → (∃ a5 : Nat, fR S v0 4 = some a5 ∧ (ob S a5 10 ∧ (∃ a6 : Nat, fR S a5 13 = some a6 ∧ (ob S a6 13 ∧ (vp_in x4 (hN S a6) ∧ (∀ S8 : HS, S8 = sI S a6 x4.toNatClampNeg v1 → (∃ a9 : Nat, fR S8 v0 4 = some a9 ∧ (ob S8 a9 10 ∧ (∃ a10 : Nat, fR S8 a9 14 = some a10 ∧ (ob S8 a10 13 ∧ (vp_in x4 (hN S8 a10) ∧ (∀ S12 : HS, S12 = sI S8 a10 x4.toNatClampNeg v4 → (∃ a13 : Nat, fR S12 v0 4 = some a13 ∧ (ob S12 a13 10 ∧ (∃ a14 : Nat, fR S12 a13 15 = some a14 ∧ (ob S12 a14 13 ∧ (vp_in x4 (hN S12 a14) ∧ (∀ S16 : HS, S16 = sI S12 a14 x4.toNatClampNeg v2 → (∃ a17 : Nat, fR S16 v0 4 = some a17 ∧ (ob S16 a17 10 ∧ (∃ a18 : Nat, fR S16 a17 16 = some a18 ∧ (ob S16 a18 13 ∧ (vp_in x4 (hN S16 a18) ∧ (∀ S20 : HS, S20 = sI S16 a18 x4.toNatClampNeg v3 → (∃ a21 : Nat, fR S20 v0 4 = some a21 ∧ (ob S20 a21 10 ∧ (∃ a22 : Nat, fR S20 a21 17 = some a22 ∧ (ob S20 a22 13 ∧ (vp_in x4 (hN S20 a22) ∧ (∀ S24 : HS, S24 = sI S20 a22 x4.toNatClampNeg s0 → (∃ a25 : Nat, fR S24 v0 4 = some a25 ∧ (ob S24 a25 10 ∧ (∀ x26 : Int32, x26 = fI S24 a25 3 → (∀ x27 : Int32, x27 = x26 + (1 : Int32) → (∀ S28 : HS, S28 = sI S24 a25 3 x27 → (Q S28)))))))))))))))))))))))))))))))))))))))) ∧ ((x1 = (5 : Int32)) → (Q S))))
set_option maxRecDepth 20000 in
set_option maxHeartbeats 4000000 in
theorem T_X11_readRoad_85 {X : CX} {Q : HS → Prop} (C : Cx X cX11_readRoad RX11 7 rm_X11_readRoad) (E : ReV X rm_X11_readRoad Q) (ht : (xh X).sig.returnType = none) (hn : (xh X).name = yX11_readRoad.name) {v0 : Nat} {v1 : Int32} {v2 : Int32} {v3 : Int32} {v4 : Int32} {s0 : Int32} {S : HS} (h : P_X11_readRoad_85 Q v0 v1 v2 v3 v4 s0 S) : WS X 7 0 0 85 [(0, .ref v0), (1, .int v1), (2, .int v2), (3, .int v3), (4, .int v4)] [.int s0] S := by
  refine r_istore (pc := 85) C dX11_readRoad_85 (by decide) (lv' := [(5, .int s0), (0, .ref v0), (1, .int v1), (2, .int v2), (3, .int v3), (4, .int v4)]) rfl ?_
  refine r_aload_n (pc := 87) C dX11_readRoad_87 1 rfl ?_
  obtain ⟨o_v0, h⟩ := h
  refine r_geti (pc := 88) C fL_X11_68 dX11_readRoad_88 o_v0 ?_
  refine r_topi (fun x1 ex1 => ?_)
  have h := h x1 ex1
  refine r_iconst (pc := 91) C (v := (5 : Int32)) dX11_readRoad_91 (by decide) ?_
  refine r_icmp_ne (pc := 92) C (tgt := 96) dX11_readRoad_92 (by decide) (fun c2 => ?_) (fun c2 => ?_)
  · have h := h.1 c2
    refine r_aload_n (pc := 96) C dX11_readRoad_96 1 rfl ?_
    obtain ⟨a3, ea3, h⟩ := h
    refine r_getr (pc := 97) C fL_X11_147 dX11_readRoad_97 o_v0 ea3 ?_
    obtain ⟨o_a3, h⟩ := h
    refine r_getNi (pc := 100) C fN_X11_264 dX11_readRoad_100 o_a3 ?_
    refine r_topi (fun x4 ex4 => ?_)
    have h := h x4 ex4
    refine r_istore (pc := 103) C dX11_readRoad_103 (by decide) (lv' := [(6, .int x4), (5, .int s0), (0, .ref v0), (1, .int v1), (2, .int v2), (3, .int v3), (4, .int v4)]) rfl ?_
    refine r_aload_n (pc := 105) C dX11_readRoad_105 2 rfl ?_
    obtain ⟨a5, ea5, h⟩ := h
    refine r_getr (pc := 106) C fL_X11_147 dX11_readRoad_106 o_v0 ea5 ?_
    obtain ⟨o_a5, h⟩ := h
    obtain ⟨a6, ea6, h⟩ := h
    refine r_getNr (pc := 109) C fN_X11_270 dX11_readRoad_109 o_a5 ea6 ?_
    refine r_iload (pc := 112) C dX11_readRoad_112 0 rfl ?_
    refine r_iload_n (pc := 114) C dX11_readRoad_114 3 rfl ?_
    obtain ⟨o_a6, h⟩ := h
    obtain ⟨i7, h⟩ := h
    refine r_iast (pc := 115) C dX11_readRoad_115 o_a6 i7 ?_
    refine r_heap (fun S8 eS8 => ?_)
    have h := h S8 eS8
    have o_a3 := ob_I eS8 o_a3
    have o_a5 := ob_I eS8 o_a5
    have o_a6 := ob_I eS8 o_a6
    have o_v0 := ob_I eS8 o_v0
    refine r_aload_n (pc := 116) C dX11_readRoad_116 2 rfl ?_
    obtain ⟨a9, ea9, h⟩ := h
    refine r_getr (pc := 117) C fL_X11_147 dX11_readRoad_117 o_v0 ea9 ?_
    obtain ⟨o_a9, h⟩ := h
    obtain ⟨a10, ea10, h⟩ := h
    refine r_getNr (pc := 120) C fN_X11_273 dX11_readRoad_120 o_a9 ea10 ?_
    refine r_iload (pc := 123) C dX11_readRoad_123 0 rfl ?_
    refine r_iload (pc := 125) C dX11_readRoad_125 6 rfl ?_
    obtain ⟨o_a10, h⟩ := h
    obtain ⟨i11, h⟩ := h
    refine r_iast (pc := 127) C dX11_readRoad_127 o_a10 i11 ?_
    refine r_heap (fun S12 eS12 => ?_)
    have h := h S12 eS12
    have o_a10 := ob_I eS12 o_a10
    have o_a3 := ob_I eS12 o_a3
    have o_a5 := ob_I eS12 o_a5
    have o_a6 := ob_I eS12 o_a6
    have o_a9 := ob_I eS12 o_a9
    have o_v0 := ob_I eS12 o_v0
    refine r_aload_n (pc := 128) C dX11_readRoad_128 2 rfl ?_
    obtain ⟨a13, ea13, h⟩ := h
    refine r_getr (pc := 129) C fL_X11_147 dX11_readRoad_129 o_v0 ea13 ?_
    obtain ⟨o_a13, h⟩ := h
    obtain ⟨a14, ea14, h⟩ := h
    refine r_getNr (pc := 132) C fN_X11_276 dX11_readRoad_132 o_a13 ea14 ?_
    refine r_iload (pc := 135) C dX11_readRoad_135 0 rfl ?_
    refine r_iload_n (pc := 137) C dX11_readRoad_137 4 rfl ?_
    obtain ⟨o_a14, h⟩ := h
    obtain ⟨i15, h⟩ := h
    refine r_iast (pc := 138) C dX11_readRoad_138 o_a14 i15 ?_
    refine r_heap (fun S16 eS16 => ?_)
    have h := h S16 eS16
    have o_a10 := ob_I eS16 o_a10
    have o_a13 := ob_I eS16 o_a13
    have o_a14 := ob_I eS16 o_a14
    have o_a3 := ob_I eS16 o_a3
    have o_a5 := ob_I eS16 o_a5
    have o_a6 := ob_I eS16 o_a6
    have o_a9 := ob_I eS16 o_a9
    have o_v0 := ob_I eS16 o_v0
    refine r_aload_n (pc := 139) C dX11_readRoad_139 2 rfl ?_
    obtain ⟨a17, ea17, h⟩ := h
    refine r_getr (pc := 140) C fL_X11_147 dX11_readRoad_140 o_v0 ea17 ?_
    obtain ⟨o_a17, h⟩ := h
    obtain ⟨a18, ea18, h⟩ := h
    refine r_getNr (pc := 143) C fN_X11_279 dX11_readRoad_143 o_a17 ea18 ?_
    refine r_iload (pc := 146) C dX11_readRoad_146 0 rfl ?_
    refine r_iload_n (pc := 148) C dX11_readRoad_148 5 rfl ?_
    obtain ⟨o_a18, h⟩ := h
    obtain ⟨i19, h⟩ := h
    refine r_iast (pc := 149) C dX11_readRoad_149 o_a18 i19 ?_
    refine r_heap (fun S20 eS20 => ?_)
    have h := h S20 eS20
    have o_a10 := ob_I eS20 o_a10
    have o_a13 := ob_I eS20 o_a13
    have o_a14 := ob_I eS20 o_a14
    have o_a17 := ob_I eS20 o_a17
    have o_a18 := ob_I eS20 o_a18
    have o_a3 := ob_I eS20 o_a3
    have o_a5 := ob_I eS20 o_a5
    have o_a6 := ob_I eS20 o_a6
    have o_a9 := ob_I eS20 o_a9
    have o_v0 := ob_I eS20 o_v0
    refine r_aload_n (pc := 150) C dX11_readRoad_150 2 rfl ?_
    obtain ⟨a21, ea21, h⟩ := h
    refine r_getr (pc := 151) C fL_X11_147 dX11_readRoad_151 o_v0 ea21 ?_
    obtain ⟨o_a21, h⟩ := h
    obtain ⟨a22, ea22, h⟩ := h
    refine r_getNr (pc := 154) C fN_X11_282 dX11_readRoad_154 o_a21 ea22 ?_
    refine r_iload (pc := 157) C dX11_readRoad_157 0 rfl ?_
    refine r_iload (pc := 159) C dX11_readRoad_159 1 rfl ?_
    obtain ⟨o_a22, h⟩ := h
    obtain ⟨i23, h⟩ := h
    refine r_iast (pc := 161) C dX11_readRoad_161 o_a22 i23 ?_
    refine r_heap (fun S24 eS24 => ?_)
    have h := h S24 eS24
    have o_a10 := ob_I eS24 o_a10
    have o_a13 := ob_I eS24 o_a13
    have o_a14 := ob_I eS24 o_a14
    have o_a17 := ob_I eS24 o_a17
    have o_a18 := ob_I eS24 o_a18
    have o_a21 := ob_I eS24 o_a21
    have o_a22 := ob_I eS24 o_a22
    have o_a3 := ob_I eS24 o_a3
    have o_a5 := ob_I eS24 o_a5
    have o_a6 := ob_I eS24 o_a6
    have o_a9 := ob_I eS24 o_a9
    have o_v0 := ob_I eS24 o_v0
    refine r_aload_n (pc := 162) C dX11_readRoad_162 2 rfl ?_
    obtain ⟨a25, ea25, h⟩ := h
    refine r_getr (pc := 163) C fL_X11_147 dX11_readRoad_163 o_v0 ea25 ?_
    refine r_dup (pc := 166) C dX11_readRoad_166 rfl ?_
    obtain ⟨o_a25, h⟩ := h
    refine r_getNi (pc := 167) C fN_X11_264 dX11_readRoad_167 o_a25 ?_
    refine r_topi (fun x26 ex26 => ?_)
    have h := h x26 ex26
    refine r_iconst (pc := 170) C (v := (1 : Int32)) dX11_readRoad_170 (by decide) ?_
    refine r_iadd (pc := 171) C dX11_readRoad_171 ?_
    refine r_topi (fun x27 ex27 => ?_)
    have h := h x27 ex27
    refine r_putNi (pc := 172) C pfN_X11_264 dX11_readRoad_172 o_a25 ?_
    refine r_heap (fun S28 eS28 => ?_)
    have h := h S28 eS28
    have o_a10 := ob_I eS28 o_a10
    have o_a13 := ob_I eS28 o_a13
    have o_a14 := ob_I eS28 o_a14
    have o_a17 := ob_I eS28 o_a17
    have o_a18 := ob_I eS28 o_a18
    have o_a21 := ob_I eS28 o_a21
    have o_a22 := ob_I eS28 o_a22
    have o_a25 := ob_I eS28 o_a25
    have o_a3 := ob_I eS28 o_a3
    have o_a5 := ob_I eS28 o_a5
    have o_a6 := ob_I eS28 o_a6
    have o_a9 := ob_I eS28 o_a9
    have o_v0 := ob_I eS28 o_v0
    exact r_vret (pc := 175) C E ht dX11_readRoad_175 (by decide) (by decide) h
  · have h := h.2 c2
    exact r_vret (pc := 95) C E ht dX11_readRoad_95 (by decide) (by decide) h
def P_X11_readRoad_62 (Q : HS → Prop) (v0 : Nat) (v1 : Int32) (v2 : Int32) (v3 : Int32) (v4 : Int32) (S : HS) : Prop := ob S v0 11 ∧ (P_X11_goesOn v0 (fun S1 => Gr S S1 → (P_X11_eatsWord v0 44 (fun x6 S4 => Gr S1 S4 → bl x6 → (((x6 = 0) → (P_X11_readRoad_85 Q v0 v1 v2 v3 v4 (0 : Int32) S4)) ∧ ((¬ x6 = 0) → (P_X11_readWhole v0 (0 : Int32) v3 (fun x10 S8 => Gr S4 S8 → (P_X11_readRoad_85 Q v0 v1 v2 v3 v4 x10 S8)) S4)))) S1)) S)
set_option maxRecDepth 20000 in
set_option maxHeartbeats 4000000 in
theorem T_X11_readRoad_62 {X : CX} {Q : HS → Prop} (C : Cx X cX11_readRoad RX11 7 rm_X11_readRoad) (E : ReV X rm_X11_readRoad Q) (ht : (xh X).sig.returnType = none) (hn : (xh X).name = yX11_readRoad.name) {v0 : Nat} {v1 : Int32} {v2 : Int32} {v3 : Int32} {v4 : Int32} {S : HS} (h : P_X11_readRoad_62 Q v0 v1 v2 v3 v4 S) : WS X 7 0 0 62 [(0, .ref v0), (1, .int v1), (2, .int v2), (3, .int v3), (4, .int v4)] [] S := by
  refine r_aload_n (pc := 62) C dX11_readRoad_62 0 rfl ?_
  obtain ⟨o_v0, h⟩ := h
  refine r_callVv0 (pc := 63) C (rest := []) (a := v0) o_v0 [] yV_X11_goesOn g_1380 (c_X11_goesOn h) dX11_readRoad_63 rfl rfl (Nat.le_of_ble_eq_true rfl) ⟨by decide, by decide⟩ ⟨by decide, by decide⟩ ⟨rfl, rfl⟩ (fun S1 h g2 => ?_)
  have h := h g2
  have o_v0 := gr_ob g2 o_v0
  refine r_aload_n (pc := 66) C dX11_readRoad_66 0 rfl ?_
  refine r_lds (pc := 67) C 44 rfl dX11_readRoad_67 ?_
  refine r_callVi0 (pc := 69) C (rest := []) (a := v0) o_v0 [.ref (eK (xE X) 44)] yV_X11_eatsWord g_1481 (c_X11_eatsWord h) dX11_readRoad_69 rfl rfl (Nat.le_of_ble_eq_true rfl) ⟨by decide, by decide⟩ ⟨by decide, by decide⟩ ⟨rfl, rfl⟩ (fun x6 S4 h g5 => ?_)
  have bx6 := h.1
  have h := h.2 g5 bx6
  have o_v0 := gr_ob g5 o_v0
  refine r_if_eq (pc := 72) C (tgt := 84) dX11_readRoad_72 (by decide) (fun c7 => ?_) (fun c7 => ?_)
  · have h := h.1 c7
    refine r_iconst (pc := 84) C (v := (0 : Int32)) dX11_readRoad_84 (by decide) ?_
    exact r_sub [0, 1, 2, 3, 4] rfl (T_X11_readRoad_85 C E ht hn h)
  · have h := h.2 c7
    refine r_aload_n (pc := 75) C dX11_readRoad_75 0 rfl ?_
    refine r_iconst (pc := 76) C (v := (0 : Int32)) dX11_readRoad_76 (by decide) ?_
    refine r_iload_n (pc := 77) C dX11_readRoad_77 3 rfl ?_
    refine r_callVi0 (pc := 78) C (rest := []) (a := v0) o_v0 [.int (0 : Int32), .int v3] yV_X11_readWhole g_1430 (c_X11_readWhole h) dX11_readRoad_78 rfl rfl (Nat.le_of_ble_eq_true rfl) ⟨by decide, by decide⟩ ⟨by decide, by decide⟩ ⟨rfl, rfl⟩ (fun x10 S8 h g9 => ?_)
    have h := h g9
    have o_v0 := gr_ob g9 o_v0
    refine r_goto (pc := 81) C (tgt := 85) dX11_readRoad_81 (by decide) ?_
    exact r_sub [0, 1, 2, 3, 4] rfl (T_X11_readRoad_85 C E ht hn h)
def P_X11_readRoad_0 (Q : HS → Prop) (v0 : Nat) (S : HS) : Prop := ob S v0 11 ∧ (∃ a1 : Nat, fR S v0 4 = some a1 ∧ (ob S a1 10 ∧ (∀ x2 : Int32, x2 = fI S a1 3 → (P_X11_begins v0 x2 (12 : Int32) (fun S3 => Gr S S3 → (P_X11_known v0 (0 : Int32) (fun x8 S6 => Gr S3 S6 → (P_X11_goesOn v0 (fun S9 => Gr S6 S9 → (P_X11_readSide v0 (fun x14 S12 => Gr S9 S12 → (P_X11_readWhole v0 (1 : Int32) (60 : Int32) (fun x17 S15 => Gr S12 S15 → (P_X11_known v0 (0 : Int32) (fun x20 S18 => Gr S15 S18 → (∀ x21 : Int32, x21 = fI S18 v0 9 → (((x21 = (5 : Int32)) → (P_X11_readRoad_62 Q v0 x8 x14 x17 x20 S18)) ∧ ((¬ x21 = (5 : Int32)) → (((¬ x20 = x8) → (P_X11_readRoad_62 Q v0 x8 x14 x17 x20 S18)) ∧ ((x20 = x8) → (P_X11_flaw v0 (3 : Int32) (fun S24 => Gr S18 S24 → (P_X11_readRoad_62 Q v0 x8 x14 x17 x20 S24)) S18))))))) S15)) S12)) S9)) S6)) S3)) S))))
set_option maxRecDepth 20000 in
set_option maxHeartbeats 4000000 in
theorem T_X11_readRoad_0 {X : CX} {Q : HS → Prop} (C : Cx X cX11_readRoad RX11 7 rm_X11_readRoad) (E : ReV X rm_X11_readRoad Q) (ht : (xh X).sig.returnType = none) (hn : (xh X).name = yX11_readRoad.name) {v0 : Nat} {S : HS} (h : P_X11_readRoad_0 Q v0 S) : WS X 7 0 0 0 [(0, .ref v0)] [] S := by
  refine r_aload_n (pc := 0) C dX11_readRoad_0 0 rfl ?_
  refine r_aload_n (pc := 1) C dX11_readRoad_1 0 rfl ?_
  obtain ⟨o_v0, h⟩ := h
  obtain ⟨a1, ea1, h⟩ := h
  refine r_getr (pc := 2) C fL_X11_147 dX11_readRoad_2 o_v0 ea1 ?_
  obtain ⟨o_a1, h⟩ := h
  refine r_getNi (pc := 5) C fN_X11_264 dX11_readRoad_5 o_a1 ?_
  refine r_topi (fun x2 ex2 => ?_)
  have h := h x2 ex2
  refine r_bipush (pc := 8) C (v := (12 : Int32)) dX11_readRoad_8 (by decide) ?_
  refine r_callVv0 (pc := 10) C (rest := []) (a := v0) o_v0 [.int x2, .int (12 : Int32)] yV_X11_begins g_1442 (c_X11_begins h) dX11_readRoad_10 rfl rfl (Nat.le_of_ble_eq_true rfl) ⟨by decide, by decide⟩ ⟨by decide, by decide⟩ ⟨rfl, rfl⟩ (fun S3 h g4 => ?_)
  have h := h g4
  have o_a1 := gr_ob g4 o_a1
  have o_v0 := gr_ob g4 o_v0
  refine r_aload_n (pc := 13) C dX11_readRoad_13 0 rfl ?_
  refine r_iconst (pc := 14) C (v := (0 : Int32)) dX11_readRoad_14 (by decide) ?_
  refine r_callVi0 (pc := 15) C (rest := []) (a := v0) o_v0 [.int (0 : Int32)] yV_X11_known g_1493 (c_X11_known h) dX11_readRoad_15 rfl rfl (Nat.le_of_ble_eq_true rfl) ⟨by decide, by decide⟩ ⟨by decide, by decide⟩ ⟨rfl, rfl⟩ (fun x8 S6 h g7 => ?_)
  have h := h g7
  have o_a1 := gr_ob g7 o_a1
  have o_v0 := gr_ob g7 o_v0
  refine r_istore_n (pc := 18) C dX11_readRoad_18 rfl (by decide) (lv' := [(1, .int x8), (0, .ref v0)]) rfl ?_
  refine r_aload_n (pc := 19) C dX11_readRoad_19 1 rfl ?_
  refine r_callVv0 (pc := 20) C (rest := []) (a := v0) o_v0 [] yV_X11_goesOn g_1380 (c_X11_goesOn h) dX11_readRoad_20 rfl rfl (Nat.le_of_ble_eq_true rfl) ⟨by decide, by decide⟩ ⟨by decide, by decide⟩ ⟨rfl, rfl⟩ (fun S9 h g10 => ?_)
  have h := h g10
  have o_a1 := gr_ob g10 o_a1
  have o_v0 := gr_ob g10 o_v0
  refine r_aload_n (pc := 23) C dX11_readRoad_23 1 rfl ?_
  refine r_callVi0 (pc := 24) C (rest := []) (a := v0) o_v0 [] yV_X11_readSide g_1449 (c_X11_readSide h) dX11_readRoad_24 rfl rfl (Nat.le_of_ble_eq_true rfl) ⟨by decide, by decide⟩ ⟨by decide, by decide⟩ ⟨rfl, rfl⟩ (fun x14 S12 h g13 => ?_)
  have h := h g13
  have o_a1 := gr_ob g13 o_a1
  have o_v0 := gr_ob g13 o_v0
  refine r_istore_n (pc := 27) C dX11_readRoad_27 rfl (by decide) (lv' := [(2, .int x14), (1, .int x8), (0, .ref v0)]) rfl ?_
  refine r_aload_n (pc := 28) C dX11_readRoad_28 2 rfl ?_
  refine r_iconst (pc := 29) C (v := (1 : Int32)) dX11_readRoad_29 (by decide) ?_
  refine r_bipush (pc := 30) C (v := (60 : Int32)) dX11_readRoad_30 (by decide) ?_
  refine r_callVi0 (pc := 32) C (rest := []) (a := v0) o_v0 [.int (1 : Int32), .int (60 : Int32)] yV_X11_readWhole g_1430 (c_X11_readWhole h) dX11_readRoad_32 rfl rfl (Nat.le_of_ble_eq_true rfl) ⟨by decide, by decide⟩ ⟨by decide, by decide⟩ ⟨rfl, rfl⟩ (fun x17 S15 h g16 => ?_)
  have h := h g16
  have o_a1 := gr_ob g16 o_a1
  have o_v0 := gr_ob g16 o_v0
  refine r_istore_n (pc := 35) C dX11_readRoad_35 rfl (by decide) (lv' := [(3, .int x17), (2, .int x14), (1, .int x8), (0, .ref v0)]) rfl ?_
  refine r_aload_n (pc := 36) C dX11_readRoad_36 3 rfl ?_
  refine r_iconst (pc := 37) C (v := (0 : Int32)) dX11_readRoad_37 (by decide) ?_
  refine r_callVi0 (pc := 38) C (rest := []) (a := v0) o_v0 [.int (0 : Int32)] yV_X11_known g_1493 (c_X11_known h) dX11_readRoad_38 rfl rfl (Nat.le_of_ble_eq_true rfl) ⟨by decide, by decide⟩ ⟨by decide, by decide⟩ ⟨rfl, rfl⟩ (fun x20 S18 h g19 => ?_)
  have h := h g19
  have o_a1 := gr_ob g19 o_a1
  have o_v0 := gr_ob g19 o_v0
  refine r_istore (pc := 41) C dX11_readRoad_41 (by decide) (lv' := [(4, .int x20), (3, .int x17), (2, .int x14), (1, .int x8), (0, .ref v0)]) rfl ?_
  refine r_aload_n (pc := 43) C dX11_readRoad_43 4 rfl ?_
  refine r_geti (pc := 44) C fL_X11_68 dX11_readRoad_44 o_v0 ?_
  refine r_topi (fun x21 ex21 => ?_)
  have h := h x21 ex21
  refine r_iconst (pc := 47) C (v := (5 : Int32)) dX11_readRoad_47 (by decide) ?_
  refine r_icmp_eq (pc := 48) C (tgt := 62) dX11_readRoad_48 (by decide) (fun c22 => ?_) (fun c22 => ?_)
  · have h := h.1 c22
    exact r_sub [4, 3, 2, 1, 0] rfl (T_X11_readRoad_62 C E ht hn h)
  · have h := h.2 c22
    refine r_iload (pc := 51) C dX11_readRoad_51 0 rfl ?_
    refine r_iload_n (pc := 53) C dX11_readRoad_53 3 rfl ?_
    refine r_icmp_ne (pc := 54) C (tgt := 62) dX11_readRoad_54 (by decide) (fun c23 => ?_) (fun c23 => ?_)
    · have h := h.1 c23
      exact r_sub [4, 3, 2, 1, 0] rfl (T_X11_readRoad_62 C E ht hn h)
    · have h := h.2 c23
      refine r_aload_n (pc := 57) C dX11_readRoad_57 4 rfl ?_
      refine r_iconst (pc := 58) C (v := (3 : Int32)) dX11_readRoad_58 (by decide) ?_
      refine r_callVv0 (pc := 59) C (rest := []) (a := v0) o_v0 [.int (3 : Int32)] yV_X11_flaw g_1417 (c_X11_flaw h) dX11_readRoad_59 rfl rfl (Nat.le_of_ble_eq_true rfl) ⟨by decide, by decide⟩ ⟨by decide, by decide⟩ ⟨rfl, rfl⟩ (fun S24 h g25 => ?_)
      have h := h g25
      have o_a1 := gr_ob g25 o_a1
      have o_v0 := gr_ob g25 o_v0
      exact r_sub [4, 3, 2, 1, 0] rfl (T_X11_readRoad_62 C E ht hn h)
def P_X11_readRoad (v0 : Nat) (Q : HS → Prop) (S : HS) : Prop := P_X11_readRoad_0 Q v0 S
theorem c_X11_readRoad {l : Launch} {Ee : EE} {S : HS} {v0 : Nat} {Q : HS → Prop} (h : P_X11_readRoad v0 Q S) : MV l yX11_readRoad cX11_readRoad 7 none rm_X11_readRoad Ee S [.ref v0] Q :=
  openV (by decide) (Nat.le_of_ble_eq_true rfl) (fun X C E ht hn hE hl => by subst hE; exact r_sub [0] rfl (T_X11_readRoad_0 C E ht hn h))
def rm_X11_readSeen : Room := { frames := 9, cells := 0, slots := 0, locals := 206 }
def P_X11_readSeen_47 (Q : HS → Prop) (X24 : Nat → Int32 → Int32 → HS → Prop) (v0 : Nat) (v1 : Int32) (v2 : Int32) (S : HS) : Prop := ob S v0 11 ∧ (P_X11_readWhole v0 (0 : Int32) (999 : Int32) (fun x3 S1 => Gr S S1 → (∀ x4 : Int32, x4 = fI S1 v0 9 → (((¬ x4 = (5 : Int32)) → (∃ a6 : Nat, fR S1 v0 4 = some a6 ∧ (ob S1 a6 10 ∧ (∃ a7 : Nat, fR S1 a6 27 = some a7 ∧ (∃ a8 : Nat, fR S1 v0 4 = some a8 ∧ (ob S1 a8 10 ∧ (∀ x9 : Int32, x9 = fI S1 a8 5 → (ob S1 a7 13 ∧ (vp_in (((5 : Int32) * x9) + v2) (hN S1 a7) ∧ (∀ S11 : HS, S11 = sI S1 a7 (((5 : Int32) * x9) + v2).toNatClampNeg x3 → (∀ x12 : Int32, x12 = v2 + (1 : Int32) → (X24 v0 v1 x12 S11)))))))))))) ∧ ((x4 = (5 : Int32)) → (Q S1))))) S)
set_option maxRecDepth 20000 in
set_option maxHeartbeats 4000000 in
theorem T_X11_readSeen_47 {X : CX} {Q : HS → Prop} (C : Cx X cX11_readSeen RX11 4 rm_X11_readSeen) (E : ReV X rm_X11_readSeen Q) (ht : (xh X).sig.returnType = none) (hn : (xh X).name = yX11_readSeen.name) {X24 : Nat → Int32 → Int32 → HS → Prop} (hX24 : ∀ (v0 : Nat) (v1 : Int32) (v2 : Int32) (S : HS), X24 v0 v1 v2 S → WS X 4 0 0 24 [(0, .ref v0), (1, .int v1), (2, .int v2)] [] S) {v0 : Nat} {v1 : Int32} {v2 : Int32} {S : HS} (h : P_X11_readSeen_47 Q X24 v0 v1 v2 S) : WS X 4 0 0 47 [(0, .ref v0), (1, .int v1), (2, .int v2)] [] S := by
  refine r_aload_n (pc := 47) C dX11_readSeen_47 0 rfl ?_
  refine r_iconst (pc := 48) C (v := (0 : Int32)) dX11_readSeen_48 (by decide) ?_
  refine r_sipush (pc := 49) C (v := (999 : Int32)) dX11_readSeen_49 (by decide) ?_
  obtain ⟨o_v0, h⟩ := h
  refine r_callVi0 (pc := 52) C (rest := []) (a := v0) o_v0 [.int (0 : Int32), .int (999 : Int32)] yV_X11_readWhole g_1430 (c_X11_readWhole h) dX11_readSeen_52 rfl rfl (Nat.le_of_ble_eq_true rfl) ⟨by decide, by decide⟩ ⟨by decide, by decide⟩ ⟨rfl, rfl⟩ (fun x3 S1 h g2 => ?_)
  have h := h g2
  have o_v0 := gr_ob g2 o_v0
  refine r_istore_n (pc := 55) C dX11_readSeen_55 rfl (by decide) (lv' := [(3, .int x3), (0, .ref v0), (1, .int v1), (2, .int v2)]) rfl ?_
  refine r_aload_n (pc := 56) C dX11_readSeen_56 1 rfl ?_
  refine r_geti (pc := 57) C fL_X11_68 dX11_readSeen_57 o_v0 ?_
  refine r_topi (fun x4 ex4 => ?_)
  have h := h x4 ex4
  refine r_iconst (pc := 60) C (v := (5 : Int32)) dX11_readSeen_60 (by decide) ?_
  refine r_icmp_ne (pc := 61) C (tgt := 65) dX11_readSeen_61 (by decide) (fun c5 => ?_) (fun c5 => ?_)
  · have h := h.1 c5
    refine r_aload_n (pc := 65) C dX11_readSeen_65 1 rfl ?_
    obtain ⟨a6, ea6, h⟩ := h
    refine r_getr (pc := 66) C fL_X11_147 dX11_readSeen_66 o_v0 ea6 ?_
    obtain ⟨o_a6, h⟩ := h
    obtain ⟨a7, ea7, h⟩ := h
    refine r_getNr (pc := 69) C fN_X11_326 dX11_readSeen_69 o_a6 ea7 ?_
    refine r_iconst (pc := 72) C (v := (5 : Int32)) dX11_readSeen_72 (by decide) ?_
    refine r_aload_n (pc := 73) C dX11_readSeen_73 1 rfl ?_
    obtain ⟨a8, ea8, h⟩ := h
    refine r_getr (pc := 74) C fL_X11_147 dX11_readSeen_74 o_v0 ea8 ?_
    obtain ⟨o_a8, h⟩ := h
    refine r_getNi (pc := 77) C fN_X11_323 dX11_readSeen_77 o_a8 ?_
    refine r_topi (fun x9 ex9 => ?_)
    have h := h x9 ex9
    refine r_imul (pc := 80) C dX11_readSeen_80 ?_
    refine r_iload_n (pc := 81) C dX11_readSeen_81 3 rfl ?_
    refine r_iadd (pc := 82) C dX11_readSeen_82 ?_
    refine r_iload_n (pc := 83) C dX11_readSeen_83 0 rfl ?_
    obtain ⟨o_a7, h⟩ := h
    obtain ⟨i10, h⟩ := h
    refine r_iast (pc := 84) C dX11_readSeen_84 o_a7 i10 ?_
    refine r_heap (fun S11 eS11 => ?_)
    have h := h S11 eS11
    have o_a6 := ob_I eS11 o_a6
    have o_a7 := ob_I eS11 o_a7
    have o_a8 := ob_I eS11 o_a8
    have o_v0 := ob_I eS11 o_v0
    obtain ⟨x12, ex12⟩ : ∃ z : Int32, z = v2 + (1 : Int32) := ⟨_, rfl⟩
    have h := h x12 ex12
    refine r_iinc (pc := 85) C (v := x12) (lv' := [(2, .int x12), (3, .int x3), (0, .ref v0), (1, .int v1)]) dX11_readSeen_85 3 rfl ex12.symm (by decide) rfl ?_
    refine r_goto (pc := 88) C (tgt := 24) dX11_readSeen_88 (by decide) ?_
    exact r_sub [2, 3, 0] rfl (hX24 v0 v1 x12 S11 h)
  · have h := h.2 c5
    exact r_vret (pc := 64) C E ht dX11_readSeen_64 (by decide) (by decide) h
def B_X11_readSeen_24 (Q : HS → Prop) (X24 : Nat → Int32 → Int32 → HS → Prop) (v0 : Nat) (v1 : Int32) (v2 : Int32) (S : HS) : Prop := (((5 : Int32) ≤ v2) → (ob S v0 11 ∧ (∃ a2 : Nat, fR S v0 4 = some a2 ∧ (ob S a2 10 ∧ (∃ a3 : Nat, fR S a2 26 = some a3 ∧ (∃ a4 : Nat, fR S v0 4 = some a4 ∧ (ob S a4 10 ∧ (∀ x5 : Int32, x5 = fI S a4 5 → (ob S a3 13 ∧ (vp_in x5 (hN S a3) ∧ (∀ S7 : HS, S7 = sI S a3 x5.toNatClampNeg v1 → (∃ a8 : Nat, fR S7 v0 4 = some a8 ∧ (ob S7 a8 10 ∧ (∀ x9 : Int32, x9 = fI S7 a8 5 → (∀ x10 : Int32, x10 = x9 + (1 : Int32) → (∀ S11 : HS, S11 = sI S7 a8 5 x10 → (Q S11))))))))))))))))) ∧ ((¬ (5 : Int32) ≤ v2) → (((v2 ≤ 0) → (P_X11_readSeen_47 Q X24 v0 v1 v2 S)) ∧ ((¬ v2 ≤ 0) → (ob S v0 11 ∧ (P_X11_eatsSign v0 (44 : Int32) (fun x15 S13 => Gr S S13 → bl x15 → (((¬ x15 = 0) → (P_X11_readSeen_47 Q X24 v0 v1 v2 S13)) ∧ ((x15 = 0) → (P_X11_flaw v0 (1 : Int32) (fun S17 => Gr S13 S17 → (P_X11_readSeen_47 Q X24 v0 v1 v2 S17)) S13)))) S)))))
def P_X11_readSeen_24 (Q : HS → Prop) (v0 : Nat) (v1 : Int32) (v2 : Int32) (S : HS) : Prop := ∀ X24 : Nat → Int32 → Int32 → HS → Prop, (∀ (v0 : Nat) (v1 : Int32) (v2 : Int32) (S : HS), B_X11_readSeen_24 Q X24 v0 v1 v2 S → X24 v0 v1 v2 S) → X24 v0 v1 v2 S
set_option maxRecDepth 20000 in
set_option maxHeartbeats 4000000 in
theorem TB_X11_readSeen_24 {X : CX} {Q : HS → Prop} (C : Cx X cX11_readSeen RX11 4 rm_X11_readSeen) (E : ReV X rm_X11_readSeen Q) (ht : (xh X).sig.returnType = none) (hn : (xh X).name = yX11_readSeen.name) {X24 : Nat → Int32 → Int32 → HS → Prop} (hX24 : ∀ (v0 : Nat) (v1 : Int32) (v2 : Int32) (S : HS), X24 v0 v1 v2 S → WS X 4 0 0 24 [(0, .ref v0), (1, .int v1), (2, .int v2)] [] S) {v0 : Nat} {v1 : Int32} {v2 : Int32} {S : HS} (h : B_X11_readSeen_24 Q X24 v0 v1 v2 S) : WS X 4 0 0 24 [(0, .ref v0), (1, .int v1), (2, .int v2)] [] S := by
  refine r_iload_n (pc := 24) C dX11_readSeen_24 2 rfl ?_
  refine r_iconst (pc := 25) C (v := (5 : Int32)) dX11_readSeen_25 (by decide) ?_
  refine r_icmp_ge (pc := 26) C (tgt := 91) dX11_readSeen_26 (by decide) (fun c1 => ?_) (fun c1 => ?_)
  · have h := h.1 c1
    refine r_aload_n (pc := 91) C dX11_readSeen_91 0 rfl ?_
    obtain ⟨o_v0, h⟩ := h
    obtain ⟨a2, ea2, h⟩ := h
    refine r_getr (pc := 92) C fL_X11_147 dX11_readSeen_92 o_v0 ea2 ?_
    obtain ⟨o_a2, h⟩ := h
    obtain ⟨a3, ea3, h⟩ := h
    refine r_getNr (pc := 95) C fN_X11_328 dX11_readSeen_95 o_a2 ea3 ?_
    refine r_aload_n (pc := 98) C dX11_readSeen_98 0 rfl ?_
    obtain ⟨a4, ea4, h⟩ := h
    refine r_getr (pc := 99) C fL_X11_147 dX11_readSeen_99 o_v0 ea4 ?_
    obtain ⟨o_a4, h⟩ := h
    refine r_getNi (pc := 102) C fN_X11_323 dX11_readSeen_102 o_a4 ?_
    refine r_topi (fun x5 ex5 => ?_)
    have h := h x5 ex5
    refine r_iload_n (pc := 105) C dX11_readSeen_105 1 rfl ?_
    obtain ⟨o_a3, h⟩ := h
    obtain ⟨i6, h⟩ := h
    refine r_iast (pc := 106) C dX11_readSeen_106 o_a3 i6 ?_
    refine r_heap (fun S7 eS7 => ?_)
    have h := h S7 eS7
    have o_a2 := ob_I eS7 o_a2
    have o_a3 := ob_I eS7 o_a3
    have o_a4 := ob_I eS7 o_a4
    have o_v0 := ob_I eS7 o_v0
    refine r_aload_n (pc := 107) C dX11_readSeen_107 0 rfl ?_
    obtain ⟨a8, ea8, h⟩ := h
    refine r_getr (pc := 108) C fL_X11_147 dX11_readSeen_108 o_v0 ea8 ?_
    refine r_dup (pc := 111) C dX11_readSeen_111 rfl ?_
    obtain ⟨o_a8, h⟩ := h
    refine r_getNi (pc := 112) C fN_X11_323 dX11_readSeen_112 o_a8 ?_
    refine r_topi (fun x9 ex9 => ?_)
    have h := h x9 ex9
    refine r_iconst (pc := 115) C (v := (1 : Int32)) dX11_readSeen_115 (by decide) ?_
    refine r_iadd (pc := 116) C dX11_readSeen_116 ?_
    refine r_topi (fun x10 ex10 => ?_)
    have h := h x10 ex10
    refine r_putNi (pc := 117) C pfN_X11_323 dX11_readSeen_117 o_a8 ?_
    refine r_heap (fun S11 eS11 => ?_)
    have h := h S11 eS11
    have o_a2 := ob_I eS11 o_a2
    have o_a3 := ob_I eS11 o_a3
    have o_a4 := ob_I eS11 o_a4
    have o_a8 := ob_I eS11 o_a8
    have o_v0 := ob_I eS11 o_v0
    exact r_vret (pc := 120) C E ht dX11_readSeen_120 (by decide) (by decide) h
  · have h := h.2 c1
    refine r_iload_n (pc := 29) C dX11_readSeen_29 2 rfl ?_
    refine r_if_le (pc := 30) C (tgt := 47) dX11_readSeen_30 (by decide) (fun c12 => ?_) (fun c12 => ?_)
    · have h := h.1 c12
      exact r_sub [0, 1, 2] rfl (T_X11_readSeen_47 C E ht hn hX24 h)
    · have h := h.2 c12
      refine r_aload_n (pc := 33) C dX11_readSeen_33 0 rfl ?_
      refine r_bipush (pc := 34) C (v := (44 : Int32)) dX11_readSeen_34 (by decide) ?_
      obtain ⟨o_v0, h⟩ := h
      refine r_callVi0 (pc := 36) C (rest := []) (a := v0) o_v0 [.int (44 : Int32)] yV_X11_eatsSign g_1514 (c_X11_eatsSign h) dX11_readSeen_36 rfl rfl (Nat.le_of_ble_eq_true rfl) ⟨by decide, by decide⟩ ⟨by decide, by decide⟩ ⟨rfl, rfl⟩ (fun x15 S13 h g14 => ?_)
      have bx15 := h.1
      have h := h.2 g14 bx15
      have o_v0 := gr_ob g14 o_v0
      refine r_if_ne (pc := 39) C (tgt := 47) dX11_readSeen_39 (by decide) (fun c16 => ?_) (fun c16 => ?_)
      · have h := h.1 c16
        exact r_sub [0, 1, 2] rfl (T_X11_readSeen_47 C E ht hn hX24 h)
      · have h := h.2 c16
        refine r_aload_n (pc := 42) C dX11_readSeen_42 0 rfl ?_
        refine r_iconst (pc := 43) C (v := (1 : Int32)) dX11_readSeen_43 (by decide) ?_
        refine r_callVv0 (pc := 44) C (rest := []) (a := v0) o_v0 [.int (1 : Int32)] yV_X11_flaw g_1417 (c_X11_flaw h) dX11_readSeen_44 rfl rfl (Nat.le_of_ble_eq_true rfl) ⟨by decide, by decide⟩ ⟨by decide, by decide⟩ ⟨rfl, rfl⟩ (fun S17 h g18 => ?_)
        have h := h g18
        have o_v0 := gr_ob g18 o_v0
        exact r_sub [0, 1, 2] rfl (T_X11_readSeen_47 C E ht hn hX24 h)
theorem T_X11_readSeen_24 {X : CX} {Q : HS → Prop} (C : Cx X cX11_readSeen RX11 4 rm_X11_readSeen) (E : ReV X rm_X11_readSeen Q) (ht : (xh X).sig.returnType = none) (hn : (xh X).name = yX11_readSeen.name) {v0 : Nat} {v1 : Int32} {v2 : Int32} {S : HS} (h : P_X11_readSeen_24 Q v0 v1 v2 S) : WS X 4 0 0 24 [(0, .ref v0), (1, .int v1), (2, .int v2)] [] S :=
  h (fun v0 v1 v2 S => WS X 4 0 0 24 [(0, .ref v0), (1, .int v1), (2, .int v2)] [] S) (fun v0 v1 v2 S hh => TB_X11_readSeen_24 C E ht hn (fun v0 v1 v2 S z => z) hh)
def P_X11_readSeen_0 (Q : HS → Prop) (v0 : Nat) (S : HS) : Prop := ob S v0 11 ∧ (∃ a1 : Nat, fR S v0 4 = some a1 ∧ (ob S a1 10 ∧ (∀ x2 : Int32, x2 = fI S a1 5 → (P_X11_begins v0 x2 (4 : Int32) (fun S3 => Gr S S3 → (P_X11_known v0 (1 : Int32) (fun x8 S6 => Gr S3 S6 → (P_X11_goesOn v0 (fun S9 => Gr S6 S9 → (P_X11_readSeen_24 Q v0 x8 (0 : Int32) S9)) S6)) S3)) S))))
set_option maxRecDepth 20000 in
set_option maxHeartbeats 4000000 in
theorem T_X11_readSeen_0 {X : CX} {Q : HS → Prop} (C : Cx X cX11_readSeen RX11 4 rm_X11_readSeen) (E : ReV X rm_X11_readSeen Q) (ht : (xh X).sig.returnType = none) (hn : (xh X).name = yX11_readSeen.name) {v0 : Nat} {S : HS} (h : P_X11_readSeen_0 Q v0 S) : WS X 4 0 0 0 [(0, .ref v0)] [] S := by
  refine r_aload_n (pc := 0) C dX11_readSeen_0 0 rfl ?_
  refine r_aload_n (pc := 1) C dX11_readSeen_1 0 rfl ?_
  obtain ⟨o_v0, h⟩ := h
  obtain ⟨a1, ea1, h⟩ := h
  refine r_getr (pc := 2) C fL_X11_147 dX11_readSeen_2 o_v0 ea1 ?_
  obtain ⟨o_a1, h⟩ := h
  refine r_getNi (pc := 5) C fN_X11_323 dX11_readSeen_5 o_a1 ?_
  refine r_topi (fun x2 ex2 => ?_)
  have h := h x2 ex2
  refine r_iconst (pc := 8) C (v := (4 : Int32)) dX11_readSeen_8 (by decide) ?_
  refine r_callVv0 (pc := 9) C (rest := []) (a := v0) o_v0 [.int x2, .int (4 : Int32)] yV_X11_begins g_1442 (c_X11_begins h) dX11_readSeen_9 rfl rfl (Nat.le_of_ble_eq_true rfl) ⟨by decide, by decide⟩ ⟨by decide, by decide⟩ ⟨rfl, rfl⟩ (fun S3 h g4 => ?_)
  have h := h g4
  have o_a1 := gr_ob g4 o_a1
  have o_v0 := gr_ob g4 o_v0
  refine r_aload_n (pc := 12) C dX11_readSeen_12 0 rfl ?_
  refine r_iconst (pc := 13) C (v := (1 : Int32)) dX11_readSeen_13 (by decide) ?_
  refine r_callVi0 (pc := 14) C (rest := []) (a := v0) o_v0 [.int (1 : Int32)] yV_X11_known g_1493 (c_X11_known h) dX11_readSeen_14 rfl rfl (Nat.le_of_ble_eq_true rfl) ⟨by decide, by decide⟩ ⟨by decide, by decide⟩ ⟨rfl, rfl⟩ (fun x8 S6 h g7 => ?_)
  have h := h g7
  have o_a1 := gr_ob g7 o_a1
  have o_v0 := gr_ob g7 o_v0
  refine r_istore_n (pc := 17) C dX11_readSeen_17 rfl (by decide) (lv' := [(1, .int x8), (0, .ref v0)]) rfl ?_
  refine r_aload_n (pc := 18) C dX11_readSeen_18 1 rfl ?_
  refine r_callVv0 (pc := 19) C (rest := []) (a := v0) o_v0 [] yV_X11_goesOn g_1380 (c_X11_goesOn h) dX11_readSeen_19 rfl rfl (Nat.le_of_ble_eq_true rfl) ⟨by decide, by decide⟩ ⟨by decide, by decide⟩ ⟨rfl, rfl⟩ (fun S9 h g10 => ?_)
  have h := h g10
  have o_a1 := gr_ob g10 o_a1
  have o_v0 := gr_ob g10 o_v0
  refine r_iconst (pc := 22) C (v := (0 : Int32)) dX11_readSeen_22 (by decide) ?_
  refine r_istore_n (pc := 23) C dX11_readSeen_23 rfl (by decide) (lv' := [(2, .int (0 : Int32)), (1, .int x8), (0, .ref v0)]) rfl ?_
  exact r_sub [2, 1, 0] rfl (T_X11_readSeen_24 C E ht hn h)
def P_X11_readSeen (v0 : Nat) (Q : HS → Prop) (S : HS) : Prop := P_X11_readSeen_0 Q v0 S
theorem c_X11_readSeen {l : Launch} {Ee : EE} {S : HS} {v0 : Nat} {Q : HS → Prop} (h : P_X11_readSeen v0 Q S) : MV l yX11_readSeen cX11_readSeen 4 none rm_X11_readSeen Ee S [.ref v0] Q :=
  openV (by decide) (Nat.le_of_ble_eq_true rfl) (fun X C E ht hn hE hl => by subst hE; exact r_sub [0] rfl (T_X11_readSeen_0 C E ht hn h))
def rm_X11_readWalker : Room := { frames := 9, cells := 0, slots := 0, locals := 208 }
def P_X11_readWalker_149 (Q : HS → Prop) (v0 : Nat) (v1 : Int64) (v3 : Int32) (v4 : Int32) (s0 : Int32) (S : HS) : Prop := ob S v0 11 ∧ (P_X11_readPart v0 49 (1 : Int32) (9 : Int32) (fun x3 S1 => Gr S S1 → (P_X11_readPart v0 50 (1 : Int32) (9 : Int32) (fun x6 S4 => Gr S1 S4 → (P_X11_readPart v0 51 (s0 + (1 : Int32)) (9 : Int32) (fun x9 S7 => Gr S4 S7 → (P_X11_readPart v0 52 (1 : Int32) (9 : Int32) (fun x12 S10 => Gr S7 S10 → (P_X11_readPart v0 53 x12 (9 : Int32) (fun x15 S13 => Gr S10 S13 → (∀ x16 : Int32, x16 = fI S13 v0 9 → (((¬ x16 = (5 : Int32)) → (∃ a18 : Nat, fR S13 v0 4 = some a18 ∧ (ob S13 a18 10 ∧ (∀ x19 : Int32, x19 = fI S13 a18 4 → (P_X11_names v0 v1 (1 : Int32) x19 (fun S20 => Gr S13 S20 → (∃ a23 : Nat, fR S20 v0 4 = some a23 ∧ (ob S20 a23 10 ∧ (∃ a24 : Nat, fR S20 a23 19 = some a24 ∧ (ob S20 a24 13 ∧ (vp_in x19 (hN S20 a24) ∧ (∀ S26 : HS, S26 = sI S20 a24 x19.toNatClampNeg v3 → (∃ a27 : Nat, fR S26 v0 4 = some a27 ∧ (ob S26 a27 10 ∧ (∃ a28 : Nat, fR S26 a27 20 = some a28 ∧ (ob S26 a28 13 ∧ (vp_in x19 (hN S26 a28) ∧ (∀ S30 : HS, S30 = sI S26 a28 x19.toNatClampNeg v4 → (∃ a31 : Nat, fR S30 v0 4 = some a31 ∧ (ob S30 a31 10 ∧ (∃ a32 : Nat, fR S30 a31 21 = some a32 ∧ (ob S30 a32 13 ∧ (∀ x34 : Int32, x34 = x3 * (x6 + s0) → (vp_in x19 (hN S30 a32) ∧ (∀ S35 : HS, S35 = sI S30 a32 x19.toNatClampNeg x34 → (∃ a36 : Nat, fR S35 v0 4 = some a36 ∧ (ob S35 a36 10 ∧ (∃ a37 : Nat, fR S35 a36 22 = some a37 ∧ (ob S35 a37 13 ∧ (∀ x39 : Int32, x39 = x3 * (x9 - s0) → (vp_in x19 (hN S35 a37) ∧ (∀ S40 : HS, S40 = sI S35 a37 x19.toNatClampNeg x39 → (∃ a41 : Nat, fR S40 v0 4 = some a41 ∧ (ob S40 a41 10 ∧ (∃ a42 : Nat, fR S40 a41 23 = some a42 ∧ (ob S40 a42 13 ∧ (∀ x44 : Int32, x44 = (x6 + s0) * (x9 - s0) → (vp_in x19 (hN S40 a42) ∧ (∀ S45 : HS, S45 = sI S40 a42 x19.toNatClampNeg x44 → (∃ a46 : Nat, fR S45 v0 4 = some a46 ∧ (ob S45 a46 10 ∧ (∃ a47 : Nat, fR S45 a46 24 = some a47 ∧ (ob S45 a47 13 ∧ (vp_in x19 (hN S45 a47) ∧ (∀ S49 : HS, S49 = sI S45 a47 x19.toNatClampNeg x12 → (∃ a50 : Nat, fR S49 v0 4 = some a50 ∧ (ob S49 a50 10 ∧ (∃ a51 : Nat, fR S49 a50 25 = some a51 ∧ (ob S49 a51 13 ∧ (vp_in x19 (hN S49 a51) ∧ (∀ S53 : HS, S53 = sI S49 a51 x19.toNatClampNeg x15 → (∃ a54 : Nat, fR S53 v0 4 = some a54 ∧ (ob S53 a54 10 ∧ (∀ x55 : Int32, x55 = fI S53 a54 4 → (∀ x56 : Int32, x56 = x55 + (1 : Int32) → (∀ S57 : HS, S57 = sI S53 a54 4 x56 → (Q S57)))))))))))))))))))))))))))))))))))))))))))))))))))) S13))))) ∧ ((x16 = (5 : Int32)) → (Q S13))))) S10)) S7)) S4)) S1)) S)
set_option maxRecDepth 20000 in
set_option maxHeartbeats 4000000 in
theorem T_X11_readWalker_149 {X : CX} {Q : HS → Prop} (C : Cx X cX11_readWalker RX11 12 rm_X11_readWalker) (E : ReV X rm_X11_readWalker Q) (ht : (xh X).sig.returnType = none) (hn : (xh X).name = yX11_readWalker.name) {v0 : Nat} {v1 : Int64} {v3 : Int32} {v4 : Int32} {s0 : Int32} {S : HS} (h : P_X11_readWalker_149 Q v0 v1 v3 v4 s0 S) : WS X 12 0 0 149 [(0, .ref v0), (1, .long v1), (3, .int v3), (4, .int v4)] [.int s0] S := by
  refine r_istore (pc := 149) C dX11_readWalker_149 (by decide) (lv' := [(5, .int s0), (0, .ref v0), (1, .long v1), (3, .int v3), (4, .int v4)]) rfl ?_
  refine r_aload_n (pc := 151) C dX11_readWalker_151 1 rfl ?_
  refine r_ldsw (pc := 152) C 49 rfl dX11_readWalker_152 ?_
  refine r_iconst (pc := 155) C (v := (1 : Int32)) dX11_readWalker_155 (by decide) ?_
  refine r_bipush (pc := 156) C (v := (9 : Int32)) dX11_readWalker_156 (by decide) ?_
  obtain ⟨o_v0, h⟩ := h
  refine r_callVi0 (pc := 158) C (rest := []) (a := v0) o_v0 [.ref (eK (xE X) 49), .int (1 : Int32), .int (9 : Int32)] yV_X11_readPart g_1422 (c_X11_readPart h) dX11_readWalker_158 rfl rfl (Nat.le_of_ble_eq_true rfl) ⟨by decide, by decide⟩ ⟨by decide, by decide⟩ ⟨rfl, rfl⟩ (fun x3 S1 h g2 => ?_)
  have h := h g2
  have o_v0 := gr_ob g2 o_v0
  refine r_istore (pc := 161) C dX11_readWalker_161 (by decide) (lv' := [(6, .int x3), (5, .int s0), (0, .ref v0), (1, .long v1), (3, .int v3), (4, .int v4)]) rfl ?_
  refine r_aload_n (pc := 163) C dX11_readWalker_163 2 rfl ?_
  refine r_ldsw (pc := 164) C 50 rfl dX11_readWalker_164 ?_
  refine r_iconst (pc := 167) C (v := (1 : Int32)) dX11_readWalker_167 (by decide) ?_
  refine r_bipush (pc := 168) C (v := (9 : Int32)) dX11_readWalker_168 (by decide) ?_
  refine r_callVi0 (pc := 170) C (rest := []) (a := v0) o_v0 [.ref (eK (xE X) 50), .int (1 : Int32), .int (9 : Int32)] yV_X11_readPart g_1422 (c_X11_readPart h) dX11_readWalker_170 rfl rfl (Nat.le_of_ble_eq_true rfl) ⟨by decide, by decide⟩ ⟨by decide, by decide⟩ ⟨rfl, rfl⟩ (fun x6 S4 h g5 => ?_)
  have h := h g5
  have o_v0 := gr_ob g5 o_v0
  refine r_istore (pc := 173) C dX11_readWalker_173 (by decide) (lv' := [(7, .int x6), (6, .int x3), (5, .int s0), (0, .ref v0), (1, .long v1), (3, .int v3), (4, .int v4)]) rfl ?_
  refine r_aload_n (pc := 175) C dX11_readWalker_175 3 rfl ?_
  refine r_ldsw (pc := 176) C 51 rfl dX11_readWalker_176 ?_
  refine r_iload (pc := 179) C dX11_readWalker_179 2 rfl ?_
  refine r_iconst (pc := 181) C (v := (1 : Int32)) dX11_readWalker_181 (by decide) ?_
  refine r_iadd (pc := 182) C dX11_readWalker_182 ?_
  refine r_bipush (pc := 183) C (v := (9 : Int32)) dX11_readWalker_183 (by decide) ?_
  refine r_callVi0 (pc := 185) C (rest := []) (a := v0) o_v0 [.ref (eK (xE X) 51), .int (s0 + (1 : Int32)), .int (9 : Int32)] yV_X11_readPart g_1422 (c_X11_readPart h) dX11_readWalker_185 rfl rfl (Nat.le_of_ble_eq_true rfl) ⟨by decide, by decide⟩ ⟨by decide, by decide⟩ ⟨rfl, rfl⟩ (fun x9 S7 h g8 => ?_)
  have h := h g8
  have o_v0 := gr_ob g8 o_v0
  refine r_istore (pc := 188) C dX11_readWalker_188 (by decide) (lv' := [(8, .int x9), (7, .int x6), (6, .int x3), (5, .int s0), (0, .ref v0), (1, .long v1), (3, .int v3), (4, .int v4)]) rfl ?_
  refine r_aload_n (pc := 190) C dX11_readWalker_190 4 rfl ?_
  refine r_ldsw (pc := 191) C 52 rfl dX11_readWalker_191 ?_
  refine r_iconst (pc := 194) C (v := (1 : Int32)) dX11_readWalker_194 (by decide) ?_
  refine r_bipush (pc := 195) C (v := (9 : Int32)) dX11_readWalker_195 (by decide) ?_
  refine r_callVi0 (pc := 197) C (rest := []) (a := v0) o_v0 [.ref (eK (xE X) 52), .int (1 : Int32), .int (9 : Int32)] yV_X11_readPart g_1422 (c_X11_readPart h) dX11_readWalker_197 rfl rfl (Nat.le_of_ble_eq_true rfl) ⟨by decide, by decide⟩ ⟨by decide, by decide⟩ ⟨rfl, rfl⟩ (fun x12 S10 h g11 => ?_)
  have h := h g11
  have o_v0 := gr_ob g11 o_v0
  refine r_istore (pc := 200) C dX11_readWalker_200 (by decide) (lv' := [(9, .int x12), (8, .int x9), (7, .int x6), (6, .int x3), (5, .int s0), (0, .ref v0), (1, .long v1), (3, .int v3), (4, .int v4)]) rfl ?_
  refine r_aload_n (pc := 202) C dX11_readWalker_202 5 rfl ?_
  refine r_ldsw (pc := 203) C 53 rfl dX11_readWalker_203 ?_
  refine r_iload (pc := 206) C dX11_readWalker_206 0 rfl ?_
  refine r_bipush (pc := 208) C (v := (9 : Int32)) dX11_readWalker_208 (by decide) ?_
  refine r_callVi0 (pc := 210) C (rest := []) (a := v0) o_v0 [.ref (eK (xE X) 53), .int x12, .int (9 : Int32)] yV_X11_readPart g_1422 (c_X11_readPart h) dX11_readWalker_210 rfl rfl (Nat.le_of_ble_eq_true rfl) ⟨by decide, by decide⟩ ⟨by decide, by decide⟩ ⟨rfl, rfl⟩ (fun x15 S13 h g14 => ?_)
  have h := h g14
  have o_v0 := gr_ob g14 o_v0
  refine r_istore (pc := 213) C dX11_readWalker_213 (by decide) (lv' := [(10, .int x15), (9, .int x12), (8, .int x9), (7, .int x6), (6, .int x3), (5, .int s0), (0, .ref v0), (1, .long v1), (3, .int v3), (4, .int v4)]) rfl ?_
  refine r_aload_n (pc := 215) C dX11_readWalker_215 6 rfl ?_
  refine r_geti (pc := 216) C fL_X11_68 dX11_readWalker_216 o_v0 ?_
  refine r_topi (fun x16 ex16 => ?_)
  have h := h x16 ex16
  refine r_iconst (pc := 219) C (v := (5 : Int32)) dX11_readWalker_219 (by decide) ?_
  refine r_icmp_ne (pc := 220) C (tgt := 224) dX11_readWalker_220 (by decide) (fun c17 => ?_) (fun c17 => ?_)
  · have h := h.1 c17
    refine r_aload_n (pc := 224) C dX11_readWalker_224 6 rfl ?_
    obtain ⟨a18, ea18, h⟩ := h
    refine r_getr (pc := 225) C fL_X11_147 dX11_readWalker_225 o_v0 ea18 ?_
    obtain ⟨o_a18, h⟩ := h
    refine r_getNi (pc := 228) C fN_X11_193 dX11_readWalker_228 o_a18 ?_
    refine r_topi (fun x19 ex19 => ?_)
    have h := h x19 ex19
    refine r_istore (pc := 231) C dX11_readWalker_231 (by decide) (lv' := [(11, .int x19), (10, .int x15), (9, .int x12), (8, .int x9), (7, .int x6), (6, .int x3), (5, .int s0), (0, .ref v0), (1, .long v1), (3, .int v3), (4, .int v4)]) rfl ?_
    refine r_aload_n (pc := 233) C dX11_readWalker_233 7 rfl ?_
    refine r_lload_n (pc := 234) C dX11_readWalker_234 8 rfl ?_
    refine r_iconst (pc := 235) C (v := (1 : Int32)) dX11_readWalker_235 (by decide) ?_
    refine r_iload (pc := 236) C dX11_readWalker_236 0 rfl ?_
    refine r_callVv0 (pc := 238) C (rest := []) (a := v0) o_v0 [.long v1, .int (1 : Int32), .int x19] yV_X11_names g_1485 (c_X11_names h) dX11_readWalker_238 rfl rfl (Nat.le_of_ble_eq_true rfl) ⟨by decide, by decide⟩ ⟨by decide, by decide⟩ ⟨rfl, rfl⟩ (fun S20 h g21 => ?_)
    have h := h g21
    have o_a18 := gr_ob g21 o_a18
    have o_v0 := gr_ob g21 o_v0
    refine r_aload_n (pc := 241) C dX11_readWalker_241 7 rfl ?_
    obtain ⟨a23, ea23, h⟩ := h
    refine r_getr (pc := 242) C fL_X11_147 dX11_readWalker_242 o_v0 ea23 ?_
    obtain ⟨o_a23, h⟩ := h
    obtain ⟨a24, ea24, h⟩ := h
    refine r_getNr (pc := 245) C fN_X11_302 dX11_readWalker_245 o_a23 ea24 ?_
    refine r_iload (pc := 248) C dX11_readWalker_248 0 rfl ?_
    refine r_iload_n (pc := 250) C dX11_readWalker_250 9 rfl ?_
    obtain ⟨o_a24, h⟩ := h
    obtain ⟨i25, h⟩ := h
    refine r_iast (pc := 251) C dX11_readWalker_251 o_a24 i25 ?_
    refine r_heap (fun S26 eS26 => ?_)
    have h := h S26 eS26
    have o_a18 := ob_I eS26 o_a18
    have o_a23 := ob_I eS26 o_a23
    have o_a24 := ob_I eS26 o_a24
    have o_v0 := ob_I eS26 o_v0
    refine r_aload_n (pc := 252) C dX11_readWalker_252 7 rfl ?_
    obtain ⟨a27, ea27, h⟩ := h
    refine r_getr (pc := 253) C fL_X11_147 dX11_readWalker_253 o_v0 ea27 ?_
    obtain ⟨o_a27, h⟩ := h
    obtain ⟨a28, ea28, h⟩ := h
    refine r_getNr (pc := 256) C fN_X11_305 dX11_readWalker_256 o_a27 ea28 ?_
    refine r_iload (pc := 259) C dX11_readWalker_259 0 rfl ?_
    refine r_iload (pc := 261) C dX11_readWalker_261 10 rfl ?_
    obtain ⟨o_a28, h⟩ := h
    obtain ⟨i29, h⟩ := h
    refine r_iast (pc := 263) C dX11_readWalker_263 o_a28 i29 ?_
    refine r_heap (fun S30 eS30 => ?_)
    have h := h S30 eS30
    have o_a18 := ob_I eS30 o_a18
    have o_a23 := ob_I eS30 o_a23
    have o_a24 := ob_I eS30 o_a24
    have o_a27 := ob_I eS30 o_a27
    have o_a28 := ob_I eS30 o_a28
    have o_v0 := ob_I eS30 o_v0
    refine r_aload_n (pc := 264) C dX11_readWalker_264 7 rfl ?_
    obtain ⟨a31, ea31, h⟩ := h
    refine r_getr (pc := 265) C fL_X11_147 dX11_readWalker_265 o_v0 ea31 ?_
    obtain ⟨o_a31, h⟩ := h
    obtain ⟨a32, ea32, h⟩ := h
    refine r_getNr (pc := 268) C fN_X11_308 dX11_readWalker_268 o_a31 ea32 ?_
    refine r_iload (pc := 271) C dX11_readWalker_271 0 rfl ?_
    refine r_iload (pc := 273) C dX11_readWalker_273 5 rfl ?_
    refine r_iload (pc := 275) C dX11_readWalker_275 4 rfl ?_
    refine r_iload (pc := 277) C dX11_readWalker_277 6 rfl ?_
    refine r_iadd (pc := 279) C dX11_readWalker_279 ?_
    refine r_imul (pc := 280) C dX11_readWalker_280 ?_
    obtain ⟨o_a32, h⟩ := h
    refine r_topi (fun x34 ex34 => ?_)
    have h := h x34 ex34
    obtain ⟨i33, h⟩ := h
    refine r_iast (pc := 281) C dX11_readWalker_281 o_a32 i33 ?_
    refine r_heap (fun S35 eS35 => ?_)
    have h := h S35 eS35
    have o_a18 := ob_I eS35 o_a18
    have o_a23 := ob_I eS35 o_a23
    have o_a24 := ob_I eS35 o_a24
    have o_a27 := ob_I eS35 o_a27
    have o_a28 := ob_I eS35 o_a28
    have o_a31 := ob_I eS35 o_a31
    have o_a32 := ob_I eS35 o_a32
    have o_v0 := ob_I eS35 o_v0
    refine r_aload_n (pc := 282) C dX11_readWalker_282 7 rfl ?_
    obtain ⟨a36, ea36, h⟩ := h
    refine r_getr (pc := 283) C fL_X11_147 dX11_readWalker_283 o_v0 ea36 ?_
    obtain ⟨o_a36, h⟩ := h
    obtain ⟨a37, ea37, h⟩ := h
    refine r_getNr (pc := 286) C fN_X11_311 dX11_readWalker_286 o_a36 ea37 ?_
    refine r_iload (pc := 289) C dX11_readWalker_289 0 rfl ?_
    refine r_iload (pc := 291) C dX11_readWalker_291 5 rfl ?_
    refine r_iload (pc := 293) C dX11_readWalker_293 3 rfl ?_
    refine r_iload (pc := 295) C dX11_readWalker_295 6 rfl ?_
    refine r_isub (pc := 297) C dX11_readWalker_297 ?_
    refine r_imul (pc := 298) C dX11_readWalker_298 ?_
    obtain ⟨o_a37, h⟩ := h
    refine r_topi (fun x39 ex39 => ?_)
    have h := h x39 ex39
    obtain ⟨i38, h⟩ := h
    refine r_iast (pc := 299) C dX11_readWalker_299 o_a37 i38 ?_
    refine r_heap (fun S40 eS40 => ?_)
    have h := h S40 eS40
    have o_a18 := ob_I eS40 o_a18
    have o_a23 := ob_I eS40 o_a23
    have o_a24 := ob_I eS40 o_a24
    have o_a27 := ob_I eS40 o_a27
    have o_a28 := ob_I eS40 o_a28
    have o_a31 := ob_I eS40 o_a31
    have o_a32 := ob_I eS40 o_a32
    have o_a36 := ob_I eS40 o_a36
    have o_a37 := ob_I eS40 o_a37
    have o_v0 := ob_I eS40 o_v0
    refine r_aload_n (pc := 300) C dX11_readWalker_300 7 rfl ?_
    obtain ⟨a41, ea41, h⟩ := h
    refine r_getr (pc := 301) C fL_X11_147 dX11_readWalker_301 o_v0 ea41 ?_
    obtain ⟨o_a41, h⟩ := h
    obtain ⟨a42, ea42, h⟩ := h
    refine r_getNr (pc := 304) C fN_X11_314 dX11_readWalker_304 o_a41 ea42 ?_
    refine r_iload (pc := 307) C dX11_readWalker_307 0 rfl ?_
    refine r_iload (pc := 309) C dX11_readWalker_309 4 rfl ?_
    refine r_iload (pc := 311) C dX11_readWalker_311 6 rfl ?_
    refine r_iadd (pc := 313) C dX11_readWalker_313 ?_
    refine r_iload (pc := 314) C dX11_readWalker_314 3 rfl ?_
    refine r_iload (pc := 316) C dX11_readWalker_316 6 rfl ?_
    refine r_isub (pc := 318) C dX11_readWalker_318 ?_
    refine r_imul (pc := 319) C dX11_readWalker_319 ?_
    obtain ⟨o_a42, h⟩ := h
    refine r_topi (fun x44 ex44 => ?_)
    have h := h x44 ex44
    obtain ⟨i43, h⟩ := h
    refine r_iast (pc := 320) C dX11_readWalker_320 o_a42 i43 ?_
    refine r_heap (fun S45 eS45 => ?_)
    have h := h S45 eS45
    have o_a18 := ob_I eS45 o_a18
    have o_a23 := ob_I eS45 o_a23
    have o_a24 := ob_I eS45 o_a24
    have o_a27 := ob_I eS45 o_a27
    have o_a28 := ob_I eS45 o_a28
    have o_a31 := ob_I eS45 o_a31
    have o_a32 := ob_I eS45 o_a32
    have o_a36 := ob_I eS45 o_a36
    have o_a37 := ob_I eS45 o_a37
    have o_a41 := ob_I eS45 o_a41
    have o_a42 := ob_I eS45 o_a42
    have o_v0 := ob_I eS45 o_v0
    refine r_aload_n (pc := 321) C dX11_readWalker_321 7 rfl ?_
    obtain ⟨a46, ea46, h⟩ := h
    refine r_getr (pc := 322) C fL_X11_147 dX11_readWalker_322 o_v0 ea46 ?_
    obtain ⟨o_a46, h⟩ := h
    obtain ⟨a47, ea47, h⟩ := h
    refine r_getNr (pc := 325) C fN_X11_317 dX11_readWalker_325 o_a46 ea47 ?_
    refine r_iload (pc := 328) C dX11_readWalker_328 0 rfl ?_
    refine r_iload (pc := 330) C dX11_readWalker_330 2 rfl ?_
    obtain ⟨o_a47, h⟩ := h
    obtain ⟨i48, h⟩ := h
    refine r_iast (pc := 332) C dX11_readWalker_332 o_a47 i48 ?_
    refine r_heap (fun S49 eS49 => ?_)
    have h := h S49 eS49
    have o_a18 := ob_I eS49 o_a18
    have o_a23 := ob_I eS49 o_a23
    have o_a24 := ob_I eS49 o_a24
    have o_a27 := ob_I eS49 o_a27
    have o_a28 := ob_I eS49 o_a28
    have o_a31 := ob_I eS49 o_a31
    have o_a32 := ob_I eS49 o_a32
    have o_a36 := ob_I eS49 o_a36
    have o_a37 := ob_I eS49 o_a37
    have o_a41 := ob_I eS49 o_a41
    have o_a42 := ob_I eS49 o_a42
    have o_a46 := ob_I eS49 o_a46
    have o_a47 := ob_I eS49 o_a47
    have o_v0 := ob_I eS49 o_v0
    refine r_aload_n (pc := 333) C dX11_readWalker_333 7 rfl ?_
    obtain ⟨a50, ea50, h⟩ := h
    refine r_getr (pc := 334) C fL_X11_147 dX11_readWalker_334 o_v0 ea50 ?_
    obtain ⟨o_a50, h⟩ := h
    obtain ⟨a51, ea51, h⟩ := h
    refine r_getNr (pc := 337) C fN_X11_320 dX11_readWalker_337 o_a50 ea51 ?_
    refine r_iload (pc := 340) C dX11_readWalker_340 0 rfl ?_
    refine r_iload (pc := 342) C dX11_readWalker_342 1 rfl ?_
    obtain ⟨o_a51, h⟩ := h
    obtain ⟨i52, h⟩ := h
    refine r_iast (pc := 344) C dX11_readWalker_344 o_a51 i52 ?_
    refine r_heap (fun S53 eS53 => ?_)
    have h := h S53 eS53
    have o_a18 := ob_I eS53 o_a18
    have o_a23 := ob_I eS53 o_a23
    have o_a24 := ob_I eS53 o_a24
    have o_a27 := ob_I eS53 o_a27
    have o_a28 := ob_I eS53 o_a28
    have o_a31 := ob_I eS53 o_a31
    have o_a32 := ob_I eS53 o_a32
    have o_a36 := ob_I eS53 o_a36
    have o_a37 := ob_I eS53 o_a37
    have o_a41 := ob_I eS53 o_a41
    have o_a42 := ob_I eS53 o_a42
    have o_a46 := ob_I eS53 o_a46
    have o_a47 := ob_I eS53 o_a47
    have o_a50 := ob_I eS53 o_a50
    have o_a51 := ob_I eS53 o_a51
    have o_v0 := ob_I eS53 o_v0
    refine r_aload_n (pc := 345) C dX11_readWalker_345 7 rfl ?_
    obtain ⟨a54, ea54, h⟩ := h
    refine r_getr (pc := 346) C fL_X11_147 dX11_readWalker_346 o_v0 ea54 ?_
    refine r_dup (pc := 349) C dX11_readWalker_349 rfl ?_
    obtain ⟨o_a54, h⟩ := h
    refine r_getNi (pc := 350) C fN_X11_193 dX11_readWalker_350 o_a54 ?_
    refine r_topi (fun x55 ex55 => ?_)
    have h := h x55 ex55
    refine r_iconst (pc := 353) C (v := (1 : Int32)) dX11_readWalker_353 (by decide) ?_
    refine r_iadd (pc := 354) C dX11_readWalker_354 ?_
    refine r_topi (fun x56 ex56 => ?_)
    have h := h x56 ex56
    refine r_putNi (pc := 355) C pfN_X11_193 dX11_readWalker_355 o_a54 ?_
    refine r_heap (fun S57 eS57 => ?_)
    have h := h S57 eS57
    have o_a18 := ob_I eS57 o_a18
    have o_a23 := ob_I eS57 o_a23
    have o_a24 := ob_I eS57 o_a24
    have o_a27 := ob_I eS57 o_a27
    have o_a28 := ob_I eS57 o_a28
    have o_a31 := ob_I eS57 o_a31
    have o_a32 := ob_I eS57 o_a32
    have o_a36 := ob_I eS57 o_a36
    have o_a37 := ob_I eS57 o_a37
    have o_a41 := ob_I eS57 o_a41
    have o_a42 := ob_I eS57 o_a42
    have o_a46 := ob_I eS57 o_a46
    have o_a47 := ob_I eS57 o_a47
    have o_a50 := ob_I eS57 o_a50
    have o_a51 := ob_I eS57 o_a51
    have o_a54 := ob_I eS57 o_a54
    have o_v0 := ob_I eS57 o_v0
    exact r_vret (pc := 358) C E ht dX11_readWalker_358 (by decide) (by decide) h
  · have h := h.2 c17
    exact r_vret (pc := 223) C E ht dX11_readWalker_223 (by decide) (by decide) h
def P_X11_readWalker_136 (Q : HS → Prop) (v0 : Nat) (v1 : Int64) (v3 : Int32) (s0 : Int32) (S : HS) : Prop := ((¬ v3 = (1 : Int32)) → (P_X11_readWalker_149 Q v0 v1 v3 s0 (0 : Int32) S)) ∧ ((v3 = (1 : Int32)) → (P_X11_readWalker_149 Q v0 v1 v3 s0 s0 S))
set_option maxRecDepth 20000 in
set_option maxHeartbeats 4000000 in
theorem T_X11_readWalker_136 {X : CX} {Q : HS → Prop} (C : Cx X cX11_readWalker RX11 12 rm_X11_readWalker) (E : ReV X rm_X11_readWalker Q) (ht : (xh X).sig.returnType = none) (hn : (xh X).name = yX11_readWalker.name) {v0 : Nat} {v1 : Int64} {v3 : Int32} {s0 : Int32} {S : HS} (h : P_X11_readWalker_136 Q v0 v1 v3 s0 S) : WS X 12 0 0 136 [(0, .ref v0), (1, .long v1), (3, .int v3)] [.int s0] S := by
  refine r_istore (pc := 136) C dX11_readWalker_136 (by decide) (lv' := [(4, .int s0), (0, .ref v0), (1, .long v1), (3, .int v3)]) rfl ?_
  refine r_iload_n (pc := 138) C dX11_readWalker_138 3 rfl ?_
  refine r_iconst (pc := 139) C (v := (1 : Int32)) dX11_readWalker_139 (by decide) ?_
  refine r_icmp_ne (pc := 140) C (tgt := 148) dX11_readWalker_140 (by decide) (fun c1 => ?_) (fun c1 => ?_)
  · have h := h.1 c1
    refine r_iconst (pc := 148) C (v := (0 : Int32)) dX11_readWalker_148 (by decide) ?_
    exact r_sub [1, 2, 3, 0] rfl (T_X11_readWalker_149 C E ht hn h)
  · have h := h.2 c1
    refine r_iload (pc := 143) C dX11_readWalker_143 0 rfl ?_
    refine r_goto (pc := 145) C (tgt := 149) dX11_readWalker_145 (by decide) ?_
    exact r_sub [1, 2, 3, 0] rfl (T_X11_readWalker_149 C E ht hn h)
def P_X11_readWalker_85 (Q : HS → Prop) (v0 : Nat) (v1 : Int64) (v3 : Int32) (S : HS) : Prop := ob S v0 11 ∧ (P_X11_goesOn v0 (fun S1 => Gr S S1 → (((¬ v3 = (1 : Int32)) → (((¬ v3 = (2 : Int32)) → (((¬ v3 = (3 : Int32)) → (P_X11_readWalker_136 Q v0 v1 v3 (0 : Int32) S1)) ∧ ((v3 = (3 : Int32)) → (P_X11_readWhole v0 (1 : Int32) (99 : Int32) (fun x9 S7 => Gr S1 S7 → (P_X11_readWalker_136 Q v0 v1 v3 x9 S7)) S1)))) ∧ ((v3 = (2 : Int32)) → (P_X11_readWhole v0 (0 : Int32) (999 : Int32) (fun x12 S10 => Gr S1 S10 → (P_X11_readWalker_136 Q v0 v1 v3 x12 S10)) S1)))) ∧ ((v3 = (1 : Int32)) → (P_X11_readWhole v0 (1 : Int32) (8 : Int32) (fun x15 S13 => Gr S1 S13 → (P_X11_readWalker_136 Q v0 v1 v3 x15 S13)) S1)))) S)
set_option maxRecDepth 20000 in
set_option maxHeartbeats 4000000 in
theorem T_X11_readWalker_85 {X : CX} {Q : HS → Prop} (C : Cx X cX11_readWalker RX11 12 rm_X11_readWalker) (E : ReV X rm_X11_readWalker Q) (ht : (xh X).sig.returnType = none) (hn : (xh X).name = yX11_readWalker.name) {v0 : Nat} {v1 : Int64} {v3 : Int32} {S : HS} (h : P_X11_readWalker_85 Q v0 v1 v3 S) : WS X 12 0 0 85 [(0, .ref v0), (1, .long v1), (3, .int v3)] [] S := by
  refine r_aload_n (pc := 85) C dX11_readWalker_85 0 rfl ?_
  obtain ⟨o_v0, h⟩ := h
  refine r_callVv0 (pc := 86) C (rest := []) (a := v0) o_v0 [] yV_X11_goesOn g_1380 (c_X11_goesOn h) dX11_readWalker_86 rfl rfl (Nat.le_of_ble_eq_true rfl) ⟨by decide, by decide⟩ ⟨by decide, by decide⟩ ⟨rfl, rfl⟩ (fun S1 h g2 => ?_)
  have h := h g2
  have o_v0 := gr_ob g2 o_v0
  refine r_iload_n (pc := 89) C dX11_readWalker_89 2 rfl ?_
  refine r_iconst (pc := 90) C (v := (1 : Int32)) dX11_readWalker_90 (by decide) ?_
  refine r_icmp_ne (pc := 91) C (tgt := 104) dX11_readWalker_91 (by decide) (fun c4 => ?_) (fun c4 => ?_)
  · have h := h.1 c4
    refine r_iload_n (pc := 104) C dX11_readWalker_104 2 rfl ?_
    refine r_iconst (pc := 105) C (v := (2 : Int32)) dX11_readWalker_105 (by decide) ?_
    refine r_icmp_ne (pc := 106) C (tgt := 120) dX11_readWalker_106 (by decide) (fun c5 => ?_) (fun c5 => ?_)
    · have h := h.1 c5
      refine r_iload_n (pc := 120) C dX11_readWalker_120 2 rfl ?_
      refine r_iconst (pc := 121) C (v := (3 : Int32)) dX11_readWalker_121 (by decide) ?_
      refine r_icmp_ne (pc := 122) C (tgt := 135) dX11_readWalker_122 (by decide) (fun c6 => ?_) (fun c6 => ?_)
      · have h := h.1 c6
        refine r_iconst (pc := 135) C (v := (0 : Int32)) dX11_readWalker_135 (by decide) ?_
        exact r_sub [0, 1, 2] rfl (T_X11_readWalker_136 C E ht hn h)
      · have h := h.2 c6
        refine r_aload_n (pc := 125) C dX11_readWalker_125 0 rfl ?_
        refine r_iconst (pc := 126) C (v := (1 : Int32)) dX11_readWalker_126 (by decide) ?_
        refine r_bipush (pc := 127) C (v := (99 : Int32)) dX11_readWalker_127 (by decide) ?_
        refine r_callVi0 (pc := 129) C (rest := []) (a := v0) o_v0 [.int (1 : Int32), .int (99 : Int32)] yV_X11_readWhole g_1430 (c_X11_readWhole h) dX11_readWalker_129 rfl rfl (Nat.le_of_ble_eq_true rfl) ⟨by decide, by decide⟩ ⟨by decide, by decide⟩ ⟨rfl, rfl⟩ (fun x9 S7 h g8 => ?_)
        have h := h g8
        have o_v0 := gr_ob g8 o_v0
        refine r_goto (pc := 132) C (tgt := 136) dX11_readWalker_132 (by decide) ?_
        exact r_sub [0, 1, 2] rfl (T_X11_readWalker_136 C E ht hn h)
    · have h := h.2 c5
      refine r_aload_n (pc := 109) C dX11_readWalker_109 0 rfl ?_
      refine r_iconst (pc := 110) C (v := (0 : Int32)) dX11_readWalker_110 (by decide) ?_
      refine r_sipush (pc := 111) C (v := (999 : Int32)) dX11_readWalker_111 (by decide) ?_
      refine r_callVi0 (pc := 114) C (rest := []) (a := v0) o_v0 [.int (0 : Int32), .int (999 : Int32)] yV_X11_readWhole g_1430 (c_X11_readWhole h) dX11_readWalker_114 rfl rfl (Nat.le_of_ble_eq_true rfl) ⟨by decide, by decide⟩ ⟨by decide, by decide⟩ ⟨rfl, rfl⟩ (fun x12 S10 h g11 => ?_)
      have h := h g11
      have o_v0 := gr_ob g11 o_v0
      refine r_goto (pc := 117) C (tgt := 136) dX11_readWalker_117 (by decide) ?_
      exact r_sub [0, 1, 2] rfl (T_X11_readWalker_136 C E ht hn h)
  · have h := h.2 c4
    refine r_aload_n (pc := 94) C dX11_readWalker_94 0 rfl ?_
    refine r_iconst (pc := 95) C (v := (1 : Int32)) dX11_readWalker_95 (by decide) ?_
    refine r_bipush (pc := 96) C (v := (8 : Int32)) dX11_readWalker_96 (by decide) ?_
    refine r_callVi0 (pc := 98) C (rest := []) (a := v0) o_v0 [.int (1 : Int32), .int (8 : Int32)] yV_X11_readWhole g_1430 (c_X11_readWhole h) dX11_readWalker_98 rfl rfl (Nat.le_of_ble_eq_true rfl) ⟨by decide, by decide⟩ ⟨by decide, by decide⟩ ⟨rfl, rfl⟩ (fun x15 S13 h g14 => ?_)
    have h := h g14
    have o_v0 := gr_ob g14 o_v0
    refine r_goto (pc := 101) C (tgt := 136) dX11_readWalker_101 (by decide) ?_
    exact r_sub [0, 1, 2] rfl (T_X11_readWalker_136 C E ht hn h)
def P_X11_readWalker_74 (Q : HS → Prop) (v0 : Nat) (v1 : Int64) (s0 : Int32) (S : HS) : Prop := ((¬ s0 = (-1 : Int32)) → (P_X11_readWalker_85 Q v0 v1 s0 S)) ∧ ((s0 = (-1 : Int32)) → (ob S v0 11 ∧ (P_X11_flaw v0 (1 : Int32) (fun S2 => Gr S S2 → (P_X11_readWalker_85 Q v0 v1 s0 S2)) S)))
set_option maxRecDepth 20000 in
set_option maxHeartbeats 4000000 in
theorem T_X11_readWalker_74 {X : CX} {Q : HS → Prop} (C : Cx X cX11_readWalker RX11 12 rm_X11_readWalker) (E : ReV X rm_X11_readWalker Q) (ht : (xh X).sig.returnType = none) (hn : (xh X).name = yX11_readWalker.name) {v0 : Nat} {v1 : Int64} {s0 : Int32} {S : HS} (h : P_X11_readWalker_74 Q v0 v1 s0 S) : WS X 12 0 0 74 [(0, .ref v0), (1, .long v1)] [.int s0] S := by
  refine r_istore_n (pc := 74) C dX11_readWalker_74 rfl (by decide) (lv' := [(3, .int s0), (0, .ref v0), (1, .long v1)]) rfl ?_
  refine r_iload_n (pc := 75) C dX11_readWalker_75 0 rfl ?_
  refine r_iconst (pc := 76) C (v := (-1 : Int32)) dX11_readWalker_76 (by decide) ?_
  refine r_icmp_ne (pc := 77) C (tgt := 85) dX11_readWalker_77 (by decide) (fun c1 => ?_) (fun c1 => ?_)
  · have h := h.1 c1
    exact r_sub [1, 2, 0] rfl (T_X11_readWalker_85 C E ht hn h)
  · have h := h.2 c1
    refine r_aload_n (pc := 80) C dX11_readWalker_80 1 rfl ?_
    refine r_iconst (pc := 81) C (v := (1 : Int32)) dX11_readWalker_81 (by decide) ?_
    obtain ⟨o_v0, h⟩ := h
    refine r_callVv0 (pc := 82) C (rest := []) (a := v0) o_v0 [.int (1 : Int32)] yV_X11_flaw g_1417 (c_X11_flaw h) dX11_readWalker_82 rfl rfl (Nat.le_of_ble_eq_true rfl) ⟨by decide, by decide⟩ ⟨by decide, by decide⟩ ⟨rfl, rfl⟩ (fun S2 h g3 => ?_)
    have h := h g3
    have o_v0 := gr_ob g3 o_v0
    exact r_sub [1, 2, 0] rfl (T_X11_readWalker_85 C E ht hn h)
def P_X11_readWalker_0 (Q : HS → Prop) (v0 : Nat) (S : HS) : Prop := ob S v0 11 ∧ (∃ a1 : Nat, fR S v0 4 = some a1 ∧ (ob S a1 10 ∧ (∀ x2 : Int32, x2 = fI S a1 4 → (P_X11_begins v0 x2 (4 : Int32) (fun S3 => Gr S S3 → (P_X11_readFresh v0 (fun x8 S6 => Gr S3 S6 → (P_X11_isWord v0 45 (fun x11 S9 => Gr S6 S9 → bl x11 → (((x11 = 0) → (P_X11_isWord v0 46 (fun x15 S13 => Gr S9 S13 → bl x15 → (((x15 = 0) → (P_X11_isWord v0 47 (fun x19 S17 => Gr S13 S17 → bl x19 → (((x19 = 0) → (P_X11_isWord v0 48 (fun x23 S21 => Gr S17 S21 → bl x23 → (((x23 = 0) → (P_X11_readWalker_74 Q v0 x8 (-1 : Int32) S21)) ∧ ((¬ x23 = 0) → (P_X11_readWalker_74 Q v0 x8 (3 : Int32) S21)))) S17)) ∧ ((¬ x19 = 0) → (P_X11_readWalker_74 Q v0 x8 (2 : Int32) S17)))) S13)) ∧ ((¬ x15 = 0) → (P_X11_readWalker_74 Q v0 x8 (1 : Int32) S13)))) S9)) ∧ ((¬ x11 = 0) → (P_X11_readWalker_74 Q v0 x8 (0 : Int32) S9)))) S6)) S3)) S))))
set_option maxRecDepth 20000 in
set_option maxHeartbeats 4000000 in
theorem T_X11_readWalker_0 {X : CX} {Q : HS → Prop} (C : Cx X cX11_readWalker RX11 12 rm_X11_readWalker) (E : ReV X rm_X11_readWalker Q) (ht : (xh X).sig.returnType = none) (hn : (xh X).name = yX11_readWalker.name) {v0 : Nat} {S : HS} (h : P_X11_readWalker_0 Q v0 S) : WS X 12 0 0 0 [(0, .ref v0)] [] S := by
  refine r_aload_n (pc := 0) C dX11_readWalker_0 0 rfl ?_
  refine r_aload_n (pc := 1) C dX11_readWalker_1 0 rfl ?_
  obtain ⟨o_v0, h⟩ := h
  obtain ⟨a1, ea1, h⟩ := h
  refine r_getr (pc := 2) C fL_X11_147 dX11_readWalker_2 o_v0 ea1 ?_
  obtain ⟨o_a1, h⟩ := h
  refine r_getNi (pc := 5) C fN_X11_193 dX11_readWalker_5 o_a1 ?_
  refine r_topi (fun x2 ex2 => ?_)
  have h := h x2 ex2
  refine r_iconst (pc := 8) C (v := (4 : Int32)) dX11_readWalker_8 (by decide) ?_
  refine r_callVv0 (pc := 9) C (rest := []) (a := v0) o_v0 [.int x2, .int (4 : Int32)] yV_X11_begins g_1442 (c_X11_begins h) dX11_readWalker_9 rfl rfl (Nat.le_of_ble_eq_true rfl) ⟨by decide, by decide⟩ ⟨by decide, by decide⟩ ⟨rfl, rfl⟩ (fun S3 h g4 => ?_)
  have h := h g4
  have o_a1 := gr_ob g4 o_a1
  have o_v0 := gr_ob g4 o_v0
  refine r_aload_n (pc := 12) C dX11_readWalker_12 0 rfl ?_
  refine r_callVl0 (pc := 13) C (rest := []) (a := v0) o_v0 [] yV_X11_readFresh g_1463 (c_X11_readFresh h) dX11_readWalker_13 rfl rfl (Nat.le_of_ble_eq_true rfl) ⟨by decide, by decide⟩ ⟨by decide, by decide⟩ ⟨rfl, rfl⟩ (fun x8 S6 h g7 => ?_)
  have h := h g7
  have o_a1 := gr_ob g7 o_a1
  have o_v0 := gr_ob g7 o_v0
  refine r_lstore_n (pc := 16) C dX11_readWalker_16 rfl (by decide) (lv' := [(1, .long x8), (0, .ref v0)]) rfl ?_
  refine r_aload_n (pc := 17) C dX11_readWalker_17 1 rfl ?_
  refine r_ldsw (pc := 18) C 45 rfl dX11_readWalker_18 ?_
  refine r_callVi0 (pc := 21) C (rest := []) (a := v0) o_v0 [.ref (eK (xE X) 45)] yV_X11_isWord g_1404 (c_X11_isWord h) dX11_readWalker_21 rfl rfl (Nat.le_of_ble_eq_true rfl) ⟨by decide, by decide⟩ ⟨by decide, by decide⟩ ⟨rfl, rfl⟩ (fun x11 S9 h g10 => ?_)
  have bx11 := h.1
  have h := h.2 g10 bx11
  have o_a1 := gr_ob g10 o_a1
  have o_v0 := gr_ob g10 o_v0
  refine r_if_eq (pc := 24) C (tgt := 31) dX11_readWalker_24 (by decide) (fun c12 => ?_) (fun c12 => ?_)
  · have h := h.1 c12
    refine r_aload_n (pc := 31) C dX11_readWalker_31 1 rfl ?_
    refine r_ldsw (pc := 32) C 46 rfl dX11_readWalker_32 ?_
    refine r_callVi0 (pc := 35) C (rest := []) (a := v0) o_v0 [.ref (eK (xE X) 46)] yV_X11_isWord g_1404 (c_X11_isWord h) dX11_readWalker_35 rfl rfl (Nat.le_of_ble_eq_true rfl) ⟨by decide, by decide⟩ ⟨by decide, by decide⟩ ⟨rfl, rfl⟩ (fun x15 S13 h g14 => ?_)
    have bx15 := h.1
    have h := h.2 g14 bx15
    have o_a1 := gr_ob g14 o_a1
    have o_v0 := gr_ob g14 o_v0
    refine r_if_eq (pc := 38) C (tgt := 45) dX11_readWalker_38 (by decide) (fun c16 => ?_) (fun c16 => ?_)
    · have h := h.1 c16
      refine r_aload_n (pc := 45) C dX11_readWalker_45 1 rfl ?_
      refine r_ldsw (pc := 46) C 47 rfl dX11_readWalker_46 ?_
      refine r_callVi0 (pc := 49) C (rest := []) (a := v0) o_v0 [.ref (eK (xE X) 47)] yV_X11_isWord g_1404 (c_X11_isWord h) dX11_readWalker_49 rfl rfl (Nat.le_of_ble_eq_true rfl) ⟨by decide, by decide⟩ ⟨by decide, by decide⟩ ⟨rfl, rfl⟩ (fun x19 S17 h g18 => ?_)
      have bx19 := h.1
      have h := h.2 g18 bx19
      have o_a1 := gr_ob g18 o_a1
      have o_v0 := gr_ob g18 o_v0
      refine r_if_eq (pc := 52) C (tgt := 59) dX11_readWalker_52 (by decide) (fun c20 => ?_) (fun c20 => ?_)
      · have h := h.1 c20
        refine r_aload_n (pc := 59) C dX11_readWalker_59 1 rfl ?_
        refine r_ldsw (pc := 60) C 48 rfl dX11_readWalker_60 ?_
        refine r_callVi0 (pc := 63) C (rest := []) (a := v0) o_v0 [.ref (eK (xE X) 48)] yV_X11_isWord g_1404 (c_X11_isWord h) dX11_readWalker_63 rfl rfl (Nat.le_of_ble_eq_true rfl) ⟨by decide, by decide⟩ ⟨by decide, by decide⟩ ⟨rfl, rfl⟩ (fun x23 S21 h g22 => ?_)
        have bx23 := h.1
        have h := h.2 g22 bx23
        have o_a1 := gr_ob g22 o_a1
        have o_v0 := gr_ob g22 o_v0
        refine r_if_eq (pc := 66) C (tgt := 73) dX11_readWalker_66 (by decide) (fun c24 => ?_) (fun c24 => ?_)
        · have h := h.1 c24
          refine r_iconst (pc := 73) C (v := (-1 : Int32)) dX11_readWalker_73 (by decide) ?_
          exact r_sub [1, 0] rfl (T_X11_readWalker_74 C E ht hn h)
        · have h := h.2 c24
          refine r_iconst (pc := 69) C (v := (3 : Int32)) dX11_readWalker_69 (by decide) ?_
          refine r_goto (pc := 70) C (tgt := 74) dX11_readWalker_70 (by decide) ?_
          exact r_sub [1, 0] rfl (T_X11_readWalker_74 C E ht hn h)
      · have h := h.2 c20
        refine r_iconst (pc := 55) C (v := (2 : Int32)) dX11_readWalker_55 (by decide) ?_
        refine r_goto (pc := 56) C (tgt := 74) dX11_readWalker_56 (by decide) ?_
        exact r_sub [1, 0] rfl (T_X11_readWalker_74 C E ht hn h)
    · have h := h.2 c16
      refine r_iconst (pc := 41) C (v := (1 : Int32)) dX11_readWalker_41 (by decide) ?_
      refine r_goto (pc := 42) C (tgt := 74) dX11_readWalker_42 (by decide) ?_
      exact r_sub [1, 0] rfl (T_X11_readWalker_74 C E ht hn h)
  · have h := h.2 c12
    refine r_iconst (pc := 27) C (v := (0 : Int32)) dX11_readWalker_27 (by decide) ?_
    refine r_goto (pc := 28) C (tgt := 74) dX11_readWalker_28 (by decide) ?_
    exact r_sub [1, 0] rfl (T_X11_readWalker_74 C E ht hn h)
def P_X11_readWalker (v0 : Nat) (Q : HS → Prop) (S : HS) : Prop := P_X11_readWalker_0 Q v0 S
theorem c_X11_readWalker {l : Launch} {Ee : EE} {S : HS} {v0 : Nat} {Q : HS → Prop} (h : P_X11_readWalker v0 Q S) : MV l yX11_readWalker cX11_readWalker 12 none rm_X11_readWalker Ee S [.ref v0] Q :=
  openV (by decide) (Nat.le_of_ble_eq_true rfl) (fun X C E ht hn hE hl => by subst hE; exact r_sub [0] rfl (T_X11_readWalker_0 C E ht hn h))
def rm_X11_readWorld : Room := { frames := 9, cells := 0, slots := 0, locals := 208 }
def P_X11_readWorld_15 (Q : HS → Prop) (v0 : Nat) (S : HS) : Prop := ob S v0 11 ∧ (P_X11_goesOn v0 (fun S1 => Gr S S1 → (P_X11_readPart v0 28 (5 : Int32) (60 : Int32) (fun x6 S4 => Gr S1 S4 → (∀ x7 : Int32, x7 = fI S4 v0 9 → (((x7 = (5 : Int32)) → (Q S4)) ∧ ((¬ x7 = (5 : Int32)) → (∃ a9 : Nat, fR S4 v0 4 = some a9 ∧ (ob S4 a9 10 ∧ (∀ S10 : HS, S10 = sI S4 a9 0 x6 → (Q S10)))))))) S1)) S)
set_option maxRecDepth 20000 in
set_option maxHeartbeats 4000000 in
theorem T_X11_readWorld_15 {X : CX} {Q : HS → Prop} (C : Cx X cX11_readWorld RX11 2 rm_X11_readWorld) (E : ReV X rm_X11_readWorld Q) (ht : (xh X).sig.returnType = none) (hn : (xh X).name = yX11_readWorld.name) {v0 : Nat} {S : HS} (h : P_X11_readWorld_15 Q v0 S) : WS X 2 0 0 15 [(0, .ref v0)] [] S := by
  refine r_aload_n (pc := 15) C dX11_readWorld_15 0 rfl ?_
  obtain ⟨o_v0, h⟩ := h
  refine r_callVv0 (pc := 16) C (rest := []) (a := v0) o_v0 [] yV_X11_goesOn g_1380 (c_X11_goesOn h) dX11_readWorld_16 rfl rfl (Nat.le_of_ble_eq_true rfl) ⟨by decide, by decide⟩ ⟨by decide, by decide⟩ ⟨rfl, rfl⟩ (fun S1 h g2 => ?_)
  have h := h g2
  have o_v0 := gr_ob g2 o_v0
  refine r_aload_n (pc := 19) C dX11_readWorld_19 0 rfl ?_
  refine r_lds (pc := 20) C 28 rfl dX11_readWorld_20 ?_
  refine r_iconst (pc := 22) C (v := (5 : Int32)) dX11_readWorld_22 (by decide) ?_
  refine r_bipush (pc := 23) C (v := (60 : Int32)) dX11_readWorld_23 (by decide) ?_
  refine r_callVi0 (pc := 25) C (rest := []) (a := v0) o_v0 [.ref (eK (xE X) 28), .int (5 : Int32), .int (60 : Int32)] yV_X11_readPart g_1422 (c_X11_readPart h) dX11_readWorld_25 rfl rfl (Nat.le_of_ble_eq_true rfl) ⟨by decide, by decide⟩ ⟨by decide, by decide⟩ ⟨rfl, rfl⟩ (fun x6 S4 h g5 => ?_)
  have h := h g5
  have o_v0 := gr_ob g5 o_v0
  refine r_istore_n (pc := 28) C dX11_readWorld_28 rfl (by decide) (lv' := [(1, .int x6), (0, .ref v0)]) rfl ?_
  refine r_aload_n (pc := 29) C dX11_readWorld_29 1 rfl ?_
  refine r_geti (pc := 30) C fL_X11_68 dX11_readWorld_30 o_v0 ?_
  refine r_topi (fun x7 ex7 => ?_)
  have h := h x7 ex7
  refine r_iconst (pc := 33) C (v := (5 : Int32)) dX11_readWorld_33 (by decide) ?_
  refine r_icmp_eq (pc := 34) C (tgt := 45) dX11_readWorld_34 (by decide) (fun c8 => ?_) (fun c8 => ?_)
  · have h := h.1 c8
    exact r_vret (pc := 45) C E ht dX11_readWorld_45 (by decide) (by decide) h
  · have h := h.2 c8
    refine r_aload_n (pc := 37) C dX11_readWorld_37 1 rfl ?_
    obtain ⟨a9, ea9, h⟩ := h
    refine r_getr (pc := 38) C fL_X11_147 dX11_readWorld_38 o_v0 ea9 ?_
    refine r_iload_n (pc := 41) C dX11_readWorld_41 0 rfl ?_
    obtain ⟨o_a9, h⟩ := h
    refine r_putNi (pc := 42) C pfN_X11_151 dX11_readWorld_42 o_a9 ?_
    refine r_heap (fun S10 eS10 => ?_)
    have h := h S10 eS10
    have o_a9 := ob_I eS10 o_a9
    have o_v0 := ob_I eS10 o_v0
    exact r_vret (pc := 45) C E ht dX11_readWorld_45 (by decide) (by decide) h
def P_X11_readWorld_0 (Q : HS → Prop) (v0 : Nat) (S : HS) : Prop := ob S v0 11 ∧ (∃ a1 : Nat, fR S v0 4 = some a1 ∧ (ob S a1 10 ∧ (∀ x2 : Int32, x2 = fI S a1 0 → (((x2 ≤ 0) → (P_X11_readWorld_15 Q v0 S)) ∧ ((¬ x2 ≤ 0) → (P_X11_flaw v0 (3 : Int32) (fun S4 => Gr S S4 → (P_X11_readWorld_15 Q v0 S4)) S))))))
set_option maxRecDepth 20000 in
set_option maxHeartbeats 4000000 in
theorem T_X11_readWorld_0 {X : CX} {Q : HS → Prop} (C : Cx X cX11_readWorld RX11 2 rm_X11_readWorld) (E : ReV X rm_X11_readWorld Q) (ht : (xh X).sig.returnType = none) (hn : (xh X).name = yX11_readWorld.name) {v0 : Nat} {S : HS} (h : P_X11_readWorld_0 Q v0 S) : WS X 2 0 0 0 [(0, .ref v0)] [] S := by
  refine r_aload_n (pc := 0) C dX11_readWorld_0 0 rfl ?_
  obtain ⟨o_v0, h⟩ := h
  obtain ⟨a1, ea1, h⟩ := h
  refine r_getr (pc := 1) C fL_X11_147 dX11_readWorld_1 o_v0 ea1 ?_
  obtain ⟨o_a1, h⟩ := h
  refine r_getNi (pc := 4) C fN_X11_151 dX11_readWorld_4 o_a1 ?_
  refine r_topi (fun x2 ex2 => ?_)
  have h := h x2 ex2
  refine r_if_le (pc := 7) C (tgt := 15) dX11_readWorld_7 (by decide) (fun c3 => ?_) (fun c3 => ?_)
  · have h := h.1 c3
    exact r_sub [0] rfl (T_X11_readWorld_15 C E ht hn h)
  · have h := h.2 c3
    refine r_aload_n (pc := 10) C dX11_readWorld_10 0 rfl ?_
    refine r_iconst (pc := 11) C (v := (3 : Int32)) dX11_readWorld_11 (by decide) ?_
    refine r_callVv0 (pc := 12) C (rest := []) (a := v0) o_v0 [.int (3 : Int32)] yV_X11_flaw g_1417 (c_X11_flaw h) dX11_readWorld_12 rfl rfl (Nat.le_of_ble_eq_true rfl) ⟨by decide, by decide⟩ ⟨by decide, by decide⟩ ⟨rfl, rfl⟩ (fun S4 h g5 => ?_)
    have h := h g5
    have o_a1 := gr_ob g5 o_a1
    have o_v0 := gr_ob g5 o_v0
    exact r_sub [0] rfl (T_X11_readWorld_15 C E ht hn h)
def P_X11_readWorld (v0 : Nat) (Q : HS → Prop) (S : HS) : Prop := P_X11_readWorld_0 Q v0 S
theorem c_X11_readWorld {l : Launch} {Ee : EE} {S : HS} {v0 : Nat} {Q : HS → Prop} (h : P_X11_readWorld v0 Q S) : MV l yX11_readWorld cX11_readWorld 2 none rm_X11_readWorld Ee S [.ref v0] Q :=
  openV (by decide) (Nat.le_of_ble_eq_true rfl) (fun X C E ht hn hE hl => by subst hE; exact r_sub [0] rfl (T_X11_readWorld_0 C E ht hn h))
def rm_X11_readLine : Room := { frames := 10, cells := 0, slots := 0, locals := 239 }
def P_X11_readLine_0 (Q : HS → Prop) (v0 : Nat) (S : HS) : Prop := ob S v0 11 ∧ (P_X11_isWord v0 27 (fun x3 S1 => Gr S S1 → bl x3 → (((x3 = 0) → (P_X11_isWord v0 29 (fun x7 S5 => Gr S1 S5 → bl x7 → (((x7 = 0) → (P_X11_isWord v0 38 (fun x11 S9 => Gr S5 S9 → bl x11 → (((x11 = 0) → (P_X11_isWord v0 39 (fun x15 S13 => Gr S9 S13 → bl x15 → (((x15 = 0) → (P_X11_isWord v0 40 (fun x19 S17 => Gr S13 S17 → bl x19 → (((x19 = 0) → (P_X11_isWord v0 41 (fun x23 S21 => Gr S17 S21 → bl x23 → (((x23 = 0) → (P_X11_flaw v0 (1 : Int32) (fun S25 => Gr S21 S25 → (Q S25)) S21)) ∧ ((¬ x23 = 0) → (P_X11_readSeen v0 (fun S28 => Gr S21 S28 → (Q S28)) S21)))) S17)) ∧ ((¬ x19 = 0) → (P_X11_readWalker v0 (fun S31 => Gr S17 S31 → (Q S31)) S17)))) S13)) ∧ ((¬ x15 = 0) → (P_X11_readRoad v0 (fun S34 => Gr S13 S34 → (Q S34)) S13)))) S9)) ∧ ((¬ x11 = 0) → (P_X11_readPlace v0 (fun S37 => Gr S9 S37 → (Q S37)) S9)))) S5)) ∧ ((¬ x7 = 0) → (P_X11_readRain v0 (fun S40 => Gr S5 S40 → (Q S40)) S5)))) S1)) ∧ ((¬ x3 = 0) → (P_X11_readWorld v0 (fun S43 => Gr S1 S43 → (Q S43)) S1)))) S)
set_option maxRecDepth 20000 in
set_option maxHeartbeats 4000000 in
theorem T_X11_readLine_0 {X : CX} {Q : HS → Prop} (C : Cx X cX11_readLine RX11 1 rm_X11_readLine) (E : ReV X rm_X11_readLine Q) (ht : (xh X).sig.returnType = none) (hn : (xh X).name = yX11_readLine.name) {v0 : Nat} {S : HS} (h : P_X11_readLine_0 Q v0 S) : WS X 1 0 0 0 [(0, .ref v0)] [] S := by
  refine r_aload_n (pc := 0) C dX11_readLine_0 0 rfl ?_
  refine r_lds (pc := 1) C 27 rfl dX11_readLine_1 ?_
  obtain ⟨o_v0, h⟩ := h
  refine r_callVi0 (pc := 3) C (rest := []) (a := v0) o_v0 [.ref (eK (xE X) 27)] yV_X11_isWord g_1404 (c_X11_isWord h) dX11_readLine_3 rfl rfl (Nat.le_of_ble_eq_true rfl) ⟨by decide, by decide⟩ ⟨by decide, by decide⟩ ⟨rfl, rfl⟩ (fun x3 S1 h g2 => ?_)
  have bx3 := h.1
  have h := h.2 g2 bx3
  have o_v0 := gr_ob g2 o_v0
  refine r_if_eq (pc := 6) C (tgt := 16) dX11_readLine_6 (by decide) (fun c4 => ?_) (fun c4 => ?_)
  · have h := h.1 c4
    refine r_aload_n (pc := 16) C dX11_readLine_16 0 rfl ?_
    refine r_lds (pc := 17) C 29 rfl dX11_readLine_17 ?_
    refine r_callVi0 (pc := 19) C (rest := []) (a := v0) o_v0 [.ref (eK (xE X) 29)] yV_X11_isWord g_1404 (c_X11_isWord h) dX11_readLine_19 rfl rfl (Nat.le_of_ble_eq_true rfl) ⟨by decide, by decide⟩ ⟨by decide, by decide⟩ ⟨rfl, rfl⟩ (fun x7 S5 h g6 => ?_)
    have bx7 := h.1
    have h := h.2 g6 bx7
    have o_v0 := gr_ob g6 o_v0
    refine r_if_eq (pc := 22) C (tgt := 32) dX11_readLine_22 (by decide) (fun c8 => ?_) (fun c8 => ?_)
    · have h := h.1 c8
      refine r_aload_n (pc := 32) C dX11_readLine_32 0 rfl ?_
      refine r_lds (pc := 33) C 38 rfl dX11_readLine_33 ?_
      refine r_callVi0 (pc := 35) C (rest := []) (a := v0) o_v0 [.ref (eK (xE X) 38)] yV_X11_isWord g_1404 (c_X11_isWord h) dX11_readLine_35 rfl rfl (Nat.le_of_ble_eq_true rfl) ⟨by decide, by decide⟩ ⟨by decide, by decide⟩ ⟨rfl, rfl⟩ (fun x11 S9 h g10 => ?_)
      have bx11 := h.1
      have h := h.2 g10 bx11
      have o_v0 := gr_ob g10 o_v0
      refine r_if_eq (pc := 38) C (tgt := 48) dX11_readLine_38 (by decide) (fun c12 => ?_) (fun c12 => ?_)
      · have h := h.1 c12
        refine r_aload_n (pc := 48) C dX11_readLine_48 0 rfl ?_
        refine r_lds (pc := 49) C 39 rfl dX11_readLine_49 ?_
        refine r_callVi0 (pc := 51) C (rest := []) (a := v0) o_v0 [.ref (eK (xE X) 39)] yV_X11_isWord g_1404 (c_X11_isWord h) dX11_readLine_51 rfl rfl (Nat.le_of_ble_eq_true rfl) ⟨by decide, by decide⟩ ⟨by decide, by decide⟩ ⟨rfl, rfl⟩ (fun x15 S13 h g14 => ?_)
        have bx15 := h.1
        have h := h.2 g14 bx15
        have o_v0 := gr_ob g14 o_v0
        refine r_if_eq (pc := 54) C (tgt := 64) dX11_readLine_54 (by decide) (fun c16 => ?_) (fun c16 => ?_)
        · have h := h.1 c16
          refine r_aload_n (pc := 64) C dX11_readLine_64 0 rfl ?_
          refine r_lds (pc := 65) C 40 rfl dX11_readLine_65 ?_
          refine r_callVi0 (pc := 67) C (rest := []) (a := v0) o_v0 [.ref (eK (xE X) 40)] yV_X11_isWord g_1404 (c_X11_isWord h) dX11_readLine_67 rfl rfl (Nat.le_of_ble_eq_true rfl) ⟨by decide, by decide⟩ ⟨by decide, by decide⟩ ⟨rfl, rfl⟩ (fun x19 S17 h g18 => ?_)
          have bx19 := h.1
          have h := h.2 g18 bx19
          have o_v0 := gr_ob g18 o_v0
          refine r_if_eq (pc := 70) C (tgt := 80) dX11_readLine_70 (by decide) (fun c20 => ?_) (fun c20 => ?_)
          · have h := h.1 c20
            refine r_aload_n (pc := 80) C dX11_readLine_80 0 rfl ?_
            refine r_lds (pc := 81) C 41 rfl dX11_readLine_81 ?_
            refine r_callVi0 (pc := 83) C (rest := []) (a := v0) o_v0 [.ref (eK (xE X) 41)] yV_X11_isWord g_1404 (c_X11_isWord h) dX11_readLine_83 rfl rfl (Nat.le_of_ble_eq_true rfl) ⟨by decide, by decide⟩ ⟨by decide, by decide⟩ ⟨rfl, rfl⟩ (fun x23 S21 h g22 => ?_)
            have bx23 := h.1
            have h := h.2 g22 bx23
            have o_v0 := gr_ob g22 o_v0
            refine r_if_eq (pc := 86) C (tgt := 96) dX11_readLine_86 (by decide) (fun c24 => ?_) (fun c24 => ?_)
            · have h := h.1 c24
              refine r_aload_n (pc := 96) C dX11_readLine_96 0 rfl ?_
              refine r_iconst (pc := 97) C (v := (1 : Int32)) dX11_readLine_97 (by decide) ?_
              refine r_callVv0 (pc := 98) C (rest := []) (a := v0) o_v0 [.int (1 : Int32)] yV_X11_flaw g_1417 (c_X11_flaw h) dX11_readLine_98 rfl rfl (Nat.le_of_ble_eq_true rfl) ⟨by decide, by decide⟩ ⟨by decide, by decide⟩ ⟨rfl, rfl⟩ (fun S25 h g26 => ?_)
              have h := h g26
              have o_v0 := gr_ob g26 o_v0
              exact r_vret (pc := 101) C E ht dX11_readLine_101 (by decide) (by decide) h
            · have h := h.2 c24
              refine r_aload_n (pc := 89) C dX11_readLine_89 0 rfl ?_
              refine r_callVv0 (pc := 90) C (rest := []) (a := v0) o_v0 [] yV_X11_readSeen g_1510 (c_X11_readSeen h) dX11_readLine_90 rfl rfl (Nat.le_of_ble_eq_true rfl) ⟨by decide, by decide⟩ ⟨by decide, by decide⟩ ⟨rfl, rfl⟩ (fun S28 h g29 => ?_)
              have h := h g29
              have o_v0 := gr_ob g29 o_v0
              refine r_goto (pc := 93) C (tgt := 101) dX11_readLine_93 (by decide) ?_
              exact r_vret (pc := 101) C E ht dX11_readLine_101 (by decide) (by decide) h
          · have h := h.2 c20
            refine r_aload_n (pc := 73) C dX11_readLine_73 0 rfl ?_
            refine r_callVv0 (pc := 74) C (rest := []) (a := v0) o_v0 [] yV_X11_readWalker g_1497 (c_X11_readWalker h) dX11_readLine_74 rfl rfl (Nat.le_of_ble_eq_true rfl) ⟨by decide, by decide⟩ ⟨by decide, by decide⟩ ⟨rfl, rfl⟩ (fun S31 h g32 => ?_)
            have h := h g32
            have o_v0 := gr_ob g32 o_v0
            refine r_goto (pc := 77) C (tgt := 101) dX11_readLine_77 (by decide) ?_
            exact r_vret (pc := 101) C E ht dX11_readLine_101 (by decide) (by decide) h
        · have h := h.2 c16
          refine r_aload_n (pc := 57) C dX11_readLine_57 0 rfl ?_
          refine r_callVv0 (pc := 58) C (rest := []) (a := v0) o_v0 [] yV_X11_readRoad g_1489 (c_X11_readRoad h) dX11_readLine_58 rfl rfl (Nat.le_of_ble_eq_true rfl) ⟨by decide, by decide⟩ ⟨by decide, by decide⟩ ⟨rfl, rfl⟩ (fun S34 h g35 => ?_)
          have h := h g35
          have o_v0 := gr_ob g35 o_v0
          refine r_goto (pc := 61) C (tgt := 101) dX11_readLine_61 (by decide) ?_
          exact r_vret (pc := 101) C E ht dX11_readLine_101 (by decide) (by decide) h
      · have h := h.2 c12
        refine r_aload_n (pc := 41) C dX11_readLine_41 0 rfl ?_
        refine r_callVv0 (pc := 42) C (rest := []) (a := v0) o_v0 [] yV_X11_readPlace g_1459 (c_X11_readPlace h) dX11_readLine_42 rfl rfl (Nat.le_of_ble_eq_true rfl) ⟨by decide, by decide⟩ ⟨by decide, by decide⟩ ⟨rfl, rfl⟩ (fun S37 h g38 => ?_)
        have h := h g38
        have o_v0 := gr_ob g38 o_v0
        refine r_goto (pc := 45) C (tgt := 101) dX11_readLine_45 (by decide) ?_
        exact r_vret (pc := 101) C E ht dX11_readLine_101 (by decide) (by decide) h
    · have h := h.2 c8
      refine r_aload_n (pc := 25) C dX11_readLine_25 0 rfl ?_
      refine r_callVv0 (pc := 26) C (rest := []) (a := v0) o_v0 [] yV_X11_readRain g_1438 (c_X11_readRain h) dX11_readLine_26 rfl rfl (Nat.le_of_ble_eq_true rfl) ⟨by decide, by decide⟩ ⟨by decide, by decide⟩ ⟨rfl, rfl⟩ (fun S40 h g41 => ?_)
      have h := h g41
      have o_v0 := gr_ob g41 o_v0
      refine r_goto (pc := 29) C (tgt := 101) dX11_readLine_29 (by decide) ?_
      exact r_vret (pc := 101) C E ht dX11_readLine_101 (by decide) (by decide) h
  · have h := h.2 c4
    refine r_aload_n (pc := 9) C dX11_readLine_9 0 rfl ?_
    refine r_callVv0 (pc := 10) C (rest := []) (a := v0) o_v0 [] yV_X11_readWorld g_1413 (c_X11_readWorld h) dX11_readLine_10 rfl rfl (Nat.le_of_ble_eq_true rfl) ⟨by decide, by decide⟩ ⟨by decide, by decide⟩ ⟨rfl, rfl⟩ (fun S43 h g44 => ?_)
    have h := h g44
    have o_v0 := gr_ob g44 o_v0
    refine r_goto (pc := 13) C (tgt := 101) dX11_readLine_13 (by decide) ?_
    exact r_vret (pc := 101) C E ht dX11_readLine_101 (by decide) (by decide) h
def P_X11_readLine (v0 : Nat) (Q : HS → Prop) (S : HS) : Prop := P_X11_readLine_0 Q v0 S
theorem c_X11_readLine {l : Launch} {Ee : EE} {S : HS} {v0 : Nat} {Q : HS → Prop} (h : P_X11_readLine v0 Q S) : MV l yX11_readLine cX11_readLine 1 none rm_X11_readLine Ee S [.ref v0] Q :=
  openV (by decide) (Nat.le_of_ble_eq_true rfl) (fun X C E ht hn hE hl => by subst hE; exact r_sub [0] rfl (T_X11_readLine_0 C E ht hn h))
def rm_X11_readAll : Room := { frames := 11, cells := 0, slots := 0, locals := 259 }
def P_X11_readAll_63 (Q : HS → Prop) (v0 : Nat) (S : HS) : Prop := ob S v0 11 ∧ (P_X11_flaw v0 (6 : Int32) (fun S1 => Gr S S1 → (Q S1)) S)
set_option maxRecDepth 20000 in
set_option maxHeartbeats 4000000 in
theorem T_X11_readAll_63 {X : CX} {Q : HS → Prop} (C : Cx X cX11_readAll RX11 2 rm_X11_readAll) (E : ReV X rm_X11_readAll Q) (ht : (xh X).sig.returnType = none) (hn : (xh X).name = yX11_readAll.name) {v0 : Nat} {S : HS} (h : P_X11_readAll_63 Q v0 S) : WS X 2 0 0 63 [(0, .ref v0)] [] S := by
  refine r_aload_n (pc := 63) C dX11_readAll_63 0 rfl ?_
  refine r_bipush (pc := 64) C (v := (6 : Int32)) dX11_readAll_64 (by decide) ?_
  obtain ⟨o_v0, h⟩ := h
  refine r_callVv0 (pc := 66) C (rest := []) (a := v0) o_v0 [.int (6 : Int32)] yV_X11_flaw g_1417 (c_X11_flaw h) dX11_readAll_66 rfl rfl (Nat.le_of_ble_eq_true rfl) ⟨by decide, by decide⟩ ⟨by decide, by decide⟩ ⟨rfl, rfl⟩ (fun S1 h g2 => ?_)
  have h := h g2
  have o_v0 := gr_ob g2 o_v0
  exact r_vret (pc := 69) C E ht dX11_readAll_69 (by decide) (by decide) h
def P_X11_readAll_33 (Q : HS → Prop) (v0 : Nat) (S : HS) : Prop := ob S v0 11 ∧ (∃ a1 : Nat, fR S v0 4 = some a1 ∧ (ob S a1 10 ∧ (∀ x2 : Int32, x2 = fI S a1 0 → (((x2 = 0) → (P_X11_readAll_63 Q v0 S)) ∧ ((¬ x2 = 0) → (∃ a4 : Nat, fR S v0 4 = some a4 ∧ (ob S a4 10 ∧ (∀ x5 : Int32, x5 = fI S a4 2 → (((x5 = 0) → (P_X11_readAll_63 Q v0 S)) ∧ ((¬ x5 = 0) → (∃ a7 : Nat, fR S v0 4 = some a7 ∧ (ob S a7 10 ∧ (∀ x8 : Int32, x8 = fI S a7 4 → (((¬ x8 = 0) → (Q S)) ∧ ((x8 = 0) → (P_X11_readAll_63 Q v0 S))))))))))))))))
set_option maxRecDepth 20000 in
set_option maxHeartbeats 4000000 in
theorem T_X11_readAll_33 {X : CX} {Q : HS → Prop} (C : Cx X cX11_readAll RX11 2 rm_X11_readAll) (E : ReV X rm_X11_readAll Q) (ht : (xh X).sig.returnType = none) (hn : (xh X).name = yX11_readAll.name) {v0 : Nat} {S : HS} (h : P_X11_readAll_33 Q v0 S) : WS X 2 0 0 33 [(0, .ref v0)] [] S := by
  refine r_aload_n (pc := 33) C dX11_readAll_33 0 rfl ?_
  obtain ⟨o_v0, h⟩ := h
  obtain ⟨a1, ea1, h⟩ := h
  refine r_getr (pc := 34) C fL_X11_147 dX11_readAll_34 o_v0 ea1 ?_
  obtain ⟨o_a1, h⟩ := h
  refine r_getNi (pc := 37) C fN_X11_151 dX11_readAll_37 o_a1 ?_
  refine r_topi (fun x2 ex2 => ?_)
  have h := h x2 ex2
  refine r_if_eq (pc := 40) C (tgt := 63) dX11_readAll_40 (by decide) (fun c3 => ?_) (fun c3 => ?_)
  · have h := h.1 c3
    exact r_sub [0] rfl (T_X11_readAll_63 C E ht hn h)
  · have h := h.2 c3
    refine r_aload_n (pc := 43) C dX11_readAll_43 0 rfl ?_
    obtain ⟨a4, ea4, h⟩ := h
    refine r_getr (pc := 44) C fL_X11_147 dX11_readAll_44 o_v0 ea4 ?_
    obtain ⟨o_a4, h⟩ := h
    refine r_getNi (pc := 47) C fN_X11_190 dX11_readAll_47 o_a4 ?_
    refine r_topi (fun x5 ex5 => ?_)
    have h := h x5 ex5
    refine r_if_eq (pc := 50) C (tgt := 63) dX11_readAll_50 (by decide) (fun c6 => ?_) (fun c6 => ?_)
    · have h := h.1 c6
      exact r_sub [0] rfl (T_X11_readAll_63 C E ht hn h)
    · have h := h.2 c6
      refine r_aload_n (pc := 53) C dX11_readAll_53 0 rfl ?_
      obtain ⟨a7, ea7, h⟩ := h
      refine r_getr (pc := 54) C fL_X11_147 dX11_readAll_54 o_v0 ea7 ?_
      obtain ⟨o_a7, h⟩ := h
      refine r_getNi (pc := 57) C fN_X11_193 dX11_readAll_57 o_a7 ?_
      refine r_topi (fun x8 ex8 => ?_)
      have h := h x8 ex8
      refine r_if_ne (pc := 60) C (tgt := 69) dX11_readAll_60 (by decide) (fun c9 => ?_) (fun c9 => ?_)
      · have h := h.1 c9
        exact r_vret (pc := 69) C E ht dX11_readAll_69 (by decide) (by decide) h
      · have h := h.2 c9
        exact r_sub [0] rfl (T_X11_readAll_63 C E ht hn h)
def B_X11_readAll_2 (Q : HS → Prop) (X2 : Nat → Int32 → HS → Prop) (v0 : Nat) (v1 : Int32) (S : HS) : Prop := ((v1 = 0) → (ob S v0 11 ∧ (∀ x2 : Int32, x2 = fI S v0 9 → (((x2 = (1 : Int32)) → (P_X11_readAll_33 Q v0 S)) ∧ ((¬ x2 = (1 : Int32)) → (P_X11_flaw v0 (1 : Int32) (fun S4 => Gr S S4 → (P_X11_readAll_33 Q v0 S4)) S)))))) ∧ ((¬ v1 = 0) → (ob S v0 11 ∧ (P_X11_readLine v0 (fun S7 => Gr S S7 → (P_X11_eatsSign v0 (59 : Int32) (fun x12 S10 => Gr S7 S10 → bl x12 → (X2 v0 x12 S10)) S7)) S)))
def P_X11_readAll_2 (Q : HS → Prop) (v0 : Nat) (v1 : Int32) (S : HS) : Prop := ∀ X2 : Nat → Int32 → HS → Prop, (∀ (v0 : Nat) (v1 : Int32) (S : HS), B_X11_readAll_2 Q X2 v0 v1 S → X2 v0 v1 S) → X2 v0 v1 S
set_option maxRecDepth 20000 in
set_option maxHeartbeats 4000000 in
theorem TB_X11_readAll_2 {X : CX} {Q : HS → Prop} (C : Cx X cX11_readAll RX11 2 rm_X11_readAll) (E : ReV X rm_X11_readAll Q) (ht : (xh X).sig.returnType = none) (hn : (xh X).name = yX11_readAll.name) {X2 : Nat → Int32 → HS → Prop} (hX2 : ∀ (v0 : Nat) (v1 : Int32) (S : HS), X2 v0 v1 S → WS X 2 0 0 2 [(0, .ref v0), (1, .int v1)] [] S) {v0 : Nat} {v1 : Int32} {S : HS} (h : B_X11_readAll_2 Q X2 v0 v1 S) : WS X 2 0 0 2 [(0, .ref v0), (1, .int v1)] [] S := by
  refine r_iload_n (pc := 2) C dX11_readAll_2 1 rfl ?_
  refine r_if_eq (pc := 3) C (tgt := 20) dX11_readAll_3 (by decide) (fun c1 => ?_) (fun c1 => ?_)
  · have h := h.1 c1
    refine r_aload_n (pc := 20) C dX11_readAll_20 0 rfl ?_
    obtain ⟨o_v0, h⟩ := h
    refine r_geti (pc := 21) C fL_X11_68 dX11_readAll_21 o_v0 ?_
    refine r_topi (fun x2 ex2 => ?_)
    have h := h x2 ex2
    refine r_iconst (pc := 24) C (v := (1 : Int32)) dX11_readAll_24 (by decide) ?_
    refine r_icmp_eq (pc := 25) C (tgt := 33) dX11_readAll_25 (by decide) (fun c3 => ?_) (fun c3 => ?_)
    · have h := h.1 c3
      exact r_sub [0] rfl (T_X11_readAll_33 C E ht hn h)
    · have h := h.2 c3
      refine r_aload_n (pc := 28) C dX11_readAll_28 0 rfl ?_
      refine r_iconst (pc := 29) C (v := (1 : Int32)) dX11_readAll_29 (by decide) ?_
      refine r_callVv0 (pc := 30) C (rest := []) (a := v0) o_v0 [.int (1 : Int32)] yV_X11_flaw g_1417 (c_X11_flaw h) dX11_readAll_30 rfl rfl (Nat.le_of_ble_eq_true rfl) ⟨by decide, by decide⟩ ⟨by decide, by decide⟩ ⟨rfl, rfl⟩ (fun S4 h g5 => ?_)
      have h := h g5
      have o_v0 := gr_ob g5 o_v0
      exact r_sub [0] rfl (T_X11_readAll_33 C E ht hn h)
  · have h := h.2 c1
    refine r_aload_n (pc := 6) C dX11_readAll_6 0 rfl ?_
    obtain ⟨o_v0, h⟩ := h
    refine r_callVv0 (pc := 7) C (rest := []) (a := v0) o_v0 [] yV_X11_readLine g_1399 (c_X11_readLine h) dX11_readAll_7 rfl rfl (Nat.le_of_ble_eq_true rfl) ⟨by decide, by decide⟩ ⟨by decide, by decide⟩ ⟨rfl, rfl⟩ (fun S7 h g8 => ?_)
    have h := h g8
    have o_v0 := gr_ob g8 o_v0
    refine r_aload_n (pc := 10) C dX11_readAll_10 0 rfl ?_
    refine r_bipush (pc := 11) C (v := (59 : Int32)) dX11_readAll_11 (by decide) ?_
    refine r_callVi0 (pc := 13) C (rest := []) (a := v0) o_v0 [.int (59 : Int32)] yV_X11_eatsSign g_1514 (c_X11_eatsSign h) dX11_readAll_13 rfl rfl (Nat.le_of_ble_eq_true rfl) ⟨by decide, by decide⟩ ⟨by decide, by decide⟩ ⟨rfl, rfl⟩ (fun x12 S10 h g11 => ?_)
    have bx12 := h.1
    have h := h.2 g11 bx12
    have o_v0 := gr_ob g11 o_v0
    refine r_istore_n (pc := 16) C dX11_readAll_16 rfl (by decide) (lv' := [(1, .int x12), (0, .ref v0)]) rfl ?_
    refine r_goto (pc := 17) C (tgt := 2) dX11_readAll_17 (by decide) ?_
    exact r_sub [1, 0] rfl (hX2 v0 x12 S10 h)
theorem T_X11_readAll_2 {X : CX} {Q : HS → Prop} (C : Cx X cX11_readAll RX11 2 rm_X11_readAll) (E : ReV X rm_X11_readAll Q) (ht : (xh X).sig.returnType = none) (hn : (xh X).name = yX11_readAll.name) {v0 : Nat} {v1 : Int32} {S : HS} (h : P_X11_readAll_2 Q v0 v1 S) : WS X 2 0 0 2 [(0, .ref v0), (1, .int v1)] [] S :=
  h (fun v0 v1 S => WS X 2 0 0 2 [(0, .ref v0), (1, .int v1)] [] S) (fun v0 v1 S hh => TB_X11_readAll_2 C E ht hn (fun v0 v1 S z => z) hh)
def P_X11_readAll_0 (Q : HS → Prop) (v0 : Nat) (S : HS) : Prop := P_X11_readAll_2 Q v0 (1 : Int32) S
set_option maxRecDepth 20000 in
set_option maxHeartbeats 4000000 in
theorem T_X11_readAll_0 {X : CX} {Q : HS → Prop} (C : Cx X cX11_readAll RX11 2 rm_X11_readAll) (E : ReV X rm_X11_readAll Q) (ht : (xh X).sig.returnType = none) (hn : (xh X).name = yX11_readAll.name) {v0 : Nat} {S : HS} (h : P_X11_readAll_0 Q v0 S) : WS X 2 0 0 0 [(0, .ref v0)] [] S := by
  refine r_iconst (pc := 0) C (v := (1 : Int32)) dX11_readAll_0 (by decide) ?_
  refine r_istore_n (pc := 1) C dX11_readAll_1 rfl (by decide) (lv' := [(1, .int (1 : Int32)), (0, .ref v0)]) rfl ?_
  exact r_sub [1, 0] rfl (T_X11_readAll_2 C E ht hn h)
def P_X11_readAll (v0 : Nat) (Q : HS → Prop) (S : HS) : Prop := P_X11_readAll_0 Q v0 S
theorem c_X11_readAll {l : Launch} {Ee : EE} {S : HS} {v0 : Nat} {Q : HS → Prop} (h : P_X11_readAll v0 Q S) : MV l yX11_readAll cX11_readAll 2 none rm_X11_readAll Ee S [.ref v0] Q :=
  openV (by decide) (Nat.le_of_ble_eq_true rfl) (fun X C E ht hn hE hl => by subst hE; exact r_sub [0] rfl (T_X11_readAll_0 C E ht hn h))
def rm_X11_road : Room := { frames := 1, cells := 0, slots := 0, locals := 22 }
def P_X11_road_22 (Q : Int32 → HS → Prop) (v0 : Nat) (S : HS) : Prop := ob S v0 11 ∧ (P_X11_refused v0 (1 : Int32) (fun x3 S1 => Gr S S1 → (Q x3 S1)) S)
set_option maxRecDepth 20000 in
set_option maxHeartbeats 4000000 in
theorem T_X11_road_22 {X : CX} {Q : Int32 → HS → Prop} (C : Cx X cX11_road RX11 3 rm_X11_road) (E : ReI X rm_X11_road Q) (ht : (xh X).sig.returnType = (some .int)) (hn : (xh X).name = yX11_road.name) {v0 : Nat} {S : HS} (h : P_X11_road_22 Q v0 S) : WS X 3 0 0 22 [(0, .ref v0)] [] S := by
  refine r_aload_n (pc := 22) C dX11_road_22 0 rfl ?_
  refine r_iconst (pc := 23) C (v := (1 : Int32)) dX11_road_23 (by decide) ?_
  obtain ⟨o_v0, h⟩ := h
  refine r_callVi0 (pc := 24) C (rest := []) (a := v0) o_v0 [.int (1 : Int32)] yV_X11_refused g_1250 (c_X11_refused h) dX11_road_24 rfl rfl (Nat.le_of_ble_eq_true rfl) ⟨by decide, by decide⟩ ⟨by decide, by decide⟩ ⟨rfl, rfl⟩ (fun x3 S1 h g2 => ?_)
  have h := h g2
  have o_v0 := gr_ob g2 o_v0
  exact r_iret (pc := 27) C E ht dX11_road_27 (by decide) (by decide) h
def P_X11_road_0 (Q : Int32 → HS → Prop) (v0 : Nat) (v1 : Int32) (v2 : Int32) (S : HS) : Prop := ob S v0 11 ∧ (∀ S1 : HS, S1 = sI S v0 0 (0 : Int32) → (P_X11_isRoad v0 v1 (fun x4 S2 => Gr S1 S2 → bl x4 → (((x4 = 0) → (P_X11_road_22 Q v0 S2)) ∧ ((¬ x4 = 0) → (P_X11_in v2 (0 : Int32) (4 : Int32) (fun x8 S6 => Gr S2 S6 → bl x8 → (((¬ x8 = 0) → ((v2.toInt < 0 ∨ 3 < v2.toInt → (∃ a11 : Nat, fR S6 v0 3 = some a11 ∧ (ob S6 a11 10 ∧ (∃ a12 : Nat, fR S6 a11 17 = some a12 ∧ (ob S6 a12 13 ∧ (vp_in v1 (hN S6 a12) ∧ ∀ x14 : Int32, x14 = fI S6 a12 v1.toNatClampNeg → (P_X11_good v0 x14 (fun x17 S15 => Gr S6 S15 → (Q x17 S15)) S6))))))) ∧ (v2.toInt = 0 → (∃ a18 : Nat, fR S6 v0 3 = some a18 ∧ (ob S6 a18 10 ∧ (∃ a19 : Nat, fR S6 a18 13 = some a19 ∧ (ob S6 a19 13 ∧ (vp_in v1 (hN S6 a19) ∧ ∀ x21 : Int32, x21 = fI S6 a19 v1.toNatClampNeg → (P_X11_good v0 x21 (fun x24 S22 => Gr S6 S22 → (Q x24 S22)) S6))))))) ∧ (v2.toInt = 1 → (∃ a25 : Nat, fR S6 v0 3 = some a25 ∧ (ob S6 a25 10 ∧ (∃ a26 : Nat, fR S6 a25 14 = some a26 ∧ (ob S6 a26 13 ∧ (vp_in v1 (hN S6 a26) ∧ ∀ x28 : Int32, x28 = fI S6 a26 v1.toNatClampNeg → (P_X11_good v0 x28 (fun x31 S29 => Gr S6 S29 → (Q x31 S29)) S6))))))) ∧ (v2.toInt = 2 → (∃ a32 : Nat, fR S6 v0 3 = some a32 ∧ (ob S6 a32 10 ∧ (∃ a33 : Nat, fR S6 a32 15 = some a33 ∧ (ob S6 a33 13 ∧ (vp_in v1 (hN S6 a33) ∧ ∀ x35 : Int32, x35 = fI S6 a33 v1.toNatClampNeg → (P_X11_good v0 x35 (fun x38 S36 => Gr S6 S36 → (Q x38 S36)) S6))))))) ∧ (v2.toInt = 3 → (∃ a39 : Nat, fR S6 v0 3 = some a39 ∧ (ob S6 a39 10 ∧ (∃ a40 : Nat, fR S6 a39 16 = some a40 ∧ (ob S6 a40 13 ∧ (vp_in v1 (hN S6 a40) ∧ ∀ x42 : Int32, x42 = fI S6 a40 v1.toNatClampNeg → (P_X11_good v0 x42 (fun x45 S43 => Gr S6 S43 → (Q x45 S43)) S6))))))))) ∧ ((x8 = 0) → (P_X11_road_22 Q v0 S6)))) S2)))) S1))
set_option maxRecDepth 20000 in
set_option maxHeartbeats 4000000 in
theorem T_X11_road_0 {X : CX} {Q : Int32 → HS → Prop} (C : Cx X cX11_road RX11 3 rm_X11_road) (E : ReI X rm_X11_road Q) (ht : (xh X).sig.returnType = (some .int)) (hn : (xh X).name = yX11_road.name) {v0 : Nat} {v1 : Int32} {v2 : Int32} {S : HS} (h : P_X11_road_0 Q v0 v1 v2 S) : WS X 3 0 0 0 [(0, .ref v0), (1, .int v1), (2, .int v2)] [] S := by
  refine r_aload_n (pc := 0) C dX11_road_0 0 rfl ?_
  refine r_iconst (pc := 1) C (v := (0 : Int32)) dX11_road_1 (by decide) ?_
  obtain ⟨o_v0, h⟩ := h
  refine r_puti (pc := 2) C pfL_X11_40 dX11_road_2 o_v0 ?_
  refine r_heap (fun S1 eS1 => ?_)
  have h := h S1 eS1
  have o_v0 := ob_I eS1 o_v0
  refine r_aload_n (pc := 5) C dX11_road_5 0 rfl ?_
  refine r_iload_n (pc := 6) C dX11_road_6 1 rfl ?_
  refine r_callVi0 (pc := 7) C (rest := []) (a := v0) o_v0 [.int v1] yV_X11_isRoad g_1542 (c_X11_isRoad h) dX11_road_7 rfl rfl (Nat.le_of_ble_eq_true rfl) ⟨by decide, by decide⟩ ⟨by decide, by decide⟩ ⟨rfl, rfl⟩ (fun x4 S2 h g3 => ?_)
  have bx4 := h.1
  have h := h.2 g3 bx4
  have o_v0 := gr_ob g3 o_v0
  refine r_if_eq (pc := 10) C (tgt := 22) dX11_road_10 (by decide) (fun c5 => ?_) (fun c5 => ?_)
  · have h := h.1 c5
    exact r_sub [0] rfl (T_X11_road_22 C E ht hn h)
  · have h := h.2 c5
    refine r_iload_n (pc := 13) C dX11_road_13 2 rfl ?_
    refine r_iconst (pc := 14) C (v := (0 : Int32)) dX11_road_14 (by decide) ?_
    refine r_iconst (pc := 15) C (v := (4 : Int32)) dX11_road_15 (by decide) ?_
    refine r_callSi0 (pc := 16) C (rest := []) rfl [.int v2, .int (0 : Int32), .int (4 : Int32)] yS_X11_in g_1434 (c_X11_in h) dX11_road_16 rfl rfl (Nat.le_of_ble_eq_true rfl) ⟨by decide, by decide⟩ ⟨by decide, by decide⟩ ⟨rfl, rfl⟩ (fun x8 S6 h g7 => ?_)
    have bx8 := h.1
    have h := h.2 g7 bx8
    have o_v0 := gr_ob g7 o_v0
    refine r_if_ne (pc := 19) C (tgt := 28) dX11_road_19 (by decide) (fun c9 => ?_) (fun c9 => ?_)
    · have h := h.1 c9
      refine r_iload_n (pc := 28) C dX11_road_28 2 rfl ?_
      refine r_table (pc := 29) C (tgt := 116) dX11_road_29 (by decide) (fun c10 => ?_) (fun j hj hx => ?_)
      · have h := h.1 c10
        refine r_aload_n (pc := 116) C dX11_road_116 0 rfl ?_
        refine r_aload_n (pc := 117) C dX11_road_117 0 rfl ?_
        obtain ⟨a11, ea11, h⟩ := h
        refine r_getr (pc := 118) C fL_X11_338 dX11_road_118 o_v0 ea11 ?_
        obtain ⟨o_a11, h⟩ := h
        obtain ⟨a12, ea12, h⟩ := h
        refine r_getNr (pc := 121) C fN_X11_282 dX11_road_121 o_a11 ea12 ?_
        refine r_iload_n (pc := 124) C dX11_road_124 1 rfl ?_
        obtain ⟨o_a12, h⟩ := h
        obtain ⟨i13, h⟩ := h
        refine r_iald (pc := 125) C dX11_road_125 o_a12 i13 ?_
        refine r_topi (fun x14 ex14 => ?_)
        have h := h x14 ex14
        refine r_callVi0 (pc := 126) C (rest := []) (a := v0) o_v0 [.int x14] yV_X11_good g_1518 (c_X11_good h) dX11_road_126 rfl rfl (Nat.le_of_ble_eq_true rfl) ⟨by decide, by decide⟩ ⟨by decide, by decide⟩ ⟨rfl, rfl⟩ (fun x17 S15 h g16 => ?_)
        have h := h g16
        have o_a11 := gr_ob g16 o_a11
        have o_a12 := gr_ob g16 o_a12
        have o_v0 := gr_ob g16 o_v0
        exact r_iret (pc := 129) C E ht dX11_road_129 (by decide) (by decide) h
      · match j, hj, hx with
        | 0, _, hx =>
          refine ⟨31, 60, rfl, by decide, ?_⟩
          have h := h.2.1 (by simpa using hx)
          refine r_aload_n (pc := 60) C dX11_road_60 0 rfl ?_
          refine r_aload_n (pc := 61) C dX11_road_61 0 rfl ?_
          obtain ⟨a18, ea18, h⟩ := h
          refine r_getr (pc := 62) C fL_X11_338 dX11_road_62 o_v0 ea18 ?_
          obtain ⟨o_a18, h⟩ := h
          obtain ⟨a19, ea19, h⟩ := h
          refine r_getNr (pc := 65) C fN_X11_270 dX11_road_65 o_a18 ea19 ?_
          refine r_iload_n (pc := 68) C dX11_road_68 1 rfl ?_
          obtain ⟨o_a19, h⟩ := h
          obtain ⟨i20, h⟩ := h
          refine r_iald (pc := 69) C dX11_road_69 o_a19 i20 ?_
          refine r_topi (fun x21 ex21 => ?_)
          have h := h x21 ex21
          refine r_callVi0 (pc := 70) C (rest := []) (a := v0) o_v0 [.int x21] yV_X11_good g_1518 (c_X11_good h) dX11_road_70 rfl rfl (Nat.le_of_ble_eq_true rfl) ⟨by decide, by decide⟩ ⟨by decide, by decide⟩ ⟨rfl, rfl⟩ (fun x24 S22 h g23 => ?_)
          have h := h g23
          have o_a18 := gr_ob g23 o_a18
          have o_a19 := gr_ob g23 o_a19
          have o_v0 := gr_ob g23 o_v0
          exact r_iret (pc := 73) C E ht dX11_road_73 (by decide) (by decide) h
        | 1, _, hx =>
          refine ⟨45, 74, rfl, by decide, ?_⟩
          have h := h.2.2.1 (by simpa using hx)
          refine r_aload_n (pc := 74) C dX11_road_74 0 rfl ?_
          refine r_aload_n (pc := 75) C dX11_road_75 0 rfl ?_
          obtain ⟨a25, ea25, h⟩ := h
          refine r_getr (pc := 76) C fL_X11_338 dX11_road_76 o_v0 ea25 ?_
          obtain ⟨o_a25, h⟩ := h
          obtain ⟨a26, ea26, h⟩ := h
          refine r_getNr (pc := 79) C fN_X11_273 dX11_road_79 o_a25 ea26 ?_
          refine r_iload_n (pc := 82) C dX11_road_82 1 rfl ?_
          obtain ⟨o_a26, h⟩ := h
          obtain ⟨i27, h⟩ := h
          refine r_iald (pc := 83) C dX11_road_83 o_a26 i27 ?_
          refine r_topi (fun x28 ex28 => ?_)
          have h := h x28 ex28
          refine r_callVi0 (pc := 84) C (rest := []) (a := v0) o_v0 [.int x28] yV_X11_good g_1518 (c_X11_good h) dX11_road_84 rfl rfl (Nat.le_of_ble_eq_true rfl) ⟨by decide, by decide⟩ ⟨by decide, by decide⟩ ⟨rfl, rfl⟩ (fun x31 S29 h g30 => ?_)
          have h := h g30
          have o_a25 := gr_ob g30 o_a25
          have o_a26 := gr_ob g30 o_a26
          have o_v0 := gr_ob g30 o_v0
          exact r_iret (pc := 87) C E ht dX11_road_87 (by decide) (by decide) h
        | 2, _, hx =>
          refine ⟨59, 88, rfl, by decide, ?_⟩
          have h := h.2.2.2.1 (by simpa using hx)
          refine r_aload_n (pc := 88) C dX11_road_88 0 rfl ?_
          refine r_aload_n (pc := 89) C dX11_road_89 0 rfl ?_
          obtain ⟨a32, ea32, h⟩ := h
          refine r_getr (pc := 90) C fL_X11_338 dX11_road_90 o_v0 ea32 ?_
          obtain ⟨o_a32, h⟩ := h
          obtain ⟨a33, ea33, h⟩ := h
          refine r_getNr (pc := 93) C fN_X11_276 dX11_road_93 o_a32 ea33 ?_
          refine r_iload_n (pc := 96) C dX11_road_96 1 rfl ?_
          obtain ⟨o_a33, h⟩ := h
          obtain ⟨i34, h⟩ := h
          refine r_iald (pc := 97) C dX11_road_97 o_a33 i34 ?_
          refine r_topi (fun x35 ex35 => ?_)
          have h := h x35 ex35
          refine r_callVi0 (pc := 98) C (rest := []) (a := v0) o_v0 [.int x35] yV_X11_good g_1518 (c_X11_good h) dX11_road_98 rfl rfl (Nat.le_of_ble_eq_true rfl) ⟨by decide, by decide⟩ ⟨by decide, by decide⟩ ⟨rfl, rfl⟩ (fun x38 S36 h g37 => ?_)
          have h := h g37
          have o_a32 := gr_ob g37 o_a32
          have o_a33 := gr_ob g37 o_a33
          have o_v0 := gr_ob g37 o_v0
          exact r_iret (pc := 101) C E ht dX11_road_101 (by decide) (by decide) h
        | 3, _, hx =>
          refine ⟨73, 102, rfl, by decide, ?_⟩
          have h := h.2.2.2.2 (by simpa using hx)
          refine r_aload_n (pc := 102) C dX11_road_102 0 rfl ?_
          refine r_aload_n (pc := 103) C dX11_road_103 0 rfl ?_
          obtain ⟨a39, ea39, h⟩ := h
          refine r_getr (pc := 104) C fL_X11_338 dX11_road_104 o_v0 ea39 ?_
          obtain ⟨o_a39, h⟩ := h
          obtain ⟨a40, ea40, h⟩ := h
          refine r_getNr (pc := 107) C fN_X11_279 dX11_road_107 o_a39 ea40 ?_
          refine r_iload_n (pc := 110) C dX11_road_110 1 rfl ?_
          obtain ⟨o_a40, h⟩ := h
          obtain ⟨i41, h⟩ := h
          refine r_iald (pc := 111) C dX11_road_111 o_a40 i41 ?_
          refine r_topi (fun x42 ex42 => ?_)
          have h := h x42 ex42
          refine r_callVi0 (pc := 112) C (rest := []) (a := v0) o_v0 [.int x42] yV_X11_good g_1518 (c_X11_good h) dX11_road_112 rfl rfl (Nat.le_of_ble_eq_true rfl) ⟨by decide, by decide⟩ ⟨by decide, by decide⟩ ⟨rfl, rfl⟩ (fun x45 S43 h g44 => ?_)
          have h := h g44
          have o_a39 := gr_ob g44 o_a39
          have o_a40 := gr_ob g44 o_a40
          have o_v0 := gr_ob g44 o_v0
          exact r_iret (pc := 115) C E ht dX11_road_115 (by decide) (by decide) h
        | j + 4, hj, _ => exact absurd hj (by omega)
    · have h := h.2 c9
      exact r_sub [0] rfl (T_X11_road_22 C E ht hn h)
def P_X11_road (v0 : Nat) (v1 : Int32) (v2 : Int32) (Q : Int32 → HS → Prop) (S : HS) : Prop := P_X11_road_0 Q v0 v1 v2 S
theorem c_X11_road {l : Launch} {Ee : EE} {S : HS} {v0 : Nat} {v1 : Int32} {v2 : Int32} {Q : Int32 → HS → Prop} (h : P_X11_road v0 v1 v2 Q S) : MI l yX11_road cX11_road 3 (some .int) rm_X11_road Ee S [.ref v0, .int v1, .int v2] Q :=
  openI (by decide) (Nat.le_of_ble_eq_true rfl) (fun X C E ht hn hE hl => by subst hE; exact r_sub [0, 1, 2] rfl (T_X11_road_0 C E ht hn h))
end
