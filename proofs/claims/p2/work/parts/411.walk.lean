def rm_X5_endOf : Room := { frames := 0, cells := 0, slots := 0, locals := 0 }
def P_X5_endOf_0 (Q : Int32 → HS → Prop) (v0 : Nat) (v1 : Int32) (S : HS) : Prop := ((¬ v1 = 0) → (ob S v0 5 ∧ (∀ x2 : Int32, x2 = fI S v0 0 → (Q x2 S)))) ∧ ((v1 = 0) → (ob S v0 5 ∧ (∀ x3 : Int32, x3 = fI S v0 1 → (Q x3 S))))
set_option maxRecDepth 20000 in
set_option maxHeartbeats 4000000 in
theorem T_X5_endOf_0 {X : CX} {Q : Int32 → HS → Prop} (C : Cx X cX5_endOf RX5 2 rm_X5_endOf) (E : ReI X rm_X5_endOf Q) (ht : (xh X).sig.returnType = (some .int)) (hn : (xh X).name = yX5_endOf.name) {v0 : Nat} {v1 : Int32} {S : HS} (h : P_X5_endOf_0 Q v0 v1 S) : WS X 2 0 0 0 [(0, .ref v0), (1, .int v1)] [] S := by
  refine r_iload_n (pc := 0) C dX5_endOf_0 1 rfl ?_
  refine r_if_ne (pc := 1) C (tgt := 11) dX5_endOf_1 (by decide) (fun c1 => ?_) (fun c1 => ?_)
  · have h := h.1 c1
    refine r_aload_n (pc := 11) C dX5_endOf_11 0 rfl ?_
    obtain ⟨o_v0, h⟩ := h
    refine r_geti (pc := 12) C fL_X5_7 dX5_endOf_12 o_v0 ?_
    refine r_topi (fun x2 ex2 => ?_)
    have h := h x2 ex2
    exact r_iret (pc := 15) C E ht dX5_endOf_15 (by decide) (by decide) h
  · have h := h.2 c1
    refine r_aload_n (pc := 4) C dX5_endOf_4 0 rfl ?_
    obtain ⟨o_v0, h⟩ := h
    refine r_geti (pc := 5) C fL_X5_13 dX5_endOf_5 o_v0 ?_
    refine r_topi (fun x3 ex3 => ?_)
    have h := h x3 ex3
    refine r_goto (pc := 8) C (tgt := 15) dX5_endOf_8 (by decide) ?_
    exact r_iret (pc := 15) C E ht dX5_endOf_15 (by decide) (by decide) h
def P_X5_endOf (v0 : Nat) (v1 : Int32) (Q : Int32 → HS → Prop) (S : HS) : Prop := P_X5_endOf_0 Q v0 v1 S
theorem c_X5_endOf {l : Launch} {Ee : EE} {S : HS} {v0 : Nat} {v1 : Int32} {Q : Int32 → HS → Prop} (h : P_X5_endOf v0 v1 Q S) : MI l yX5_endOf cX5_endOf 2 (some .int) rm_X5_endOf Ee S [.ref v0, .int v1] Q :=
  openI (by decide) (Nat.le_of_ble_eq_true rfl) (fun X C E ht hn hE hl => by subst hE; exact r_sub [0, 1] rfl (T_X5_endOf_0 C E ht hn h))
def rm_X5_minutesAt : Room := { frames := 0, cells := 0, slots := 0, locals := 0 }
def P_X5_minutesAt_0 (Q : Int32 → HS → Prop) (v0 : Nat) (v1 : Int32) (S : HS) : Prop := ((v1 ≤ 0) → (Q (0 : Int32) S)) ∧ ((¬ v1 ≤ 0) → (ob S v0 5 ∧ (∀ x2 : Int32, x2 = fI S v0 3 → (¬ v1 = 0 ∧ ∀ x4 : Int32, x4 = ((x2 + v1) - (1 : Int32)) / v1 → (Q x4 S)))))
set_option maxRecDepth 20000 in
set_option maxHeartbeats 4000000 in
theorem T_X5_minutesAt_0 {X : CX} {Q : Int32 → HS → Prop} (C : Cx X cX5_minutesAt RX5 2 rm_X5_minutesAt) (E : ReI X rm_X5_minutesAt Q) (ht : (xh X).sig.returnType = (some .int)) (hn : (xh X).name = yX5_minutesAt.name) {v0 : Nat} {v1 : Int32} {S : HS} (h : P_X5_minutesAt_0 Q v0 v1 S) : WS X 2 0 0 0 [(0, .ref v0), (1, .int v1)] [] S := by
  refine r_iload_n (pc := 0) C dX5_minutesAt_0 1 rfl ?_
  refine r_if_le (pc := 1) C (tgt := 17) dX5_minutesAt_1 (by decide) (fun c1 => ?_) (fun c1 => ?_)
  · have h := h.1 c1
    refine r_iconst (pc := 17) C (v := (0 : Int32)) dX5_minutesAt_17 (by decide) ?_
    exact r_iret (pc := 18) C E ht dX5_minutesAt_18 (by decide) (by decide) h
  · have h := h.2 c1
    refine r_aload_n (pc := 4) C dX5_minutesAt_4 0 rfl ?_
    obtain ⟨o_v0, h⟩ := h
    refine r_geti (pc := 5) C fL_X5_16 dX5_minutesAt_5 o_v0 ?_
    refine r_topi (fun x2 ex2 => ?_)
    have h := h x2 ex2
    refine r_iload_n (pc := 8) C dX5_minutesAt_8 1 rfl ?_
    refine r_iadd (pc := 9) C dX5_minutesAt_9 ?_
    refine r_iconst (pc := 10) C (v := (1 : Int32)) dX5_minutesAt_10 (by decide) ?_
    refine r_isub (pc := 11) C dX5_minutesAt_11 ?_
    refine r_iload_n (pc := 12) C dX5_minutesAt_12 1 rfl ?_
    obtain ⟨q3, h⟩ := h
    refine r_idiv (pc := 13) C dX5_minutesAt_13 q3 ?_
    refine r_topi (fun x4 ex4 => ?_)
    have h := h x4 ex4
    refine r_goto (pc := 14) C (tgt := 18) dX5_minutesAt_14 (by decide) ?_
    exact r_iret (pc := 18) C E ht dX5_minutesAt_18 (by decide) (by decide) h
def P_X5_minutesAt (v0 : Nat) (v1 : Int32) (Q : Int32 → HS → Prop) (S : HS) : Prop := P_X5_minutesAt_0 Q v0 v1 S
theorem c_X5_minutesAt {l : Launch} {Ee : EE} {S : HS} {v0 : Nat} {v1 : Int32} {Q : Int32 → HS → Prop} (h : P_X5_minutesAt v0 v1 Q S) : MI l yX5_minutesAt cX5_minutesAt 2 (some .int) rm_X5_minutesAt Ee S [.ref v0, .int v1] Q :=
  openI (by decide) (Nat.le_of_ble_eq_true rfl) (fun X C E ht hn hE hl => by subst hE; exact r_sub [0, 1] rfl (T_X5_minutesAt_0 C E ht hn h))
def rm_X5_startOf : Room := { frames := 0, cells := 0, slots := 0, locals := 0 }
def P_X5_startOf_0 (Q : Int32 → HS → Prop) (v0 : Nat) (v1 : Int32) (S : HS) : Prop := ((¬ v1 = 0) → (ob S v0 5 ∧ (∀ x2 : Int32, x2 = fI S v0 1 → (Q x2 S)))) ∧ ((v1 = 0) → (ob S v0 5 ∧ (∀ x3 : Int32, x3 = fI S v0 0 → (Q x3 S))))
set_option maxRecDepth 20000 in
set_option maxHeartbeats 4000000 in
theorem T_X5_startOf_0 {X : CX} {Q : Int32 → HS → Prop} (C : Cx X cX5_startOf RX5 2 rm_X5_startOf) (E : ReI X rm_X5_startOf Q) (ht : (xh X).sig.returnType = (some .int)) (hn : (xh X).name = yX5_startOf.name) {v0 : Nat} {v1 : Int32} {S : HS} (h : P_X5_startOf_0 Q v0 v1 S) : WS X 2 0 0 0 [(0, .ref v0), (1, .int v1)] [] S := by
  refine r_iload_n (pc := 0) C dX5_startOf_0 1 rfl ?_
  refine r_if_ne (pc := 1) C (tgt := 11) dX5_startOf_1 (by decide) (fun c1 => ?_) (fun c1 => ?_)
  · have h := h.1 c1
    refine r_aload_n (pc := 11) C dX5_startOf_11 0 rfl ?_
    obtain ⟨o_v0, h⟩ := h
    refine r_geti (pc := 12) C fL_X5_13 dX5_startOf_12 o_v0 ?_
    refine r_topi (fun x2 ex2 => ?_)
    have h := h x2 ex2
    exact r_iret (pc := 15) C E ht dX5_startOf_15 (by decide) (by decide) h
  · have h := h.2 c1
    refine r_aload_n (pc := 4) C dX5_startOf_4 0 rfl ?_
    obtain ⟨o_v0, h⟩ := h
    refine r_geti (pc := 5) C fL_X5_7 dX5_startOf_5 o_v0 ?_
    refine r_topi (fun x3 ex3 => ?_)
    have h := h x3 ex3
    refine r_goto (pc := 8) C (tgt := 15) dX5_startOf_8 (by decide) ?_
    exact r_iret (pc := 15) C E ht dX5_startOf_15 (by decide) (by decide) h
def P_X5_startOf (v0 : Nat) (v1 : Int32) (Q : Int32 → HS → Prop) (S : HS) : Prop := P_X5_startOf_0 Q v0 v1 S
theorem c_X5_startOf {l : Launch} {Ee : EE} {S : HS} {v0 : Nat} {v1 : Int32} {Q : Int32 → HS → Prop} (h : P_X5_startOf v0 v1 Q S) : MI l yX5_startOf cX5_startOf 2 (some .int) rm_X5_startOf Ee S [.ref v0, .int v1] Q :=
  openI (by decide) (Nat.le_of_ble_eq_true rfl) (fun X C E ht hn hE hl => by subst hE; exact r_sub [0, 1] rfl (T_X5_startOf_0 C E ht hn h))
def rm_X5_tell : Room := { frames := 0, cells := 0, slots := 0, locals := 0 }
def P_X5_tell_0 (Q : Int32 → HS → Prop) (v0 : Nat) (v1 : Int32) (S : HS) : Prop := (v1.toInt < 0 ∨ 3 < v1.toInt → (ob S v0 5 ∧ (∀ x2 : Int32, x2 = fI S v0 4 → (Q x2 S)))) ∧ (v1.toInt = 0 → (ob S v0 5 ∧ (∀ x3 : Int32, x3 = fI S v0 0 → (Q x3 S)))) ∧ (v1.toInt = 1 → (ob S v0 5 ∧ (∀ x4 : Int32, x4 = fI S v0 1 → (Q x4 S)))) ∧ (v1.toInt = 2 → (ob S v0 5 ∧ (∀ x5 : Int32, x5 = fI S v0 2 → (Q x5 S)))) ∧ (v1.toInt = 3 → (ob S v0 5 ∧ (∀ x6 : Int32, x6 = fI S v0 3 → (Q x6 S))))
set_option maxRecDepth 20000 in
set_option maxHeartbeats 4000000 in
theorem T_X5_tell_0 {X : CX} {Q : Int32 → HS → Prop} (C : Cx X cX5_tell RX5 2 rm_X5_tell) (E : ReI X rm_X5_tell Q) (ht : (xh X).sig.returnType = (some .int)) (hn : (xh X).name = yX5_tell.name) {v0 : Nat} {v1 : Int32} {S : HS} (h : P_X5_tell_0 Q v0 v1 S) : WS X 2 0 0 0 [(0, .ref v0), (1, .int v1)] [] S := by
  refine r_iload_n (pc := 0) C dX5_tell_0 1 rfl ?_
  refine r_table (pc := 1) C (tgt := 52) dX5_tell_1 (by decide) (fun c1 => ?_) (fun j hj hx => ?_)
  · have h := h.1 c1
    refine r_aload_n (pc := 52) C dX5_tell_52 0 rfl ?_
    obtain ⟨o_v0, h⟩ := h
    refine r_geti (pc := 53) C fL_X5_34 dX5_tell_53 o_v0 ?_
    refine r_topi (fun x2 ex2 => ?_)
    have h := h x2 ex2
    exact r_iret (pc := 56) C E ht dX5_tell_56 (by decide) (by decide) h
  · match j, hj, hx with
    | 0, _, hx =>
      refine ⟨31, 32, rfl, by decide, ?_⟩
      have h := h.2.1 (by simpa using hx)
      refine r_aload_n (pc := 32) C dX5_tell_32 0 rfl ?_
      obtain ⟨o_v0, h⟩ := h
      refine r_geti (pc := 33) C fL_X5_7 dX5_tell_33 o_v0 ?_
      refine r_topi (fun x3 ex3 => ?_)
      have h := h x3 ex3
      exact r_iret (pc := 36) C E ht dX5_tell_36 (by decide) (by decide) h
    | 1, _, hx =>
      refine ⟨36, 37, rfl, by decide, ?_⟩
      have h := h.2.2.1 (by simpa using hx)
      refine r_aload_n (pc := 37) C dX5_tell_37 0 rfl ?_
      obtain ⟨o_v0, h⟩ := h
      refine r_geti (pc := 38) C fL_X5_13 dX5_tell_38 o_v0 ?_
      refine r_topi (fun x4 ex4 => ?_)
      have h := h x4 ex4
      exact r_iret (pc := 41) C E ht dX5_tell_41 (by decide) (by decide) h
    | 2, _, hx =>
      refine ⟨41, 42, rfl, by decide, ?_⟩
      have h := h.2.2.2.1 (by simpa using hx)
      refine r_aload_n (pc := 42) C dX5_tell_42 0 rfl ?_
      obtain ⟨o_v0, h⟩ := h
      refine r_geti (pc := 43) C fL_X5_19 dX5_tell_43 o_v0 ?_
      refine r_topi (fun x5 ex5 => ?_)
      have h := h x5 ex5
      exact r_iret (pc := 46) C E ht dX5_tell_46 (by decide) (by decide) h
    | 3, _, hx =>
      refine ⟨46, 47, rfl, by decide, ?_⟩
      have h := h.2.2.2.2 (by simpa using hx)
      refine r_aload_n (pc := 47) C dX5_tell_47 0 rfl ?_
      obtain ⟨o_v0, h⟩ := h
      refine r_geti (pc := 48) C fL_X5_16 dX5_tell_48 o_v0 ?_
      refine r_topi (fun x6 ex6 => ?_)
      have h := h x6 ex6
      exact r_iret (pc := 51) C E ht dX5_tell_51 (by decide) (by decide) h
    | j + 4, hj, _ => exact absurd hj (by omega)
def P_X5_tell (v0 : Nat) (v1 : Int32) (Q : Int32 → HS → Prop) (S : HS) : Prop := P_X5_tell_0 Q v0 v1 S
theorem c_X5_tell {l : Launch} {Ee : EE} {S : HS} {v0 : Nat} {v1 : Int32} {Q : Int32 → HS → Prop} (h : P_X5_tell v0 v1 Q S) : MI l yX5_tell cX5_tell 2 (some .int) rm_X5_tell Ee S [.ref v0, .int v1] Q :=
  openI (by decide) (Nat.le_of_ble_eq_true rfl) (fun X C E ht hn hE hl => by subst hE; exact r_sub [0, 1] rfl (T_X5_tell_0 C E ht hn h))
def rm_X5_touches : Room := { frames := 0, cells := 0, slots := 0, locals := 0 }
def P_X5_touches_0 (Q : Int32 → HS → Prop) (v0 : Nat) (v1 : Int32) (S : HS) : Prop := ob S v0 5 ∧ (∀ x1 : Int32, x1 = fI S v0 0 → (((x1 = v1) → (Q (1 : Int32) S)) ∧ ((¬ x1 = v1) → (∀ x3 : Int32, x3 = fI S v0 1 → (((¬ x3 = v1) → (Q (0 : Int32) S)) ∧ ((x3 = v1) → (Q (1 : Int32) S)))))))
set_option maxRecDepth 20000 in
set_option maxHeartbeats 4000000 in
theorem T_X5_touches_0 {X : CX} {Q : Int32 → HS → Prop} (C : Cx X cX5_touches RX5 2 rm_X5_touches) (E : ReI X rm_X5_touches (fun r S => bl r ∧ Q r S)) (ht : (xh X).sig.returnType = (some .boolean)) (hn : (xh X).name = yX5_touches.name) {v0 : Nat} {v1 : Int32} {S : HS} (h : P_X5_touches_0 Q v0 v1 S) : WS X 2 0 0 0 [(0, .ref v0), (1, .int v1)] [] S := by
  refine r_aload_n (pc := 0) C dX5_touches_0 0 rfl ?_
  obtain ⟨o_v0, h⟩ := h
  refine r_geti (pc := 1) C fL_X5_7 dX5_touches_1 o_v0 ?_
  refine r_topi (fun x1 ex1 => ?_)
  have h := h x1 ex1
  refine r_iload_n (pc := 4) C dX5_touches_4 1 rfl ?_
  refine r_icmp_eq (pc := 5) C (tgt := 16) dX5_touches_5 (by decide) (fun c2 => ?_) (fun c2 => ?_)
  · have h := h.1 c2
    refine r_iconst (pc := 16) C (v := (1 : Int32)) dX5_touches_16 (by decide) ?_
    refine r_goto (pc := 17) C (tgt := 21) dX5_touches_17 (by decide) ?_
    exact r_zret (pc := 21) C E ht dX5_touches_21 (by decide) (by decide) (Or.inr rfl) h
  · have h := h.2 c2
    refine r_aload_n (pc := 8) C dX5_touches_8 0 rfl ?_
    refine r_geti (pc := 9) C fL_X5_13 dX5_touches_9 o_v0 ?_
    refine r_topi (fun x3 ex3 => ?_)
    have h := h x3 ex3
    refine r_iload_n (pc := 12) C dX5_touches_12 1 rfl ?_
    refine r_icmp_ne (pc := 13) C (tgt := 20) dX5_touches_13 (by decide) (fun c4 => ?_) (fun c4 => ?_)
    · have h := h.1 c4
      refine r_iconst (pc := 20) C (v := (0 : Int32)) dX5_touches_20 (by decide) ?_
      exact r_zret (pc := 21) C E ht dX5_touches_21 (by decide) (by decide) (Or.inl rfl) h
    · have h := h.2 c4
      refine r_iconst (pc := 16) C (v := (1 : Int32)) dX5_touches_16 (by decide) ?_
      refine r_goto (pc := 17) C (tgt := 21) dX5_touches_17 (by decide) ?_
      exact r_zret (pc := 21) C E ht dX5_touches_21 (by decide) (by decide) (Or.inr rfl) h
def P_X5_touches (v0 : Nat) (v1 : Int32) (Q : Int32 → HS → Prop) (S : HS) : Prop := P_X5_touches_0 Q v0 v1 S
theorem c_X5_touches {l : Launch} {Ee : EE} {S : HS} {v0 : Nat} {v1 : Int32} {Q : Int32 → HS → Prop} (h : P_X5_touches v0 v1 Q S) : MI l yX5_touches cX5_touches 2 (some .boolean) rm_X5_touches Ee S [.ref v0, .int v1] (fun r S => bl r ∧ Q r S) :=
  openI (by decide) (Nat.le_of_ble_eq_true rfl) (fun X C E ht hn hE hl => by subst hE; exact r_sub [0, 1] rfl (T_X5_touches_0 C E ht hn h))
def rm_X6_tell : Room := { frames := 0, cells := 0, slots := 0, locals := 0 }
def P_X6_tell_0 (Q : Int32 → HS → Prop) (v0 : Nat) (v1 : Int32) (S : HS) : Prop := (v1.toInt < 0 ∨ 5 < v1.toInt → (ob S v0 6 ∧ (∀ x2 : Int32, x2 = fI S v0 6 → (Q x2 S)))) ∧ (v1.toInt = 0 → (ob S v0 6 ∧ (∀ x3 : Int32, x3 = fI S v0 0 → (Q x3 S)))) ∧ (v1.toInt = 1 → (ob S v0 6 ∧ (∀ x4 : Int32, x4 = fI S v0 1 → (Q x4 S)))) ∧ (v1.toInt = 2 → (ob S v0 6 ∧ (∀ x5 : Int32, x5 = fI S v0 2 → (Q x5 S)))) ∧ (v1.toInt = 3 → (ob S v0 6 ∧ (∀ x6 : Int32, x6 = fI S v0 3 → (Q x6 S)))) ∧ (v1.toInt = 4 → (ob S v0 6 ∧ (∀ x7 : Int32, x7 = fI S v0 4 → (Q x7 S)))) ∧ (v1.toInt = 5 → (ob S v0 6 ∧ (∀ x8 : Int32, x8 = fI S v0 5 → (Q x8 S))))
set_option maxRecDepth 20000 in
set_option maxHeartbeats 4000000 in
theorem T_X6_tell_0 {X : CX} {Q : Int32 → HS → Prop} (C : Cx X cX6_tell RX6 2 rm_X6_tell) (E : ReI X rm_X6_tell Q) (ht : (xh X).sig.returnType = (some .int)) (hn : (xh X).name = yX6_tell.name) {v0 : Nat} {v1 : Int32} {S : HS} (h : P_X6_tell_0 Q v0 v1 S) : WS X 2 0 0 0 [(0, .ref v0), (1, .int v1)] [] S := by
  refine r_iload_n (pc := 0) C dX6_tell_0 1 rfl ?_
  refine r_table (pc := 1) C (tgt := 70) dX6_tell_1 (by decide) (fun c1 => ?_) (fun j hj hx => ?_)
  · have h := h.1 c1
    refine r_aload_n (pc := 70) C dX6_tell_70 0 rfl ?_
    obtain ⟨o_v0, h⟩ := h
    refine r_geti (pc := 71) C fL_X6_30 dX6_tell_71 o_v0 ?_
    refine r_topi (fun x2 ex2 => ?_)
    have h := h x2 ex2
    exact r_iret (pc := 74) C E ht dX6_tell_74 (by decide) (by decide) h
  · match j, hj, hx with
    | 0, _, hx =>
      refine ⟨39, 40, rfl, by decide, ?_⟩
      have h := h.2.1 (by simpa using hx)
      refine r_aload_n (pc := 40) C dX6_tell_40 0 rfl ?_
      obtain ⟨o_v0, h⟩ := h
      refine r_geti (pc := 41) C fL_X6_9 dX6_tell_41 o_v0 ?_
      refine r_topi (fun x3 ex3 => ?_)
      have h := h x3 ex3
      exact r_iret (pc := 44) C E ht dX6_tell_44 (by decide) (by decide) h
    | 1, _, hx =>
      refine ⟨44, 45, rfl, by decide, ?_⟩
      have h := h.2.2.1 (by simpa using hx)
      refine r_aload_n (pc := 45) C dX6_tell_45 0 rfl ?_
      obtain ⟨o_v0, h⟩ := h
      refine r_geti (pc := 46) C fL_X6_15 dX6_tell_46 o_v0 ?_
      refine r_topi (fun x4 ex4 => ?_)
      have h := h x4 ex4
      exact r_iret (pc := 49) C E ht dX6_tell_49 (by decide) (by decide) h
    | 2, _, hx =>
      refine ⟨49, 50, rfl, by decide, ?_⟩
      have h := h.2.2.2.1 (by simpa using hx)
      refine r_aload_n (pc := 50) C dX6_tell_50 0 rfl ?_
      obtain ⟨o_v0, h⟩ := h
      refine r_geti (pc := 51) C fL_X6_18 dX6_tell_51 o_v0 ?_
      refine r_topi (fun x5 ex5 => ?_)
      have h := h x5 ex5
      exact r_iret (pc := 54) C E ht dX6_tell_54 (by decide) (by decide) h
    | 3, _, hx =>
      refine ⟨54, 55, rfl, by decide, ?_⟩
      have h := h.2.2.2.2.1 (by simpa using hx)
      refine r_aload_n (pc := 55) C dX6_tell_55 0 rfl ?_
      obtain ⟨o_v0, h⟩ := h
      refine r_geti (pc := 56) C fL_X6_21 dX6_tell_56 o_v0 ?_
      refine r_topi (fun x6 ex6 => ?_)
      have h := h x6 ex6
      exact r_iret (pc := 59) C E ht dX6_tell_59 (by decide) (by decide) h
    | 4, _, hx =>
      refine ⟨59, 60, rfl, by decide, ?_⟩
      have h := h.2.2.2.2.2.1 (by simpa using hx)
      refine r_aload_n (pc := 60) C dX6_tell_60 0 rfl ?_
      obtain ⟨o_v0, h⟩ := h
      refine r_geti (pc := 61) C fL_X6_24 dX6_tell_61 o_v0 ?_
      refine r_topi (fun x7 ex7 => ?_)
      have h := h x7 ex7
      exact r_iret (pc := 64) C E ht dX6_tell_64 (by decide) (by decide) h
    | 5, _, hx =>
      refine ⟨64, 65, rfl, by decide, ?_⟩
      have h := h.2.2.2.2.2.2 (by simpa using hx)
      refine r_aload_n (pc := 65) C dX6_tell_65 0 rfl ?_
      obtain ⟨o_v0, h⟩ := h
      refine r_geti (pc := 66) C fL_X6_27 dX6_tell_66 o_v0 ?_
      refine r_topi (fun x8 ex8 => ?_)
      have h := h x8 ex8
      exact r_iret (pc := 69) C E ht dX6_tell_69 (by decide) (by decide) h
    | j + 6, hj, _ => exact absurd hj (by omega)
def P_X6_tell (v0 : Nat) (v1 : Int32) (Q : Int32 → HS → Prop) (S : HS) : Prop := P_X6_tell_0 Q v0 v1 S
theorem c_X6_tell {l : Launch} {Ee : EE} {S : HS} {v0 : Nat} {v1 : Int32} {Q : Int32 → HS → Prop} (h : P_X6_tell v0 v1 Q S) : MI l yX6_tell cX6_tell 2 (some .int) rm_X6_tell Ee S [.ref v0, .int v1] Q :=
  openI (by decide) (Nat.le_of_ble_eq_true rfl) (fun X C E ht hn hE hl => by subst hE; exact r_sub [0, 1] rfl (T_X6_tell_0 C E ht hn h))
def rm_X7_addMove : Room := { frames := 0, cells := 0, slots := 0, locals := 0 }
def P_X7_addMove_0 (Q : HS → Prop) (v0 : Nat) (v1 : Int32) (v2 : Int32) (v3 : Int32) (v4 : Int64) (v6 : Int32) (S : HS) : Prop := ob S v0 7 ∧ (∀ x1 : Int32, x1 = fI S v0 11 → (((v1 = x1) → (Q S)) ∧ ((¬ v1 = x1) → (∀ x3 : Int32, x3 = fI S v0 3 → (((x3 < 0) → (Q S)) ∧ ((¬ x3 < 0) → (∀ x5 : Int32, x5 = fI S v0 3 → (((x5 < (224 : Int32)) → (∃ a7 : Nat, fR S v0 4 = some a7 ∧ (∀ x8 : Int32, x8 = fI S v0 3 → (ob S a7 13 ∧ (∀ x10 : Int32, x10 = v1 * (401 : Int32) → (vp_in x8 (hN S a7) ∧ (∃ a11 : Nat, fR (sI S a7 x8.toNatClampNeg x10) v0 5 = some a11 ∧ (∀ x12 : Int32, x12 = fI (sI S a7 x8.toNatClampNeg x10) v0 3 → (ob (sI S a7 x8.toNatClampNeg x10) a11 13 ∧ (∀ x14 : Int32, x14 = (v2 * (401 : Int32)) + v3 → (vp_in x12 (hN (sI S a7 x8.toNatClampNeg x10) a11) ∧ (∃ a15 : Nat, fR (sI (sI S a7 x8.toNatClampNeg x10) a11 x12.toNatClampNeg x14) v0 6 = some a15 ∧ (∀ x16 : Int32, x16 = fI (sI (sI S a7 x8.toNatClampNeg x10) a11 x12.toNatClampNeg x14) v0 3 → (ob (sI (sI S a7 x8.toNatClampNeg x10) a11 x12.toNatClampNeg x14) a15 13 ∧ (vp_in x16 (hN (sI (sI S a7 x8.toNatClampNeg x10) a11 x12.toNatClampNeg x14) a15) ∧ (∃ a18 : Nat, fR (sI (sI (sI S a7 x8.toNatClampNeg x10) a11 x12.toNatClampNeg x14) a15 x16.toNatClampNeg v3) v0 7 = some a18 ∧ (∀ x19 : Int32, x19 = fI (sI (sI (sI S a7 x8.toNatClampNeg x10) a11 x12.toNatClampNeg x14) a15 x16.toNatClampNeg v3) v0 3 → (ob (sI (sI (sI S a7 x8.toNatClampNeg x10) a11 x12.toNatClampNeg x14) a15 x16.toNatClampNeg v3) a18 14 ∧ (∀ x21 : Int64, x21 = v4 * (512 : Int64) → (vp_in x19 (hN (sI (sI (sI S a7 x8.toNatClampNeg x10) a11 x12.toNatClampNeg x14) a15 x16.toNatClampNeg v3) a18) ∧ (∃ a22 : Nat, fR (sJ (sI (sI (sI S a7 x8.toNatClampNeg x10) a11 x12.toNatClampNeg x14) a15 x16.toNatClampNeg v3) a18 x19.toNatClampNeg x21) v0 8 = some a22 ∧ (∀ x23 : Int32, x23 = fI (sJ (sI (sI (sI S a7 x8.toNatClampNeg x10) a11 x12.toNatClampNeg x14) a15 x16.toNatClampNeg v3) a18 x19.toNatClampNeg x21) v0 3 → (ob (sJ (sI (sI (sI S a7 x8.toNatClampNeg x10) a11 x12.toNatClampNeg x14) a15 x16.toNatClampNeg v3) a18 x19.toNatClampNeg x21) a22 13 ∧ (vp_in x23 (hN (sJ (sI (sI (sI S a7 x8.toNatClampNeg x10) a11 x12.toNatClampNeg x14) a15 x16.toNatClampNeg v3) a18 x19.toNatClampNeg x21) a22) ∧ (∀ x25 : Int32, x25 = fI (sI (sJ (sI (sI (sI S a7 x8.toNatClampNeg x10) a11 x12.toNatClampNeg x14) a15 x16.toNatClampNeg v3) a18 x19.toNatClampNeg x21) a22 x23.toNatClampNeg v6) v0 3 → (∀ x26 : Int32, x26 = x25 + (1 : Int32) → (Q (sI (sI (sJ (sI (sI (sI S a7 x8.toNatClampNeg x10) a11 x12.toNatClampNeg x14) a15 x16.toNatClampNeg v3) a18 x19.toNatClampNeg x21) a22 x23.toNatClampNeg v6) v0 3 x26)))))))))))))))))))))))))))) ∧ ((¬ x5 < (224 : Int32)) → (Q S))))))))))
set_option maxRecDepth 20000 in
set_option maxHeartbeats 4000000 in
theorem T_X7_addMove_0 {X : CX} {Q : HS → Prop} (C : Cx X cX7_addMove RX7 7 rm_X7_addMove) (E : ReV X rm_X7_addMove Q) (ht : (xh X).sig.returnType = none) (hn : (xh X).name = yX7_addMove.name) {v0 : Nat} {v1 : Int32} {v2 : Int32} {v3 : Int32} {v4 : Int64} {v6 : Int32} {S : HS} (h : P_X7_addMove_0 Q v0 v1 v2 v3 v4 v6 S) : WS X 7 0 0 0 [(0, .ref v0), (1, .int v1), (2, .int v2), (3, .int v3), (4, .long v4), (6, .int v6)] [] S := by
  refine r_iload_n (pc := 0) C dX7_addMove_0 1 rfl ?_
  refine r_aload_n (pc := 1) C dX7_addMove_1 0 rfl ?_
  obtain ⟨o_v0, h⟩ := h
  refine r_geti (pc := 2) C fL_X7_44 dX7_addMove_2 o_v0 ?_
  refine r_topi (fun x1 ex1 => ?_)
  have h := h x1 ex1
  refine r_icmp_eq (pc := 5) C (tgt := 25) dX7_addMove_5 (by decide) (fun c2 => ?_) (fun c2 => ?_)
  · have h := h.1 c2
    exact r_vret (pc := 25) C E ht dX7_addMove_25 (by decide) (by decide) h
  · have h := h.2 c2
    refine r_aload_n (pc := 8) C dX7_addMove_8 0 rfl ?_
    refine r_geti (pc := 9) C fL_X7_82 dX7_addMove_9 o_v0 ?_
    refine r_topi (fun x3 ex3 => ?_)
    have h := h x3 ex3
    refine r_if_lt (pc := 12) C (tgt := 25) dX7_addMove_12 (by decide) (fun c4 => ?_) (fun c4 => ?_)
    · have h := h.1 c4
      exact r_vret (pc := 25) C E ht dX7_addMove_25 (by decide) (by decide) h
    · have h := h.2 c4
      refine r_aload_n (pc := 15) C dX7_addMove_15 0 rfl ?_
      refine r_geti (pc := 16) C fL_X7_82 dX7_addMove_16 o_v0 ?_
      refine r_topi (fun x5 ex5 => ?_)
      have h := h x5 ex5
      refine r_sipush (pc := 19) C (v := (224 : Int32)) dX7_addMove_19 (by decide) ?_
      refine r_icmp_lt (pc := 22) C (tgt := 26) dX7_addMove_22 (by decide) (fun c6 => ?_) (fun c6 => ?_)
      · have h := h.1 c6
        refine r_aload_n (pc := 26) C dX7_addMove_26 0 rfl ?_
        obtain ⟨a7, ea7, h⟩ := h
        refine r_getr (pc := 27) C fL_X7_22 dX7_addMove_27 o_v0 ea7 ?_
        refine r_aload_n (pc := 30) C dX7_addMove_30 0 rfl ?_
        refine r_geti (pc := 31) C fL_X7_82 dX7_addMove_31 o_v0 ?_
        refine r_topi (fun x8 ex8 => ?_)
        have h := h x8 ex8
        refine r_iload_n (pc := 34) C dX7_addMove_34 1 rfl ?_
        refine r_sipush (pc := 35) C (v := (401 : Int32)) dX7_addMove_35 (by decide) ?_
        refine r_imul (pc := 38) C dX7_addMove_38 ?_
        obtain ⟨o_a7, h⟩ := h
        refine r_topi (fun x10 ex10 => ?_)
        have h := h x10 ex10
        obtain ⟨i9, h⟩ := h
        refine r_iast (pc := 39) C dX7_addMove_39 o_a7 i9 ?_
        refine r_aload_n (pc := 40) C dX7_addMove_40 0 rfl ?_
        obtain ⟨a11, ea11, h⟩ := h
        refine r_getr (pc := 41) C fL_X7_25 dX7_addMove_41 o_v0 ea11 ?_
        refine r_aload_n (pc := 44) C dX7_addMove_44 0 rfl ?_
        refine r_geti (pc := 45) C fL_X7_82 dX7_addMove_45 o_v0 ?_
        refine r_topi (fun x12 ex12 => ?_)
        have h := h x12 ex12
        refine r_iload_n (pc := 48) C dX7_addMove_48 2 rfl ?_
        refine r_sipush (pc := 49) C (v := (401 : Int32)) dX7_addMove_49 (by decide) ?_
        refine r_imul (pc := 52) C dX7_addMove_52 ?_
        refine r_iload_n (pc := 53) C dX7_addMove_53 3 rfl ?_
        refine r_iadd (pc := 54) C dX7_addMove_54 ?_
        obtain ⟨o_a11, h⟩ := h
        refine r_topi (fun x14 ex14 => ?_)
        have h := h x14 ex14
        obtain ⟨i13, h⟩ := h
        refine r_iast (pc := 55) C dX7_addMove_55 o_a11 i13 ?_
        refine r_aload_n (pc := 56) C dX7_addMove_56 0 rfl ?_
        obtain ⟨a15, ea15, h⟩ := h
        refine r_getr (pc := 57) C fL_X7_28 dX7_addMove_57 o_v0 ea15 ?_
        refine r_aload_n (pc := 60) C dX7_addMove_60 0 rfl ?_
        refine r_geti (pc := 61) C fL_X7_82 dX7_addMove_61 o_v0 ?_
        refine r_topi (fun x16 ex16 => ?_)
        have h := h x16 ex16
        refine r_iload_n (pc := 64) C dX7_addMove_64 3 rfl ?_
        obtain ⟨o_a15, h⟩ := h
        obtain ⟨i17, h⟩ := h
        refine r_iast (pc := 65) C dX7_addMove_65 o_a15 i17 ?_
        refine r_aload_n (pc := 66) C dX7_addMove_66 0 rfl ?_
        obtain ⟨a18, ea18, h⟩ := h
        refine r_getr (pc := 67) C fL_X7_31 dX7_addMove_67 o_v0 ea18 ?_
        refine r_aload_n (pc := 70) C dX7_addMove_70 0 rfl ?_
        refine r_geti (pc := 71) C fL_X7_82 dX7_addMove_71 o_v0 ?_
        refine r_topi (fun x19 ex19 => ?_)
        have h := h x19 ex19
        refine r_lload (pc := 74) C dX7_addMove_74 4 rfl ?_
        refine r_ldc2 (pc := 76) C (v := (512 : Int64)) dX7_addMove_76 g_857 ?_
        refine r_lmul (pc := 79) C dX7_addMove_79 ?_
        obtain ⟨o_a18, h⟩ := h
        refine r_topl (fun x21 ex21 => ?_)
        have h := h x21 ex21
        obtain ⟨i20, h⟩ := h
        refine r_last (pc := 80) C dX7_addMove_80 o_a18 i20 ?_
        refine r_aload_n (pc := 81) C dX7_addMove_81 0 rfl ?_
        obtain ⟨a22, ea22, h⟩ := h
        refine r_getr (pc := 82) C fL_X7_34 dX7_addMove_82 o_v0 ea22 ?_
        refine r_aload_n (pc := 85) C dX7_addMove_85 0 rfl ?_
        refine r_geti (pc := 86) C fL_X7_82 dX7_addMove_86 o_v0 ?_
        refine r_topi (fun x23 ex23 => ?_)
        have h := h x23 ex23
        refine r_iload (pc := 89) C dX7_addMove_89 5 rfl ?_
        obtain ⟨o_a22, h⟩ := h
        obtain ⟨i24, h⟩ := h
        refine r_iast (pc := 91) C dX7_addMove_91 o_a22 i24 ?_
        refine r_aload_n (pc := 92) C dX7_addMove_92 0 rfl ?_
        refine r_dup (pc := 93) C dX7_addMove_93 rfl ?_
        refine r_geti (pc := 94) C fL_X7_82 dX7_addMove_94 o_v0 ?_
        refine r_topi (fun x25 ex25 => ?_)
        have h := h x25 ex25
        refine r_iconst (pc := 97) C (v := (1 : Int32)) dX7_addMove_97 (by decide) ?_
        refine r_iadd (pc := 98) C dX7_addMove_98 ?_
        refine r_topi (fun x26 ex26 => ?_)
        have h := h x26 ex26
        refine r_puti (pc := 99) C pfL_X7_82 dX7_addMove_99 o_v0 ?_
        exact r_vret (pc := 102) C E ht dX7_addMove_102 (by decide) (by decide) h
      · have h := h.2 c6
        exact r_vret (pc := 25) C E ht dX7_addMove_25 (by decide) (by decide) h
def P_X7_addMove (v0 : Nat) (v1 : Int32) (v2 : Int32) (v3 : Int32) (v4 : Int64) (v6 : Int32) (Q : HS → Prop) (S : HS) : Prop := P_X7_addMove_0 Q v0 v1 v2 v3 v4 v6 S
theorem c_X7_addMove {l : Launch} {Ee : EE} {S : HS} {v0 : Nat} {v1 : Int32} {v2 : Int32} {v3 : Int32} {v4 : Int64} {v6 : Int32} {Q : HS → Prop} (h : P_X7_addMove v0 v1 v2 v3 v4 v6 Q S) : MV l yX7_addMove cX7_addMove 7 none rm_X7_addMove Ee S [.ref v0, .int v1, .int v2, .int v3, .long v4, .int v6] Q :=
  openV (by decide) (Nat.le_of_ble_eq_true rfl) (fun X C E ht hn hE hl => by subst hE; exact r_sub [0, 1, 2, 3, 4, 5] rfl (T_X7_addMove_0 C E ht hn h))
def rm_X7_addLeg : Room := { frames := 1, cells := 0, slots := 0, locals := 26 }
def P_X7_addLeg_82 (Q : HS → Prop) (v0 : Nat) (v1 : Nat) (v2 : Int32) (v4 : Int64) (v6 : Int32) (v7 : Int32) (S : HS) : Prop := ob S v1 5 ∧ (P_X5_startOf v1 v2 (fun x3 S1 => Gr S S1 → (P_X5_endOf v1 v2 (fun x6 S4 => Gr S1 S4 → (ob S4 v0 7 ∧ (P_X7_addMove v0 x3 x6 v7 v4 v6 (fun S7 => Gr S4 S7 → (Q S7)) S4))) S1)) S)
set_option maxRecDepth 20000 in
set_option maxHeartbeats 4000000 in
theorem T_X7_addLeg_82 {X : CX} {Q : HS → Prop} (C : Cx X cX7_addLeg RX7 9 rm_X7_addLeg) (E : ReV X rm_X7_addLeg Q) (ht : (xh X).sig.returnType = none) (hn : (xh X).name = yX7_addLeg.name) {v0 : Nat} {v1 : Nat} {v2 : Int32} {v4 : Int64} {v6 : Int32} {v7 : Int32} {S : HS} (h : P_X7_addLeg_82 Q v0 v1 v2 v4 v6 v7 S) : WS X 9 0 0 82 [(0, .ref v0), (1, .ref v1), (2, .int v2), (4, .long v4), (6, .int v6), (7, .int v7)] [] S := by
  refine r_aload_n (pc := 82) C dX7_addLeg_82 0 rfl ?_
  refine r_aload_n (pc := 83) C dX7_addLeg_83 1 rfl ?_
  refine r_iload_n (pc := 84) C dX7_addLeg_84 2 rfl ?_
  obtain ⟨o_v1, h⟩ := h
  refine r_callVi0 (pc := 85) C (rest := [.ref v0]) (a := v1) o_v1 [.int v2] yV_X5_startOf g_858 (c_X5_startOf h) dX7_addLeg_85 rfl rfl (Nat.le_of_ble_eq_true rfl) ⟨by decide, by decide⟩ ⟨by decide, by decide⟩ ⟨rfl, rfl⟩ (fun x3 S1 h g2 => ?_)
  have h := h g2
  have o_v1 := gr_ob g2 o_v1
  refine r_aload_n (pc := 88) C dX7_addLeg_88 1 rfl ?_
  refine r_iload_n (pc := 89) C dX7_addLeg_89 2 rfl ?_
  refine r_callVi0 (pc := 90) C (rest := [.int x3, .ref v0]) (a := v1) o_v1 [.int v2] yV_X5_endOf g_862 (c_X5_endOf h) dX7_addLeg_90 rfl rfl (Nat.le_of_ble_eq_true rfl) ⟨by decide, by decide⟩ ⟨by decide, by decide⟩ ⟨rfl, rfl⟩ (fun x6 S4 h g5 => ?_)
  have h := h g5
  have o_v1 := gr_ob g5 o_v1
  refine r_iload (pc := 93) C dX7_addLeg_93 5 rfl ?_
  refine r_lload (pc := 95) C dX7_addLeg_95 3 rfl ?_
  refine r_iload (pc := 97) C dX7_addLeg_97 4 rfl ?_
  obtain ⟨o_v0, h⟩ := h
  refine r_callVv0 (pc := 99) C (rest := []) (a := v0) o_v0 [.int x3, .int x6, .int v7, .long v4, .int v6] yV_X7_addMove g_866 (c_X7_addMove h) dX7_addLeg_99 rfl rfl (Nat.le_of_ble_eq_true rfl) ⟨by decide, by decide⟩ ⟨by decide, by decide⟩ ⟨rfl, rfl⟩ (fun S7 h g8 => ?_)
  have h := h g8
  have o_v0 := gr_ob g8 o_v0
  have o_v1 := gr_ob g8 o_v1
  exact r_vret (pc := 102) C E ht dX7_addLeg_102 (by decide) (by decide) h
def P_X7_addLeg_0 (Q : HS → Prop) (v0 : Nat) (v1 : Nat) (v2 : Int32) (v3 : Int32) (v4 : Int64) (v6 : Int32) (S : HS) : Prop := ob S v1 5 ∧ (P_X5_minutesAt v1 v3 (fun x3 S1 => Gr S S1 → (ob S1 v0 7 ∧ (∀ x4 : Int32, x4 = fI S1 v0 3 → (∀ x5 : Int32, x5 = x4 - (1 : Int32) → (((x5 < 0) → (P_X7_addLeg_82 Q v0 v1 v2 v4 v6 x3 S1)) ∧ ((¬ x5 < 0) → ((((224 : Int32) ≤ x5) → (P_X7_addLeg_82 Q v0 v1 v2 v4 v6 x3 S1)) ∧ ((¬ (224 : Int32) ≤ x5) → (∃ a8 : Nat, fR S1 v0 8 = some a8 ∧ (ob S1 a8 13 ∧ (vp_in x5 (hN S1 a8) ∧ ∀ x10 : Int32, x10 = fI S1 a8 x5.toNatClampNeg → (∀ x11 : Int32, x11 = x10 / (10 : Int32) → (∀ x12 : Int32, x12 = v6 / (10 : Int32) → (((¬ x11 = x12) → (P_X7_addLeg_82 Q v0 v1 v2 v4 v6 x3 S1)) ∧ ((x11 = x12) → (∃ a14 : Nat, fR S1 v0 6 = some a14 ∧ (ob S1 a14 13 ∧ (vp_in x5 (hN S1 a14) ∧ ∀ x16 : Int32, x16 = fI S1 a14 x5.toNatClampNeg → (((¬ x16 = x3) → (P_X7_addLeg_82 Q v0 v1 v2 v4 v6 x3 S1)) ∧ ((x16 = x3) → (∃ a18 : Nat, fR S1 v0 7 = some a18 ∧ (ob S1 a18 14 ∧ (vp_in x5 (hN S1 a18) ∧ ∀ x20 : Int64, x20 = fJ S1 a18 x5.toNatClampNeg → (((0 < (lg_cmp x20 (v4 * (512 : Int64)))) → (P_X7_addLeg_82 Q v0 v1 v2 v4 v6 x3 (sI S1 v0 3 x5))) ∧ ((¬ 0 < (lg_cmp x20 (v4 * (512 : Int64)))) → (Q S1)))))))))))))))))))))))))) S)
set_option maxRecDepth 20000 in
set_option maxHeartbeats 4000000 in
theorem T_X7_addLeg_0 {X : CX} {Q : HS → Prop} (C : Cx X cX7_addLeg RX7 9 rm_X7_addLeg) (E : ReV X rm_X7_addLeg Q) (ht : (xh X).sig.returnType = none) (hn : (xh X).name = yX7_addLeg.name) {v0 : Nat} {v1 : Nat} {v2 : Int32} {v3 : Int32} {v4 : Int64} {v6 : Int32} {S : HS} (h : P_X7_addLeg_0 Q v0 v1 v2 v3 v4 v6 S) : WS X 9 0 0 0 [(0, .ref v0), (1, .ref v1), (2, .int v2), (3, .int v3), (4, .long v4), (6, .int v6)] [] S := by
  refine r_aload_n (pc := 0) C dX7_addLeg_0 1 rfl ?_
  refine r_iload_n (pc := 1) C dX7_addLeg_1 3 rfl ?_
  obtain ⟨o_v1, h⟩ := h
  refine r_callVi0 (pc := 2) C (rest := []) (a := v1) o_v1 [.int v3] yV_X5_minutesAt g_856 (c_X5_minutesAt h) dX7_addLeg_2 rfl rfl (Nat.le_of_ble_eq_true rfl) ⟨by decide, by decide⟩ ⟨by decide, by decide⟩ ⟨rfl, rfl⟩ (fun x3 S1 h g2 => ?_)
  have h := h g2
  have o_v1 := gr_ob g2 o_v1
  refine r_istore (pc := 5) C dX7_addLeg_5 (by decide) (lv' := [(7, .int x3), (0, .ref v0), (1, .ref v1), (2, .int v2), (3, .int v3), (4, .long v4), (6, .int v6)]) rfl ?_
  refine r_aload_n (pc := 7) C dX7_addLeg_7 1 rfl ?_
  obtain ⟨o_v0, h⟩ := h
  refine r_geti (pc := 8) C fL_X7_82 dX7_addLeg_8 o_v0 ?_
  refine r_topi (fun x4 ex4 => ?_)
  have h := h x4 ex4
  refine r_iconst (pc := 11) C (v := (1 : Int32)) dX7_addLeg_11 (by decide) ?_
  refine r_isub (pc := 12) C dX7_addLeg_12 ?_
  refine r_topi (fun x5 ex5 => ?_)
  have h := h x5 ex5
  refine r_istore (pc := 13) C dX7_addLeg_13 (by decide) (lv' := [(8, .int x5), (7, .int x3), (0, .ref v0), (1, .ref v1), (2, .int v2), (3, .int v3), (4, .long v4), (6, .int v6)]) rfl ?_
  refine r_iload (pc := 15) C dX7_addLeg_15 0 rfl ?_
  refine r_if_lt (pc := 17) C (tgt := 82) dX7_addLeg_17 (by decide) (fun c6 => ?_) (fun c6 => ?_)
  · have h := h.1 c6
    exact r_sub [2, 3, 4, 6, 7, 1] rfl (T_X7_addLeg_82 C E ht hn h)
  · have h := h.2 c6
    refine r_iload (pc := 20) C dX7_addLeg_20 0 rfl ?_
    refine r_sipush (pc := 22) C (v := (224 : Int32)) dX7_addLeg_22 (by decide) ?_
    refine r_icmp_ge (pc := 25) C (tgt := 82) dX7_addLeg_25 (by decide) (fun c7 => ?_) (fun c7 => ?_)
    · have h := h.1 c7
      exact r_sub [2, 3, 4, 6, 7, 1] rfl (T_X7_addLeg_82 C E ht hn h)
    · have h := h.2 c7
      refine r_aload_n (pc := 28) C dX7_addLeg_28 2 rfl ?_
      obtain ⟨a8, ea8, h⟩ := h
      refine r_getr (pc := 29) C fL_X7_34 dX7_addLeg_29 o_v0 ea8 ?_
      refine r_iload (pc := 32) C dX7_addLeg_32 0 rfl ?_
      obtain ⟨o_a8, h⟩ := h
      obtain ⟨i9, h⟩ := h
      refine r_iald (pc := 34) C dX7_addLeg_34 o_a8 i9 ?_
      refine r_topi (fun x10 ex10 => ?_)
      have h := h x10 ex10
      refine r_bipush (pc := 35) C (v := (10 : Int32)) dX7_addLeg_35 (by decide) ?_
      refine r_idiv (pc := 37) C dX7_addLeg_37 (by decide) ?_
      refine r_topi (fun x11 ex11 => ?_)
      have h := h x11 ex11
      refine r_iload (pc := 38) C dX7_addLeg_38 7 rfl ?_
      refine r_bipush (pc := 40) C (v := (10 : Int32)) dX7_addLeg_40 (by decide) ?_
      refine r_idiv (pc := 42) C dX7_addLeg_42 (by decide) ?_
      refine r_topi (fun x12 ex12 => ?_)
      have h := h x12 ex12
      refine r_icmp_ne (pc := 43) C (tgt := 82) dX7_addLeg_43 (by decide) (fun c13 => ?_) (fun c13 => ?_)
      · have h := h.1 c13
        exact r_sub [2, 3, 4, 6, 7, 1] rfl (T_X7_addLeg_82 C E ht hn h)
      · have h := h.2 c13
        refine r_aload_n (pc := 46) C dX7_addLeg_46 2 rfl ?_
        obtain ⟨a14, ea14, h⟩ := h
        refine r_getr (pc := 47) C fL_X7_28 dX7_addLeg_47 o_v0 ea14 ?_
        refine r_iload (pc := 50) C dX7_addLeg_50 0 rfl ?_
        obtain ⟨o_a14, h⟩ := h
        obtain ⟨i15, h⟩ := h
        refine r_iald (pc := 52) C dX7_addLeg_52 o_a14 i15 ?_
        refine r_topi (fun x16 ex16 => ?_)
        have h := h x16 ex16
        refine r_iload (pc := 53) C dX7_addLeg_53 1 rfl ?_
        refine r_icmp_ne (pc := 55) C (tgt := 82) dX7_addLeg_55 (by decide) (fun c17 => ?_) (fun c17 => ?_)
        · have h := h.1 c17
          exact r_sub [2, 3, 4, 6, 7, 1] rfl (T_X7_addLeg_82 C E ht hn h)
        · have h := h.2 c17
          refine r_aload_n (pc := 58) C dX7_addLeg_58 2 rfl ?_
          obtain ⟨a18, ea18, h⟩ := h
          refine r_getr (pc := 59) C fL_X7_31 dX7_addLeg_59 o_v0 ea18 ?_
          refine r_iload (pc := 62) C dX7_addLeg_62 0 rfl ?_
          obtain ⟨o_a18, h⟩ := h
          obtain ⟨i19, h⟩ := h
          refine r_lald (pc := 64) C dX7_addLeg_64 o_a18 i19 ?_
          refine r_topl (fun x20 ex20 => ?_)
          have h := h x20 ex20
          refine r_lload (pc := 65) C dX7_addLeg_65 6 rfl ?_
          refine r_ldc2 (pc := 67) C (v := (512 : Int64)) dX7_addLeg_67 g_857 ?_
          refine r_lmul (pc := 70) C dX7_addLeg_70 ?_
          refine r_lcmp (pc := 71) C dX7_addLeg_71 ?_
          refine r_if_gt (pc := 72) C (tgt := 76) dX7_addLeg_72 (by decide) (fun c21 => ?_) (fun c21 => ?_)
          · have h := h.1 c21
            refine r_aload_n (pc := 76) C dX7_addLeg_76 2 rfl ?_
            refine r_iload (pc := 77) C dX7_addLeg_77 0 rfl ?_
            refine r_puti (pc := 79) C pfL_X7_82 dX7_addLeg_79 o_v0 ?_
            exact r_sub [2, 3, 4, 6, 7, 1] rfl (T_X7_addLeg_82 C E ht hn h)
          · have h := h.2 c21
            exact r_vret (pc := 75) C E ht dX7_addLeg_75 (by decide) (by decide) h
def P_X7_addLeg (v0 : Nat) (v1 : Nat) (v2 : Int32) (v3 : Int32) (v4 : Int64) (v6 : Int32) (Q : HS → Prop) (S : HS) : Prop := P_X7_addLeg_0 Q v0 v1 v2 v3 v4 v6 S
theorem c_X7_addLeg {l : Launch} {Ee : EE} {S : HS} {v0 : Nat} {v1 : Nat} {v2 : Int32} {v3 : Int32} {v4 : Int64} {v6 : Int32} {Q : HS → Prop} (h : P_X7_addLeg v0 v1 v2 v3 v4 v6 Q S) : MV l yX7_addLeg cX7_addLeg 9 none rm_X7_addLeg Ee S [.ref v0, .ref v1, .int v2, .int v3, .long v4, .int v6] Q :=
  openV (by decide) (Nat.le_of_ble_eq_true rfl) (fun X C E ht hn hE hl => by subst hE; exact r_sub [0, 1, 2, 3, 4, 5] rfl (T_X7_addLeg_0 C E ht hn h))
def rm_X7_keyOf : Room := { frames := 0, cells := 0, slots := 0, locals := 0 }
def P_X7_keyOf_0 (Q : Int64 → HS → Prop) (v0 : Nat) (v1 : Int32) (v2 : Int32) (S : HS) : Prop := ∀ x1 : Int32, x1 = (v1 * (401 : Int32)) + v2 → (((x1 < 0) → (Q (4611686018427387904 : Int64) S)) ∧ ((¬ x1 < 0) → (ob S v0 7 ∧ (∃ a3 : Nat, fR S v0 1 = some a3 ∧ (ob S a3 14 ∧ ((((nI (hN S a3)) ≤ x1) → (Q (4611686018427387904 : Int64) S)) ∧ ((¬ (nI (hN S a3)) ≤ x1) → (∃ a5 : Nat, fR S v0 1 = some a5 ∧ (ob S a5 14 ∧ (vp_in x1 (hN S a5) ∧ ∀ x7 : Int64, x7 = fJ S a5 x1.toNatClampNeg → (Q x7 S)))))))))))
set_option maxRecDepth 20000 in
set_option maxHeartbeats 4000000 in
theorem T_X7_keyOf_0 {X : CX} {Q : Int64 → HS → Prop} (C : Cx X cX7_keyOf RX7 4 rm_X7_keyOf) (E : ReJ X rm_X7_keyOf Q) (ht : (xh X).sig.returnType = (some .long)) (hn : (xh X).name = yX7_keyOf.name) {v0 : Nat} {v1 : Int32} {v2 : Int32} {S : HS} (h : P_X7_keyOf_0 Q v0 v1 v2 S) : WS X 4 0 0 0 [(0, .ref v0), (1, .int v1), (2, .int v2)] [] S := by
  refine r_iload_n (pc := 0) C dX7_keyOf_0 1 rfl ?_
  refine r_sipush (pc := 1) C (v := (401 : Int32)) dX7_keyOf_1 (by decide) ?_
  refine r_imul (pc := 4) C dX7_keyOf_4 ?_
  refine r_iload_n (pc := 5) C dX7_keyOf_5 2 rfl ?_
  refine r_iadd (pc := 6) C dX7_keyOf_6 ?_
  refine r_topi (fun x1 ex1 => ?_)
  have h := h x1 ex1
  refine r_istore_n (pc := 7) C dX7_keyOf_7 rfl (by decide) (lv' := [(3, .int x1), (0, .ref v0), (1, .int v1), (2, .int v2)]) rfl ?_
  refine r_iload_n (pc := 8) C dX7_keyOf_8 0 rfl ?_
  refine r_if_lt (pc := 9) C (tgt := 30) dX7_keyOf_9 (by decide) (fun c2 => ?_) (fun c2 => ?_)
  · have h := h.1 c2
    refine r_ldc2 (pc := 30) C (v := (4611686018427387904 : Int64)) dX7_keyOf_30 g_887 ?_
    exact r_lret (pc := 33) C E ht dX7_keyOf_33 (by decide) (by decide) h
  · have h := h.2 c2
    refine r_iload_n (pc := 12) C dX7_keyOf_12 0 rfl ?_
    refine r_aload_n (pc := 13) C dX7_keyOf_13 1 rfl ?_
    obtain ⟨o_v0, h⟩ := h
    obtain ⟨a3, ea3, h⟩ := h
    refine r_getr (pc := 14) C fL_X7_15 dX7_keyOf_14 o_v0 ea3 ?_
    obtain ⟨o_a3, h⟩ := h
    refine r_alen14 (pc := 17) C dX7_keyOf_17 o_a3 ?_
    refine r_icmp_ge (pc := 18) C (tgt := 30) dX7_keyOf_18 (by decide) (fun c4 => ?_) (fun c4 => ?_)
    · have h := h.1 c4
      refine r_ldc2 (pc := 30) C (v := (4611686018427387904 : Int64)) dX7_keyOf_30 g_887 ?_
      exact r_lret (pc := 33) C E ht dX7_keyOf_33 (by decide) (by decide) h
    · have h := h.2 c4
      refine r_aload_n (pc := 21) C dX7_keyOf_21 1 rfl ?_
      obtain ⟨a5, ea5, h⟩ := h
      refine r_getr (pc := 22) C fL_X7_15 dX7_keyOf_22 o_v0 ea5 ?_
      refine r_iload_n (pc := 25) C dX7_keyOf_25 0 rfl ?_
      obtain ⟨o_a5, h⟩ := h
      obtain ⟨i6, h⟩ := h
      refine r_lald (pc := 26) C dX7_keyOf_26 o_a5 i6 ?_
      refine r_topl (fun x7 ex7 => ?_)
      have h := h x7 ex7
      refine r_goto (pc := 27) C (tgt := 33) dX7_keyOf_27 (by decide) ?_
      exact r_lret (pc := 33) C E ht dX7_keyOf_33 (by decide) (by decide) h
def P_X7_keyOf (v0 : Nat) (v1 : Int32) (v2 : Int32) (Q : Int64 → HS → Prop) (S : HS) : Prop := P_X7_keyOf_0 Q v0 v1 v2 S
theorem c_X7_keyOf {l : Launch} {Ee : EE} {S : HS} {v0 : Nat} {v1 : Int32} {v2 : Int32} {Q : Int64 → HS → Prop} (h : P_X7_keyOf v0 v1 v2 Q S) : MJ l yX7_keyOf cX7_keyOf 4 (some .long) rm_X7_keyOf Ee S [.ref v0, .int v1, .int v2] Q :=
  openJ (by decide) (Nat.le_of_ble_eq_true rfl) (fun X C E ht hn hE hl => by subst hE; exact r_sub [0, 1, 2] rfl (T_X7_keyOf_0 C E ht hn h))
def rm_X7_endFrom : Room := { frames := 1, cells := 0, slots := 0, locals := 23 }
def P_X7_endFrom_0 (Q : Int32 → HS → Prop) (v0 : Nat) (v1 : Int32) (v2 : Int32) (S : HS) : Prop := ob S v0 7 ∧ (P_X7_keyOf v0 v1 v2 (fun x3 S1 => Gr S S1 → (∀ x4 : Int64, x4 = x3 - x3 / (512 : Int64) * (512 : Int64) → (Q x4.toInt32 S1))) S)
set_option maxRecDepth 20000 in
set_option maxHeartbeats 4000000 in
theorem T_X7_endFrom_0 {X : CX} {Q : Int32 → HS → Prop} (C : Cx X cX7_endFrom RX7 3 rm_X7_endFrom) (E : ReI X rm_X7_endFrom Q) (ht : (xh X).sig.returnType = (some .int)) (hn : (xh X).name = yX7_endFrom.name) {v0 : Nat} {v1 : Int32} {v2 : Int32} {S : HS} (h : P_X7_endFrom_0 Q v0 v1 v2 S) : WS X 3 0 0 0 [(0, .ref v0), (1, .int v1), (2, .int v2)] [] S := by
  refine r_aload_n (pc := 0) C dX7_endFrom_0 0 rfl ?_
  refine r_iload_n (pc := 1) C dX7_endFrom_1 1 rfl ?_
  refine r_iload_n (pc := 2) C dX7_endFrom_2 2 rfl ?_
  obtain ⟨o_v0, h⟩ := h
  refine r_callVl0 (pc := 3) C (rest := []) (a := v0) o_v0 [.int v1, .int v2] yV_X7_keyOf g_892 (c_X7_keyOf h) dX7_endFrom_3 rfl rfl (Nat.le_of_ble_eq_true rfl) ⟨by decide, by decide⟩ ⟨by decide, by decide⟩ ⟨rfl, rfl⟩ (fun x3 S1 h g2 => ?_)
  have h := h g2
  have o_v0 := gr_ob g2 o_v0
  refine r_ldc2 (pc := 6) C (v := (512 : Int64)) dX7_endFrom_6 g_857 ?_
  refine r_lrem (pc := 9) C dX7_endFrom_9 (by decide) ?_
  refine r_topl (fun x4 ex4 => ?_)
  have h := h x4 ex4
  refine r_l2i (pc := 10) C dX7_endFrom_10 ?_
  exact r_iret (pc := 11) C E ht dX7_endFrom_11 (by decide) (by decide) h
def P_X7_endFrom (v0 : Nat) (v1 : Int32) (v2 : Int32) (Q : Int32 → HS → Prop) (S : HS) : Prop := P_X7_endFrom_0 Q v0 v1 v2 S
theorem c_X7_endFrom {l : Launch} {Ee : EE} {S : HS} {v0 : Nat} {v1 : Int32} {v2 : Int32} {Q : Int32 → HS → Prop} (h : P_X7_endFrom v0 v1 v2 Q S) : MI l yX7_endFrom cX7_endFrom 3 (some .int) rm_X7_endFrom Ee S [.ref v0, .int v1, .int v2] Q :=
  openI (by decide) (Nat.le_of_ble_eq_true rfl) (fun X C E ht hn hE hl => by subst hE; exact r_sub [0, 1, 2] rfl (T_X7_endFrom_0 C E ht hn h))
def rm_X7_forget : Room := { frames := 0, cells := 0, slots := 0, locals := 0 }
def P_X7_forget_0 (Q : HS → Prop) (v0 : Nat) (S : HS) : Prop := ob S v0 7 ∧ (Q (sI S v0 10 (-1 : Int32)))
set_option maxRecDepth 20000 in
set_option maxHeartbeats 4000000 in
theorem T_X7_forget_0 {X : CX} {Q : HS → Prop} (C : Cx X cX7_forget RX7 1 rm_X7_forget) (E : ReV X rm_X7_forget Q) (ht : (xh X).sig.returnType = none) (hn : (xh X).name = yX7_forget.name) {v0 : Nat} {S : HS} (h : P_X7_forget_0 Q v0 S) : WS X 1 0 0 0 [(0, .ref v0)] [] S := by
  refine r_aload_n (pc := 0) C dX7_forget_0 0 rfl ?_
  refine r_iconst (pc := 1) C (v := (-1 : Int32)) dX7_forget_1 (by decide) ?_
  obtain ⟨o_v0, h⟩ := h
  refine r_puti (pc := 2) C pfL_X7_41 dX7_forget_2 o_v0 ?_
  exact r_vret (pc := 5) C E ht dX7_forget_5 (by decide) (by decide) h
def P_X7_forget (v0 : Nat) (Q : HS → Prop) (S : HS) : Prop := P_X7_forget_0 Q v0 S
theorem c_X7_forget {l : Launch} {Ee : EE} {S : HS} {v0 : Nat} {Q : HS → Prop} (h : P_X7_forget v0 Q S) : MV l yX7_forget cX7_forget 1 none rm_X7_forget Ee S [.ref v0] Q :=
  openV (by decide) (Nat.le_of_ble_eq_true rfl) (fun X C E ht hn hE hl => by subst hE; exact r_sub [0] rfl (T_X7_forget_0 C E ht hn h))
def rm_X7_init : Room := { frames := 1, cells := 8, slots := 0, locals := 20 }
def P_X7_init_0 (Q : HS → Prop) (v0 : Nat) (S : HS) : Prop := ∀ a1 : Nat, a1 ∉ hL S → ∀ S2 : HS, S2 = nW S a1 13 0 → (ob S2 v0 7 ∧ (∀ a3 : Nat, a3 ∉ hL (sR S2 v0 0 (some a1)) → ∀ S4 : HS, S4 = nW (sR S2 v0 0 (some a1)) a3 14 0 → (∀ a5 : Nat, a5 ∉ hL (sR S4 v0 1 (some a3)) → ∀ S6 : HS, S6 = nW (sR S4 v0 1 (some a3)) a5 13 0 → (∀ a7 : Nat, a7 ∉ hL (sR S6 v0 2 (some a5)) → ∀ S8 : HS, S8 = nW (sR S6 v0 2 (some a5)) a7 13 0 → (∀ a9 : Nat, a9 ∉ hL (sR S8 v0 4 (some a7)) → ∀ S10 : HS, S10 = nW (sR S8 v0 4 (some a7)) a9 13 0 → (∀ a11 : Nat, a11 ∉ hL (sR S10 v0 5 (some a9)) → ∀ S12 : HS, S12 = nW (sR S10 v0 5 (some a9)) a11 13 0 → (∀ a13 : Nat, a13 ∉ hL (sR S12 v0 6 (some a11)) → ∀ S14 : HS, S14 = nW (sR S12 v0 6 (some a11)) a13 14 0 → (∀ a15 : Nat, a15 ∉ hL (sR S14 v0 7 (some a13)) → ∀ S16 : HS, S16 = nW (sR S14 v0 7 (some a13)) a15 13 0 → (Q (sI (sI (sI (sI (sR S16 v0 8 (some a15)) v0 9 (-1 : Int32)) v0 10 (-1 : Int32)) v0 11 (-1 : Int32)) v0 12 (-1 : Int32)))))))))))
set_option maxRecDepth 20000 in
set_option maxHeartbeats 4000000 in
theorem T_X7_init_0 {X : CX} {Q : HS → Prop} (C : Cx X cX7_init RX7 1 rm_X7_init) (E : ReV X rm_X7_init Q) (ht : (xh X).sig.returnType = none) (hn : (xh X).name = yX7_init.name) {v0 : Nat} {S : HS} (h : P_X7_init_0 Q v0 S) : WS X 1 0 0 0 [(0, .ref v0)] [] S := by
  refine r_aload_n (pc := 0) C dX7_init_0 0 rfl ?_
  refine r_objinit (pc := 1) C g_286 dX7_init_1 (by decide) (Nat.le_of_ble_eq_true rfl) ?_
  refine r_aload_n (pc := 4) C dX7_init_4 0 rfl ?_
  refine r_iconst (pc := 5) C (v := (0 : Int32)) dX7_init_5 (by decide) ?_
  refine r_newa13 (pc := 6) C (N := 0) g_72 dX7_init_6 (by decide) (by decide) (by decide) (by decide) (by decide) (fun a1 q31 => ?_)
  refine r_heap (fun S2 eS2 => ?_)
  have h := h a1 q31 S2 eS2
  have g32 := gr_of_new eS2 q31
  have o_a1 := ob_of_new eS2
  obtain ⟨o_v0, h⟩ := h
  refine r_putr (pc := 8) C pfL_X7_9 dX7_init_8 o_v0 ?_
  refine r_aload_n (pc := 11) C dX7_init_11 0 rfl ?_
  refine r_iconst (pc := 12) C (v := (0 : Int32)) dX7_init_12 (by decide) ?_
  refine r_newa14 (pc := 13) C (N := 0) g_266 dX7_init_13 (by decide) (by decide) (by decide) (by decide) (by decide) (fun a3 q29 => ?_)
  refine r_heap (fun S4 eS4 => ?_)
  have h := h a3 q29 S4 eS4
  have g30 := gr_of_new eS4 q29
  have o_a3 := ob_of_new eS4
  have o_a1 := gr_ob g30 o_a1
  have o_v0 := gr_ob g30 o_v0
  refine r_putr (pc := 15) C pfL_X7_15 dX7_init_15 o_v0 ?_
  refine r_aload_n (pc := 18) C dX7_init_18 0 rfl ?_
  refine r_iconst (pc := 19) C (v := (0 : Int32)) dX7_init_19 (by decide) ?_
  refine r_newa13 (pc := 20) C (N := 0) g_72 dX7_init_20 (by decide) (by decide) (by decide) (by decide) (by decide) (fun a5 q27 => ?_)
  refine r_heap (fun S6 eS6 => ?_)
  have h := h a5 q27 S6 eS6
  have g28 := gr_of_new eS6 q27
  have o_a5 := ob_of_new eS6
  have o_a1 := gr_ob g28 o_a1
  have o_a3 := gr_ob g28 o_a3
  have o_v0 := gr_ob g28 o_v0
  refine r_putr (pc := 22) C pfL_X7_19 dX7_init_22 o_v0 ?_
  refine r_aload_n (pc := 25) C dX7_init_25 0 rfl ?_
  refine r_iconst (pc := 26) C (v := (0 : Int32)) dX7_init_26 (by decide) ?_
  refine r_newa13 (pc := 27) C (N := 0) g_72 dX7_init_27 (by decide) (by decide) (by decide) (by decide) (by decide) (fun a7 q25 => ?_)
  refine r_heap (fun S8 eS8 => ?_)
  have h := h a7 q25 S8 eS8
  have g26 := gr_of_new eS8 q25
  have o_a7 := ob_of_new eS8
  have o_a1 := gr_ob g26 o_a1
  have o_a3 := gr_ob g26 o_a3
  have o_a5 := gr_ob g26 o_a5
  have o_v0 := gr_ob g26 o_v0
  refine r_putr (pc := 29) C pfL_X7_22 dX7_init_29 o_v0 ?_
  refine r_aload_n (pc := 32) C dX7_init_32 0 rfl ?_
  refine r_iconst (pc := 33) C (v := (0 : Int32)) dX7_init_33 (by decide) ?_
  refine r_newa13 (pc := 34) C (N := 0) g_72 dX7_init_34 (by decide) (by decide) (by decide) (by decide) (by decide) (fun a9 q23 => ?_)
  refine r_heap (fun S10 eS10 => ?_)
  have h := h a9 q23 S10 eS10
  have g24 := gr_of_new eS10 q23
  have o_a9 := ob_of_new eS10
  have o_a1 := gr_ob g24 o_a1
  have o_a3 := gr_ob g24 o_a3
  have o_a5 := gr_ob g24 o_a5
  have o_a7 := gr_ob g24 o_a7
  have o_v0 := gr_ob g24 o_v0
  refine r_putr (pc := 36) C pfL_X7_25 dX7_init_36 o_v0 ?_
  refine r_aload_n (pc := 39) C dX7_init_39 0 rfl ?_
  refine r_iconst (pc := 40) C (v := (0 : Int32)) dX7_init_40 (by decide) ?_
  refine r_newa13 (pc := 41) C (N := 0) g_72 dX7_init_41 (by decide) (by decide) (by decide) (by decide) (by decide) (fun a11 q21 => ?_)
  refine r_heap (fun S12 eS12 => ?_)
  have h := h a11 q21 S12 eS12
  have g22 := gr_of_new eS12 q21
  have o_a11 := ob_of_new eS12
  have o_a1 := gr_ob g22 o_a1
  have o_a3 := gr_ob g22 o_a3
  have o_a5 := gr_ob g22 o_a5
  have o_a7 := gr_ob g22 o_a7
  have o_a9 := gr_ob g22 o_a9
  have o_v0 := gr_ob g22 o_v0
  refine r_putr (pc := 43) C pfL_X7_28 dX7_init_43 o_v0 ?_
  refine r_aload_n (pc := 46) C dX7_init_46 0 rfl ?_
  refine r_iconst (pc := 47) C (v := (0 : Int32)) dX7_init_47 (by decide) ?_
  refine r_newa14 (pc := 48) C (N := 0) g_266 dX7_init_48 (by decide) (by decide) (by decide) (by decide) (by decide) (fun a13 q19 => ?_)
  refine r_heap (fun S14 eS14 => ?_)
  have h := h a13 q19 S14 eS14
  have g20 := gr_of_new eS14 q19
  have o_a13 := ob_of_new eS14
  have o_a1 := gr_ob g20 o_a1
  have o_a11 := gr_ob g20 o_a11
  have o_a3 := gr_ob g20 o_a3
  have o_a5 := gr_ob g20 o_a5
  have o_a7 := gr_ob g20 o_a7
  have o_a9 := gr_ob g20 o_a9
  have o_v0 := gr_ob g20 o_v0
  refine r_putr (pc := 50) C pfL_X7_31 dX7_init_50 o_v0 ?_
  refine r_aload_n (pc := 53) C dX7_init_53 0 rfl ?_
  refine r_iconst (pc := 54) C (v := (0 : Int32)) dX7_init_54 (by decide) ?_
  refine r_newa13 (pc := 55) C (N := 0) g_72 dX7_init_55 (by decide) (by decide) (by decide) (by decide) (by decide) (fun a15 q17 => ?_)
  refine r_heap (fun S16 eS16 => ?_)
  have h := h a15 q17 S16 eS16
  have g18 := gr_of_new eS16 q17
  have o_a15 := ob_of_new eS16
  have o_a1 := gr_ob g18 o_a1
  have o_a11 := gr_ob g18 o_a11
  have o_a13 := gr_ob g18 o_a13
  have o_a3 := gr_ob g18 o_a3
  have o_a5 := gr_ob g18 o_a5
  have o_a7 := gr_ob g18 o_a7
  have o_a9 := gr_ob g18 o_a9
  have o_v0 := gr_ob g18 o_v0
  refine r_putr (pc := 57) C pfL_X7_34 dX7_init_57 o_v0 ?_
  refine r_aload_n (pc := 60) C dX7_init_60 0 rfl ?_
  refine r_iconst (pc := 61) C (v := (-1 : Int32)) dX7_init_61 (by decide) ?_
  refine r_puti (pc := 62) C pfL_X7_37 dX7_init_62 o_v0 ?_
  refine r_aload_n (pc := 65) C dX7_init_65 0 rfl ?_
  refine r_iconst (pc := 66) C (v := (-1 : Int32)) dX7_init_66 (by decide) ?_
  refine r_puti (pc := 67) C pfL_X7_41 dX7_init_67 o_v0 ?_
  refine r_aload_n (pc := 70) C dX7_init_70 0 rfl ?_
  refine r_iconst (pc := 71) C (v := (-1 : Int32)) dX7_init_71 (by decide) ?_
  refine r_puti (pc := 72) C pfL_X7_44 dX7_init_72 o_v0 ?_
  refine r_aload_n (pc := 75) C dX7_init_75 0 rfl ?_
  refine r_iconst (pc := 76) C (v := (-1 : Int32)) dX7_init_76 (by decide) ?_
  refine r_puti (pc := 77) C pfL_X7_47 dX7_init_77 o_v0 ?_
  exact r_vret (pc := 80) C E ht dX7_init_80 (by decide) (by decide) h
def P_X7_init (v0 : Nat) (Q : HS → Prop) (S : HS) : Prop := P_X7_init_0 Q v0 S
theorem c_X7_init {l : Launch} {Ee : EE} {S : HS} {v0 : Nat} {Q : HS → Prop} (h : P_X7_init v0 Q S) : MV l yX7_init cX7_init 1 none rm_X7_init Ee S [.ref v0] Q :=
  openV (by decide) (Nat.le_of_ble_eq_true rfl) (fun X C E ht hn hE hl => by subst hE; exact r_sub [0] rfl (T_X7_init_0 C E ht hn h))
def rm_X7_isOpen : Room := { frames := 1, cells := 0, slots := 0, locals := 23 }
def P_X7_isOpen_0 (Q : Int32 → HS → Prop) (v0 : Nat) (v1 : Int32) (v2 : Int32) (S : HS) : Prop := ob S v0 7 ∧ (P_X7_keyOf v0 v1 v2 (fun x3 S1 => Gr S S1 → ((((lg_cmp x3 (4611686018427387904 : Int64)) = 0) → (Q (0 : Int32) S1)) ∧ ((¬ (lg_cmp x3 (4611686018427387904 : Int64)) = 0) → (Q (1 : Int32) S1)))) S)
set_option maxRecDepth 20000 in
set_option maxHeartbeats 4000000 in
theorem T_X7_isOpen_0 {X : CX} {Q : Int32 → HS → Prop} (C : Cx X cX7_isOpen RX7 3 rm_X7_isOpen) (E : ReI X rm_X7_isOpen (fun r S => bl r ∧ Q r S)) (ht : (xh X).sig.returnType = (some .boolean)) (hn : (xh X).name = yX7_isOpen.name) {v0 : Nat} {v1 : Int32} {v2 : Int32} {S : HS} (h : P_X7_isOpen_0 Q v0 v1 v2 S) : WS X 3 0 0 0 [(0, .ref v0), (1, .int v1), (2, .int v2)] [] S := by
  refine r_aload_n (pc := 0) C dX7_isOpen_0 0 rfl ?_
  refine r_iload_n (pc := 1) C dX7_isOpen_1 1 rfl ?_
  refine r_iload_n (pc := 2) C dX7_isOpen_2 2 rfl ?_
  obtain ⟨o_v0, h⟩ := h
  refine r_callVl0 (pc := 3) C (rest := []) (a := v0) o_v0 [.int v1, .int v2] yV_X7_keyOf g_892 (c_X7_keyOf h) dX7_isOpen_3 rfl rfl (Nat.le_of_ble_eq_true rfl) ⟨by decide, by decide⟩ ⟨by decide, by decide⟩ ⟨rfl, rfl⟩ (fun x3 S1 h g2 => ?_)
  have h := h g2
  have o_v0 := gr_ob g2 o_v0
  refine r_ldc2 (pc := 6) C (v := (4611686018427387904 : Int64)) dX7_isOpen_6 g_887 ?_
  refine r_lcmp (pc := 9) C dX7_isOpen_9 ?_
  refine r_if_eq (pc := 10) C (tgt := 17) dX7_isOpen_10 (by decide) (fun c4 => ?_) (fun c4 => ?_)
  · have h := h.1 c4
    refine r_iconst (pc := 17) C (v := (0 : Int32)) dX7_isOpen_17 (by decide) ?_
    exact r_zret (pc := 18) C E ht dX7_isOpen_18 (by decide) (by decide) (Or.inl rfl) h
  · have h := h.2 c4
    refine r_iconst (pc := 13) C (v := (1 : Int32)) dX7_isOpen_13 (by decide) ?_
    refine r_goto (pc := 14) C (tgt := 18) dX7_isOpen_14 (by decide) ?_
    exact r_zret (pc := 18) C E ht dX7_isOpen_18 (by decide) (by decide) (Or.inr rfl) h
def P_X7_isOpen (v0 : Nat) (v1 : Int32) (v2 : Int32) (Q : Int32 → HS → Prop) (S : HS) : Prop := P_X7_isOpen_0 Q v0 v1 v2 S
theorem c_X7_isOpen {l : Launch} {Ee : EE} {S : HS} {v0 : Nat} {v1 : Int32} {v2 : Int32} {Q : Int32 → HS → Prop} (h : P_X7_isOpen v0 v1 v2 Q S) : MI l yX7_isOpen cX7_isOpen 3 (some .boolean) rm_X7_isOpen Ee S [.ref v0, .int v1, .int v2] (fun r S => bl r ∧ Q r S) :=
  openI (by decide) (Nat.le_of_ble_eq_true rfl) (fun X C E ht hn hE hl => by subst hE; exact r_sub [0, 1, 2] rfl (T_X7_isOpen_0 C E ht hn h))
def rm_X7_makeRows : Room := { frames := 0, cells := 8, slots := 7937, locals := 0 }
def P_X7_makeRows_0 (Q : HS → Prop) (v0 : Nat) (S : HS) : Prop := ∀ a1 : Nat, a1 ∉ hL S → ∀ S2 : HS, S2 = nW S a1 13 401 → (ob S2 v0 7 ∧ (∀ a3 : Nat, a3 ∉ hL (sR S2 v0 0 (some a1)) → ∀ S4 : HS, S4 = nW (sR S2 v0 0 (some a1)) a3 14 3208 → (∀ a5 : Nat, a5 ∉ hL (sR S4 v0 1 (some a3)) → ∀ S6 : HS, S6 = nW (sR S4 v0 1 (some a3)) a5 13 3208 → (∀ a7 : Nat, a7 ∉ hL (sR S6 v0 2 (some a5)) → ∀ S8 : HS, S8 = nW (sR S6 v0 2 (some a5)) a7 13 224 → (∀ a9 : Nat, a9 ∉ hL (sR S8 v0 4 (some a7)) → ∀ S10 : HS, S10 = nW (sR S8 v0 4 (some a7)) a9 13 224 → (∀ a11 : Nat, a11 ∉ hL (sR S10 v0 5 (some a9)) → ∀ S12 : HS, S12 = nW (sR S10 v0 5 (some a9)) a11 13 224 → (∀ a13 : Nat, a13 ∉ hL (sR S12 v0 6 (some a11)) → ∀ S14 : HS, S14 = nW (sR S12 v0 6 (some a11)) a13 14 224 → (∀ a15 : Nat, a15 ∉ hL (sR S14 v0 7 (some a13)) → ∀ S16 : HS, S16 = nW (sR S14 v0 7 (some a13)) a15 13 224 → (Q (sR S16 v0 8 (some a15)))))))))))
set_option maxRecDepth 20000 in
set_option maxHeartbeats 4000000 in
theorem T_X7_makeRows_0 {X : CX} {Q : HS → Prop} (C : Cx X cX7_makeRows RX7 1 rm_X7_makeRows) (E : ReV X rm_X7_makeRows Q) (ht : (xh X).sig.returnType = none) (hn : (xh X).name = yX7_makeRows.name) {v0 : Nat} {S : HS} (h : P_X7_makeRows_0 Q v0 S) : WS X 1 0 0 0 [(0, .ref v0)] [] S := by
  refine r_aload_n (pc := 0) C dX7_makeRows_0 0 rfl ?_
  refine r_sipush (pc := 1) C (v := (401 : Int32)) dX7_makeRows_1 (by decide) ?_
  refine r_newa13 (pc := 4) C (N := 401) g_72 dX7_makeRows_4 (by decide) (by decide) (by decide) (by decide) (by decide) (fun a1 q31 => ?_)
  refine r_heap (fun S2 eS2 => ?_)
  have h := h a1 q31 S2 eS2
  have g32 := gr_of_new eS2 q31
  have o_a1 := ob_of_new eS2
  obtain ⟨o_v0, h⟩ := h
  refine r_putr (pc := 6) C pfL_X7_9 dX7_makeRows_6 o_v0 ?_
  refine r_aload_n (pc := 9) C dX7_makeRows_9 0 rfl ?_
  refine r_sipush (pc := 10) C (v := (3208 : Int32)) dX7_makeRows_10 (by decide) ?_
  refine r_newa14 (pc := 13) C (N := 3208) g_266 dX7_makeRows_13 (by decide) (by decide) (by decide) (by decide) (by decide) (fun a3 q29 => ?_)
  refine r_heap (fun S4 eS4 => ?_)
  have h := h a3 q29 S4 eS4
  have g30 := gr_of_new eS4 q29
  have o_a3 := ob_of_new eS4
  have o_a1 := gr_ob g30 o_a1
  have o_v0 := gr_ob g30 o_v0
  refine r_putr (pc := 15) C pfL_X7_15 dX7_makeRows_15 o_v0 ?_
  refine r_aload_n (pc := 18) C dX7_makeRows_18 0 rfl ?_
  refine r_sipush (pc := 19) C (v := (3208 : Int32)) dX7_makeRows_19 (by decide) ?_
  refine r_newa13 (pc := 22) C (N := 3208) g_72 dX7_makeRows_22 (by decide) (by decide) (by decide) (by decide) (by decide) (fun a5 q27 => ?_)
  refine r_heap (fun S6 eS6 => ?_)
  have h := h a5 q27 S6 eS6
  have g28 := gr_of_new eS6 q27
  have o_a5 := ob_of_new eS6
  have o_a1 := gr_ob g28 o_a1
  have o_a3 := gr_ob g28 o_a3
  have o_v0 := gr_ob g28 o_v0
  refine r_putr (pc := 24) C pfL_X7_19 dX7_makeRows_24 o_v0 ?_
  refine r_aload_n (pc := 27) C dX7_makeRows_27 0 rfl ?_
  refine r_sipush (pc := 28) C (v := (224 : Int32)) dX7_makeRows_28 (by decide) ?_
  refine r_newa13 (pc := 31) C (N := 224) g_72 dX7_makeRows_31 (by decide) (by decide) (by decide) (by decide) (by decide) (fun a7 q25 => ?_)
  refine r_heap (fun S8 eS8 => ?_)
  have h := h a7 q25 S8 eS8
  have g26 := gr_of_new eS8 q25
  have o_a7 := ob_of_new eS8
  have o_a1 := gr_ob g26 o_a1
  have o_a3 := gr_ob g26 o_a3
  have o_a5 := gr_ob g26 o_a5
  have o_v0 := gr_ob g26 o_v0
  refine r_putr (pc := 33) C pfL_X7_22 dX7_makeRows_33 o_v0 ?_
  refine r_aload_n (pc := 36) C dX7_makeRows_36 0 rfl ?_
  refine r_sipush (pc := 37) C (v := (224 : Int32)) dX7_makeRows_37 (by decide) ?_
  refine r_newa13 (pc := 40) C (N := 224) g_72 dX7_makeRows_40 (by decide) (by decide) (by decide) (by decide) (by decide) (fun a9 q23 => ?_)
  refine r_heap (fun S10 eS10 => ?_)
  have h := h a9 q23 S10 eS10
  have g24 := gr_of_new eS10 q23
  have o_a9 := ob_of_new eS10
  have o_a1 := gr_ob g24 o_a1
  have o_a3 := gr_ob g24 o_a3
  have o_a5 := gr_ob g24 o_a5
  have o_a7 := gr_ob g24 o_a7
  have o_v0 := gr_ob g24 o_v0
  refine r_putr (pc := 42) C pfL_X7_25 dX7_makeRows_42 o_v0 ?_
  refine r_aload_n (pc := 45) C dX7_makeRows_45 0 rfl ?_
  refine r_sipush (pc := 46) C (v := (224 : Int32)) dX7_makeRows_46 (by decide) ?_
  refine r_newa13 (pc := 49) C (N := 224) g_72 dX7_makeRows_49 (by decide) (by decide) (by decide) (by decide) (by decide) (fun a11 q21 => ?_)
  refine r_heap (fun S12 eS12 => ?_)
  have h := h a11 q21 S12 eS12
  have g22 := gr_of_new eS12 q21
  have o_a11 := ob_of_new eS12
  have o_a1 := gr_ob g22 o_a1
  have o_a3 := gr_ob g22 o_a3
  have o_a5 := gr_ob g22 o_a5
  have o_a7 := gr_ob g22 o_a7
  have o_a9 := gr_ob g22 o_a9
  have o_v0 := gr_ob g22 o_v0
  refine r_putr (pc := 51) C pfL_X7_28 dX7_makeRows_51 o_v0 ?_
  refine r_aload_n (pc := 54) C dX7_makeRows_54 0 rfl ?_
  refine r_sipush (pc := 55) C (v := (224 : Int32)) dX7_makeRows_55 (by decide) ?_
  refine r_newa14 (pc := 58) C (N := 224) g_266 dX7_makeRows_58 (by decide) (by decide) (by decide) (by decide) (by decide) (fun a13 q19 => ?_)
  refine r_heap (fun S14 eS14 => ?_)
  have h := h a13 q19 S14 eS14
  have g20 := gr_of_new eS14 q19
  have o_a13 := ob_of_new eS14
  have o_a1 := gr_ob g20 o_a1
  have o_a11 := gr_ob g20 o_a11
  have o_a3 := gr_ob g20 o_a3
  have o_a5 := gr_ob g20 o_a5
  have o_a7 := gr_ob g20 o_a7
  have o_a9 := gr_ob g20 o_a9
  have o_v0 := gr_ob g20 o_v0
  refine r_putr (pc := 60) C pfL_X7_31 dX7_makeRows_60 o_v0 ?_
  refine r_aload_n (pc := 63) C dX7_makeRows_63 0 rfl ?_
  refine r_sipush (pc := 64) C (v := (224 : Int32)) dX7_makeRows_64 (by decide) ?_
  refine r_newa13 (pc := 67) C (N := 224) g_72 dX7_makeRows_67 (by decide) (by decide) (by decide) (by decide) (by decide) (fun a15 q17 => ?_)
  refine r_heap (fun S16 eS16 => ?_)
  have h := h a15 q17 S16 eS16
  have g18 := gr_of_new eS16 q17
  have o_a15 := ob_of_new eS16
  have o_a1 := gr_ob g18 o_a1
  have o_a11 := gr_ob g18 o_a11
  have o_a13 := gr_ob g18 o_a13
  have o_a3 := gr_ob g18 o_a3
  have o_a5 := gr_ob g18 o_a5
  have o_a7 := gr_ob g18 o_a7
  have o_a9 := gr_ob g18 o_a9
  have o_v0 := gr_ob g18 o_v0
  refine r_putr (pc := 69) C pfL_X7_34 dX7_makeRows_69 o_v0 ?_
  exact r_vret (pc := 72) C E ht dX7_makeRows_72 (by decide) (by decide) h
def P_X7_makeRows (v0 : Nat) (Q : HS → Prop) (S : HS) : Prop := P_X7_makeRows_0 Q v0 S
theorem c_X7_makeRows {l : Launch} {Ee : EE} {S : HS} {v0 : Nat} {Q : HS → Prop} (h : P_X7_makeRows v0 Q S) : MV l yX7_makeRows cX7_makeRows 1 none rm_X7_makeRows Ee S [.ref v0] Q :=
  openV (by decide) (Nat.le_of_ble_eq_true rfl) (fun X C E ht hn hE hl => by subst hE; exact r_sub [0] rfl (T_X7_makeRows_0 C E ht hn h))
def rm_X7_meanFrom : Room := { frames := 1, cells := 0, slots := 0, locals := 23 }
def P_X7_meanFrom_0 (Q : Int64 → HS → Prop) (v0 : Nat) (v1 : Int32) (v2 : Int32) (S : HS) : Prop := ob S v0 7 ∧ (P_X7_keyOf v0 v1 v2 (fun x3 S1 => Gr S S1 → (∀ x4 : Int64, x4 = x3 / (512 : Int64) → (Q x4 S1))) S)
set_option maxRecDepth 20000 in
set_option maxHeartbeats 4000000 in
theorem T_X7_meanFrom_0 {X : CX} {Q : Int64 → HS → Prop} (C : Cx X cX7_meanFrom RX7 3 rm_X7_meanFrom) (E : ReJ X rm_X7_meanFrom Q) (ht : (xh X).sig.returnType = (some .long)) (hn : (xh X).name = yX7_meanFrom.name) {v0 : Nat} {v1 : Int32} {v2 : Int32} {S : HS} (h : P_X7_meanFrom_0 Q v0 v1 v2 S) : WS X 3 0 0 0 [(0, .ref v0), (1, .int v1), (2, .int v2)] [] S := by
  refine r_aload_n (pc := 0) C dX7_meanFrom_0 0 rfl ?_
  refine r_iload_n (pc := 1) C dX7_meanFrom_1 1 rfl ?_
  refine r_iload_n (pc := 2) C dX7_meanFrom_2 2 rfl ?_
  obtain ⟨o_v0, h⟩ := h
  refine r_callVl0 (pc := 3) C (rest := []) (a := v0) o_v0 [.int v1, .int v2] yV_X7_keyOf g_892 (c_X7_keyOf h) dX7_meanFrom_3 rfl rfl (Nat.le_of_ble_eq_true rfl) ⟨by decide, by decide⟩ ⟨by decide, by decide⟩ ⟨rfl, rfl⟩ (fun x3 S1 h g2 => ?_)
  have h := h g2
  have o_v0 := gr_ob g2 o_v0
  refine r_ldc2 (pc := 6) C (v := (512 : Int64)) dX7_meanFrom_6 g_857 ?_
  refine r_ldiv (pc := 9) C dX7_meanFrom_9 (by decide) ?_
  refine r_topl (fun x4 ex4 => ?_)
  have h := h x4 ex4
  exact r_lret (pc := 10) C E ht dX7_meanFrom_10 (by decide) (by decide) h
def P_X7_meanFrom (v0 : Nat) (v1 : Int32) (v2 : Int32) (Q : Int64 → HS → Prop) (S : HS) : Prop := P_X7_meanFrom_0 Q v0 v1 v2 S
theorem c_X7_meanFrom {l : Launch} {Ee : EE} {S : HS} {v0 : Nat} {v1 : Int32} {v2 : Int32} {Q : Int64 → HS → Prop} (h : P_X7_meanFrom v0 v1 v2 Q S) : MJ l yX7_meanFrom cX7_meanFrom 3 (some .long) rm_X7_meanFrom Ee S [.ref v0, .int v1, .int v2] Q :=
  openJ (by decide) (Nat.le_of_ble_eq_true rfl) (fun X C E ht hn hE hl => by subst hE; exact r_sub [0, 1, 2] rfl (T_X7_meanFrom_0 C E ht hn h))
def rm_X8_hasPlace : Room := { frames := 0, cells := 0, slots := 0, locals := 0 }
def P_X8_hasPlace_0 (Q : Int32 → HS → Prop) (v0 : Nat) (v1 : Int32) (S : HS) : Prop := ((v1 < 0) → (Q (0 : Int32) S)) ∧ ((¬ v1 < 0) → (ob S v0 8 ∧ (∀ x2 : Int32, x2 = fI S v0 2 → (((x2 ≤ v1) → (Q (0 : Int32) S)) ∧ ((¬ x2 ≤ v1) → (∃ a4 : Nat, fR S v0 7 = some a4 ∧ (ob S a4 13 ∧ ((((nI (hN S a4)) ≤ v1) → (Q (0 : Int32) S)) ∧ ((¬ (nI (hN S a4)) ≤ v1) → (Q (1 : Int32) S))))))))))
set_option maxRecDepth 20000 in
set_option maxHeartbeats 4000000 in
theorem T_X8_hasPlace_0 {X : CX} {Q : Int32 → HS → Prop} (C : Cx X cX8_hasPlace RX8 2 rm_X8_hasPlace) (E : ReI X rm_X8_hasPlace (fun r S => bl r ∧ Q r S)) (ht : (xh X).sig.returnType = (some .boolean)) (hn : (xh X).name = yX8_hasPlace.name) {v0 : Nat} {v1 : Int32} {S : HS} (h : P_X8_hasPlace_0 Q v0 v1 S) : WS X 2 0 0 0 [(0, .ref v0), (1, .int v1)] [] S := by
  refine r_iload_n (pc := 0) C dX8_hasPlace_0 1 rfl ?_
  refine r_if_lt (pc := 1) C (tgt := 25) dX8_hasPlace_1 (by decide) (fun c1 => ?_) (fun c1 => ?_)
  · have h := h.1 c1
    refine r_iconst (pc := 25) C (v := (0 : Int32)) dX8_hasPlace_25 (by decide) ?_
    exact r_zret (pc := 26) C E ht dX8_hasPlace_26 (by decide) (by decide) (Or.inl rfl) h
  · have h := h.2 c1
    refine r_iload_n (pc := 4) C dX8_hasPlace_4 1 rfl ?_
    refine r_aload_n (pc := 5) C dX8_hasPlace_5 0 rfl ?_
    obtain ⟨o_v0, h⟩ := h
    refine r_geti (pc := 6) C fL_X8_49 dX8_hasPlace_6 o_v0 ?_
    refine r_topi (fun x2 ex2 => ?_)
    have h := h x2 ex2
    refine r_icmp_ge (pc := 9) C (tgt := 25) dX8_hasPlace_9 (by decide) (fun c3 => ?_) (fun c3 => ?_)
    · have h := h.1 c3
      refine r_iconst (pc := 25) C (v := (0 : Int32)) dX8_hasPlace_25 (by decide) ?_
      exact r_zret (pc := 26) C E ht dX8_hasPlace_26 (by decide) (by decide) (Or.inl rfl) h
    · have h := h.2 c3
      refine r_iload_n (pc := 12) C dX8_hasPlace_12 1 rfl ?_
      refine r_aload_n (pc := 13) C dX8_hasPlace_13 0 rfl ?_
      obtain ⟨a4, ea4, h⟩ := h
      refine r_getr (pc := 14) C fL_X8_17 dX8_hasPlace_14 o_v0 ea4 ?_
      obtain ⟨o_a4, h⟩ := h
      refine r_alen13 (pc := 17) C dX8_hasPlace_17 o_a4 ?_
      refine r_icmp_ge (pc := 18) C (tgt := 25) dX8_hasPlace_18 (by decide) (fun c5 => ?_) (fun c5 => ?_)
      · have h := h.1 c5
        refine r_iconst (pc := 25) C (v := (0 : Int32)) dX8_hasPlace_25 (by decide) ?_
        exact r_zret (pc := 26) C E ht dX8_hasPlace_26 (by decide) (by decide) (Or.inl rfl) h
      · have h := h.2 c5
        refine r_iconst (pc := 21) C (v := (1 : Int32)) dX8_hasPlace_21 (by decide) ?_
        refine r_goto (pc := 22) C (tgt := 26) dX8_hasPlace_22 (by decide) ?_
        exact r_zret (pc := 26) C E ht dX8_hasPlace_26 (by decide) (by decide) (Or.inr rfl) h
def P_X8_hasPlace (v0 : Nat) (v1 : Int32) (Q : Int32 → HS → Prop) (S : HS) : Prop := P_X8_hasPlace_0 Q v0 v1 S
theorem c_X8_hasPlace {l : Launch} {Ee : EE} {S : HS} {v0 : Nat} {v1 : Int32} {Q : Int32 → HS → Prop} (h : P_X8_hasPlace v0 v1 Q S) : MI l yX8_hasPlace cX8_hasPlace 2 (some .boolean) rm_X8_hasPlace Ee S [.ref v0, .int v1] (fun r S => bl r ∧ Q r S) :=
  openI (by decide) (Nat.le_of_ble_eq_true rfl) (fun X C E ht hn hE hl => by subst hE; exact r_sub [0, 1] rfl (T_X8_hasPlace_0 C E ht hn h))
def rm_X8_canWait : Room := { frames := 1, cells := 0, slots := 0, locals := 21 }
def P_X8_canWait_0 (Q : Int32 → HS → Prop) (v0 : Nat) (v1 : Int32) (S : HS) : Prop := ob S v0 8 ∧ (P_X8_hasPlace v0 v1 (fun x3 S1 => Gr S S1 → bl x3 → (((x3 = 0) → (Q (0 : Int32) S1)) ∧ ((¬ x3 = 0) → (∃ a5 : Nat, fR S1 v0 7 = some a5 ∧ (ob S1 a5 13 ∧ (vp_in v1 (hN S1 a5) ∧ ∀ x7 : Int32, x7 = fI S1 a5 v1.toNatClampNeg → (((x7 = (-1 : Int32)) → (Q (0 : Int32) S1)) ∧ ((¬ x7 = (-1 : Int32)) → (Q (1 : Int32) S1))))))))) S)
set_option maxRecDepth 20000 in
set_option maxHeartbeats 4000000 in
theorem T_X8_canWait_0 {X : CX} {Q : Int32 → HS → Prop} (C : Cx X cX8_canWait RX8 2 rm_X8_canWait) (E : ReI X rm_X8_canWait (fun r S => bl r ∧ Q r S)) (ht : (xh X).sig.returnType = (some .boolean)) (hn : (xh X).name = yX8_canWait.name) {v0 : Nat} {v1 : Int32} {S : HS} (h : P_X8_canWait_0 Q v0 v1 S) : WS X 2 0 0 0 [(0, .ref v0), (1, .int v1)] [] S := by
  refine r_aload_n (pc := 0) C dX8_canWait_0 0 rfl ?_
  refine r_iload_n (pc := 1) C dX8_canWait_1 1 rfl ?_
  obtain ⟨o_v0, h⟩ := h
  refine r_callVi0 (pc := 2) C (rest := []) (a := v0) o_v0 [.int v1] yV_X8_hasPlace g_874 (c_X8_hasPlace h) dX8_canWait_2 rfl rfl (Nat.le_of_ble_eq_true rfl) ⟨by decide, by decide⟩ ⟨by decide, by decide⟩ ⟨rfl, rfl⟩ (fun x3 S1 h g2 => ?_)
  have bx3 := h.1
  have h := h.2 g2 bx3
  have o_v0 := gr_ob g2 o_v0
  refine r_if_eq (pc := 5) C (tgt := 22) dX8_canWait_5 (by decide) (fun c4 => ?_) (fun c4 => ?_)
  · have h := h.1 c4
    refine r_iconst (pc := 22) C (v := (0 : Int32)) dX8_canWait_22 (by decide) ?_
    exact r_zret (pc := 23) C E ht dX8_canWait_23 (by decide) (by decide) (Or.inl rfl) h
  · have h := h.2 c4
    refine r_aload_n (pc := 8) C dX8_canWait_8 0 rfl ?_
    obtain ⟨a5, ea5, h⟩ := h
    refine r_getr (pc := 9) C fL_X8_17 dX8_canWait_9 o_v0 ea5 ?_
    refine r_iload_n (pc := 12) C dX8_canWait_12 1 rfl ?_
    obtain ⟨o_a5, h⟩ := h
    obtain ⟨i6, h⟩ := h
    refine r_iald (pc := 13) C dX8_canWait_13 o_a5 i6 ?_
    refine r_topi (fun x7 ex7 => ?_)
    have h := h x7 ex7
    refine r_iconst (pc := 14) C (v := (-1 : Int32)) dX8_canWait_14 (by decide) ?_
    refine r_icmp_eq (pc := 15) C (tgt := 22) dX8_canWait_15 (by decide) (fun c8 => ?_) (fun c8 => ?_)
    · have h := h.1 c8
      refine r_iconst (pc := 22) C (v := (0 : Int32)) dX8_canWait_22 (by decide) ?_
      exact r_zret (pc := 23) C E ht dX8_canWait_23 (by decide) (by decide) (Or.inl rfl) h
    · have h := h.2 c8
      refine r_iconst (pc := 18) C (v := (1 : Int32)) dX8_canWait_18 (by decide) ?_
      refine r_goto (pc := 19) C (tgt := 23) dX8_canWait_19 (by decide) ?_
      exact r_zret (pc := 23) C E ht dX8_canWait_23 (by decide) (by decide) (Or.inr rfl) h
def P_X8_canWait (v0 : Nat) (v1 : Int32) (Q : Int32 → HS → Prop) (S : HS) : Prop := P_X8_canWait_0 Q v0 v1 S
theorem c_X8_canWait {l : Launch} {Ee : EE} {S : HS} {v0 : Nat} {v1 : Int32} {Q : Int32 → HS → Prop} (h : P_X8_canWait v0 v1 Q S) : MI l yX8_canWait cX8_canWait 2 (some .boolean) rm_X8_canWait Ee S [.ref v0, .int v1] (fun r S => bl r ∧ Q r S) :=
  openI (by decide) (Nat.le_of_ble_eq_true rfl) (fun X C E ht hn hE hl => by subst hE; exact r_sub [0, 1] rfl (T_X8_canWait_0 C E ht hn h))
def rm_X8_dripOn : Room := { frames := 2, cells := 0, slots := 0, locals := 42 }
def P_X8_dripOn_0 (Q : Int32 → HS → Prop) (v0 : Nat) (v1 : Nat) (v2 : Int32) (S : HS) : Prop := ob S v0 8 ∧ (P_X8_canWait v0 v2 (fun x3 S1 => Gr S S1 → bl x3 → (((x3 = 0) → (Q (0 : Int32) S1)) ∧ ((¬ x3 = 0) → (∃ a5 : Nat, fR S1 v0 7 = some a5 ∧ (ob S1 a5 13 ∧ (vp_in v2 (hN S1 a5) ∧ ∀ x7 : Int32, x7 = fI S1 a5 v2.toNatClampNeg → (ob S1 v1 6 ∧ (∀ x8 : Int32, x8 = fI S1 v1 2 → (P_X6_shield v1 (fun x11 S9 => Gr S1 S9 → (∀ x12 : Int32, x12 = (if x8 - x11 < (0 : Int32) then (0 : Int32) else x8 - x11) → (Q (x7 * x12) S9))) S1))))))))) S)
set_option maxRecDepth 20000 in
set_option maxHeartbeats 4000000 in
theorem T_X8_dripOn_0 {X : CX} {Q : Int32 → HS → Prop} (C : Cx X cX8_dripOn RX8 3 rm_X8_dripOn) (E : ReI X rm_X8_dripOn Q) (ht : (xh X).sig.returnType = (some .int)) (hn : (xh X).name = yX8_dripOn.name) {v0 : Nat} {v1 : Nat} {v2 : Int32} {S : HS} (h : P_X8_dripOn_0 Q v0 v1 v2 S) : WS X 3 0 0 0 [(0, .ref v0), (1, .ref v1), (2, .int v2)] [] S := by
  refine r_aload_n (pc := 0) C dX8_dripOn_0 0 rfl ?_
  refine r_iload_n (pc := 1) C dX8_dripOn_1 2 rfl ?_
  obtain ⟨o_v0, h⟩ := h
  refine r_callVi0 (pc := 2) C (rest := []) (a := v0) o_v0 [.int v2] yV_X8_canWait g_879 (c_X8_canWait h) dX8_dripOn_2 rfl rfl (Nat.le_of_ble_eq_true rfl) ⟨by decide, by decide⟩ ⟨by decide, by decide⟩ ⟨rfl, rfl⟩ (fun x3 S1 h g2 => ?_)
  have bx3 := h.1
  have h := h.2 g2 bx3
  have o_v0 := gr_ob g2 o_v0
  refine r_if_eq (pc := 5) C (tgt := 31) dX8_dripOn_5 (by decide) (fun c4 => ?_) (fun c4 => ?_)
  · have h := h.1 c4
    refine r_iconst (pc := 31) C (v := (0 : Int32)) dX8_dripOn_31 (by decide) ?_
    exact r_iret (pc := 32) C E ht dX8_dripOn_32 (by decide) (by decide) h
  · have h := h.2 c4
    refine r_aload_n (pc := 8) C dX8_dripOn_8 0 rfl ?_
    obtain ⟨a5, ea5, h⟩ := h
    refine r_getr (pc := 9) C fL_X8_17 dX8_dripOn_9 o_v0 ea5 ?_
    refine r_iload_n (pc := 12) C dX8_dripOn_12 2 rfl ?_
    obtain ⟨o_a5, h⟩ := h
    obtain ⟨i6, h⟩ := h
    refine r_iald (pc := 13) C dX8_dripOn_13 o_a5 i6 ?_
    refine r_topi (fun x7 ex7 => ?_)
    have h := h x7 ex7
    refine r_aload_n (pc := 14) C dX8_dripOn_14 1 rfl ?_
    obtain ⟨o_v1, h⟩ := h
    refine r_geti (pc := 15) C fL_X8_68 dX8_dripOn_15 o_v1 ?_
    refine r_topi (fun x8 ex8 => ?_)
    have h := h x8 ex8
    refine r_aload_n (pc := 18) C dX8_dripOn_18 1 rfl ?_
    refine r_callVi0 (pc := 19) C (rest := [.int x8, .int x7]) (a := v1) o_v1 [] yV_X6_shield g_880 (c_X6_shield h) dX8_dripOn_19 rfl rfl (Nat.le_of_ble_eq_true rfl) ⟨by decide, by decide⟩ ⟨by decide, by decide⟩ ⟨rfl, rfl⟩ (fun x11 S9 h g10 => ?_)
    have h := h g10
    have o_a5 := gr_ob g10 o_a5
    have o_v0 := gr_ob g10 o_v0
    have o_v1 := gr_ob g10 o_v1
    refine r_isub (pc := 22) C dX8_dripOn_22 ?_
    refine r_iconst (pc := 23) C (v := (0 : Int32)) dX8_dripOn_23 (by decide) ?_
    refine r_max (pc := 24) C g_881 dX8_dripOn_24 (by decide) (Nat.le_of_ble_eq_true rfl) (by decide) (by decide) ?_
    refine r_topi (fun x12 ex12 => ?_)
    have h := h x12 ex12
    refine r_imul (pc := 27) C dX8_dripOn_27 ?_
    refine r_goto (pc := 28) C (tgt := 32) dX8_dripOn_28 (by decide) ?_
    exact r_iret (pc := 32) C E ht dX8_dripOn_32 (by decide) (by decide) h
def P_X8_dripOn (v0 : Nat) (v1 : Nat) (v2 : Int32) (Q : Int32 → HS → Prop) (S : HS) : Prop := P_X8_dripOn_0 Q v0 v1 v2 S
theorem c_X8_dripOn {l : Launch} {Ee : EE} {S : HS} {v0 : Nat} {v1 : Nat} {v2 : Int32} {Q : Int32 → HS → Prop} (h : P_X8_dripOn v0 v1 v2 Q S) : MI l yX8_dripOn cX8_dripOn 3 (some .int) rm_X8_dripOn Ee S [.ref v0, .ref v1, .int v2] Q :=
  openI (by decide) (Nat.le_of_ble_eq_true rfl) (fun X C E ht hn hE hl => by subst hE; exact r_sub [0, 1, 2] rfl (T_X8_dripOn_0 C E ht hn h))
def rm_X8_hasHour : Room := { frames := 0, cells := 0, slots := 0, locals := 0 }
def P_X8_hasHour_0 (Q : Int32 → HS → Prop) (v0 : Nat) (v1 : Int32) (S : HS) : Prop := ((v1 < 0) → (Q (0 : Int32) S)) ∧ ((¬ v1 < 0) → (ob S v0 8 ∧ (∀ x2 : Int32, x2 = fI S v0 1 → (((x2 ≤ v1) → (Q (0 : Int32) S)) ∧ ((¬ x2 ≤ v1) → (∃ a4 : Nat, fR S v0 6 = some a4 ∧ (ob S a4 17 ∧ ((((nI (hN S a4)) ≤ v1) → (Q (0 : Int32) S)) ∧ ((¬ (nI (hN S a4)) ≤ v1) → (Q (1 : Int32) S))))))))))
set_option maxRecDepth 20000 in
set_option maxHeartbeats 4000000 in
theorem T_X8_hasHour_0 {X : CX} {Q : Int32 → HS → Prop} (C : Cx X cX8_hasHour RX8 2 rm_X8_hasHour) (E : ReI X rm_X8_hasHour (fun r S => bl r ∧ Q r S)) (ht : (xh X).sig.returnType = (some .boolean)) (hn : (xh X).name = yX8_hasHour.name) {v0 : Nat} {v1 : Int32} {S : HS} (h : P_X8_hasHour_0 Q v0 v1 S) : WS X 2 0 0 0 [(0, .ref v0), (1, .int v1)] [] S := by
  refine r_iload_n (pc := 0) C dX8_hasHour_0 1 rfl ?_
  refine r_if_lt (pc := 1) C (tgt := 25) dX8_hasHour_1 (by decide) (fun c1 => ?_) (fun c1 => ?_)
  · have h := h.1 c1
    refine r_iconst (pc := 25) C (v := (0 : Int32)) dX8_hasHour_25 (by decide) ?_
    exact r_zret (pc := 26) C E ht dX8_hasHour_26 (by decide) (by decide) (Or.inl rfl) h
  · have h := h.2 c1
    refine r_iload_n (pc := 4) C dX8_hasHour_4 1 rfl ?_
    refine r_aload_n (pc := 5) C dX8_hasHour_5 0 rfl ?_
    obtain ⟨o_v0, h⟩ := h
    refine r_geti (pc := 6) C fL_X8_46 dX8_hasHour_6 o_v0 ?_
    refine r_topi (fun x2 ex2 => ?_)
    have h := h x2 ex2
    refine r_icmp_ge (pc := 9) C (tgt := 25) dX8_hasHour_9 (by decide) (fun c3 => ?_) (fun c3 => ?_)
    · have h := h.1 c3
      refine r_iconst (pc := 25) C (v := (0 : Int32)) dX8_hasHour_25 (by decide) ?_
      exact r_zret (pc := 26) C E ht dX8_hasHour_26 (by decide) (by decide) (Or.inl rfl) h
    · have h := h.2 c3
      refine r_iload_n (pc := 12) C dX8_hasHour_12 1 rfl ?_
      refine r_aload_n (pc := 13) C dX8_hasHour_13 0 rfl ?_
      obtain ⟨a4, ea4, h⟩ := h
      refine r_getr (pc := 14) C fL_X8_11 dX8_hasHour_14 o_v0 ea4 ?_
      obtain ⟨o_a4, h⟩ := h
      refine r_alen17 (pc := 17) C dX8_hasHour_17 o_a4 ?_
      refine r_icmp_ge (pc := 18) C (tgt := 25) dX8_hasHour_18 (by decide) (fun c5 => ?_) (fun c5 => ?_)
      · have h := h.1 c5
        refine r_iconst (pc := 25) C (v := (0 : Int32)) dX8_hasHour_25 (by decide) ?_
        exact r_zret (pc := 26) C E ht dX8_hasHour_26 (by decide) (by decide) (Or.inl rfl) h
      · have h := h.2 c5
        refine r_iconst (pc := 21) C (v := (1 : Int32)) dX8_hasHour_21 (by decide) ?_
        refine r_goto (pc := 22) C (tgt := 26) dX8_hasHour_22 (by decide) ?_
        exact r_zret (pc := 26) C E ht dX8_hasHour_26 (by decide) (by decide) (Or.inr rfl) h
def P_X8_hasHour (v0 : Nat) (v1 : Int32) (Q : Int32 → HS → Prop) (S : HS) : Prop := P_X8_hasHour_0 Q v0 v1 S
theorem c_X8_hasHour {l : Launch} {Ee : EE} {S : HS} {v0 : Nat} {v1 : Int32} {Q : Int32 → HS → Prop} (h : P_X8_hasHour v0 v1 Q S) : MI l yX8_hasHour cX8_hasHour 2 (some .boolean) rm_X8_hasHour Ee S [.ref v0, .int v1] (fun r S => bl r ∧ Q r S) :=
  openI (by decide) (Nat.le_of_ble_eq_true rfl) (fun X C E ht hn hE hl => by subst hE; exact r_sub [0, 1] rfl (T_X8_hasHour_0 C E ht hn h))
def rm_X7_price : Room := { frames := 4, cells := 0, slots := 0, locals := 101 }
def P_X7_price_134 (Q : HS → Prop) (X51 : Nat → Nat → Nat → Int32 → Nat → Int32 → Int32 → HS → Prop) (X86 : Nat → Nat → Nat → Int32 → Nat → Int32 → Int32 → Nat → Int32 → Int32 → HS → Prop) (v0 : Nat) (v1 : Nat) (v2 : Nat) (v3 : Int32) (v4 : Nat) (v5 : Int32) (v6 : Int32) (v7 : Nat) (v8 : Int32) (v9 : Int32) (s0 : Int64) (S : HS) : Prop := ∀ x1 : Int32, x1 = v6 / (2 : Int32) → (ob S v0 7 ∧ (P_X7_addLeg v0 v7 v8 v9 s0 ((((100 : Int32) * x1) + ((10 : Int32) * v8)) + v9) (fun S2 => Gr S S2 → (∀ x5 : Int32, x5 = v9 + (1 : Int32) → (X86 v0 v1 v2 v3 v4 v5 v6 v7 v8 x5 S2))) S))
set_option maxRecDepth 20000 in
set_option maxHeartbeats 4000000 in
theorem T_X7_price_134 {X : CX} {Q : HS → Prop} (C : Cx X cX7_price RX7 12 rm_X7_price) (E : ReV X rm_X7_price Q) (ht : (xh X).sig.returnType = none) (hn : (xh X).name = yX7_price.name) {X51 : Nat → Nat → Nat → Int32 → Nat → Int32 → Int32 → HS → Prop} (hX51 : ∀ (v0 : Nat) (v1 : Nat) (v2 : Nat) (v3 : Int32) (v4 : Nat) (v5 : Int32) (v6 : Int32) (S : HS), X51 v0 v1 v2 v3 v4 v5 v6 S → WS X 12 0 0 51 [(0, .ref v0), (1, .ref v1), (2, .ref v2), (3, .int v3), (4, .ref v4), (5, .int v5), (6, .int v6)] [] S) {X86 : Nat → Nat → Nat → Int32 → Nat → Int32 → Int32 → Nat → Int32 → Int32 → HS → Prop} (hX86 : ∀ (v0 : Nat) (v1 : Nat) (v2 : Nat) (v3 : Int32) (v4 : Nat) (v5 : Int32) (v6 : Int32) (v7 : Nat) (v8 : Int32) (v9 : Int32) (S : HS), X86 v0 v1 v2 v3 v4 v5 v6 v7 v8 v9 S → WS X 12 0 0 86 [(0, .ref v0), (1, .ref v1), (2, .ref v2), (3, .int v3), (4, .ref v4), (5, .int v5), (6, .int v6), (7, .ref v7), (8, .int v8), (9, .int v9)] [] S) {v0 : Nat} {v1 : Nat} {v2 : Nat} {v3 : Int32} {v4 : Nat} {v5 : Int32} {v6 : Int32} {v7 : Nat} {v8 : Int32} {v9 : Int32} {s0 : Int64} {S : HS} (h : P_X7_price_134 Q X51 X86 v0 v1 v2 v3 v4 v5 v6 v7 v8 v9 s0 S) : WS X 12 0 0 134 [(0, .ref v0), (1, .ref v1), (2, .ref v2), (3, .int v3), (4, .ref v4), (5, .int v5), (6, .int v6), (7, .ref v7), (8, .int v8), (9, .int v9)] [.long s0] S := by
  refine r_lstore (pc := 134) C dX7_price_134 (by decide) (lv' := [(10, .long s0), (0, .ref v0), (1, .ref v1), (2, .ref v2), (3, .int v3), (4, .ref v4), (5, .int v5), (6, .int v6), (7, .ref v7), (8, .int v8), (9, .int v9)]) rfl ?_
  refine r_aload_n (pc := 136) C dX7_price_136 1 rfl ?_
  refine r_aload (pc := 137) C dX7_price_137 8 rfl ?_
  refine r_iload (pc := 139) C dX7_price_139 9 rfl ?_
  refine r_iload (pc := 141) C dX7_price_141 10 rfl ?_
  refine r_lload (pc := 143) C dX7_price_143 0 rfl ?_
  refine r_bipush (pc := 145) C (v := (100 : Int32)) dX7_price_145 (by decide) ?_
  refine r_iload (pc := 147) C dX7_price_147 7 rfl ?_
  refine r_iconst (pc := 149) C (v := (2 : Int32)) dX7_price_149 (by decide) ?_
  refine r_idiv (pc := 150) C dX7_price_150 (by decide) ?_
  refine r_topi (fun x1 ex1 => ?_)
  have h := h x1 ex1
  refine r_imul (pc := 151) C dX7_price_151 ?_
  refine r_bipush (pc := 152) C (v := (10 : Int32)) dX7_price_152 (by decide) ?_
  refine r_iload (pc := 154) C dX7_price_154 9 rfl ?_
  refine r_imul (pc := 156) C dX7_price_156 ?_
  refine r_iadd (pc := 157) C dX7_price_157 ?_
  refine r_iload (pc := 158) C dX7_price_158 10 rfl ?_
  refine r_iadd (pc := 160) C dX7_price_160 ?_
  obtain ⟨o_v0, h⟩ := h
  refine r_callVv0 (pc := 161) C (rest := []) (a := v0) o_v0 [.ref v7, .int v8, .int v9, .long s0, .int ((((100 : Int32) * x1) + ((10 : Int32) * v8)) + v9)] yV_X7_addLeg g_852 (c_X7_addLeg h) dX7_price_161 rfl rfl (Nat.le_of_ble_eq_true rfl) ⟨by decide, by decide⟩ ⟨by decide, by decide⟩ ⟨rfl, rfl⟩ (fun S2 h g3 => ?_)
  have h := h g3
  have o_v0 := gr_ob g3 o_v0
  obtain ⟨x5, ex5⟩ : ∃ z : Int32, z = v9 + (1 : Int32) := ⟨_, rfl⟩
  have h := h x5 ex5
  refine r_iinc (pc := 164) C (v := x5) (lv' := [(9, .int x5), (10, .long s0), (0, .ref v0), (1, .ref v1), (2, .ref v2), (3, .int v3), (4, .ref v4), (5, .int v5), (6, .int v6), (7, .ref v7), (8, .int v8)]) dX7_price_164 10 rfl ex5.symm (by decide) rfl ?_
  refine r_goto (pc := 167) C (tgt := 86) dX7_price_167 (by decide) ?_
  exact r_sub [2, 3, 4, 5, 6, 7, 8, 9, 10, 0] rfl (hX86 v0 v1 v2 v3 v4 v5 v6 v7 v8 x5 S2 h)
def B_X7_price_86 (Q : HS → Prop) (X51 : Nat → Nat → Nat → Int32 → Nat → Int32 → Int32 → HS → Prop) (X86 : Nat → Nat → Nat → Int32 → Nat → Int32 → Int32 → Nat → Int32 → Int32 → HS → Prop) (v0 : Nat) (v1 : Nat) (v2 : Nat) (v3 : Int32) (v4 : Nat) (v5 : Int32) (v6 : Int32) (v7 : Nat) (v8 : Int32) (v9 : Int32) (S : HS) : Prop := ob S v4 6 ∧ (∀ x1 : Int32, x1 = fI S v4 6 → (((x1 < v9) → (∀ x3 : Int32, x3 = v6 + (1 : Int32) → (X51 v0 v1 v2 v3 v4 v5 x3 S))) ∧ ((¬ x1 < v9) → (((v5 = 0) → (ob S v1 8 ∧ (∃ a5 : Nat, fR S v1 6 = some a5 ∧ (ob S a5 17 ∧ (vp_in v3 (hN S a5) ∧ ∃ a7 : Nat, fR S a5 v3.toNatClampNeg = some a7 ∧ (ob S v2 1 ∧ (P_X1_wetOf v2 v4 v7 v8 a7 v9 (fun x10 S8 => Gr S S8 → (∃ a11 : Nat, fR S8 v1 6 = some a11 ∧ (ob S8 a11 17 ∧ (vp_in v3 (hN S8 a11) ∧ ∃ a13 : Nat, fR S8 a11 v3.toNatClampNeg = some a13 ∧ (ob S8 a13 3 ∧ (∀ x14 : Int32, x14 = fI S8 a13 4 → (P_X7_price_134 Q X51 X86 v0 v1 v2 v3 v4 v5 v6 v7 v8 v9 (x10 * x14.toInt64) S8))))))) S))))))) ∧ ((¬ v5 = 0) → (P_X7_price_134 Q X51 X86 v0 v1 v2 v3 v4 v5 v6 v7 v8 v9 (0 : Int64) S))))))
def P_X7_price_86 (Q : HS → Prop) (X51 : Nat → Nat → Nat → Int32 → Nat → Int32 → Int32 → HS → Prop) (v0 : Nat) (v1 : Nat) (v2 : Nat) (v3 : Int32) (v4 : Nat) (v5 : Int32) (v6 : Int32) (v7 : Nat) (v8 : Int32) (v9 : Int32) (S : HS) : Prop := ∀ X86 : Nat → Nat → Nat → Int32 → Nat → Int32 → Int32 → Nat → Int32 → Int32 → HS → Prop, (∀ (v0 : Nat) (v1 : Nat) (v2 : Nat) (v3 : Int32) (v4 : Nat) (v5 : Int32) (v6 : Int32) (v7 : Nat) (v8 : Int32) (v9 : Int32) (S : HS), B_X7_price_86 Q X51 X86 v0 v1 v2 v3 v4 v5 v6 v7 v8 v9 S → X86 v0 v1 v2 v3 v4 v5 v6 v7 v8 v9 S) → X86 v0 v1 v2 v3 v4 v5 v6 v7 v8 v9 S
set_option maxRecDepth 20000 in
set_option maxHeartbeats 4000000 in
theorem TB_X7_price_86 {X : CX} {Q : HS → Prop} (C : Cx X cX7_price RX7 12 rm_X7_price) (E : ReV X rm_X7_price Q) (ht : (xh X).sig.returnType = none) (hn : (xh X).name = yX7_price.name) {X51 : Nat → Nat → Nat → Int32 → Nat → Int32 → Int32 → HS → Prop} (hX51 : ∀ (v0 : Nat) (v1 : Nat) (v2 : Nat) (v3 : Int32) (v4 : Nat) (v5 : Int32) (v6 : Int32) (S : HS), X51 v0 v1 v2 v3 v4 v5 v6 S → WS X 12 0 0 51 [(0, .ref v0), (1, .ref v1), (2, .ref v2), (3, .int v3), (4, .ref v4), (5, .int v5), (6, .int v6)] [] S) {X86 : Nat → Nat → Nat → Int32 → Nat → Int32 → Int32 → Nat → Int32 → Int32 → HS → Prop} (hX86 : ∀ (v0 : Nat) (v1 : Nat) (v2 : Nat) (v3 : Int32) (v4 : Nat) (v5 : Int32) (v6 : Int32) (v7 : Nat) (v8 : Int32) (v9 : Int32) (S : HS), X86 v0 v1 v2 v3 v4 v5 v6 v7 v8 v9 S → WS X 12 0 0 86 [(0, .ref v0), (1, .ref v1), (2, .ref v2), (3, .int v3), (4, .ref v4), (5, .int v5), (6, .int v6), (7, .ref v7), (8, .int v8), (9, .int v9)] [] S) {v0 : Nat} {v1 : Nat} {v2 : Nat} {v3 : Int32} {v4 : Nat} {v5 : Int32} {v6 : Int32} {v7 : Nat} {v8 : Int32} {v9 : Int32} {S : HS} (h : B_X7_price_86 Q X51 X86 v0 v1 v2 v3 v4 v5 v6 v7 v8 v9 S) : WS X 12 0 0 86 [(0, .ref v0), (1, .ref v1), (2, .ref v2), (3, .int v3), (4, .ref v4), (5, .int v5), (6, .int v6), (7, .ref v7), (8, .int v8), (9, .int v9)] [] S := by
  refine r_iload (pc := 86) C dX7_price_86 9 rfl ?_
  refine r_aload (pc := 88) C dX7_price_88 4 rfl ?_
  obtain ⟨o_v4, h⟩ := h
  refine r_geti (pc := 90) C fL_X7_107 dX7_price_90 o_v4 ?_
  refine r_topi (fun x1 ex1 => ?_)
  have h := h x1 ex1
  refine r_icmp_gt (pc := 93) C (tgt := 170) dX7_price_93 (by decide) (fun c2 => ?_) (fun c2 => ?_)
  · have h := h.1 c2
    obtain ⟨x3, ex3⟩ : ∃ z : Int32, z = v6 + (1 : Int32) := ⟨_, rfl⟩
    have h := h x3 ex3
    refine r_iinc (pc := 170) C (v := x3) (lv' := [(6, .int x3), (0, .ref v0), (1, .ref v1), (2, .ref v2), (3, .int v3), (4, .ref v4), (5, .int v5), (7, .ref v7), (8, .int v8), (9, .int v9)]) dX7_price_170 6 rfl ex3.symm (by decide) rfl ?_
    refine r_goto (pc := 173) C (tgt := 51) dX7_price_173 (by decide) ?_
    exact r_sub [1, 2, 3, 4, 5, 6, 0] rfl (hX51 v0 v1 v2 v3 v4 v5 x3 S h)
  · have h := h.2 c2
    refine r_iload (pc := 96) C dX7_price_96 5 rfl ?_
    refine r_if_eq (pc := 98) C (tgt := 105) dX7_price_98 (by decide) (fun c4 => ?_) (fun c4 => ?_)
    · have h := h.1 c4
      refine r_aload_n (pc := 105) C dX7_price_105 2 rfl ?_
      refine r_aload (pc := 106) C dX7_price_106 4 rfl ?_
      refine r_aload (pc := 108) C dX7_price_108 7 rfl ?_
      refine r_iload (pc := 110) C dX7_price_110 8 rfl ?_
      refine r_aload_n (pc := 112) C dX7_price_112 1 rfl ?_
      obtain ⟨o_v1, h⟩ := h
      obtain ⟨a5, ea5, h⟩ := h
      refine r_getr (pc := 113) C fL_X7_110 dX7_price_113 o_v1 ea5 ?_
      refine r_iload_n (pc := 116) C dX7_price_116 3 rfl ?_
      obtain ⟨o_a5, h⟩ := h
      obtain ⟨i6, a7, ea7, h⟩ := h
      refine r_aald17 (pc := 117) C dX7_price_117 o_a5 i6 ea7 ?_
      refine r_iload (pc := 118) C dX7_price_118 9 rfl ?_
      obtain ⟨o_v2, h⟩ := h
      refine r_callVl0 (pc := 120) C (rest := []) (a := v2) o_v2 [.ref v4, .ref v7, .int v8, .ref a7, .int v9] yV_X1_wetOf g_851 (c_X1_wetOf h) dX7_price_120 rfl rfl (Nat.le_of_ble_eq_true rfl) ⟨by decide, by decide⟩ ⟨by decide, by decide⟩ ⟨rfl, rfl⟩ (fun x10 S8 h g9 => ?_)
      have h := h g9
      have o_a5 := gr_ob g9 o_a5
      have o_v1 := gr_ob g9 o_v1
      have o_v2 := gr_ob g9 o_v2
      have o_v4 := gr_ob g9 o_v4
      refine r_aload_n (pc := 123) C dX7_price_123 1 rfl ?_
      obtain ⟨a11, ea11, h⟩ := h
      refine r_getr (pc := 124) C fL_X7_110 dX7_price_124 o_v1 ea11 ?_
      refine r_iload_n (pc := 127) C dX7_price_127 3 rfl ?_
      obtain ⟨o_a11, h⟩ := h
      obtain ⟨i12, a13, ea13, h⟩ := h
      refine r_aald17 (pc := 128) C dX7_price_128 o_a11 i12 ea13 ?_
      obtain ⟨o_a13, h⟩ := h
      refine r_geti (pc := 129) C fL_X7_120 dX7_price_129 o_a13 ?_
      refine r_topi (fun x14 ex14 => ?_)
      have h := h x14 ex14
      refine r_i2l (pc := 132) C dX7_price_132 ?_
      refine r_lmul (pc := 133) C dX7_price_133 ?_
      exact r_sub [0, 1, 2, 3, 4, 5, 6, 7, 8, 9] rfl (T_X7_price_134 C E ht hn hX51 hX86 h)
    · have h := h.2 c4
      refine r_lconst (pc := 101) C (v := (0 : Int64)) dX7_price_101 (by decide) ?_
      refine r_goto (pc := 102) C (tgt := 134) dX7_price_102 (by decide) ?_
      exact r_sub [0, 1, 2, 3, 4, 5, 6, 7, 8, 9] rfl (T_X7_price_134 C E ht hn hX51 hX86 h)
theorem T_X7_price_86 {X : CX} {Q : HS → Prop} (C : Cx X cX7_price RX7 12 rm_X7_price) (E : ReV X rm_X7_price Q) (ht : (xh X).sig.returnType = none) (hn : (xh X).name = yX7_price.name) {X51 : Nat → Nat → Nat → Int32 → Nat → Int32 → Int32 → HS → Prop} (hX51 : ∀ (v0 : Nat) (v1 : Nat) (v2 : Nat) (v3 : Int32) (v4 : Nat) (v5 : Int32) (v6 : Int32) (S : HS), X51 v0 v1 v2 v3 v4 v5 v6 S → WS X 12 0 0 51 [(0, .ref v0), (1, .ref v1), (2, .ref v2), (3, .int v3), (4, .ref v4), (5, .int v5), (6, .int v6)] [] S) {v0 : Nat} {v1 : Nat} {v2 : Nat} {v3 : Int32} {v4 : Nat} {v5 : Int32} {v6 : Int32} {v7 : Nat} {v8 : Int32} {v9 : Int32} {S : HS} (h : P_X7_price_86 Q X51 v0 v1 v2 v3 v4 v5 v6 v7 v8 v9 S) : WS X 12 0 0 86 [(0, .ref v0), (1, .ref v1), (2, .ref v2), (3, .int v3), (4, .ref v4), (5, .int v5), (6, .int v6), (7, .ref v7), (8, .int v8), (9, .int v9)] [] S :=
  h (fun v0 v1 v2 v3 v4 v5 v6 v7 v8 v9 S => WS X 12 0 0 86 [(0, .ref v0), (1, .ref v1), (2, .ref v2), (3, .int v3), (4, .ref v4), (5, .int v5), (6, .int v6), (7, .ref v7), (8, .int v8), (9, .int v9)] [] S) (fun v0 v1 v2 v3 v4 v5 v6 v7 v8 v9 S hh => TB_X7_price_86 C E ht hn hX51 (fun v0 v1 v2 v3 v4 v5 v6 v7 v8 v9 S z => z) hh)
def P_X7_price_245 (Q : HS → Prop) (X179 : Nat → Nat → Int32 → Nat → Int32 → Int32 → HS → Prop) (v0 : Nat) (v1 : Nat) (v3 : Int32) (v4 : Nat) (v5 : Int32) (v6 : Int32) (S : HS) : Prop := ∀ x1 : Int32, x1 = v6 + (1 : Int32) → (X179 v0 v1 v3 v4 v5 x1 S)
set_option maxRecDepth 20000 in
set_option maxHeartbeats 4000000 in
theorem T_X7_price_245 {X : CX} {Q : HS → Prop} (C : Cx X cX7_price RX7 12 rm_X7_price) (E : ReV X rm_X7_price Q) (ht : (xh X).sig.returnType = none) (hn : (xh X).name = yX7_price.name) {X179 : Nat → Nat → Int32 → Nat → Int32 → Int32 → HS → Prop} (hX179 : ∀ (v0 : Nat) (v1 : Nat) (v3 : Int32) (v4 : Nat) (v5 : Int32) (v6 : Int32) (S : HS), X179 v0 v1 v3 v4 v5 v6 S → WS X 12 0 0 179 [(0, .ref v0), (1, .ref v1), (3, .int v3), (4, .ref v4), (5, .int v5), (6, .int v6)] [] S) {v0 : Nat} {v1 : Nat} {v3 : Int32} {v4 : Nat} {v5 : Int32} {v6 : Int32} {S : HS} (h : P_X7_price_245 Q X179 v0 v1 v3 v4 v5 v6 S) : WS X 12 0 0 245 [(0, .ref v0), (1, .ref v1), (3, .int v3), (4, .ref v4), (5, .int v5), (6, .int v6)] [] S := by
  obtain ⟨x1, ex1⟩ : ∃ z : Int32, z = v6 + (1 : Int32) := ⟨_, rfl⟩
  have h := h x1 ex1
  refine r_iinc (pc := 245) C (v := x1) (lv' := [(6, .int x1), (0, .ref v0), (1, .ref v1), (3, .int v3), (4, .ref v4), (5, .int v5)]) dX7_price_245 5 rfl ex1.symm (by decide) rfl ?_
  refine r_goto (pc := 248) C (tgt := 179) dX7_price_248 (by decide) ?_
  exact r_sub [1, 2, 3, 4, 5, 0] rfl (hX179 v0 v1 v3 v4 v5 x1 S h)
def P_X7_price_230 (Q : HS → Prop) (X179 : Nat → Nat → Int32 → Nat → Int32 → Int32 → HS → Prop) (v0 : Nat) (v1 : Nat) (v3 : Int32) (v4 : Nat) (v5 : Int32) (v6 : Int32) (s0 : Int64) (S : HS) : Prop := ob S v0 7 ∧ (P_X7_addMove v0 v6 v6 (1 : Int32) s0 (-2 : Int32) (fun S1 => Gr S S1 → (P_X7_price_245 Q X179 v0 v1 v3 v4 v5 v6 S1)) S)
set_option maxRecDepth 20000 in
set_option maxHeartbeats 4000000 in
theorem T_X7_price_230 {X : CX} {Q : HS → Prop} (C : Cx X cX7_price RX7 12 rm_X7_price) (E : ReV X rm_X7_price Q) (ht : (xh X).sig.returnType = none) (hn : (xh X).name = yX7_price.name) {X179 : Nat → Nat → Int32 → Nat → Int32 → Int32 → HS → Prop} (hX179 : ∀ (v0 : Nat) (v1 : Nat) (v3 : Int32) (v4 : Nat) (v5 : Int32) (v6 : Int32) (S : HS), X179 v0 v1 v3 v4 v5 v6 S → WS X 12 0 0 179 [(0, .ref v0), (1, .ref v1), (3, .int v3), (4, .ref v4), (5, .int v5), (6, .int v6)] [] S) {v0 : Nat} {v1 : Nat} {v3 : Int32} {v4 : Nat} {v5 : Int32} {v6 : Int32} {s0 : Int64} {S : HS} (h : P_X7_price_230 Q X179 v0 v1 v3 v4 v5 v6 s0 S) : WS X 12 0 0 230 [(0, .ref v0), (1, .ref v1), (3, .int v3), (4, .ref v4), (5, .int v5), (6, .int v6)] [.long s0] S := by
  refine r_lstore (pc := 230) C dX7_price_230 (by decide) (lv' := [(7, .long s0), (0, .ref v0), (1, .ref v1), (3, .int v3), (4, .ref v4), (5, .int v5), (6, .int v6)]) rfl ?_
  refine r_aload_n (pc := 232) C dX7_price_232 1 rfl ?_
  refine r_iload (pc := 233) C dX7_price_233 6 rfl ?_
  refine r_iload (pc := 235) C dX7_price_235 6 rfl ?_
  refine r_iconst (pc := 237) C (v := (1 : Int32)) dX7_price_237 (by decide) ?_
  refine r_lload (pc := 238) C dX7_price_238 0 rfl ?_
  refine r_bipush (pc := 240) C (v := (-2 : Int32)) dX7_price_240 (by decide) ?_
  obtain ⟨o_v0, h⟩ := h
  refine r_callVv0 (pc := 242) C (rest := []) (a := v0) o_v0 [.int v6, .int v6, .int (1 : Int32), .long s0, .int (-2 : Int32)] yV_X7_addMove g_866 (c_X7_addMove h) dX7_price_242 rfl rfl (Nat.le_of_ble_eq_true rfl) ⟨by decide, by decide⟩ ⟨by decide, by decide⟩ ⟨rfl, rfl⟩ (fun S1 h g2 => ?_)
  have h := h g2
  have o_v0 := gr_ob g2 o_v0
  exact r_sub [1, 2, 3, 4, 5, 6] rfl (T_X7_price_245 C E ht hn hX179 h)
def B_X7_price_179 (Q : HS → Prop) (X179 : Nat → Nat → Int32 → Nat → Int32 → Int32 → HS → Prop) (v0 : Nat) (v1 : Nat) (v3 : Int32) (v4 : Nat) (v5 : Int32) (v6 : Int32) (S : HS) : Prop := ob S v1 8 ∧ (∀ x1 : Int32, x1 = fI S v1 2 → (((x1 ≤ v6) → (Q S)) ∧ ((¬ x1 ≤ v6) → (P_X8_canWait v1 v6 (fun x5 S3 => Gr S S3 → bl x5 → (((x5 = 0) → (P_X7_price_245 Q X179 v0 v1 v3 v4 v5 v6 S3)) ∧ ((¬ x5 = 0) → (((v5 = 0) → (P_X8_dripOn v1 v4 v6 (fun x10 S8 => Gr S3 S8 → (∃ a11 : Nat, fR S8 v1 6 = some a11 ∧ (ob S8 a11 17 ∧ (vp_in v3 (hN S8 a11) ∧ ∃ a13 : Nat, fR S8 a11 v3.toNatClampNeg = some a13 ∧ (ob S8 a13 3 ∧ (∀ x14 : Int32, x14 = fI S8 a13 4 → (P_X7_price_230 Q X179 v0 v1 v3 v4 v5 v6 ((x10.toInt64 * (2520 : Int64)) * x14.toInt64) S8))))))) S3)) ∧ ((¬ v5 = 0) → (P_X7_price_230 Q X179 v0 v1 v3 v4 v5 v6 (0 : Int64) S3)))))) S))))
def P_X7_price_179 (Q : HS → Prop) (v0 : Nat) (v1 : Nat) (v3 : Int32) (v4 : Nat) (v5 : Int32) (v6 : Int32) (S : HS) : Prop := ∀ X179 : Nat → Nat → Int32 → Nat → Int32 → Int32 → HS → Prop, (∀ (v0 : Nat) (v1 : Nat) (v3 : Int32) (v4 : Nat) (v5 : Int32) (v6 : Int32) (S : HS), B_X7_price_179 Q X179 v0 v1 v3 v4 v5 v6 S → X179 v0 v1 v3 v4 v5 v6 S) → X179 v0 v1 v3 v4 v5 v6 S
set_option maxRecDepth 20000 in
set_option maxHeartbeats 4000000 in
theorem TB_X7_price_179 {X : CX} {Q : HS → Prop} (C : Cx X cX7_price RX7 12 rm_X7_price) (E : ReV X rm_X7_price Q) (ht : (xh X).sig.returnType = none) (hn : (xh X).name = yX7_price.name) {X179 : Nat → Nat → Int32 → Nat → Int32 → Int32 → HS → Prop} (hX179 : ∀ (v0 : Nat) (v1 : Nat) (v3 : Int32) (v4 : Nat) (v5 : Int32) (v6 : Int32) (S : HS), X179 v0 v1 v3 v4 v5 v6 S → WS X 12 0 0 179 [(0, .ref v0), (1, .ref v1), (3, .int v3), (4, .ref v4), (5, .int v5), (6, .int v6)] [] S) {v0 : Nat} {v1 : Nat} {v3 : Int32} {v4 : Nat} {v5 : Int32} {v6 : Int32} {S : HS} (h : B_X7_price_179 Q X179 v0 v1 v3 v4 v5 v6 S) : WS X 12 0 0 179 [(0, .ref v0), (1, .ref v1), (3, .int v3), (4, .ref v4), (5, .int v5), (6, .int v6)] [] S := by
  refine r_iload (pc := 179) C dX7_price_179 5 rfl ?_
  refine r_aload_n (pc := 181) C dX7_price_181 1 rfl ?_
  obtain ⟨o_v1, h⟩ := h
  refine r_geti (pc := 182) C fL_X7_75 dX7_price_182 o_v1 ?_
  refine r_topi (fun x1 ex1 => ?_)
  have h := h x1 ex1
  refine r_icmp_ge (pc := 185) C (tgt := 251) dX7_price_185 (by decide) (fun c2 => ?_) (fun c2 => ?_)
  · have h := h.1 c2
    exact r_vret (pc := 251) C E ht dX7_price_251 (by decide) (by decide) h
  · have h := h.2 c2
    refine r_aload_n (pc := 188) C dX7_price_188 1 rfl ?_
    refine r_iload (pc := 189) C dX7_price_189 5 rfl ?_
    refine r_callVi0 (pc := 191) C (rest := []) (a := v1) o_v1 [.int v6] yV_X8_canWait g_870 (c_X8_canWait h) dX7_price_191 rfl rfl (Nat.le_of_ble_eq_true rfl) ⟨by decide, by decide⟩ ⟨by decide, by decide⟩ ⟨rfl, rfl⟩ (fun x5 S3 h g4 => ?_)
    have bx5 := h.1
    have h := h.2 g4 bx5
    have o_v1 := gr_ob g4 o_v1
    refine r_if_eq (pc := 194) C (tgt := 245) dX7_price_194 (by decide) (fun c6 => ?_) (fun c6 => ?_)
    · have h := h.1 c6
      exact r_sub [0, 1, 2, 3, 4, 5] rfl (T_X7_price_245 C E ht hn hX179 h)
    · have h := h.2 c6
      refine r_iload (pc := 197) C dX7_price_197 4 rfl ?_
      refine r_if_eq (pc := 199) C (tgt := 206) dX7_price_199 (by decide) (fun c7 => ?_) (fun c7 => ?_)
      · have h := h.1 c7
        refine r_aload_n (pc := 206) C dX7_price_206 1 rfl ?_
        refine r_aload (pc := 207) C dX7_price_207 3 rfl ?_
        refine r_iload (pc := 209) C dX7_price_209 5 rfl ?_
        refine r_callVi0 (pc := 211) C (rest := []) (a := v1) o_v1 [.ref v4, .int v6] yV_X8_dripOn g_875 (c_X8_dripOn h) dX7_price_211 rfl rfl (Nat.le_of_ble_eq_true rfl) ⟨by decide, by decide⟩ ⟨by decide, by decide⟩ ⟨rfl, rfl⟩ (fun x10 S8 h g9 => ?_)
        have h := h g9
        have o_v1 := gr_ob g9 o_v1
        refine r_i2l (pc := 214) C dX7_price_214 ?_
        refine r_ldc2 (pc := 215) C (v := (2520 : Int64)) dX7_price_215 g_882 ?_
        refine r_lmul (pc := 218) C dX7_price_218 ?_
        refine r_aload_n (pc := 219) C dX7_price_219 1 rfl ?_
        obtain ⟨a11, ea11, h⟩ := h
        refine r_getr (pc := 220) C fL_X7_110 dX7_price_220 o_v1 ea11 ?_
        refine r_iload_n (pc := 223) C dX7_price_223 2 rfl ?_
        obtain ⟨o_a11, h⟩ := h
        obtain ⟨i12, a13, ea13, h⟩ := h
        refine r_aald17 (pc := 224) C dX7_price_224 o_a11 i12 ea13 ?_
        obtain ⟨o_a13, h⟩ := h
        refine r_geti (pc := 225) C fL_X7_120 dX7_price_225 o_a13 ?_
        refine r_topi (fun x14 ex14 => ?_)
        have h := h x14 ex14
        refine r_i2l (pc := 228) C dX7_price_228 ?_
        refine r_lmul (pc := 229) C dX7_price_229 ?_
        exact r_sub [0, 1, 2, 3, 4, 5] rfl (T_X7_price_230 C E ht hn hX179 h)
      · have h := h.2 c7
        refine r_lconst (pc := 202) C (v := (0 : Int64)) dX7_price_202 (by decide) ?_
        refine r_goto (pc := 203) C (tgt := 230) dX7_price_203 (by decide) ?_
        exact r_sub [0, 1, 2, 3, 4, 5] rfl (T_X7_price_230 C E ht hn hX179 h)
theorem T_X7_price_179 {X : CX} {Q : HS → Prop} (C : Cx X cX7_price RX7 12 rm_X7_price) (E : ReV X rm_X7_price Q) (ht : (xh X).sig.returnType = none) (hn : (xh X).name = yX7_price.name) {v0 : Nat} {v1 : Nat} {v3 : Int32} {v4 : Nat} {v5 : Int32} {v6 : Int32} {S : HS} (h : P_X7_price_179 Q v0 v1 v3 v4 v5 v6 S) : WS X 12 0 0 179 [(0, .ref v0), (1, .ref v1), (3, .int v3), (4, .ref v4), (5, .int v5), (6, .int v6)] [] S :=
  h (fun v0 v1 v3 v4 v5 v6 S => WS X 12 0 0 179 [(0, .ref v0), (1, .ref v1), (3, .int v3), (4, .ref v4), (5, .int v5), (6, .int v6)] [] S) (fun v0 v1 v3 v4 v5 v6 S hh => TB_X7_price_179 C E ht hn (fun v0 v1 v3 v4 v5 v6 S z => z) hh)
def B_X7_price_51 (Q : HS → Prop) (X51 : Nat → Nat → Nat → Int32 → Nat → Int32 → Int32 → HS → Prop) (v0 : Nat) (v1 : Nat) (v2 : Nat) (v3 : Int32) (v4 : Nat) (v5 : Int32) (v6 : Int32) (S : HS) : Prop := ob S v1 8 ∧ (∀ x1 : Int32, x1 = fI S v1 3 → (((((2 : Int32) * x1) ≤ v6) → (P_X7_price_179 Q v0 v1 v3 v4 v5 (0 : Int32) S)) ∧ ((¬ ((2 : Int32) * x1) ≤ v6) → (∃ a3 : Nat, fR S v1 8 = some a3 ∧ (∀ x4 : Int32, x4 = v6 / (2 : Int32) → (ob S a3 18 ∧ (vp_in x4 (hN S a3) ∧ ∃ a6 : Nat, fR S a3 x4.toNatClampNeg = some a6 ∧ (∀ x7 : Int32, x7 = v6 - v6 / (2 : Int32) * (2 : Int32) → (ob S v4 6 ∧ (∀ x8 : Int32, x8 = fI S v4 5 → (P_X7_price_86 Q X51 v0 v1 v2 v3 v4 v5 v6 a6 x7 x8 S)))))))))))
def P_X7_price_51 (Q : HS → Prop) (v0 : Nat) (v1 : Nat) (v2 : Nat) (v3 : Int32) (v4 : Nat) (v5 : Int32) (v6 : Int32) (S : HS) : Prop := ∀ X51 : Nat → Nat → Nat → Int32 → Nat → Int32 → Int32 → HS → Prop, (∀ (v0 : Nat) (v1 : Nat) (v2 : Nat) (v3 : Int32) (v4 : Nat) (v5 : Int32) (v6 : Int32) (S : HS), B_X7_price_51 Q X51 v0 v1 v2 v3 v4 v5 v6 S → X51 v0 v1 v2 v3 v4 v5 v6 S) → X51 v0 v1 v2 v3 v4 v5 v6 S
set_option maxRecDepth 20000 in
set_option maxHeartbeats 4000000 in
theorem TB_X7_price_51 {X : CX} {Q : HS → Prop} (C : Cx X cX7_price RX7 12 rm_X7_price) (E : ReV X rm_X7_price Q) (ht : (xh X).sig.returnType = none) (hn : (xh X).name = yX7_price.name) {X51 : Nat → Nat → Nat → Int32 → Nat → Int32 → Int32 → HS → Prop} (hX51 : ∀ (v0 : Nat) (v1 : Nat) (v2 : Nat) (v3 : Int32) (v4 : Nat) (v5 : Int32) (v6 : Int32) (S : HS), X51 v0 v1 v2 v3 v4 v5 v6 S → WS X 12 0 0 51 [(0, .ref v0), (1, .ref v1), (2, .ref v2), (3, .int v3), (4, .ref v4), (5, .int v5), (6, .int v6)] [] S) {v0 : Nat} {v1 : Nat} {v2 : Nat} {v3 : Int32} {v4 : Nat} {v5 : Int32} {v6 : Int32} {S : HS} (h : B_X7_price_51 Q X51 v0 v1 v2 v3 v4 v5 v6 S) : WS X 12 0 0 51 [(0, .ref v0), (1, .ref v1), (2, .ref v2), (3, .int v3), (4, .ref v4), (5, .int v5), (6, .int v6)] [] S := by
  refine r_iload (pc := 51) C dX7_price_51 6 rfl ?_
  refine r_iconst (pc := 53) C (v := (2 : Int32)) dX7_price_53 (by decide) ?_
  refine r_aload_n (pc := 54) C dX7_price_54 1 rfl ?_
  obtain ⟨o_v1, h⟩ := h
  refine r_geti (pc := 55) C fL_X7_95 dX7_price_55 o_v1 ?_
  refine r_topi (fun x1 ex1 => ?_)
  have h := h x1 ex1
  refine r_imul (pc := 58) C dX7_price_58 ?_
  refine r_icmp_ge (pc := 59) C (tgt := 176) dX7_price_59 (by decide) (fun c2 => ?_) (fun c2 => ?_)
  · have h := h.1 c2
    refine r_iconst (pc := 176) C (v := (0 : Int32)) dX7_price_176 (by decide) ?_
    refine r_istore (pc := 177) C dX7_price_177 (by decide) (lv' := [(6, .int (0 : Int32)), (0, .ref v0), (1, .ref v1), (2, .ref v2), (3, .int v3), (4, .ref v4), (5, .int v5)]) rfl ?_
    exact r_sub [1, 2, 4, 5, 6, 0] rfl (T_X7_price_179 C E ht hn h)
  · have h := h.2 c2
    refine r_aload_n (pc := 62) C dX7_price_62 1 rfl ?_
    obtain ⟨a3, ea3, h⟩ := h
    refine r_getr (pc := 63) C fL_X7_98 dX7_price_63 o_v1 ea3 ?_
    refine r_iload (pc := 66) C dX7_price_66 6 rfl ?_
    refine r_iconst (pc := 68) C (v := (2 : Int32)) dX7_price_68 (by decide) ?_
    refine r_idiv (pc := 69) C dX7_price_69 (by decide) ?_
    refine r_topi (fun x4 ex4 => ?_)
    have h := h x4 ex4
    obtain ⟨o_a3, h⟩ := h
    obtain ⟨i5, a6, ea6, h⟩ := h
    refine r_aald18 (pc := 70) C dX7_price_70 o_a3 i5 ea6 ?_
    refine r_astore (pc := 71) C dX7_price_71 (by decide) (lv' := [(7, .ref a6), (0, .ref v0), (1, .ref v1), (2, .ref v2), (3, .int v3), (4, .ref v4), (5, .int v5), (6, .int v6)]) rfl ?_
    refine r_iload (pc := 73) C dX7_price_73 7 rfl ?_
    refine r_iconst (pc := 75) C (v := (2 : Int32)) dX7_price_75 (by decide) ?_
    refine r_irem (pc := 76) C dX7_price_76 (by decide) ?_
    refine r_topi (fun x7 ex7 => ?_)
    have h := h x7 ex7
    refine r_istore (pc := 77) C dX7_price_77 (by decide) (lv' := [(8, .int x7), (7, .ref a6), (0, .ref v0), (1, .ref v1), (2, .ref v2), (3, .int v3), (4, .ref v4), (5, .int v5), (6, .int v6)]) rfl ?_
    refine r_aload (pc := 79) C dX7_price_79 6 rfl ?_
    obtain ⟨o_v4, h⟩ := h
    refine r_geti (pc := 81) C fL_X7_102 dX7_price_81 o_v4 ?_
    refine r_topi (fun x8 ex8 => ?_)
    have h := h x8 ex8
    refine r_istore (pc := 84) C dX7_price_84 (by decide) (lv' := [(9, .int x8), (8, .int x7), (7, .ref a6), (0, .ref v0), (1, .ref v1), (2, .ref v2), (3, .int v3), (4, .ref v4), (5, .int v5), (6, .int v6)]) rfl ?_
    exact r_sub [3, 4, 5, 6, 7, 8, 9, 2, 1, 0] rfl (T_X7_price_86 C E ht hn hX51 h)
theorem T_X7_price_51 {X : CX} {Q : HS → Prop} (C : Cx X cX7_price RX7 12 rm_X7_price) (E : ReV X rm_X7_price Q) (ht : (xh X).sig.returnType = none) (hn : (xh X).name = yX7_price.name) {v0 : Nat} {v1 : Nat} {v2 : Nat} {v3 : Int32} {v4 : Nat} {v5 : Int32} {v6 : Int32} {S : HS} (h : P_X7_price_51 Q v0 v1 v2 v3 v4 v5 v6 S) : WS X 12 0 0 51 [(0, .ref v0), (1, .ref v1), (2, .ref v2), (3, .int v3), (4, .ref v4), (5, .int v5), (6, .int v6)] [] S :=
  h (fun v0 v1 v2 v3 v4 v5 v6 S => WS X 12 0 0 51 [(0, .ref v0), (1, .ref v1), (2, .ref v2), (3, .int v3), (4, .ref v4), (5, .int v5), (6, .int v6)] [] S) (fun v0 v1 v2 v3 v4 v5 v6 S hh => TB_X7_price_51 C E ht hn (fun v0 v1 v2 v3 v4 v5 v6 S z => z) hh)
def P_X7_price_46 (Q : HS → Prop) (v0 : Nat) (v1 : Nat) (v2 : Nat) (v3 : Int32) (v4 : Nat) (s0 : Int32) (S : HS) : Prop := P_X7_price_51 Q v0 v1 v2 v3 v4 s0 (0 : Int32) S
set_option maxRecDepth 20000 in
set_option maxHeartbeats 4000000 in
theorem T_X7_price_46 {X : CX} {Q : HS → Prop} (C : Cx X cX7_price RX7 12 rm_X7_price) (E : ReV X rm_X7_price Q) (ht : (xh X).sig.returnType = none) (hn : (xh X).name = yX7_price.name) {v0 : Nat} {v1 : Nat} {v2 : Nat} {v3 : Int32} {v4 : Nat} {s0 : Int32} {S : HS} (h : P_X7_price_46 Q v0 v1 v2 v3 v4 s0 S) : WS X 12 0 0 46 [(0, .ref v0), (1, .ref v1), (2, .ref v2), (3, .int v3), (4, .ref v4)] [.int s0] S := by
  refine r_istore (pc := 46) C dX7_price_46 (by decide) (lv' := [(5, .int s0), (0, .ref v0), (1, .ref v1), (2, .ref v2), (3, .int v3), (4, .ref v4)]) rfl ?_
  refine r_iconst (pc := 48) C (v := (0 : Int32)) dX7_price_48 (by decide) ?_
  refine r_istore (pc := 49) C dX7_price_49 (by decide) (lv' := [(6, .int (0 : Int32)), (5, .int s0), (0, .ref v0), (1, .ref v1), (2, .ref v2), (3, .int v3), (4, .ref v4)]) rfl ?_
  exact r_sub [2, 3, 4, 5, 6, 1, 0] rfl (T_X7_price_51 C E ht hn h)
def P_X7_price_0 (Q : HS → Prop) (v0 : Nat) (v1 : Nat) (v2 : Nat) (v3 : Int32) (S : HS) : Prop := ob S v0 7 ∧ (∀ x1 : Int32, x1 = fI (sI (sI S v0 9 v3) v0 3 (0 : Int32)) v0 10 → (ob (sI (sI S v0 9 v3) v0 3 (0 : Int32)) v1 8 ∧ (P_X8_hasWalker v1 x1 (fun x4 S2 => Gr (sI (sI S v0 9 v3) v0 3 (0 : Int32)) S2 → bl x4 → (((¬ x4 = 0) → (∃ a6 : Nat, fR S2 v1 9 = some a6 ∧ (∀ x7 : Int32, x7 = fI S2 v0 10 → (ob S2 a6 19 ∧ (vp_in x7 (hN S2 a6) ∧ ∃ a9 : Nat, fR S2 a6 x7.toNatClampNeg = some a9 ∧ (P_X8_hasHour v1 v3 (fun x12 S10 => Gr S2 S10 → bl x12 → (((¬ x12 = 0) → (P_X7_price_46 Q v0 v1 v2 v3 a9 (0 : Int32) S10)) ∧ ((x12 = 0) → (P_X7_price_46 Q v0 v1 v2 v3 a9 (1 : Int32) S10)))) S2)))))) ∧ ((x4 = 0) → (Q S2)))) (sI (sI S v0 9 v3) v0 3 (0 : Int32)))))
set_option maxRecDepth 20000 in
set_option maxHeartbeats 4000000 in
theorem T_X7_price_0 {X : CX} {Q : HS → Prop} (C : Cx X cX7_price RX7 12 rm_X7_price) (E : ReV X rm_X7_price Q) (ht : (xh X).sig.returnType = none) (hn : (xh X).name = yX7_price.name) {v0 : Nat} {v1 : Nat} {v2 : Nat} {v3 : Int32} {S : HS} (h : P_X7_price_0 Q v0 v1 v2 v3 S) : WS X 12 0 0 0 [(0, .ref v0), (1, .ref v1), (2, .ref v2), (3, .int v3)] [] S := by
  refine r_aload_n (pc := 0) C dX7_price_0 0 rfl ?_
  refine r_iload_n (pc := 1) C dX7_price_1 3 rfl ?_
  obtain ⟨o_v0, h⟩ := h
  refine r_puti (pc := 2) C pfL_X7_37 dX7_price_2 o_v0 ?_
  refine r_aload_n (pc := 5) C dX7_price_5 0 rfl ?_
  refine r_iconst (pc := 6) C (v := (0 : Int32)) dX7_price_6 (by decide) ?_
  refine r_puti (pc := 7) C pfL_X7_82 dX7_price_7 o_v0 ?_
  refine r_aload_n (pc := 10) C dX7_price_10 1 rfl ?_
  refine r_aload_n (pc := 11) C dX7_price_11 0 rfl ?_
  refine r_geti (pc := 12) C fL_X7_41 dX7_price_12 o_v0 ?_
  refine r_topi (fun x1 ex1 => ?_)
  have h := h x1 ex1
  obtain ⟨o_v1, h⟩ := h
  refine r_callVi0 (pc := 15) C (rest := []) (a := v1) o_v1 [.int x1] yV_X8_hasWalker g_849 (c_X8_hasWalker h) dX7_price_15 rfl rfl (Nat.le_of_ble_eq_true rfl) ⟨by decide, by decide⟩ ⟨by decide, by decide⟩ ⟨rfl, rfl⟩ (fun x4 S2 h g3 => ?_)
  have bx4 := h.1
  have h := h.2 g3 bx4
  have o_v0 := gr_ob g3 o_v0
  have o_v1 := gr_ob g3 o_v1
  refine r_if_ne (pc := 18) C (tgt := 22) dX7_price_18 (by decide) (fun c5 => ?_) (fun c5 => ?_)
  · have h := h.1 c5
    refine r_aload_n (pc := 22) C dX7_price_22 1 rfl ?_
    obtain ⟨a6, ea6, h⟩ := h
    refine r_getr (pc := 23) C fL_X7_89 dX7_price_23 o_v1 ea6 ?_
    refine r_aload_n (pc := 26) C dX7_price_26 0 rfl ?_
    refine r_geti (pc := 27) C fL_X7_41 dX7_price_27 o_v0 ?_
    refine r_topi (fun x7 ex7 => ?_)
    have h := h x7 ex7
    obtain ⟨o_a6, h⟩ := h
    obtain ⟨i8, a9, ea9, h⟩ := h
    refine r_aald19 (pc := 30) C dX7_price_30 o_a6 i8 ea9 ?_
    refine r_astore (pc := 31) C dX7_price_31 (by decide) (lv' := [(4, .ref a9), (0, .ref v0), (1, .ref v1), (2, .ref v2), (3, .int v3)]) rfl ?_
    refine r_aload_n (pc := 33) C dX7_price_33 2 rfl ?_
    refine r_iload_n (pc := 34) C dX7_price_34 4 rfl ?_
    refine r_callVi0 (pc := 35) C (rest := []) (a := v1) o_v1 [.int v3] yV_X8_hasHour g_850 (c_X8_hasHour h) dX7_price_35 rfl rfl (Nat.le_of_ble_eq_true rfl) ⟨by decide, by decide⟩ ⟨by decide, by decide⟩ ⟨rfl, rfl⟩ (fun x12 S10 h g11 => ?_)
    have bx12 := h.1
    have h := h.2 g11 bx12
    have o_a6 := gr_ob g11 o_a6
    have o_v0 := gr_ob g11 o_v0
    have o_v1 := gr_ob g11 o_v1
    refine r_if_ne (pc := 38) C (tgt := 45) dX7_price_38 (by decide) (fun c13 => ?_) (fun c13 => ?_)
    · have h := h.1 c13
      refine r_iconst (pc := 45) C (v := (0 : Int32)) dX7_price_45 (by decide) ?_
      exact r_sub [1, 2, 3, 4, 0] rfl (T_X7_price_46 C E ht hn h)
    · have h := h.2 c13
      refine r_iconst (pc := 41) C (v := (1 : Int32)) dX7_price_41 (by decide) ?_
      refine r_goto (pc := 42) C (tgt := 46) dX7_price_42 (by decide) ?_
      exact r_sub [1, 2, 3, 4, 0] rfl (T_X7_price_46 C E ht hn h)
  · have h := h.2 c5
    exact r_vret (pc := 21) C E ht dX7_price_21 (by decide) (by decide) h
def P_X7_price (v0 : Nat) (v1 : Nat) (v2 : Nat) (v3 : Int32) (Q : HS → Prop) (S : HS) : Prop := P_X7_price_0 Q v0 v1 v2 v3 S
theorem c_X7_price {l : Launch} {Ee : EE} {S : HS} {v0 : Nat} {v1 : Nat} {v2 : Nat} {v3 : Int32} {Q : HS → Prop} (h : P_X7_price v0 v1 v2 v3 Q S) : MV l yX7_price cX7_price 12 none rm_X7_price Ee S [.ref v0, .ref v1, .ref v2, .int v3] Q :=
  openV (by decide) (Nat.le_of_ble_eq_true rfl) (fun X C E ht hn hE hl => by subst hE; exact r_sub [0, 1, 2, 3] rfl (T_X7_price_0 C E ht hn h))
def rm_X7_reckonMinute : Room := { frames := 0, cells := 0, slots := 0, locals := 0 }
def P_X7_reckonMinute_40 (Q : HS → Prop) (X2 : Nat → Int32 → Int32 → Int32 → HS → Prop) (v0 : Nat) (v1 : Int32) (v2 : Int32) (v3 : Int32) (s0 : Nat) (s1 : Int32) (s2 : Int64) (S : HS) : Prop := ob S s0 14 ∧ (vp_in s1 (hN S s0) ∧ (ob (sJ S s0 s1.toNatClampNeg s2) v0 7 ∧ (∃ a2 : Nat, fR (sJ S s0 s1.toNatClampNeg s2) v0 2 = some a2 ∧ (ob (sJ S s0 s1.toNatClampNeg s2) a2 13 ∧ (vp_in ((v3 * (401 : Int32)) + v2) (hN (sJ S s0 s1.toNatClampNeg s2) a2) ∧ (∀ x4 : Int32, x4 = v3 + (1 : Int32) → (X2 v0 v1 v2 x4 (sI (sJ S s0 s1.toNatClampNeg s2) a2 ((v3 * (401 : Int32)) + v2).toNatClampNeg (-1 : Int32)))))))))
set_option maxRecDepth 20000 in
set_option maxHeartbeats 4000000 in
theorem T_X7_reckonMinute_40 {X : CX} {Q : HS → Prop} (C : Cx X cX7_reckonMinute RX7 9 rm_X7_reckonMinute) (E : ReV X rm_X7_reckonMinute Q) (ht : (xh X).sig.returnType = none) (hn : (xh X).name = yX7_reckonMinute.name) {X2 : Nat → Int32 → Int32 → Int32 → HS → Prop} (hX2 : ∀ (v0 : Nat) (v1 : Int32) (v2 : Int32) (v3 : Int32) (S : HS), X2 v0 v1 v2 v3 S → WS X 9 0 0 2 [(0, .ref v0), (1, .int v1), (2, .int v2), (3, .int v3)] [] S) {v0 : Nat} {v1 : Int32} {v2 : Int32} {v3 : Int32} {s0 : Nat} {s1 : Int32} {s2 : Int64} {S : HS} (h : P_X7_reckonMinute_40 Q X2 v0 v1 v2 v3 s0 s1 s2 S) : WS X 9 0 0 40 [(0, .ref v0), (1, .int v1), (2, .int v2), (3, .int v3)] [.long s2, .int s1, .ref s0] S := by
  obtain ⟨o_s0, h⟩ := h
  obtain ⟨i1, h⟩ := h
  refine r_last (pc := 40) C dX7_reckonMinute_40 o_s0 i1 ?_
  refine r_aload_n (pc := 41) C dX7_reckonMinute_41 0 rfl ?_
  obtain ⟨o_v0, h⟩ := h
  obtain ⟨a2, ea2, h⟩ := h
  refine r_getr (pc := 42) C fL_X7_19 dX7_reckonMinute_42 o_v0 ea2 ?_
  refine r_iload_n (pc := 45) C dX7_reckonMinute_45 3 rfl ?_
  refine r_sipush (pc := 46) C (v := (401 : Int32)) dX7_reckonMinute_46 (by decide) ?_
  refine r_imul (pc := 49) C dX7_reckonMinute_49 ?_
  refine r_iload_n (pc := 50) C dX7_reckonMinute_50 2 rfl ?_
  refine r_iadd (pc := 51) C dX7_reckonMinute_51 ?_
  refine r_iconst (pc := 52) C (v := (-1 : Int32)) dX7_reckonMinute_52 (by decide) ?_
  obtain ⟨o_a2, h⟩ := h
  obtain ⟨i3, h⟩ := h
  refine r_iast (pc := 53) C dX7_reckonMinute_53 o_a2 i3 ?_
  obtain ⟨x4, ex4⟩ : ∃ z : Int32, z = v3 + (1 : Int32) := ⟨_, rfl⟩
  have h := h x4 ex4
  refine r_iinc (pc := 54) C (v := x4) (lv' := [(3, .int x4), (0, .ref v0), (1, .int v1), (2, .int v2)]) dX7_reckonMinute_54 3 rfl ex4.symm (by decide) rfl ?_
  refine r_goto (pc := 57) C (tgt := 2) dX7_reckonMinute_57 (by decide) ?_
  exact r_sub [1, 2, 3, 0] rfl (hX2 v0 v1 v2 x4 (sI (sJ S s0 s1.toNatClampNeg s2) a2 ((v3 * (401 : Int32)) + v2).toNatClampNeg (-1 : Int32)) h)
def P_X7_reckonMinute_219 (Q : HS → Prop) (X62 : Nat → Int32 → Int32 → HS → Prop) (v0 : Nat) (v2 : Int32) (v3 : Int32) (S : HS) : Prop := ∀ x1 : Int32, x1 = v3 + (1 : Int32) → (X62 v0 v2 x1 S)
set_option maxRecDepth 20000 in
set_option maxHeartbeats 4000000 in
theorem T_X7_reckonMinute_219 {X : CX} {Q : HS → Prop} (C : Cx X cX7_reckonMinute RX7 9 rm_X7_reckonMinute) (E : ReV X rm_X7_reckonMinute Q) (ht : (xh X).sig.returnType = none) (hn : (xh X).name = yX7_reckonMinute.name) {X62 : Nat → Int32 → Int32 → HS → Prop} (hX62 : ∀ (v0 : Nat) (v2 : Int32) (v3 : Int32) (S : HS), X62 v0 v2 v3 S → WS X 9 0 0 62 [(0, .ref v0), (2, .int v2), (3, .int v3)] [] S) {v0 : Nat} {v2 : Int32} {v3 : Int32} {S : HS} (h : P_X7_reckonMinute_219 Q X62 v0 v2 v3 S) : WS X 9 0 0 219 [(0, .ref v0), (2, .int v2), (3, .int v3)] [] S := by
  obtain ⟨x1, ex1⟩ : ∃ z : Int32, z = v3 + (1 : Int32) := ⟨_, rfl⟩
  have h := h x1 ex1
  refine r_iinc (pc := 219) C (v := x1) (lv' := [(3, .int x1), (0, .ref v0), (2, .int v2)]) dX7_reckonMinute_219 2 rfl ex1.symm (by decide) rfl ?_
  refine r_goto (pc := 222) C (tgt := 62) dX7_reckonMinute_222 (by decide) ?_
  exact r_sub [1, 2, 0] rfl (hX62 v0 v2 x1 S h)
def P_X7_reckonMinute_117 (Q : HS → Prop) (X62 : Nat → Int32 → Int32 → HS → Prop) (v0 : Nat) (v2 : Int32) (v3 : Int32) (v4 : Int32) (v5 : Int32) (s0 : Int32) (S : HS) : Prop := ((s0 = 0) → (P_X7_reckonMinute_219 Q X62 v0 v2 v3 S)) ∧ ((¬ s0 = 0) → (((v4 < 0) → (P_X7_reckonMinute_219 Q X62 v0 v2 v3 S)) ∧ ((¬ v4 < 0) → (ob S v0 7 ∧ (∃ a3 : Nat, fR S v0 1 = some a3 ∧ (ob S a3 14 ∧ ((((nI (hN S a3)) ≤ v4) → (P_X7_reckonMinute_219 Q X62 v0 v2 v3 S)) ∧ ((¬ (nI (hN S a3)) ≤ v4) → (((v5 < 0) → (P_X7_reckonMinute_219 Q X62 v0 v2 v3 S)) ∧ ((¬ v5 < 0) → (∃ a6 : Nat, fR S v0 1 = some a6 ∧ (ob S a6 14 ∧ ((((nI (hN S a6)) ≤ v5) → (P_X7_reckonMinute_219 Q X62 v0 v2 v3 S)) ∧ ((¬ (nI (hN S a6)) ≤ v5) → (∃ a8 : Nat, fR S v0 1 = some a8 ∧ (ob S a8 14 ∧ (vp_in v5 (hN S a8) ∧ ∀ x10 : Int64, x10 = fJ S a8 v5.toNatClampNeg → ((((lg_cmp x10 (4611686018427387904 : Int64)) = 0) → (P_X7_reckonMinute_219 Q X62 v0 v2 v3 S)) ∧ ((¬ (lg_cmp x10 (4611686018427387904 : Int64)) = 0) → (∃ a12 : Nat, fR S v0 7 = some a12 ∧ (ob S a12 14 ∧ (vp_in v3 (hN S a12) ∧ ∀ x14 : Int64, x14 = fJ S a12 v3.toNatClampNeg → (∃ a15 : Nat, fR S v0 1 = some a15 ∧ (ob S a15 14 ∧ (vp_in v5 (hN S a15) ∧ ∀ x17 : Int64, x17 = fJ S a15 v5.toNatClampNeg → (∀ x18 : Int64, x18 = x14 + x17 → (∃ a19 : Nat, fR S v0 1 = some a19 ∧ (ob S a19 14 ∧ (vp_in v4 (hN S a19) ∧ ∀ x21 : Int64, x21 = fJ S a19 v4.toNatClampNeg → (((0 ≤ (lg_cmp x18 x21)) → (P_X7_reckonMinute_219 Q X62 v0 v2 v3 S)) ∧ ((¬ 0 ≤ (lg_cmp x18 x21)) → (∃ a23 : Nat, fR S v0 1 = some a23 ∧ (ob S a23 14 ∧ (vp_in v4 (hN S a23) ∧ (∃ a25 : Nat, fR (sJ S a23 v4.toNatClampNeg x18) v0 2 = some a25 ∧ (∃ a26 : Nat, fR (sJ S a23 v4.toNatClampNeg x18) v0 8 = some a26 ∧ (ob (sJ S a23 v4.toNatClampNeg x18) a26 13 ∧ (vp_in v3 (hN (sJ S a23 v4.toNatClampNeg x18) a26) ∧ ∀ x28 : Int32, x28 = fI (sJ S a23 v4.toNatClampNeg x18) a26 v3.toNatClampNeg → (ob (sJ S a23 v4.toNatClampNeg x18) a25 13 ∧ (vp_in v4 (hN (sJ S a23 v4.toNatClampNeg x18) a25) ∧ (P_X7_reckonMinute_219 Q X62 v0 v2 v3 (sI (sJ S a23 v4.toNatClampNeg x18) a25 v4.toNatClampNeg x28))))))))))))))))))))))))))))))))))))))))))
set_option maxRecDepth 20000 in
set_option maxHeartbeats 4000000 in
theorem T_X7_reckonMinute_117 {X : CX} {Q : HS → Prop} (C : Cx X cX7_reckonMinute RX7 9 rm_X7_reckonMinute) (E : ReV X rm_X7_reckonMinute Q) (ht : (xh X).sig.returnType = none) (hn : (xh X).name = yX7_reckonMinute.name) {X62 : Nat → Int32 → Int32 → HS → Prop} (hX62 : ∀ (v0 : Nat) (v2 : Int32) (v3 : Int32) (S : HS), X62 v0 v2 v3 S → WS X 9 0 0 62 [(0, .ref v0), (2, .int v2), (3, .int v3)] [] S) {v0 : Nat} {v2 : Int32} {v3 : Int32} {v4 : Int32} {v5 : Int32} {s0 : Int32} {S : HS} (h : P_X7_reckonMinute_117 Q X62 v0 v2 v3 v4 v5 s0 S) : WS X 9 0 0 117 [(0, .ref v0), (2, .int v2), (3, .int v3), (4, .int v4), (5, .int v5)] [.int s0] S := by
  refine r_istore (pc := 117) C dX7_reckonMinute_117 (by decide) (lv' := [(6, .int s0), (0, .ref v0), (2, .int v2), (3, .int v3), (4, .int v4), (5, .int v5)]) rfl ?_
  refine r_iload (pc := 119) C dX7_reckonMinute_119 0 rfl ?_
  refine r_if_eq (pc := 121) C (tgt := 219) dX7_reckonMinute_121 (by decide) (fun c1 => ?_) (fun c1 => ?_)
  · have h := h.1 c1
    exact r_sub [1, 2, 3] rfl (T_X7_reckonMinute_219 C E ht hn hX62 h)
  · have h := h.2 c1
    refine r_iload (pc := 124) C dX7_reckonMinute_124 4 rfl ?_
    refine r_if_lt (pc := 126) C (tgt := 219) dX7_reckonMinute_126 (by decide) (fun c2 => ?_) (fun c2 => ?_)
    · have h := h.1 c2
      exact r_sub [1, 2, 3] rfl (T_X7_reckonMinute_219 C E ht hn hX62 h)
    · have h := h.2 c2
      refine r_iload (pc := 129) C dX7_reckonMinute_129 4 rfl ?_
      refine r_aload_n (pc := 131) C dX7_reckonMinute_131 1 rfl ?_
      obtain ⟨o_v0, h⟩ := h
      obtain ⟨a3, ea3, h⟩ := h
      refine r_getr (pc := 132) C fL_X7_15 dX7_reckonMinute_132 o_v0 ea3 ?_
      obtain ⟨o_a3, h⟩ := h
      refine r_alen14 (pc := 135) C dX7_reckonMinute_135 o_a3 ?_
      refine r_icmp_ge (pc := 136) C (tgt := 219) dX7_reckonMinute_136 (by decide) (fun c4 => ?_) (fun c4 => ?_)
      · have h := h.1 c4
        exact r_sub [1, 2, 3] rfl (T_X7_reckonMinute_219 C E ht hn hX62 h)
      · have h := h.2 c4
        refine r_iload (pc := 139) C dX7_reckonMinute_139 5 rfl ?_
        refine r_if_lt (pc := 141) C (tgt := 219) dX7_reckonMinute_141 (by decide) (fun c5 => ?_) (fun c5 => ?_)
        · have h := h.1 c5
          exact r_sub [1, 2, 3] rfl (T_X7_reckonMinute_219 C E ht hn hX62 h)
        · have h := h.2 c5
          refine r_iload (pc := 144) C dX7_reckonMinute_144 5 rfl ?_
          refine r_aload_n (pc := 146) C dX7_reckonMinute_146 1 rfl ?_
          obtain ⟨a6, ea6, h⟩ := h
          refine r_getr (pc := 147) C fL_X7_15 dX7_reckonMinute_147 o_v0 ea6 ?_
          obtain ⟨o_a6, h⟩ := h
          refine r_alen14 (pc := 150) C dX7_reckonMinute_150 o_a6 ?_
          refine r_icmp_ge (pc := 151) C (tgt := 219) dX7_reckonMinute_151 (by decide) (fun c7 => ?_) (fun c7 => ?_)
          · have h := h.1 c7
            exact r_sub [1, 2, 3] rfl (T_X7_reckonMinute_219 C E ht hn hX62 h)
          · have h := h.2 c7
            refine r_aload_n (pc := 154) C dX7_reckonMinute_154 1 rfl ?_
            obtain ⟨a8, ea8, h⟩ := h
            refine r_getr (pc := 155) C fL_X7_15 dX7_reckonMinute_155 o_v0 ea8 ?_
            refine r_iload (pc := 158) C dX7_reckonMinute_158 5 rfl ?_
            obtain ⟨o_a8, h⟩ := h
            obtain ⟨i9, h⟩ := h
            refine r_lald (pc := 160) C dX7_reckonMinute_160 o_a8 i9 ?_
            refine r_topl (fun x10 ex10 => ?_)
            have h := h x10 ex10
            refine r_ldc2 (pc := 161) C (v := (4611686018427387904 : Int64)) dX7_reckonMinute_161 g_887 ?_
            refine r_lcmp (pc := 164) C dX7_reckonMinute_164 ?_
            refine r_if_eq (pc := 165) C (tgt := 219) dX7_reckonMinute_165 (by decide) (fun c11 => ?_) (fun c11 => ?_)
            · have h := h.1 c11
              exact r_sub [1, 2, 3] rfl (T_X7_reckonMinute_219 C E ht hn hX62 h)
            · have h := h.2 c11
              refine r_aload_n (pc := 168) C dX7_reckonMinute_168 1 rfl ?_
              obtain ⟨a12, ea12, h⟩ := h
              refine r_getr (pc := 169) C fL_X7_31 dX7_reckonMinute_169 o_v0 ea12 ?_
              refine r_iload_n (pc := 172) C dX7_reckonMinute_172 3 rfl ?_
              obtain ⟨o_a12, h⟩ := h
              obtain ⟨i13, h⟩ := h
              refine r_lald (pc := 173) C dX7_reckonMinute_173 o_a12 i13 ?_
              refine r_topl (fun x14 ex14 => ?_)
              have h := h x14 ex14
              refine r_aload_n (pc := 174) C dX7_reckonMinute_174 1 rfl ?_
              obtain ⟨a15, ea15, h⟩ := h
              refine r_getr (pc := 175) C fL_X7_15 dX7_reckonMinute_175 o_v0 ea15 ?_
              refine r_iload (pc := 178) C dX7_reckonMinute_178 5 rfl ?_
              obtain ⟨o_a15, h⟩ := h
              obtain ⟨i16, h⟩ := h
              refine r_lald (pc := 180) C dX7_reckonMinute_180 o_a15 i16 ?_
              refine r_topl (fun x17 ex17 => ?_)
              have h := h x17 ex17
              refine r_ladd (pc := 181) C dX7_reckonMinute_181 ?_
              refine r_topl (fun x18 ex18 => ?_)
              have h := h x18 ex18
              refine r_lstore (pc := 182) C dX7_reckonMinute_182 (by decide) (lv' := [(7, .long x18), (6, .int s0), (0, .ref v0), (2, .int v2), (3, .int v3), (4, .int v4), (5, .int v5)]) rfl ?_
              refine r_lload (pc := 184) C dX7_reckonMinute_184 0 rfl ?_
              refine r_aload_n (pc := 186) C dX7_reckonMinute_186 2 rfl ?_
              obtain ⟨a19, ea19, h⟩ := h
              refine r_getr (pc := 187) C fL_X7_15 dX7_reckonMinute_187 o_v0 ea19 ?_
              refine r_iload (pc := 190) C dX7_reckonMinute_190 5 rfl ?_
              obtain ⟨o_a19, h⟩ := h
              obtain ⟨i20, h⟩ := h
              refine r_lald (pc := 192) C dX7_reckonMinute_192 o_a19 i20 ?_
              refine r_topl (fun x21 ex21 => ?_)
              have h := h x21 ex21
              refine r_lcmp (pc := 193) C dX7_reckonMinute_193 ?_
              refine r_if_ge (pc := 194) C (tgt := 219) dX7_reckonMinute_194 (by decide) (fun c22 => ?_) (fun c22 => ?_)
              · have h := h.1 c22
                exact r_sub [2, 3, 4] rfl (T_X7_reckonMinute_219 C E ht hn hX62 h)
              · have h := h.2 c22
                refine r_aload_n (pc := 197) C dX7_reckonMinute_197 2 rfl ?_
                obtain ⟨a23, ea23, h⟩ := h
                refine r_getr (pc := 198) C fL_X7_15 dX7_reckonMinute_198 o_v0 ea23 ?_
                refine r_iload (pc := 201) C dX7_reckonMinute_201 5 rfl ?_
                refine r_lload (pc := 203) C dX7_reckonMinute_203 0 rfl ?_
                obtain ⟨o_a23, h⟩ := h
                obtain ⟨i24, h⟩ := h
                refine r_last (pc := 205) C dX7_reckonMinute_205 o_a23 i24 ?_
                refine r_aload_n (pc := 206) C dX7_reckonMinute_206 2 rfl ?_
                obtain ⟨a25, ea25, h⟩ := h
                refine r_getr (pc := 207) C fL_X7_19 dX7_reckonMinute_207 o_v0 ea25 ?_
                refine r_iload (pc := 210) C dX7_reckonMinute_210 5 rfl ?_
                refine r_aload_n (pc := 212) C dX7_reckonMinute_212 2 rfl ?_
                obtain ⟨a26, ea26, h⟩ := h
                refine r_getr (pc := 213) C fL_X7_34 dX7_reckonMinute_213 o_v0 ea26 ?_
                refine r_iload_n (pc := 216) C dX7_reckonMinute_216 4 rfl ?_
                obtain ⟨o_a26, h⟩ := h
                obtain ⟨i27, h⟩ := h
                refine r_iald (pc := 217) C dX7_reckonMinute_217 o_a26 i27 ?_
                refine r_topi (fun x28 ex28 => ?_)
                have h := h x28 ex28
                obtain ⟨o_a25, h⟩ := h
                obtain ⟨i29, h⟩ := h
                refine r_iast (pc := 218) C dX7_reckonMinute_218 o_a25 i29 ?_
                exact r_sub [2, 3, 4] rfl (T_X7_reckonMinute_219 C E ht hn hX62 h)
def B_X7_reckonMinute_62 (Q : HS → Prop) (X62 : Nat → Int32 → Int32 → HS → Prop) (v0 : Nat) (v2 : Int32) (v3 : Int32) (S : HS) : Prop := ob S v0 7 ∧ (∀ x1 : Int32, x1 = fI S v0 3 → (((x1 ≤ v3) → (Q S)) ∧ ((¬ x1 ≤ v3) → ((((224 : Int32) ≤ v3) → (Q S)) ∧ ((¬ (224 : Int32) ≤ v3) → (∃ a4 : Nat, fR S v0 4 = some a4 ∧ (ob S a4 13 ∧ (vp_in v3 (hN S a4) ∧ ∀ x6 : Int32, x6 = fI S a4 v3.toNatClampNeg → (∀ x7 : Int32, x7 = x6 + v2 → (∃ a8 : Nat, fR S v0 5 = some a8 ∧ (ob S a8 13 ∧ (vp_in v3 (hN S a8) ∧ ∀ x10 : Int32, x10 = fI S a8 v3.toNatClampNeg → (∀ x11 : Int32, x11 = x10 + v2 → (∃ a12 : Nat, fR S v0 6 = some a12 ∧ (ob S a12 13 ∧ (vp_in v3 (hN S a12) ∧ ∀ x14 : Int32, x14 = fI S a12 v3.toNatClampNeg → (∀ x15 : Int32, x15 = fI S v0 12 → ((((x15 - v2) < x14) → (P_X7_reckonMinute_117 Q X62 v0 v2 v3 x7 x11 (0 : Int32) S)) ∧ ((¬ (x15 - v2) < x14) → (P_X7_reckonMinute_117 Q X62 v0 v2 v3 x7 x11 (1 : Int32) S))))))))))))))))))))
def P_X7_reckonMinute_62 (Q : HS → Prop) (v0 : Nat) (v2 : Int32) (v3 : Int32) (S : HS) : Prop := ∀ X62 : Nat → Int32 → Int32 → HS → Prop, (∀ (v0 : Nat) (v2 : Int32) (v3 : Int32) (S : HS), B_X7_reckonMinute_62 Q X62 v0 v2 v3 S → X62 v0 v2 v3 S) → X62 v0 v2 v3 S
set_option maxRecDepth 20000 in
set_option maxHeartbeats 4000000 in
theorem TB_X7_reckonMinute_62 {X : CX} {Q : HS → Prop} (C : Cx X cX7_reckonMinute RX7 9 rm_X7_reckonMinute) (E : ReV X rm_X7_reckonMinute Q) (ht : (xh X).sig.returnType = none) (hn : (xh X).name = yX7_reckonMinute.name) {X62 : Nat → Int32 → Int32 → HS → Prop} (hX62 : ∀ (v0 : Nat) (v2 : Int32) (v3 : Int32) (S : HS), X62 v0 v2 v3 S → WS X 9 0 0 62 [(0, .ref v0), (2, .int v2), (3, .int v3)] [] S) {v0 : Nat} {v2 : Int32} {v3 : Int32} {S : HS} (h : B_X7_reckonMinute_62 Q X62 v0 v2 v3 S) : WS X 9 0 0 62 [(0, .ref v0), (2, .int v2), (3, .int v3)] [] S := by
  refine r_iload_n (pc := 62) C dX7_reckonMinute_62 2 rfl ?_
  refine r_aload_n (pc := 63) C dX7_reckonMinute_63 0 rfl ?_
  obtain ⟨o_v0, h⟩ := h
  refine r_geti (pc := 64) C fL_X7_82 dX7_reckonMinute_64 o_v0 ?_
  refine r_topi (fun x1 ex1 => ?_)
  have h := h x1 ex1
  refine r_icmp_ge (pc := 67) C (tgt := 225) dX7_reckonMinute_67 (by decide) (fun c2 => ?_) (fun c2 => ?_)
  · have h := h.1 c2
    exact r_vret (pc := 225) C E ht dX7_reckonMinute_225 (by decide) (by decide) h
  · have h := h.2 c2
    refine r_iload_n (pc := 70) C dX7_reckonMinute_70 2 rfl ?_
    refine r_sipush (pc := 71) C (v := (224 : Int32)) dX7_reckonMinute_71 (by decide) ?_
    refine r_icmp_ge (pc := 74) C (tgt := 225) dX7_reckonMinute_74 (by decide) (fun c3 => ?_) (fun c3 => ?_)
    · have h := h.1 c3
      exact r_vret (pc := 225) C E ht dX7_reckonMinute_225 (by decide) (by decide) h
    · have h := h.2 c3
      refine r_aload_n (pc := 77) C dX7_reckonMinute_77 0 rfl ?_
      obtain ⟨a4, ea4, h⟩ := h
      refine r_getr (pc := 78) C fL_X7_22 dX7_reckonMinute_78 o_v0 ea4 ?_
      refine r_iload_n (pc := 81) C dX7_reckonMinute_81 2 rfl ?_
      obtain ⟨o_a4, h⟩ := h
      obtain ⟨i5, h⟩ := h
      refine r_iald (pc := 82) C dX7_reckonMinute_82 o_a4 i5 ?_
      refine r_topi (fun x6 ex6 => ?_)
      have h := h x6 ex6
      refine r_iload_n (pc := 83) C dX7_reckonMinute_83 1 rfl ?_
      refine r_iadd (pc := 84) C dX7_reckonMinute_84 ?_
      refine r_topi (fun x7 ex7 => ?_)
      have h := h x7 ex7
      refine r_istore (pc := 85) C dX7_reckonMinute_85 (by decide) (lv' := [(4, .int x7), (0, .ref v0), (2, .int v2), (3, .int v3)]) rfl ?_
      refine r_aload_n (pc := 87) C dX7_reckonMinute_87 1 rfl ?_
      obtain ⟨a8, ea8, h⟩ := h
      refine r_getr (pc := 88) C fL_X7_25 dX7_reckonMinute_88 o_v0 ea8 ?_
      refine r_iload_n (pc := 91) C dX7_reckonMinute_91 3 rfl ?_
      obtain ⟨o_a8, h⟩ := h
      obtain ⟨i9, h⟩ := h
      refine r_iald (pc := 92) C dX7_reckonMinute_92 o_a8 i9 ?_
      refine r_topi (fun x10 ex10 => ?_)
      have h := h x10 ex10
      refine r_iload_n (pc := 93) C dX7_reckonMinute_93 2 rfl ?_
      refine r_iadd (pc := 94) C dX7_reckonMinute_94 ?_
      refine r_topi (fun x11 ex11 => ?_)
      have h := h x11 ex11
      refine r_istore (pc := 95) C dX7_reckonMinute_95 (by decide) (lv' := [(5, .int x11), (4, .int x7), (0, .ref v0), (2, .int v2), (3, .int v3)]) rfl ?_
      refine r_aload_n (pc := 97) C dX7_reckonMinute_97 2 rfl ?_
      obtain ⟨a12, ea12, h⟩ := h
      refine r_getr (pc := 98) C fL_X7_28 dX7_reckonMinute_98 o_v0 ea12 ?_
      refine r_iload_n (pc := 101) C dX7_reckonMinute_101 4 rfl ?_
      obtain ⟨o_a12, h⟩ := h
      obtain ⟨i13, h⟩ := h
      refine r_iald (pc := 102) C dX7_reckonMinute_102 o_a12 i13 ?_
      refine r_topi (fun x14 ex14 => ?_)
      have h := h x14 ex14
      refine r_aload_n (pc := 103) C dX7_reckonMinute_103 2 rfl ?_
      refine r_geti (pc := 104) C fL_X7_47 dX7_reckonMinute_104 o_v0 ?_
      refine r_topi (fun x15 ex15 => ?_)
      have h := h x15 ex15
      refine r_iload_n (pc := 107) C dX7_reckonMinute_107 3 rfl ?_
      refine r_isub (pc := 108) C dX7_reckonMinute_108 ?_
      refine r_icmp_gt (pc := 109) C (tgt := 116) dX7_reckonMinute_109 (by decide) (fun c16 => ?_) (fun c16 => ?_)
      · have h := h.1 c16
        refine r_iconst (pc := 116) C (v := (0 : Int32)) dX7_reckonMinute_116 (by decide) ?_
        exact r_sub [2, 3, 4, 1, 0] rfl (T_X7_reckonMinute_117 C E ht hn hX62 h)
      · have h := h.2 c16
        refine r_iconst (pc := 112) C (v := (1 : Int32)) dX7_reckonMinute_112 (by decide) ?_
        refine r_goto (pc := 113) C (tgt := 117) dX7_reckonMinute_113 (by decide) ?_
        exact r_sub [2, 3, 4, 1, 0] rfl (T_X7_reckonMinute_117 C E ht hn hX62 h)
theorem T_X7_reckonMinute_62 {X : CX} {Q : HS → Prop} (C : Cx X cX7_reckonMinute RX7 9 rm_X7_reckonMinute) (E : ReV X rm_X7_reckonMinute Q) (ht : (xh X).sig.returnType = none) (hn : (xh X).name = yX7_reckonMinute.name) {v0 : Nat} {v2 : Int32} {v3 : Int32} {S : HS} (h : P_X7_reckonMinute_62 Q v0 v2 v3 S) : WS X 9 0 0 62 [(0, .ref v0), (2, .int v2), (3, .int v3)] [] S :=
  h (fun v0 v2 v3 S => WS X 9 0 0 62 [(0, .ref v0), (2, .int v2), (3, .int v3)] [] S) (fun v0 v2 v3 S hh => TB_X7_reckonMinute_62 C E ht hn (fun v0 v2 v3 S z => z) hh)
def P_X7_reckonMinute_60 (Q : HS → Prop) (v0 : Nat) (v2 : Int32) (S : HS) : Prop := P_X7_reckonMinute_62 Q v0 v2 (0 : Int32) S
set_option maxRecDepth 20000 in
set_option maxHeartbeats 4000000 in
theorem T_X7_reckonMinute_60 {X : CX} {Q : HS → Prop} (C : Cx X cX7_reckonMinute RX7 9 rm_X7_reckonMinute) (E : ReV X rm_X7_reckonMinute Q) (ht : (xh X).sig.returnType = none) (hn : (xh X).name = yX7_reckonMinute.name) {v0 : Nat} {v2 : Int32} {S : HS} (h : P_X7_reckonMinute_60 Q v0 v2 S) : WS X 9 0 0 60 [(0, .ref v0), (2, .int v2)] [] S := by
  refine r_iconst (pc := 60) C (v := (0 : Int32)) dX7_reckonMinute_60 (by decide) ?_
  refine r_istore_n (pc := 61) C dX7_reckonMinute_61 rfl (by decide) (lv' := [(3, .int (0 : Int32)), (0, .ref v0), (2, .int v2)]) rfl ?_
  exact r_sub [1, 2, 0] rfl (T_X7_reckonMinute_62 C E ht hn h)
def B_X7_reckonMinute_2 (Q : HS → Prop) (X2 : Nat → Int32 → Int32 → Int32 → HS → Prop) (v0 : Nat) (v1 : Int32) (v2 : Int32) (v3 : Int32) (S : HS) : Prop := ((v1 ≤ v3) → (P_X7_reckonMinute_60 Q v0 v2 S)) ∧ ((¬ v1 ≤ v3) → ((((8 : Int32) ≤ v3) → (P_X7_reckonMinute_60 Q v0 v2 S)) ∧ ((¬ (8 : Int32) ≤ v3) → (ob S v0 7 ∧ (∃ a3 : Nat, fR S v0 1 = some a3 ∧ (∀ x4 : Int32, x4 = fI S v0 11 → (((¬ v3 = x4) → (P_X7_reckonMinute_40 Q X2 v0 v1 v2 v3 a3 ((v3 * (401 : Int32)) + v2) (4611686018427387904 : Int64) S)) ∧ ((v3 = x4) → (P_X7_reckonMinute_40 Q X2 v0 v1 v2 v3 a3 ((v3 * (401 : Int32)) + v2) v2.toInt64 S)))))))))
def P_X7_reckonMinute_2 (Q : HS → Prop) (v0 : Nat) (v1 : Int32) (v2 : Int32) (v3 : Int32) (S : HS) : Prop := ∀ X2 : Nat → Int32 → Int32 → Int32 → HS → Prop, (∀ (v0 : Nat) (v1 : Int32) (v2 : Int32) (v3 : Int32) (S : HS), B_X7_reckonMinute_2 Q X2 v0 v1 v2 v3 S → X2 v0 v1 v2 v3 S) → X2 v0 v1 v2 v3 S
set_option maxRecDepth 20000 in
set_option maxHeartbeats 4000000 in
theorem TB_X7_reckonMinute_2 {X : CX} {Q : HS → Prop} (C : Cx X cX7_reckonMinute RX7 9 rm_X7_reckonMinute) (E : ReV X rm_X7_reckonMinute Q) (ht : (xh X).sig.returnType = none) (hn : (xh X).name = yX7_reckonMinute.name) {X2 : Nat → Int32 → Int32 → Int32 → HS → Prop} (hX2 : ∀ (v0 : Nat) (v1 : Int32) (v2 : Int32) (v3 : Int32) (S : HS), X2 v0 v1 v2 v3 S → WS X 9 0 0 2 [(0, .ref v0), (1, .int v1), (2, .int v2), (3, .int v3)] [] S) {v0 : Nat} {v1 : Int32} {v2 : Int32} {v3 : Int32} {S : HS} (h : B_X7_reckonMinute_2 Q X2 v0 v1 v2 v3 S) : WS X 9 0 0 2 [(0, .ref v0), (1, .int v1), (2, .int v2), (3, .int v3)] [] S := by
  refine r_iload_n (pc := 2) C dX7_reckonMinute_2 3 rfl ?_
  refine r_iload_n (pc := 3) C dX7_reckonMinute_3 1 rfl ?_
  refine r_icmp_ge (pc := 4) C (tgt := 60) dX7_reckonMinute_4 (by decide) (fun c1 => ?_) (fun c1 => ?_)
  · have h := h.1 c1
    exact r_sub [0, 2] rfl (T_X7_reckonMinute_60 C E ht hn h)
  · have h := h.2 c1
    refine r_iload_n (pc := 7) C dX7_reckonMinute_7 3 rfl ?_
    refine r_bipush (pc := 8) C (v := (8 : Int32)) dX7_reckonMinute_8 (by decide) ?_
    refine r_icmp_ge (pc := 10) C (tgt := 60) dX7_reckonMinute_10 (by decide) (fun c2 => ?_) (fun c2 => ?_)
    · have h := h.1 c2
      exact r_sub [0, 2] rfl (T_X7_reckonMinute_60 C E ht hn h)
    · have h := h.2 c2
      refine r_aload_n (pc := 13) C dX7_reckonMinute_13 0 rfl ?_
      obtain ⟨o_v0, h⟩ := h
      obtain ⟨a3, ea3, h⟩ := h
      refine r_getr (pc := 14) C fL_X7_15 dX7_reckonMinute_14 o_v0 ea3 ?_
      refine r_iload_n (pc := 17) C dX7_reckonMinute_17 3 rfl ?_
      refine r_sipush (pc := 18) C (v := (401 : Int32)) dX7_reckonMinute_18 (by decide) ?_
      refine r_imul (pc := 21) C dX7_reckonMinute_21 ?_
      refine r_iload_n (pc := 22) C dX7_reckonMinute_22 2 rfl ?_
      refine r_iadd (pc := 23) C dX7_reckonMinute_23 ?_
      refine r_iload_n (pc := 24) C dX7_reckonMinute_24 3 rfl ?_
      refine r_aload_n (pc := 25) C dX7_reckonMinute_25 0 rfl ?_
      refine r_geti (pc := 26) C fL_X7_44 dX7_reckonMinute_26 o_v0 ?_
      refine r_topi (fun x4 ex4 => ?_)
      have h := h x4 ex4
      refine r_icmp_ne (pc := 29) C (tgt := 37) dX7_reckonMinute_29 (by decide) (fun c5 => ?_) (fun c5 => ?_)
      · have h := h.1 c5
        refine r_ldc2 (pc := 37) C (v := (4611686018427387904 : Int64)) dX7_reckonMinute_37 g_887 ?_
        exact r_sub [0, 1, 2, 3] rfl (T_X7_reckonMinute_40 C E ht hn hX2 h)
      · have h := h.2 c5
        refine r_iload_n (pc := 32) C dX7_reckonMinute_32 2 rfl ?_
        refine r_i2l (pc := 33) C dX7_reckonMinute_33 ?_
        refine r_goto (pc := 34) C (tgt := 40) dX7_reckonMinute_34 (by decide) ?_
        exact r_sub [0, 1, 2, 3] rfl (T_X7_reckonMinute_40 C E ht hn hX2 h)
theorem T_X7_reckonMinute_2 {X : CX} {Q : HS → Prop} (C : Cx X cX7_reckonMinute RX7 9 rm_X7_reckonMinute) (E : ReV X rm_X7_reckonMinute Q) (ht : (xh X).sig.returnType = none) (hn : (xh X).name = yX7_reckonMinute.name) {v0 : Nat} {v1 : Int32} {v2 : Int32} {v3 : Int32} {S : HS} (h : P_X7_reckonMinute_2 Q v0 v1 v2 v3 S) : WS X 9 0 0 2 [(0, .ref v0), (1, .int v1), (2, .int v2), (3, .int v3)] [] S :=
  h (fun v0 v1 v2 v3 S => WS X 9 0 0 2 [(0, .ref v0), (1, .int v1), (2, .int v2), (3, .int v3)] [] S) (fun v0 v1 v2 v3 S hh => TB_X7_reckonMinute_2 C E ht hn (fun v0 v1 v2 v3 S z => z) hh)
def P_X7_reckonMinute_0 (Q : HS → Prop) (v0 : Nat) (v1 : Int32) (v2 : Int32) (S : HS) : Prop := P_X7_reckonMinute_2 Q v0 v1 v2 (0 : Int32) S
set_option maxRecDepth 20000 in
set_option maxHeartbeats 4000000 in
theorem T_X7_reckonMinute_0 {X : CX} {Q : HS → Prop} (C : Cx X cX7_reckonMinute RX7 9 rm_X7_reckonMinute) (E : ReV X rm_X7_reckonMinute Q) (ht : (xh X).sig.returnType = none) (hn : (xh X).name = yX7_reckonMinute.name) {v0 : Nat} {v1 : Int32} {v2 : Int32} {S : HS} (h : P_X7_reckonMinute_0 Q v0 v1 v2 S) : WS X 9 0 0 0 [(0, .ref v0), (1, .int v1), (2, .int v2)] [] S := by
  refine r_iconst (pc := 0) C (v := (0 : Int32)) dX7_reckonMinute_0 (by decide) ?_
  refine r_istore_n (pc := 1) C dX7_reckonMinute_1 rfl (by decide) (lv' := [(3, .int (0 : Int32)), (0, .ref v0), (1, .int v1), (2, .int v2)]) rfl ?_
  exact r_sub [1, 2, 3, 0] rfl (T_X7_reckonMinute_2 C E ht hn h)
def P_X7_reckonMinute (v0 : Nat) (v1 : Int32) (v2 : Int32) (Q : HS → Prop) (S : HS) : Prop := P_X7_reckonMinute_0 Q v0 v1 v2 S
theorem c_X7_reckonMinute {l : Launch} {Ee : EE} {S : HS} {v0 : Nat} {v1 : Int32} {v2 : Int32} {Q : HS → Prop} (h : P_X7_reckonMinute v0 v1 v2 Q S) : MV l yX7_reckonMinute cX7_reckonMinute 9 none rm_X7_reckonMinute Ee S [.ref v0, .int v1, .int v2] Q :=
  openV (by decide) (Nat.le_of_ble_eq_true rfl) (fun X C E ht hn hE hl => by subst hE; exact r_sub [0, 1, 2] rfl (T_X7_reckonMinute_0 C E ht hn h))
