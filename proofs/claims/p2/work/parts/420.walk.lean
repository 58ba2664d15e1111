def rm_X5_endOf : Room := { frames := 0, cells := 0, slots := 0, locals := 0 }
def P_X5_endOf_0 (Q : Int32 → HS → Prop) (v0 : Nat) (v1 : Int32) (S : HS) : Prop := ((¬ v1 = 0) → (ob S v0 5 ∧ (∀ x2 : Int32, x2 = fI S v0 0 → (Q x2 S)))) ∧ ((v1 = 0) → (ob S v0 5 ∧ (∀ x3 : Int32, x3 = fI S v0 1 → (Q x3 S))))
set_option maxRecDepth 20000 in
set_option maxHeartbeats 4000000 in
theorem T_X5_endOf_0 {X : CX} {Q : Int32 → HS → Prop} (C : Cx X cX5_endOf RX5 2 rm_X5_endOf) (E : ReI X rm_X5_endOf Q) (ht : (xh X).sig.returnType = (some .int)) (hn : (xh X).name = yX5_endOf.name) {v0 : Nat} {v1 : Int32} {S : HS} (h : P_X5_endOf_0 Q v0 v1 S) : WS X 2 0 0 0 [(0, .ref v0), (1, .int v1)] [] S := by
  refine r_iload_n (pc := 0) C dX5_endOf_0 1 rfl ?_
  refine r_if_ne (pc := 1) C (tgt := 11) dX5_endOf_1 (by decide) (fun c1 => ?_) (fun c1 => ?_)
  · have h := h.1 c1
    refine r_aload_n (pc := 11) C dX5_endOf_11 0 rfl ?_
    obtain ⟨o_v0, h⟩ := h
    refine r_geti (pc := 12) C fL_X5_7 dX5_endOf_12 o_v0 ?_
    refine r_topi (fun x2 ex2 => ?_)
    have h := h x2 ex2
    exact r_iret (pc := 15) C E ht dX5_endOf_15 (by decide) (by decide) h
  · have h := h.2 c1
    refine r_aload_n (pc := 4) C dX5_endOf_4 0 rfl ?_
    obtain ⟨o_v0, h⟩ := h
    refine r_geti (pc := 5) C fL_X5_13 dX5_endOf_5 o_v0 ?_
    refine r_topi (fun x3 ex3 => ?_)
    have h := h x3 ex3
    refine r_goto (pc := 8) C (tgt := 15) dX5_endOf_8 (by decide) ?_
    exact r_iret (pc := 15) C E ht dX5_endOf_15 (by decide) (by decide) h
def P_X5_endOf (v0 : Nat) (v1 : Int32) (Q : Int32 → HS → Prop) (S : HS) : Prop := P_X5_endOf_0 Q v0 v1 S
theorem c_X5_endOf {l : Launch} {Ee : EE} {S : HS} {v0 : Nat} {v1 : Int32} {Q : Int32 → HS → Prop} (h : P_X5_endOf v0 v1 Q S) : MI l yX5_endOf cX5_endOf 2 (some .int) rm_X5_endOf Ee S [.ref v0, .int v1] Q :=
  openI (by decide) (by decide) (fun X C E ht hn hE hl => by subst hE; exact r_sub [0, 1] rfl (T_X5_endOf_0 C E ht hn h))
def rm_X5_minutesAt : Room := { frames := 0, cells := 0, slots := 0, locals := 0 }
def P_X5_minutesAt_0 (Q : Int32 → HS → Prop) (v0 : Nat) (v1 : Int32) (S : HS) : Prop := ((v1 ≤ 0) → (Q (0 : Int32) S)) ∧ ((¬ v1 ≤ 0) → (ob S v0 5 ∧ (∀ x2 : Int32, x2 = fI S v0 3 → (¬ v1 = 0 ∧ ∀ x4 : Int32, x4 = ((x2 + v1) - (1 : Int32)) / v1 → (Q x4 S)))))
set_option maxRecDepth 20000 in
set_option maxHeartbeats 4000000 in
theorem T_X5_minutesAt_0 {X : CX} {Q : Int32 → HS → Prop} (C : Cx X cX5_minutesAt RX5 2 rm_X5_minutesAt) (E : ReI X rm_X5_minutesAt Q) (ht : (xh X).sig.returnType = (some .int)) (hn : (xh X).name = yX5_minutesAt.name) {v0 : Nat} {v1 : Int32} {S : HS} (h : P_X5_minutesAt_0 Q v0 v1 S) : WS X 2 0 0 0 [(0, .ref v0), (1, .int v1)] [] S := by
  refine r_iload_n (pc := 0) C dX5_minutesAt_0 1 rfl ?_
  refine r_if_le (pc := 1) C (tgt := 17) dX5_minutesAt_1 (by decide) (fun c1 => ?_) (fun c1 => ?_)
  · have h := h.1 c1
    refine r_iconst (pc := 17) C (v := (0 : Int32)) dX5_minutesAt_17 (by decide) ?_
    exact r_iret (pc := 18) C E ht dX5_minutesAt_18 (by decide) (by decide) h
  · have h := h.2 c1
    refine r_aload_n (pc := 4) C dX5_minutesAt_4 0 rfl ?_
    obtain ⟨o_v0, h⟩ := h
    refine r_geti (pc := 5) C fL_X5_16 dX5_minutesAt_5 o_v0 ?_
    refine r_topi (fun x2 ex2 => ?_)
    have h := h x2 ex2
    refine r_iload_n (pc := 8) C dX5_minutesAt_8 1 rfl ?_
    refine r_iadd (pc := 9) C dX5_minutesAt_9 ?_
    refine r_iconst (pc := 10) C (v := (1 : Int32)) dX5_minutesAt_10 (by decide) ?_
    refine r_isub (pc := 11) C dX5_minutesAt_11 ?_
    refine r_iload_n (pc := 12) C dX5_minutesAt_12 1 rfl ?_
    obtain ⟨q3, h⟩ := h
    refine r_idiv (pc := 13) C dX5_minutesAt_13 q3 ?_
    refine r_topi (fun x4 ex4 => ?_)
    have h := h x4 ex4
    refine r_goto (pc := 14) C (tgt := 18) dX5_minutesAt_14 (by decide) ?_
    exact r_iret (pc := 18) C E ht dX5_minutesAt_18 (by decide) (by decide) h
def P_X5_minutesAt (v0 : Nat) (v1 : Int32) (Q : Int32 → HS → Prop) (S : HS) : Prop := P_X5_minutesAt_0 Q v0 v1 S
theorem c_X5_minutesAt {l : Launch} {Ee : EE} {S : HS} {v0 : Nat} {v1 : Int32} {Q : Int32 → HS → Prop} (h : P_X5_minutesAt v0 v1 Q S) : MI l yX5_minutesAt cX5_minutesAt 2 (some .int) rm_X5_minutesAt Ee S [.ref v0, .int v1] Q :=
  openI (by decide) (by decide) (fun X C E ht hn hE hl => by subst hE; exact r_sub [0, 1] rfl (T_X5_minutesAt_0 C E ht hn h))
def rm_X5_startOf : Room := { frames := 0, cells := 0, slots := 0, locals := 0 }
def P_X5_startOf_0 (Q : Int32 → HS → Prop) (v0 : Nat) (v1 : Int32) (S : HS) : Prop := ((¬ v1 = 0) → (ob S v0 5 ∧ (∀ x2 : Int32, x2 = fI S v0 1 → (Q x2 S)))) ∧ ((v1 = 0) → (ob S v0 5 ∧ (∀ x3 : Int32, x3 = fI S v0 0 → (Q x3 S))))
set_option maxRecDepth 20000 in
set_option maxHeartbeats 4000000 in
theorem T_X5_startOf_0 {X : CX} {Q : Int32 → HS → Prop} (C : Cx X cX5_startOf RX5 2 rm_X5_startOf) (E : ReI X rm_X5_startOf Q) (ht : (xh X).sig.returnType = (some .int)) (hn : (xh X).name = yX5_startOf.name) {v0 : Nat} {v1 : Int32} {S : HS} (h : P_X5_startOf_0 Q v0 v1 S) : WS X 2 0 0 0 [(0, .ref v0), (1, .int v1)] [] S := by
  refine r_iload_n (pc := 0) C dX5_startOf_0 1 rfl ?_
  refine r_if_ne (pc := 1) C (tgt := 11) dX5_startOf_1 (by decide) (fun c1 => ?_) (fun c1 => ?_)
  · have h := h.1 c1
    refine r_aload_n (pc := 11) C dX5_startOf_11 0 rfl ?_
    obtain ⟨o_v0, h⟩ := h
    refine r_geti (pc := 12) C fL_X5_13 dX5_startOf_12 o_v0 ?_
    refine r_topi (fun x2 ex2 => ?_)
    have h := h x2 ex2
    exact r_iret (pc := 15) C E ht dX5_startOf_15 (by decide) (by decide) h
  · have h := h.2 c1
    refine r_aload_n (pc := 4) C dX5_startOf_4 0 rfl ?_
    obtain ⟨o_v0, h⟩ := h
    refine r_geti (pc := 5) C fL_X5_7 dX5_startOf_5 o_v0 ?_
    refine r_topi (fun x3 ex3 => ?_)
    have h := h x3 ex3
    refine r_goto (pc := 8) C (tgt := 15) dX5_startOf_8 (by decide) ?_
    exact r_iret (pc := 15) C E ht dX5_startOf_15 (by decide) (by decide) h
def P_X5_startOf (v0 : Nat) (v1 : Int32) (Q : Int32 → HS → Prop) (S : HS) : Prop := P_X5_startOf_0 Q v0 v1 S
theorem c_X5_startOf {l : Launch} {Ee : EE} {S : HS} {v0 : Nat} {v1 : Int32} {Q : Int32 → HS → Prop} (h : P_X5_startOf v0 v1 Q S) : MI l yX5_startOf cX5_startOf 2 (some .int) rm_X5_startOf Ee S [.ref v0, .int v1] Q :=
  openI (by decide) (by decide) (fun X C E ht hn hE hl => by subst hE; exact r_sub [0, 1] rfl (T_X5_startOf_0 C E ht hn h))
def rm_X5_tell : Room := { frames := 0, cells := 0, slots := 0, locals := 0 }
def P_X5_tell_0 (Q : Int32 → HS → Prop) (v0 : Nat) (v1 : Int32) (S : HS) : Prop := (v1.toInt < 0 ∨ 3 < v1.toInt → (ob S v0 5 ∧ (∀ x2 : Int32, x2 = fI S v0 4 → (Q x2 S)))) ∧ (v1.toInt = 0 → (ob S v0 5 ∧ (∀ x3 : Int32, x3 = fI S v0 0 → (Q x3 S)))) ∧ (v1.toInt = 1 → (ob S v0 5 ∧ (∀ x4 : Int32, x4 = fI S v0 1 → (Q x4 S)))) ∧ (v1.toInt = 2 → (ob S v0 5 ∧ (∀ x5 : Int32, x5 = fI S v0 2 → (Q x5 S)))) ∧ (v1.toInt = 3 → (ob S v0 5 ∧ (∀ x6 : Int32, x6 = fI S v0 3 → (Q x6 S))))
set_option maxRecDepth 20000 in
set_option maxHeartbeats 4000000 in
theorem T_X5_tell_0 {X : CX} {Q : Int32 → HS → Prop} (C : Cx X cX5_tell RX5 2 rm_X5_tell) (E : ReI X rm_X5_tell Q) (ht : (xh X).sig.returnType = (some .int)) (hn : (xh X).name = yX5_tell.name) {v0 : Nat} {v1 : Int32} {S : HS} (h : P_X5_tell_0 Q v0 v1 S) : WS X 2 0 0 0 [(0, .ref v0), (1, .int v1)] [] S := by
  refine r_iload_n (pc := 0) C dX5_tell_0 1 rfl ?_
  refine r_table (pc := 1) C (tgt := 52) dX5_tell_1 (by decide) (fun c1 => ?_) (fun j hj hx => ?_)
  · have h := h.1 c1
    refine r_aload_n (pc := 52) C dX5_tell_52 0 rfl ?_
    obtain ⟨o_v0, h⟩ := h
    refine r_geti (pc := 53) C fL_X5_34 dX5_tell_53 o_v0 ?_
    refine r_topi (fun x2 ex2 => ?_)
    have h := h x2 ex2
    exact r_iret (pc := 56) C E ht dX5_tell_56 (by decide) (by decide) h
  · match j, hj, hx with
    | 0, _, hx =>
      refine ⟨31, 32, rfl, by decide, ?_⟩
      have h := h.2.1 (by simpa using hx)
      refine r_aload_n (pc := 32) C dX5_tell_32 0 rfl ?_
      obtain ⟨o_v0, h⟩ := h
      refine r_geti (pc := 33) C fL_X5_7 dX5_tell_33 o_v0 ?_
      refine r_topi (fun x3 ex3 => ?_)
      have h := h x3 ex3
      exact r_iret (pc := 36) C E ht dX5_tell_36 (by decide) (by decide) h
    | 1, _, hx =>
      refine ⟨36, 37, rfl, by decide, ?_⟩
      have h := h.2.2.1 (by simpa using hx)
      refine r_aload_n (pc := 37) C dX5_tell_37 0 rfl ?_
      obtain ⟨o_v0, h⟩ := h
      refine r_geti (pc := 38) C fL_X5_13 dX5_tell_38 o_v0 ?_
      refine r_topi (fun x4 ex4 => ?_)
      have h := h x4 ex4
      exact r_iret (pc := 41) C E ht dX5_tell_41 (by decide) (by decide) h
    | 2, _, hx =>
      refine ⟨41, 42, rfl, by decide, ?_⟩
      have h := h.2.2.2.1 (by simpa using hx)
      refine r_aload_n (pc := 42) C dX5_tell_42 0 rfl ?_
      obtain ⟨o_v0, h⟩ := h
      refine r_geti (pc := 43) C fL_X5_19 dX5_tell_43 o_v0 ?_
      refine r_topi (fun x5 ex5 => ?_)
      have h := h x5 ex5
      exact r_iret (pc := 46) C E ht dX5_tell_46 (by decide) (by decide) h
    | 3, _, hx =>
      refine ⟨46, 47, rfl, by decide, ?_⟩
      have h := h.2.2.2.2 (by simpa using hx)
      refine r_aload_n (pc := 47) C dX5_tell_47 0 rfl ?_
      obtain ⟨o_v0, h⟩ := h
      refine r_geti (pc := 48) C fL_X5_16 dX5_tell_48 o_v0 ?_
      refine r_topi (fun x6 ex6 => ?_)
      have h := h x6 ex6
      exact r_iret (pc := 51) C E ht dX5_tell_51 (by decide) (by decide) h
    | j + 4, hj, _ => exact absurd hj (by omega)
def P_X5_tell (v0 : Nat) (v1 : Int32) (Q : Int32 → HS → Prop) (S : HS) : Prop := P_X5_tell_0 Q v0 v1 S
theorem c_X5_tell {l : Launch} {Ee : EE} {S : HS} {v0 : Nat} {v1 : Int32} {Q : Int32 → HS → Prop} (h : P_X5_tell v0 v1 Q S) : MI l yX5_tell cX5_tell 2 (some .int) rm_X5_tell Ee S [.ref v0, .int v1] Q :=
  openI (by decide) (by decide) (fun X C E ht hn hE hl => by subst hE; exact r_sub [0, 1] rfl (T_X5_tell_0 C E ht hn h))
def rm_X5_touches : Room := { frames := 0, cells := 0, slots := 0, locals := 0 }
def P_X5_touches_0 (Q : Int32 → HS → Prop) (v0 : Nat) (v1 : Int32) (S : HS) : Prop := ob S v0 5 ∧ (∀ x1 : Int32, x1 = fI S v0 0 → (((x1 = v1) → (Q (1 : Int32) S)) ∧ ((¬ x1 = v1) → (∀ x3 : Int32, x3 = fI S v0 1 → (((¬ x3 = v1) → (Q (0 : Int32) S)) ∧ ((x3 = v1) → (Q (1 : Int32) S)))))))
set_option maxRecDepth 20000 in
set_option maxHeartbeats 4000000 in
theorem T_X5_touches_0 {X : CX} {Q : Int32 → HS → Prop} (C : Cx X cX5_touches RX5 2 rm_X5_touches) (E : ReI X rm_X5_touches (fun r S => bl r ∧ Q r S)) (ht : (xh X).sig.returnType = (some .boolean)) (hn : (xh X).name = yX5_touches.name) {v0 : Nat} {v1 : Int32} {S : HS} (h : P_X5_touches_0 Q v0 v1 S) : WS X 2 0 0 0 [(0, .ref v0), (1, .int v1)] [] S := by
  refine r_aload_n (pc := 0) C dX5_touches_0 0 rfl ?_
  obtain ⟨o_v0, h⟩ := h
  refine r_geti (pc := 1) C fL_X5_7 dX5_touches_1 o_v0 ?_
  refine r_topi (fun x1 ex1 => ?_)
  have h := h x1 ex1
  refine r_iload_n (pc := 4) C dX5_touches_4 1 rfl ?_
  refine r_icmp_eq (pc := 5) C (tgt := 16) dX5_touches_5 (by decide) (fun c2 => ?_) (fun c2 => ?_)
  · have h := h.1 c2
    refine r_iconst (pc := 16) C (v := (1 : Int32)) dX5_touches_16 (by decide) ?_
    refine r_goto (pc := 17) C (tgt := 21) dX5_touches_17 (by decide) ?_
    exact r_zret (pc := 21) C E ht dX5_touches_21 (by decide) (by decide) (Or.inr rfl) h
  · have h := h.2 c2
    refine r_aload_n (pc := 8) C dX5_touches_8 0 rfl ?_
    refine r_geti (pc := 9) C fL_X5_13 dX5_touches_9 o_v0 ?_
    refine r_topi (fun x3 ex3 => ?_)
    have h := h x3 ex3
    refine r_iload_n (pc := 12) C dX5_touches_12 1 rfl ?_
    refine r_icmp_ne (pc := 13) C (tgt := 20) dX5_touches_13 (by decide) (fun c4 => ?_) (fun c4 => ?_)
    · have h := h.1 c4
      refine r_iconst (pc := 20) C (v := (0 : Int32)) dX5_touches_20 (by decide) ?_
      exact r_zret (pc := 21) C E ht dX5_touches_21 (by decide) (by decide) (Or.inl rfl) h
    · have h := h.2 c4
      refine r_iconst (pc := 16) C (v := (1 : Int32)) dX5_touches_16 (by decide) ?_
      refine r_goto (pc := 17) C (tgt := 21) dX5_touches_17 (by decide) ?_
      exact r_zret (pc := 21) C E ht dX5_touches_21 (by decide) (by decide) (Or.inr rfl) h
def P_X5_touches (v0 : Nat) (v1 : Int32) (Q : Int32 → HS → Prop) (S : HS) : Prop := P_X5_touches_0 Q v0 v1 S
theorem c_X5_touches {l : Launch} {Ee : EE} {S : HS} {v0 : Nat} {v1 : Int32} {Q : Int32 → HS → Prop} (h : P_X5_touches v0 v1 Q S) : MI l yX5_touches cX5_touches 2 (some .boolean) rm_X5_touches Ee S [.ref v0, .int v1] (fun r S => bl r ∧ Q r S) :=
  openI (by decide) (by decide) (fun X C E ht hn hE hl => by subst hE; exact r_sub [0, 1] rfl (T_X5_touches_0 C E ht hn h))
def rm_X6_tell : Room := { frames := 0, cells := 0, slots := 0, locals := 0 }
def P_X6_tell_0 (Q : Int32 → HS → Prop) (v0 : Nat) (v1 : Int32) (S : HS) : Prop := (v1.toInt < 0 ∨ 5 < v1.toInt → (ob S v0 6 ∧ (∀ x2 : Int32, x2 = fI S v0 6 → (Q x2 S)))) ∧ (v1.toInt = 0 → (ob S v0 6 ∧ (∀ x3 : Int32, x3 = fI S v0 0 → (Q x3 S)))) ∧ (v1.toInt = 1 → (ob S v0 6 ∧ (∀ x4 : Int32, x4 = fI S v0 1 → (Q x4 S)))) ∧ (v1.toInt = 2 → (ob S v0 6 ∧ (∀ x5 : Int32, x5 = fI S v0 2 → (Q x5 S)))) ∧ (v1.toInt = 3 → (ob S v0 6 ∧ (∀ x6 : Int32, x6 = fI S v0 3 → (Q x6 S)))) ∧ (v1.toInt = 4 → (ob S v0 6 ∧ (∀ x7 : Int32, x7 = fI S v0 4 → (Q x7 S)))) ∧ (v1.toInt = 5 → (ob S v0 6 ∧ (∀ x8 : Int32, x8 = fI S v0 5 → (Q x8 S))))
set_option maxRecDepth 20000 in
set_option maxHeartbeats 4000000 in
theorem T_X6_tell_0 {X : CX} {Q : Int32 → HS → Prop} (C : Cx X cX6_tell RX6 2 rm_X6_tell) (E : ReI X rm_X6_tell Q) (ht : (xh X).sig.returnType = (some .int)) (hn : (xh X).name = yX6_tell.name) {v0 : Nat} {v1 : Int32} {S : HS} (h : P_X6_tell_0 Q v0 v1 S) : WS X 2 0 0 0 [(0, .ref v0), (1, .int v1)] [] S := by
  refine r_iload_n (pc := 0) C dX6_tell_0 1 rfl ?_
  refine r_table (pc := 1) C (tgt := 70) dX6_tell_1 (by decide) (fun c1 => ?_) (fun j hj hx => ?_)
  · have h := h.1 c1
    refine r_aload_n (pc := 70) C dX6_tell_70 0 rfl ?_
    obtain ⟨o_v0, h⟩ := h
    refine r_geti (pc := 71) C fL_X6_30 dX6_tell_71 o_v0 ?_
    refine r_topi (fun x2 ex2 => ?_)
    have h := h x2 ex2
    exact r_iret (pc := 74) C E ht dX6_tell_74 (by decide) (by decide) h
  · match j, hj, hx with
    | 0, _, hx =>
      refine ⟨39, 40, rfl, by decide, ?_⟩
      have h := h.2.1 (by simpa using hx)
      refine r_aload_n (pc := 40) C dX6_tell_40 0 rfl ?_
      obtain ⟨o_v0, h⟩ := h
      refine r_geti (pc := 41) C fL_X6_9 dX6_tell_41 o_v0 ?_
      refine r_topi (fun x3 ex3 => ?_)
      have h := h x3 ex3
      exact r_iret (pc := 44) C E ht dX6_tell_44 (by decide) (by decide) h
    | 1, _, hx =>
      refine ⟨44, 45, rfl, by decide, ?_⟩
      have h := h.2.2.1 (by simpa using hx)
      refine r_aload_n (pc := 45) C dX6_tell_45 0 rfl ?_
      obtain ⟨o_v0, h⟩ := h
      refine r_geti (pc := 46) C fL_X6_15 dX6_tell_46 o_v0 ?_
      refine r_topi (fun x4 ex4 => ?_)
      have h := h x4 ex4
      exact r_iret (pc := 49) C E ht dX6_tell_49 (by decide) (by decide) h
    | 2, _, hx =>
      refine ⟨49, 50, rfl, by decide, ?_⟩
      have h := h.2.2.2.1 (by simpa using hx)
      refine r_aload_n (pc := 50) C dX6_tell_50 0 rfl ?_
      obtain ⟨o_v0, h⟩ := h
      refine r_geti (pc := 51) C fL_X6_18 dX6_tell_51 o_v0 ?_
      refine r_topi (fun x5 ex5 => ?_)
      have h := h x5 ex5
      exact r_iret (pc := 54) C E ht dX6_tell_54 (by decide) (by decide) h
    | 3, _, hx =>
      refine ⟨54, 55, rfl, by decide, ?_⟩
      have h := h.2.2.2.2.1 (by simpa using hx)
      refine r_aload_n (pc := 55) C dX6_tell_55 0 rfl ?_
      obtain ⟨o_v0, h⟩ := h
      refine r_geti (pc := 56) C fL_X6_21 dX6_tell_56 o_v0 ?_
      refine r_topi (fun x6 ex6 => ?_)
      have h := h x6 ex6
      exact r_iret (pc := 59) C E ht dX6_tell_59 (by decide) (by decide) h
    | 4, _, hx =>
      refine ⟨59, 60, rfl, by decide, ?_⟩
      have h := h.2.2.2.2.2.1 (by simpa using hx)
      refine r_aload_n (pc := 60) C dX6_tell_60 0 rfl ?_
      obtain ⟨o_v0, h⟩ := h
      refine r_geti (pc := 61) C fL_X6_24 dX6_tell_61 o_v0 ?_
      refine r_topi (fun x7 ex7 => ?_)
      have h := h x7 ex7
      exact r_iret (pc := 64) C E ht dX6_tell_64 (by decide) (by decide) h
    | 5, _, hx =>
      refine ⟨64, 65, rfl, by decide, ?_⟩
      have h := h.2.2.2.2.2.2 (by simpa using hx)
      refine r_aload_n (pc := 65) C dX6_tell_65 0 rfl ?_
      obtain ⟨o_v0, h⟩ := h
      refine r_geti (pc := 66) C fL_X6_27 dX6_tell_66 o_v0 ?_
      refine r_topi (fun x8 ex8 => ?_)
      have h := h x8 ex8
      exact r_iret (pc := 69) C E ht dX6_tell_69 (by decide) (by decide) h
    | j + 6, hj, _ => exact absurd hj (by omega)
def P_X6_tell (v0 : Nat) (v1 : Int32) (Q : Int32 → HS → Prop) (S : HS) : Prop := P_X6_tell_0 Q v0 v1 S
theorem c_X6_tell {l : Launch} {Ee : EE} {S : HS} {v0 : Nat} {v1 : Int32} {Q : Int32 → HS → Prop} (h : P_X6_tell v0 v1 Q S) : MI l yX6_tell cX6_tell 2 (some .int) rm_X6_tell Ee S [.ref v0, .int v1] Q :=
  openI (by decide) (by decide) (fun X C E ht hn hE hl => by subst hE; exact r_sub [0, 1] rfl (T_X6_tell_0 C E ht hn h))
def rm_X7_addMove : Room := { frames := 0, cells := 0, slots := 0, locals := 0 }
def P_X7_addMove_0 (Q : HS → Prop) (v0 : Nat) (v1 : Int32) (v2 : Int32) (v3 : Int32) (v4 : Int64) (v6 : Int32) (S : HS) : Prop := ob S v0 7 ∧ (∀ x1 : Int32, x1 = fI S v0 11 → (((v1 = x1) → (Q S)) ∧ ((¬ v1 = x1) → (∀ x3 : Int32, x3 = fI S v0 3 → (((x3 < 0) → (Q S)) ∧ ((¬ x3 < 0) → (∀ x5 : Int32, x5 = fI S v0 3 → (((x5 < (224 : Int32)) → (∃ a7 : Nat, fR S v0 4 = some a7 ∧ (∀ x8 : Int32, x8 = fI S v0 3 → (ob S a7 13 ∧ (∀ x10 : Int32, x10 = v1 * (401 : Int32) → (vp_in x8 (hN S a7) ∧ (∃ a11 : Nat, fR (sI S a7 x8.toNatClampNeg x10) v0 5 = some a11 ∧ (∀ x12 : Int32, x12 = fI (sI S a7 x8.toNatClampNeg x10) v0 3 → (ob (sI S a7 x8.toNatClampNeg x10) a11 13 ∧ (∀ x14 : Int32, x14 = (v2 * (401 : Int32)) + v3 → (vp_in x12 (hN (sI S a7 x8.toNatClampNeg x10) a11) ∧ (∃ a15 : Nat, fR (sI (sI S a7 x8.toNatClampNeg x10) a11 x12.toNatClampNeg x14) v0 6 = some a15 ∧ (∀ x16 : Int32, x16 = fI (sI (sI S a7 x8.toNatClampNeg x10) a11 x12.toNatClampNeg x14) v0 3 → (ob (sI (sI S a7 x8.toNatClampNeg x10) a11 x12.toNatClampNeg x14) a15 13 ∧ (vp_in x16 (hN (sI (sI S a7 x8.toNatClampNeg x10) a11 x12.toNatClampNeg x14) a15) ∧ (∃ a18 : Nat, fR (sI (sI (sI S a7 x8.toNatClampNeg x10) a11 x12.toNatClampNeg x14) a15 x16.toNatClampNeg v3) v0 7 = some a18 ∧ (∀ x19 : Int32, x19 = fI (sI (sI (sI S a7 x8.toNatClampNeg x10) a11 x12.toNatClampNeg x14) a15 x16.toNatClampNeg v3) v0 3 → (ob (sI (sI (sI S a7 x8.toNatClampNeg x10) a11 x12.toNatClampNeg x14) a15 x16.toNatClampNeg v3) a18 14 ∧ (∀ x21 : Int64, x21 = v4 * (512 : Int64) → (vp_in x19 (hN (sI (sI (sI S a7 x8.toNatClampNeg x10) a11 x12.toNatClampNeg x14) a15 x16.toNatClampNeg v3) a18) ∧ (∃ a22 : Nat, fR (sJ (sI (sI (sI S a7 x8.toNatClampNeg x10) a11 x12.toNatClampNeg x14) a15 x16.toNatClampNeg v3) a18 x19.toNatClampNeg x21) v0 8 = some a22 ∧ (∀ x23 : Int32, x23 = fI (sJ (sI (sI (sI S a7 x8.toNatClampNeg x10) a11 x12.toNatClampNeg x14) a15 x16.toNatClampNeg v3) a18 x19.toNatClampNeg x21) v0 3 → (ob (sJ (sI (sI (sI S a7 x8.toNatClampNeg x10) a11 x12.toNatClampNeg x14) a15 x16.toNatClampNeg v3) a18 x19.toNatClampNeg x21) a22 13 ∧ (vp_in x23 (hN (sJ (sI (sI (sI S a7 x8.toNatClampNeg x10) a11 x12.toNatClampNeg x14) a15 x16.toNatClampNeg v3) a18 x19.toNatClampNeg x21) a22) ∧ (∀ x25 : Int32, x25 = fI (sI (sJ (sI (sI (sI S a7 x8.toNatClampNeg x10) a11 x12.toNatClampNeg x14) a15 x16.toNatClampNeg v3) a18 x19.toNatClampNeg x21) a22 x23.toNatClampNeg v6) v0 3 → (∀ x26 : Int32, x26 = x25 + (1 : Int32) → (Q (sI (sI (sJ (sI (sI (sI S a7 x8.toNatClampNeg x10) a11 x12.toNatClampNeg x14) a15 x16.toNatClampNeg v3) a18 x19.toNatClampNeg x21) a22 x23.toNatClampNeg v6) v0 3 x26)))))))))))))))))))))))))))) ∧ ((¬ x5 < (224 : Int32)) → (Q S))))))))))
set_option maxRecDepth 20000 in
set_option maxHeartbeats 4000000 in
theorem T_X7_addMove_0 {X : CX} {Q : HS → Prop} (C : Cx X cX7_addMove RX7 7 rm_X7_addMove) (E : ReV X rm_X7_addMove Q) (ht : (xh X).sig.returnType = none) (hn : (xh X).name = yX7_addMove.name) {v0 : Nat} {v1 : Int32} {v2 : Int32} {v3 : Int32} {v4 : Int64} {v6 : Int32} {S : HS} (h : P_X7_addMove_0 Q v0 v1 v2 v3 v4 v6 S) : WS X 7 0 0 0 [(0, .ref v0), (1, .int v1), (2, .int v2), (3, .int v3), (4, .long v4), (6, .int v6)] [] S := by
  refine r_iload_n (pc := 0) C dX7_addMove_0 1 rfl ?_
  refine r_aload_n (pc := 1) C dX7_addMove_1 0 rfl ?_
  obtain ⟨o_v0, h⟩ := h
  refine r_geti (pc := 2) C fL_X7_44 dX7_addMove_2 o_v0 ?_
  refine r_topi (fun x1 ex1 => ?_)
  have h := h x1 ex1
  refine r_icmp_eq (pc := 5) C (tgt := 25) dX7_addMove_5 (by decide) (fun c2 => ?_) (fun c2 => ?_)
  · have h := h.1 c2
    exact r_vret (pc := 25) C E ht dX7_addMove_25 (by decide) (by decide) h
  · have h := h.2 c2
    refine r_aload_n (pc := 8) C dX7_addMove_8 0 rfl ?_
    refine r_geti (pc := 9) C fL_X7_82 dX7_addMove_9 o_v0 ?_
    refine r_topi (fun x3 ex3 => ?_)
    have h := h x3 ex3
    refine r_if_lt (pc := 12) C (tgt := 25) dX7_addMove_12 (by decide) (fun c4 => ?_) (fun c4 => ?_)
    · have h := h.1 c4
      exact r_vret (pc := 25) C E ht dX7_addMove_25 (by decide) (by decide) h
    · have h := h.2 c4
      refine r_aload_n (pc := 15) C dX7_addMove_15 0 rfl ?_
      refine r_geti (pc := 16) C fL_X7_82 dX7_addMove_16 o_v0 ?_
      refine r_topi (fun x5 ex5 => ?_)
      have h := h x5 ex5
      refine r_sipush (pc := 19) C (v := (224 : Int32)) dX7_addMove_19 (by decide) ?_
      refine r_icmp_lt (pc := 22) C (tgt := 26) dX7_addMove_22 (by decide) (fun c6 => ?_) (fun c6 => ?_)
      · have h := h.1 c6
        refine r_aload_n (pc := 26) C dX7_addMove_26 0 rfl ?_
        obtain ⟨a7, ea7, h⟩ := h
        refine r_getr (pc := 27) C fL_X7_22 dX7_addMove_27 o_v0 ea7 ?_
        refine r_aload_n (pc := 30) C dX7_addMove_30 0 rfl ?_
        refine r_geti (pc := 31) C fL_X7_82 dX7_addMove_31 o_v0 ?_
        refine r_topi (fun x8 ex8 => ?_)
        have h := h x8 ex8
        refine r_iload_n (pc := 34) C dX7_addMove_34 1 rfl ?_
        refine r_sipush (pc := 35) C (v := (401 : Int32)) dX7_addMove_35 (by decide) ?_
        refine r_imul (pc := 38) C dX7_addMove_38 ?_
        obtain ⟨o_a7, h⟩ := h
        refine r_topi (fun x10 ex10 => ?_)
        have h := h x10 ex10
        obtain ⟨i9, h⟩ := h
        refine r_iast (pc := 39) C dX7_addMove_39 o_a7 i9 ?_
        refine r_aload_n (pc := 40) C dX7_addMove_40 0 rfl ?_
        obtain ⟨a11, ea11, h⟩ := h
        refine r_getr (pc := 41) C fL_X7_25 dX7_addMove_41 o_v0 ea11 ?_
        refine r_aload_n (pc := 44) C dX7_addMove_44 0 rfl ?_
        refine r_geti (pc := 45) C fL_X7_82 dX7_addMove_45 o_v0 ?_
        refine r_topi (fun x12 ex12 => ?_)
        have h := h x12 ex12
        refine r_iload_n (pc := 48) C dX7_addMove_48 2 rfl ?_
        refine r_sipush (pc := 49) C (v := (401 : Int32)) dX7_addMove_49 (by decide) ?_
        refine r_imul (pc := 52) C dX7_addMove_52 ?_
        refine r_iload_n (pc := 53) C dX7_addMove_53 3 rfl ?_
        refine r_iadd (pc := 54) C dX7_addMove_54 ?_
        obtain ⟨o_a11, h⟩ := h
        refine r_topi (fun x14 ex14 => ?_)
        have h := h x14 ex14
        obtain ⟨i13, h⟩ := h
        refine r_iast (pc := 55) C dX7_addMove_55 o_a11 i13 ?_
        refine r_aload_n (pc := 56) C dX7_addMove_56 0 rfl ?_
        obtain ⟨a15, ea15, h⟩ := h
        refine r_getr (pc := 57) C fL_X7_28 dX7_addMove_57 o_v0 ea15 ?_
        refine r_aload_n (pc := 60) C dX7_addMove_60 0 rfl ?_
        refine r_geti (pc := 61) C fL_X7_82 dX7_addMove_61 o_v0 ?_
        refine r_topi (fun x16 ex16 => ?_)
        have h := h x16 ex16
        refine r_iload_n (pc := 64) C dX7_addMove_64 3 rfl ?_
        obtain ⟨o_a15, h⟩ := h
        obtain ⟨i17, h⟩ := h
        refine r_iast (pc := 65) C dX7_addMove_65 o_a15 i17 ?_
        refine r_aload_n (pc := 66) C dX7_addMove_66 0 rfl ?_
        obtain ⟨a18, ea18, h⟩ := h
        refine r_getr (pc := 67) C fL_X7_31 dX7_addMove_67 o_v0 ea18 ?_
        refine r_aload_n (pc := 70) C dX7_addMove_70 0 rfl ?_
        refine r_geti (pc := 71) C fL_X7_82 dX7_addMove_71 o_v0 ?_
        refine r_topi (fun x19 ex19 => ?_)
        have h := h x19 ex19
        refine r_lload (pc := 74) C dX7_addMove_74 4 rfl ?_
        refine r_ldc2 (pc := 76) C (v := (512 : Int64)) dX7_addMove_76 g_857 ?_
        refine r_lmul (pc := 79) C dX7_addMove_79 ?_
        obtain ⟨o_a18, h⟩ := h
        refine r_topl (fun x21 ex21 => ?_)
        have h := h x21 ex21
        obtain ⟨i20, h⟩ := h
        refine r_last (pc := 80) C dX7_addMove_80 o_a18 i20 ?_
        refine r_aload_n (pc := 81) C dX7_addMove_81 0 rfl ?_
        obtain ⟨a22, ea22, h⟩ := h
        refine r_getr (pc := 82) C fL_X7_34 dX7_addMove_82 o_v0 ea22 ?_
        refine r_aload_n (pc := 85) C dX7_addMove_85 0 rfl ?_
        refine r_geti (pc := 86) C fL_X7_82 dX7_addMove_86 o_v0 ?_
        refine r_topi (fun x23 ex23 => ?_)
        have h := h x23 ex23
        refine r_iload (pc := 89) C dX7_addMove_89 5 rfl ?_
        obtain ⟨o_a22, h⟩ := h
        obtain ⟨i24, h⟩ := h
        refine r_iast (pc := 91) C dX7_addMove_91 o_a22 i24 ?_
        refine r_aload_n (pc := 92) C dX7_addMove_92 0 rfl ?_
        refine r_dup (pc := 93) C dX7_addMove_93 rfl ?_
        refine r_geti (pc := 94) C fL_X7_82 dX7_addMove_94 o_v0 ?_
        refine r_topi (fun x25 ex25 => ?_)
        have h := h x25 ex25
        refine r_iconst (pc := 97) C (v := (1 : Int32)) dX7_addMove_97 (by decide) ?_
        refine r_iadd (pc := 98) C dX7_addMove_98 ?_
        refine r_topi (fun x26 ex26 => ?_)
        have h := h x26 ex26
        refine r_puti (pc := 99) C pfL_X7_82 dX7_addMove_99 o_v0 ?_
        exact r_vret (pc := 102) C E ht dX7_addMove_102 (by decide) (by decide) h
      · have h := h.2 c6
        exact r_vret (pc := 25) C E ht dX7_addMove_25 (by decide) (by decide) h
def P_X7_addMove (v0 : Nat) (v1 : Int32) (v2 : Int32) (v3 : Int32) (v4 : Int64) (v6 : Int32) (Q : HS → Prop) (S : HS) : Prop := P_X7_addMove_0 Q v0 v1 v2 v3 v4 v6 S
theorem c_X7_addMove {l : Launch} {Ee : EE} {S : HS} {v0 : Nat} {v1 : Int32} {v2 : Int32} {v3 : Int32} {v4 : Int64} {v6 : Int32} {Q : HS → Prop} (h : P_X7_addMove v0 v1 v2 v3 v4 v6 Q S) : MV l yX7_addMove cX7_addMove 7 none rm_X7_addMove Ee S [.ref v0, .int v1, .int v2, .int v3, .long v4, .int v6] Q :=
  openV (by decide) (by decide) (fun X C E ht hn hE hl => by subst hE; exact r_sub [0, 1, 2, 3, 4, 5] rfl (T_X7_addMove_0 C E ht hn h))
def rm_X7_addLeg : Room := { frames := 1, cells := 0, slots := 0, locals := 26 }
def P_X7_addLeg_82 (Q : HS → Prop) (v0 : Nat) (v1 : Nat) (v2 : Int32) (v4 : Int64) (v6 : Int32) (v7 : Int32) (S : HS) : Prop := ob S v1 5 ∧ (P_X5_startOf v1 v2 (fun x3 S1 => Gr S S1 → (P_X5_endOf v1 v2 (fun x6 S4 => Gr S1 S4 → (ob S4 v0 7 ∧ (P_X7_addMove v0 x3 x6 v7 v4 v6 (fun S7 => Gr S4 S7 → (Q S7)) S4))) S1)) S)
set_option maxRecDepth 20000 in
set_option maxHeartbeats 4000000 in
theorem T_X7_addLeg_82 {X : CX} {Q : HS → Prop} (C : Cx X cX7_addLeg RX7 9 rm_X7_addLeg) (E : ReV X rm_X7_addLeg Q) (ht : (xh X).sig.returnType = none) (hn : (xh X).name = yX7_addLeg.name) {v0 : Nat} {v1 : Nat} {v2 : Int32} {v4 : Int64} {v6 : Int32} {v7 : Int32} {S : HS} (h : P_X7_addLeg_82 Q v0 v1 v2 v4 v6 v7 S) : WS X 9 0 0 82 [(0, .ref v0), (1, .ref v1), (2, .int v2), (4, .long v4), (6, .int v6), (7, .int v7)] [] S := by
  refine r_aload_n (pc := 82) C dX7_addLeg_82 0 rfl ?_
  refine r_aload_n (pc := 83) C dX7_addLeg_83 1 rfl ?_
  refine r_iload_n (pc := 84) C dX7_addLeg_84 2 rfl ?_
  obtain ⟨o_v1, h⟩ := h
  refine r_callVi0 (pc := 85) C (rest := [.ref v0]) (a := v1) o_v1 [.int v2] yV_X5_startOf g_858 (c_X5_startOf h) dX7_addLeg_85 rfl rfl (by decide) ⟨by decide, by decide⟩ ⟨by decide, by decide⟩ ⟨rfl, rfl⟩ (fun x3 S1 h g2 => ?_)
  have h := h g2
  have o_v1 := gr_ob g2 o_v1
  refine r_aload_n (pc := 88) C dX7_addLeg_88 1 rfl ?_
  refine r_iload_n (pc := 89) C dX7_addLeg_89 2 rfl ?_
  refine r_callVi0 (pc := 90) C (rest := [.int x3, .ref v0]) (a := v1) o_v1 [.int v2] yV_X5_endOf g_862 (c_X5_endOf h) dX7_addLeg_90 rfl rfl (by decide) ⟨by decide, by decide⟩ ⟨by decide, by decide⟩ ⟨rfl, rfl⟩ (fun x6 S4 h g5 => ?_)
  have h := h g5
  have o_v1 := gr_ob g5 o_v1
  refine r_iload (pc := 93) C dX7_addLeg_93 5 rfl ?_
  refine r_lload (pc := 95) C dX7_addLeg_95 3 rfl ?_
  refine r_iload (pc := 97) C dX7_addLeg_97 4 rfl ?_
  obtain ⟨o_v0, h⟩ := h
  refine r_callVv0 (pc := 99) C (rest := []) (a := v0) o_v0 [.int x3, .int x6, .int v7, .long v4, .int v6] yV_X7_addMove g_866 (c_X7_addMove h) dX7_addLeg_99 rfl rfl (by decide) ⟨by decide, by decide⟩ ⟨by decide, by decide⟩ ⟨rfl, rfl⟩ (fun S7 h g8 => ?_)
  have h := h g8
  have o_v0 := gr_ob g8 o_v0
  have o_v1 := gr_ob g8 o_v1
  exact r_vret (pc := 102) C E ht dX7_addLeg_102 (by decide) (by decide) h
def P_X7_addLeg_0 (Q : HS → Prop) (v0 : Nat) (v1 : Nat) (v2 : Int32) (v3 : Int32) (v4 : Int64) (v6 : Int32) (S : HS) : Prop := ob S v1 5 ∧ (P_X5_minutesAt v1 v3 (fun x3 S1 => Gr S S1 → (ob S1 v0 7 ∧ (∀ x4 : Int32, x4 = fI S1 v0 3 → (∀ x5 : Int32, x5 = x4 - (1 : Int32) → (((x5 < 0) → (P_X7_addLeg_82 Q v0 v1 v2 v4 v6 x3 S1)) ∧ ((¬ x5 < 0) → ((((224 : Int32) ≤ x5) → (P_X7_addLeg_82 Q v0 v1 v2 v4 v6 x3 S1)) ∧ ((¬ (224 : Int32) ≤ x5) → (∃ a8 : Nat, fR S1 v0 8 = some a8 ∧ (ob S1 a8 13 ∧ (vp_in x5 (hN S1 a8) ∧ ∀ x10 : Int32, x10 = fI S1 a8 x5.toNatClampNeg → (∀ x11 : Int32, x11 = x10 / (10 : Int32) → (∀ x12 : Int32, x12 = v6 / (10 : Int32) → (((¬ x11 = x12) → (P_X7_addLeg_82 Q v0 v1 v2 v4 v6 x3 S1)) ∧ ((x11 = x12) → (∃ a14 : Nat, fR S1 v0 6 = some a14 ∧ (ob S1 a14 13 ∧ (vp_in x5 (hN S1 a14) ∧ ∀ x16 : Int32, x16 = fI S1 a14 x5.toNatClampNeg → (((¬ x16 = x3) → (P_X7_addLeg_82 Q v0 v1 v2 v4 v6 x3 S1)) ∧ ((x16 = x3) → (∃ a18 : Nat, fR S1 v0 7 = some a18 ∧ (ob S1 a18 14 ∧ (vp_in x5 (hN S1 a18) ∧ ∀ x20 : Int64, x20 = fJ S1 a18 x5.toNatClampNeg → (((0 < (lg_cmp x20 (v4 * (512 : Int64)))) → (P_X7_addLeg_82 Q v0 v1 v2 v4 v6 x3 (sI S1 v0 3 x5))) ∧ ((¬ 0 < (lg_cmp x20 (v4 * (512 : Int64)))) → (Q S1)))))))))))))))))))))))))) S)
set_option maxRecDepth 20000 in
set_option maxHeartbeats 4000000 in
theorem T_X7_addLeg_0 {X : CX} {Q : HS → Prop} (C : Cx X cX7_addLeg RX7 9 rm_X7_addLeg) (E : ReV X rm_X7_addLeg Q) (ht : (xh X).sig.returnType = none) (hn : (xh X).name = yX7_addLeg.name) {v0 : Nat} {v1 : Nat} {v2 : Int32} {v3 : Int32} {v4 : Int64} {v6 : Int32} {S : HS} (h : P_X7_addLeg_0 Q v0 v1 v2 v3 v4 v6 S) : WS X 9 0 0 0 [(0, .ref v0), (1, .ref v1), (2, .int v2), (3, .int v3), (4, .long v4), (6, .int v6)] [] S := by
  refine r_aload_n (pc := 0) C dX7_addLeg_0 1 rfl ?_
  refine r_iload_n (pc := 1) C dX7_addLeg_1 3 rfl ?_
  obtain ⟨o_v1, h⟩ := h
  refine r_callVi0 (pc := 2) C (rest := []) (a := v1) o_v1 [.int v3] yV_X5_minutesAt g_856 (c_X5_minutesAt h) dX7_addLeg_2 rfl rfl (by decide) ⟨by decide, by decide⟩ ⟨by decide, by decide⟩ ⟨rfl, rfl⟩ (fun x3 S1 h g2 => ?_)
  have h := h g2
  have o_v1 := gr_ob g2 o_v1
  refine r_istore (pc := 5) C dX7_addLeg_5 (by decide) (lv' := [(7, .int x3), (0, .ref v0), (1, .ref v1), (2, .int v2), (3, .int v3), (4, .long v4), (6, .int v6)]) rfl ?_
  refine r_aload_n (pc := 7) C dX7_addLeg_7 1 rfl ?_
  obtain ⟨o_v0, h⟩ := h
  refine r_geti (pc := 8) C fL_X7_82 dX7_addLeg_8 o_v0 ?_
  refine r_topi (fun x4 ex4 => ?_)
  have h := h x4 ex4
  refine r_iconst (pc := 11) C (v := (1 : Int32)) dX7_addLeg_11 (by decide) ?_
  refine r_isub (pc := 12) C dX7_addLeg_12 ?_
  refine r_topi (fun x5 ex5 => ?_)
  have h := h x5 ex5
  refine r_istore (pc := 13) C dX7_addLeg_13 (by decide) (lv' := [(8, .int x5), (7, .int x3), (0, .ref v0), (1, .ref v1), (2, .int v2), (3, .int v3), (4, .long v4), (6, .int v6)]) rfl ?_
  refine r_iload (pc := 15) C dX7_addLeg_15 0 rfl ?_
  refine r_if_lt (pc := 17) C (tgt := 82) dX7_addLeg_17 (by decide) (fun c6 => ?_) (fun c6 => ?_)
  · have h := h.1 c6
    exact r_sub [2, 3, 4, 6, 7, 1] rfl (T_X7_addLeg_82 C E ht hn h)
  · have h := h.2 c6
    refine r_iload (pc := 20) C dX7_addLeg_20 0 rfl ?_
    refine r_sipush (pc := 22) C (v := (224 : Int32)) dX7_addLeg_22 (by decide) ?_
    refine r_icmp_ge (pc := 25) C (tgt := 82) dX7_addLeg_25 (by decide) (fun c7 => ?_) (fun c7 => ?_)
    · have h := h.1 c7
      exact r_sub [2, 3, 4, 6, 7, 1] rfl (T_X7_addLeg_82 C E ht hn h)
    · have h := h.2 c7
      refine r_aload_n (pc := 28) C dX7_addLeg_28 2 rfl ?_
      obtain ⟨a8, ea8, h⟩ := h
      refine r_getr (pc := 29) C fL_X7_34 dX7_addLeg_29 o_v0 ea8 ?_
      refine r_iload (pc := 32) C dX7_addLeg_32 0 rfl ?_
      obtain ⟨o_a8, h⟩ := h
      obtain ⟨i9, h⟩ := h
      refine r_iald (pc := 34) C dX7_addLeg_34 o_a8 i9 ?_
      refine r_topi (fun x10 ex10 => ?_)
      have h := h x10 ex10
      refine r_bipush (pc := 35) C (v := (10 : Int32)) dX7_addLeg_35 (by decide) ?_
      refine r_idiv (pc := 37) C dX7_addLeg_37 (by decide) ?_
      refine r_topi (fun x11 ex11 => ?_)
      have h := h x11 ex11
      refine r_iload (pc := 38) C dX7_addLeg_38 7 rfl ?_
      refine r_bipush (pc := 40) C (v := (10 : Int32)) dX7_addLeg_40 (by decide) ?_
      refine r_idiv (pc := 42) C dX7_addLeg_42 (by decide) ?_
      refine r_topi (fun x12 ex12 => ?_)
      have h := h x12 ex12
      refine r_icmp_ne (pc := 43) C (tgt := 82) dX7_addLeg_43 (by decide) (fun c13 => ?_) (fun c13 => ?_)
      · have h := h.1 c13
        exact r_sub [2, 3, 4, 6, 7, 1] rfl (T_X7_addLeg_82 C E ht hn h)
      · have h := h.2 c13
        refine r_aload_n (pc := 46) C dX7_addLeg_46 2 rfl ?_
        obtain ⟨a14, ea14, h⟩ := h
        refine r_getr (pc := 47) C fL_X7_28 dX7_addLeg_47 o_v0 ea14 ?_
        refine r_iload (pc := 50) C dX7_addLeg_50 0 rfl ?_
        obtain ⟨o_a14, h⟩ := h
        obtain ⟨i15, h⟩ := h
        refine r_iald (pc := 52) C dX7_addLeg_52 o_a14 i15 ?_
        refine r_topi (fun x16 ex16 => ?_)
        have h := h x16 ex16
        refine r_iload (pc := 53) C dX7_addLeg_53 1 rfl ?_
        refine r_icmp_ne (pc := 55) C (tgt := 82) dX7_addLeg_55 (by decide) (fun c17 => ?_) (fun c17 => ?_)
        · have h := h.1 c17
          exact r_sub [2, 3, 4, 6, 7, 1] rfl (T_X7_addLeg_82 C E ht hn h)
        · have h := h.2 c17
          refine r_aload_n (pc := 58) C dX7_addLeg_58 2 rfl ?_
          obtain ⟨a18, ea18, h⟩ := h
          refine r_getr (pc := 59) C fL_X7_31 dX7_addLeg_59 o_v0 ea18 ?_
          refine r_iload (pc := 62) C dX7_addLeg_62 0 rfl ?_
          obtain ⟨o_a18, h⟩ := h
          obtain ⟨i19, h⟩ := h
          refine r_lald (pc := 64) C dX7_addLeg_64 o_a18 i19 ?_
          refine r_topl (fun x20 ex20 => ?_)
          have h := h x20 ex20
          refine r_lload (pc := 65) C dX7_addLeg_65 6 rfl ?_
          refine r_ldc2 (pc := 67) C (v := (512 : Int64)) dX7_addLeg_67 g_857 ?_
          refine r_lmul (pc := 70) C dX7_addLeg_70 ?_
          refine r_lcmp (pc := 71) C dX7_addLeg_71 ?_
          refine r_if_gt (pc := 72) C (tgt := 76) dX7_addLeg_72 (by decide) (fun c21 => ?_) (fun c21 => ?_)
          · have h := h.1 c21
            refine r_aload_n (pc := 76) C dX7_addLeg_76 2 rfl ?_
            refine r_iload (pc := 77) C dX7_addLeg_77 0 rfl ?_
            refine r_puti (pc := 79) C pfL_X7_82 dX7_addLeg_79 o_v0 ?_
            exact r_sub [2, 3, 4, 6, 7, 1] rfl (T_X7_addLeg_82 C E ht hn h)
          · have h := h.2 c21
            exact r_vret (pc := 75) C E ht dX7_addLeg_75 (by decide) (by decide) h
def P_X7_addLeg (v0 : Nat) (v1 : Nat) (v2 : Int32) (v3 : Int32) (v4 : Int64) (v6 : Int32) (Q : HS → Prop) (S : HS) : Prop := P_X7_addLeg_0 Q v0 v1 v2 v3 v4 v6 S
theorem c_X7_addLeg {l : Launch} {Ee : EE} {S : HS} {v0 : Nat} {v1 : Nat} {v2 : Int32} {v3 : Int32} {v4 : Int64} {v6 : Int32} {Q : HS → Prop} (h : P_X7_addLeg v0 v1 v2 v3 v4 v6 Q S) : MV l yX7_addLeg cX7_addLeg 9 none rm_X7_addLeg Ee S [.ref v0, .ref v1, .int v2, .int v3, .long v4, .int v6] Q :=
  openV (by decide) (by decide) (fun X C E ht hn hE hl => by subst hE; exact r_sub [0, 1, 2, 3, 4, 5] rfl (T_X7_addLeg_0 C E ht hn h))
def rm_X7_keyOf : Room := { frames := 0, cells := 0, slots := 0, locals := 0 }
def P_X7_keyOf_0 (Q : Int64 → HS → Prop) (v0 : Nat) (v1 : Int32) (v2 : Int32) (S : HS) : Prop := ∀ x1 : Int32, x1 = (v1 * (401 : Int32)) + v2 → (((x1 < 0) → (Q (4611686018427387904 : Int64) S)) ∧ ((¬ x1 < 0) → (ob S v0 7 ∧ (∃ a3 : Nat, fR S v0 1 = some a3 ∧ (ob S a3 14 ∧ ((((nI (hN S a3)) ≤ x1) → (Q (4611686018427387904 : Int64) S)) ∧ ((¬ (nI (hN S a3)) ≤ x1) → (∃ a5 : Nat, fR S v0 1 = some a5 ∧ (ob S a5 14 ∧ (vp_in x1 (hN S a5) ∧ ∀ x7 : Int64, x7 = fJ S a5 x1.toNatClampNeg → (Q x7 S)))))))))))
set_option maxRecDepth 20000 in
set_option maxHeartbeats 4000000 in
theorem T_X7_keyOf_0 {X : CX} {Q : Int64 → HS → Prop} (C : Cx X cX7_keyOf RX7 4 rm_X7_keyOf) (E : ReJ X rm_X7_keyOf Q) (ht : (xh X).sig.returnType = (some .long)) (hn : (xh X).name = yX7_keyOf.name) {v0 : Nat} {v1 : Int32} {v2 : Int32} {S : HS} (h : P_X7_keyOf_0 Q v0 v1 v2 S) : WS X 4 0 0 0 [(0, .ref v0), (1, .int v1), (2, .int v2)] [] S := by
  refine r_iload_n (pc := 0) C dX7_keyOf_0 1 rfl ?_
  refine r_sipush (pc := 1) C (v := (401 : Int32)) dX7_keyOf_1 (by decide) ?_
  refine r_imul (pc := 4) C dX7_keyOf_4 ?_
  refine r_iload_n (pc := 5) C dX7_keyOf_5 2 rfl ?_
  refine r_iadd (pc := 6) C dX7_keyOf_6 ?_
  refine r_topi (fun x1 ex1 => ?_)
  have h := h x1 ex1
  refine r_istore_n (pc := 7) C dX7_keyOf_7 rfl (by decide) (lv' := [(3, .int x1), (0, .ref v0), (1, .int v1), (2, .int v2)]) rfl ?_
  refine r_iload_n (pc := 8) C dX7_keyOf_8 0 rfl ?_
  refine r_if_lt (pc := 9) C (tgt := 30) dX7_keyOf_9 (by decide) (fun c2 => ?_) (fun c2 => ?_)
  · have h := h.1 c2
    refine r_ldc2 (pc := 30) C (v := (4611686018427387904 : Int64)) dX7_keyOf_30 g_887 ?_
    exact r_lret (pc := 33) C E ht dX7_keyOf_33 (by decide) (by decide) h
  · have h := h.2 c2
    refine r_iload_n (pc := 12) C dX7_keyOf_12 0 rfl ?_
    refine r_aload_n (pc := 13) C dX7_keyOf_13 1 rfl ?_
    obtain ⟨o_v0, h⟩ := h
    obtain ⟨a3, ea3, h⟩ := h
    refine r_getr (pc := 14) C fL_X7_15 dX7_keyOf_14 o_v0 ea3 ?_
    obtain ⟨o_a3, h⟩ := h
    refine r_alen14 (pc := 17) C dX7_keyOf_17 o_a3 ?_
    refine r_icmp_ge (pc := 18) C (tgt := 30) dX7_keyOf_18 (by decide) (fun c4 => ?_) (fun c4 => ?_)
    · have h := h.1 c4
      refine r_ldc2 (pc := 30) C (v := (4611686018427387904 : Int64)) dX7_keyOf_30 g_887 ?_
      exact r_lret (pc := 33) C E ht dX7_keyOf_33 (by decide) (by decide) h
    · have h := h.2 c4
      refine r_aload_n (pc := 21) C dX7_keyOf_21 1 rfl ?_
      obtain ⟨a5, ea5, h⟩ := h
      refine r_getr (pc := 22) C fL_X7_15 dX7_keyOf_22 o_v0 ea5 ?_
      refine r_iload_n (pc := 25) C dX7_keyOf_25 0 rfl ?_
      obtain ⟨o_a5, h⟩ := h
      obtain ⟨i6, h⟩ := h
      refine r_lald (pc := 26) C dX7_keyOf_26 o_a5 i6 ?_
      refine r_topl (fun x7 ex7 => ?_)
      have h := h x7 ex7
      refine r_goto (pc := 27) C (tgt := 33) dX7_keyOf_27 (by decide) ?_
      exact r_lret (pc := 33) C E ht dX7_keyOf_33 (by decide) (by decide) h
def P_X7_keyOf (v0 : Nat) (v1 : Int32) (v2 : Int32) (Q : Int64 → HS → Prop) (S : HS) : Prop := P_X7_keyOf_0 Q v0 v1 v2 S
theorem c_X7_keyOf {l : Launch} {Ee : EE} {S : HS} {v0 : Nat} {v1 : Int32} {v2 : Int32} {Q : Int64 → HS → Prop} (h : P_X7_keyOf v0 v1 v2 Q S) : MJ l yX7_keyOf cX7_keyOf 4 (some .long) rm_X7_keyOf Ee S [.ref v0, .int v1, .int v2] Q :=
  openJ (by decide) (by decide) (fun X C E ht hn hE hl => by subst hE; exact r_sub [0, 1, 2] rfl (T_X7_keyOf_0 C E ht hn h))
def rm_X7_endFrom : Room := { frames := 1, cells := 0, slots := 0, locals := 23 }
def P_X7_endFrom_0 (Q : Int32 → HS → Prop) (v0 : Nat) (v1 : Int32) (v2 : Int32) (S : HS) : Prop := ob S v0 7 ∧ (P_X7_keyOf v0 v1 v2 (fun x3 S1 => Gr S S1 → (∀ x4 : Int64, x4 = x3 - x3 / (512 : Int64) * (512 : Int64) → (Q x4.toInt32 S1))) S)
set_option maxRecDepth 20000 in
set_option maxHeartbeats 4000000 in
theorem T_X7_endFrom_0 {X : CX} {Q : Int32 → HS → Prop} (C : Cx X cX7_endFrom RX7 3 rm_X7_endFrom) (E : ReI X rm_X7_endFrom Q) (ht : (xh X).sig.returnType = (some .int)) (hn : (xh X).name = yX7_endFrom.name) {v0 : Nat} {v1 : Int32} {v2 : Int32} {S : HS} (h : P_X7_endFrom_0 Q v0 v1 v2 S) : WS X 3 0 0 0 [(0, .ref v0), (1, .int v1), (2, .int v2)] [] S := by
  refine r_aload_n (pc := 0) C dX7_endFrom_0 0 rfl ?_
  refine r_iload_n (pc := 1) C dX7_endFrom_1 1 rfl ?_
  refine r_iload_n (pc := 2) C dX7_endFrom_2 2 rfl ?_
  obtain ⟨o_v0, h⟩ := h
  refine r_callVl0 (pc := 3) C (rest := []) (a := v0) o_v0 [.int v1, .int v2] yV_X7_keyOf g_892 (c_X7_keyOf h) dX7_endFrom_3 rfl rfl (by decide) ⟨by decide, by decide⟩ ⟨by decide, by decide⟩ ⟨rfl, rfl⟩ (fun x3 S1 h g2 => ?_)
  have h := h g2
  have o_v0 := gr_ob g2 o_v0
  refine r_ldc2 (pc := 6) C (v := (512 : Int64)) dX7_endFrom_6 g_857 ?_
  refine r_lrem (pc := 9) C dX7_endFrom_9 (by decide) ?_
  refine r_topl (fun x4 ex4 => ?_)
  have h := h x4 ex4
  refine r_l2i (pc := 10) C dX7_endFrom_10 ?_
  exact r_iret (pc := 11) C E ht dX7_endFrom_11 (by decide) (by decide) h
def P_X7_endFrom (v0 : Nat) (v1 : Int32) (v2 : Int32) (Q : Int32 → HS → Prop) (S : HS) : Prop := P_X7_endFrom_0 Q v0 v1 v2 S
theorem c_X7_endFrom {l : Launch} {Ee : EE} {S : HS} {v0 : Nat} {v1 : Int32} {v2 : Int32} {Q : Int32 → HS → Prop} (h : P_X7_endFrom v0 v1 v2 Q S) : MI l yX7_endFrom cX7_endFrom 3 (some .int) rm_X7_endFrom Ee S [.ref v0, .int v1, .int v2] Q :=
  openI (by decide) (by decide) (fun X C E ht hn hE hl => by subst hE; exact r_sub [0, 1, 2] rfl (T_X7_endFrom_0 C E ht hn h))
def rm_X7_forget : Room := { frames := 0, cells := 0, slots := 0, locals := 0 }
def P_X7_forget_0 (Q : HS → Prop) (v0 : Nat) (S : HS) : Prop := ob S v0 7 ∧ (Q (sI S v0 10 (-1 : Int32)))
set_option maxRecDepth 20000 in
set_option maxHeartbeats 4000000 in
theorem T_X7_forget_0 {X : CX} {Q : HS → Prop} (C : Cx X cX7_forget RX7 1 rm_X7_forget) (E : ReV X rm_X7_forget Q) (ht : (xh X).sig.returnType = none) (hn : (xh X).name = yX7_forget.name) {v0 : Nat} {S : HS} (h : P_X7_forget_0 Q v0 S) : WS X 1 0 0 0 [(0, .ref v0)] [] S := by
  refine r_aload_n (pc := 0) C dX7_forget_0 0 rfl ?_
  refine r_iconst (pc := 1) C (v := (-1 : Int32)) dX7_forget_1 (by decide) ?_
  obtain ⟨o_v0, h⟩ := h
  refine r_puti (pc := 2) C pfL_X7_41 dX7_forget_2 o_v0 ?_
  exact r_vret (pc := 5) C E ht dX7_forget_5 (by decide) (by decide) h
def P_X7_forget (v0 : Nat) (Q : HS → Prop) (S : HS) : Prop := P_X7_forget_0 Q v0 S
theorem c_X7_forget {l : Launch} {Ee : EE} {S : HS} {v0 : Nat} {Q : HS → Prop} (h : P_X7_forget v0 Q S) : MV l yX7_forget cX7_forget 1 none rm_X7_forget Ee S [.ref v0] Q :=
  openV (by decide) (by decide) (fun X C E ht hn hE hl => by subst hE; exact r_sub [0] rfl (T_X7_forget_0 C E ht hn h))
def rm_X7_init : Room := { frames := 1, cells := 8, slots := 0, locals := 20 }
def P_X7_init_0 (Q : HS → Prop) (v0 : Nat) (S : HS) : Prop := ∀ a1 : Nat, a1 ∉ hL S → ∀ S2 : HS, S2 = nW S a1 13 0 → (ob S2 v0 7 ∧ (∀ a3 : Nat, a3 ∉ hL (sR S2 v0 0 (some a1)) → ∀ S4 : HS, S4 = nW (sR S2 v0 0 (some a1)) a3 14 0 → (∀ a5 : Nat, a5 ∉ hL (sR S4 v0 1 (some a3)) → ∀ S6 : HS, S6 = nW (sR S4 v0 1 (some a3)) a5 13 0 → (∀ a7 : Nat, a7 ∉ hL (sR S6 v0 2 (some a5)) → ∀ S8 : HS, S8 = nW (sR S6 v0 2 (some a5)) a7 13 0 → (∀ a9 : Nat, a9 ∉ hL (sR S8 v0 4 (some a7)) → ∀ S10 : HS, S10 = nW (sR S8 v0 4 (some a7)) a9 13 0 → (∀ a11 : Nat, a11 ∉ hL (sR S10 v0 5 (some a9)) → ∀ S12 : HS, S12 = nW (sR S10 v0 5 (some a9)) a11 13 0 → (∀ a13 : Nat, a13 ∉ hL (sR S12 v0 6 (some a11)) → ∀ S14 : HS, S14 = nW (sR S12 v0 6 (some a11)) a13 14 0 → (∀ a15 : Nat, a15 ∉ hL (sR S14 v0 7 (some a13)) → ∀ S16 : HS, S16 = nW (sR S14 v0 7 (some a13)) a15 13 0 → (Q (sI (sI (sI (sI (sR S16 v0 8 (some a15)) v0 9 (-1 : Int32)) v0 10 (-1 : Int32)) v0 11 (-1 : Int32)) v0 12 (-1 : Int32)))))))))))
set_option maxRecDepth 20000 in
set_option maxHeartbeats 4000000 in
theorem T_X7_init_0 {X : CX} {Q : HS → Prop} (C : Cx X cX7_init RX7 1 rm_X7_init) (E : ReV X rm_X7_init Q) (ht : (xh X).sig.returnType = none) (hn : (xh X).name = yX7_init.name) {v0 : Nat} {S : HS} (h : P_X7_init_0 Q v0 S) : WS X 1 0 0 0 [(0, .ref v0)] [] S := by
  refine r_aload_n (pc := 0) C dX7_init_0 0 rfl ?_
  refine r_objinit (pc := 1) C g_286 dX7_init_1 (by decide) (by decide) ?_
  refine r_aload_n (pc := 4) C dX7_init_4 0 rfl ?_
  refine r_iconst (pc := 5) C (v := (0 : Int32)) dX7_init_5 (by decide) ?_
  refine r_newa13 (pc := 6) C (N := 0) g_72 dX7_init_6 (by decide) (by decide) (by decide) (by decide) (by decide) (fun a1 q31 => ?_)
  refine r_heap (fun S2 eS2 => ?_)
  have h := h a1 q31 S2 eS2
  have g32 := gr_of_new eS2 q31
  have o_a1 := ob_of_new eS2
  obtain ⟨o_v0, h⟩ := h
  refine r_putr (pc := 8) C pfL_X7_9 dX7_init_8 o_v0 ?_
  refine r_aload_n (pc := 11) C dX7_init_11 0 rfl ?_
  refine r_iconst (pc := 12) C (v := (0 : Int32)) dX7_init_12 (by decide) ?_
  refine r_newa14 (pc := 13) C (N := 0) g_266 dX7_init_13 (by decide) (by decide) (by decide) (by decide) (by decide) (fun a3 q29 => ?_)
  refine r_heap (fun S4 eS4 => ?_)
  have h := h a3 q29 S4 eS4
  have g30 := gr_of_new eS4 q29
  have o_a3 := ob_of_new eS4
  have o_a1 := gr_ob g30 o_a1
  have o_v0 := gr_ob g30 o_v0
  refine r_putr (pc := 15) C pfL_X7_15 dX7_init_15 o_v0 ?_
  refine r_aload_n (pc := 18) C dX7_init_18 0 rfl ?_
  refine r_iconst (pc := 19) C (v := (0 : Int32)) dX7_init_19 (by decide) ?_
  refine r_newa13 (pc := 20) C (N := 0) g_72 dX7_init_20 (by decide) (by decide) (by decide) (by decide) (by decide) (fun a5 q27 => ?_)
  refine r_heap (fun S6 eS6 => ?_)
  have h := h a5 q27 S6 eS6
  have g28 := gr_of_new eS6 q27
  have o_a5 := ob_of_new eS6
  have o_a1 := gr_ob g28 o_a1
  have o_a3 := gr_ob g28 o_a3
  have o_v0 := gr_ob g28 o_v0
  refine r_putr (pc := 22) C pfL_X7_19 dX7_init_22 o_v0 ?_
  refine r_aload_n (pc := 25) C dX7_init_25 0 rfl ?_
  refine r_iconst (pc := 26) C (v := (0 : Int32)) dX7_init_26 (by decide) ?_
  refine r_newa13 (pc := 27) C (N := 0) g_72 dX7_init_27 (by decide) (by decide) (by decide) (by decide) (by decide) (fun a7 q25 => ?_)
  refine r_heap (fun S8 eS8 => ?_)
  have h := h a7 q25 S8 eS8
  have g26 := gr_of_new eS8 q25
  have o_a7 := ob_of_new eS8
  have o_a1 := gr_ob g26 o_a1
  have o_a3 := gr_ob g26 o_a3
  have o_a5 := gr_ob g26 o_a5
  have o_v0 := gr_ob g26 o_v0
  refine r_putr (pc := 29) C pfL_X7_22 dX7_init_29 o_v0 ?_
  refine r_aload_n (pc := 32) C dX7_init_32 0 rfl ?_
  refine r_iconst (pc := 33) C (v := (0 : Int32)) dX7_init_33 (by decide) ?_
  refine r_newa13 (pc := 34) C (N := 0) g_72 dX7_init_34 (by decide) (by decide) (by decide) (by decide) (by decide) (fun a9 q23 => ?_)
  refine r_heap (fun S10 eS10 => ?_)
  have h := h a9 q23 S10 eS10
  have g24 := gr_of_new eS10 q23
  have o_a9 := ob_of_new eS10
  have o_a1 := gr_ob g24 o_a1
  have o_a3 := gr_ob g24 o_a3
  have o_a5 := gr_ob g24 o_a5
  have o_a7 := gr_ob g24 o_a7
  have o_v0 := gr_ob g24 o_v0
  refine r_putr (pc := 36) C pfL_X7_25 dX7_init_36 o_v0 ?_
  refine r_aload_n (pc := 39) C dX7_init_39 0 rfl ?_
  refine r_iconst (pc := 40) C (v := (0 : Int32)) dX7_init_40 (by decide) ?_
  refine r_newa13 (pc := 41) C (N := 0) g_72 dX7_init_41 (by decide) (by decide) (by decide) (by decide) (by decide) (fun a11 q21 => ?_)
  refine r_heap (fun S12 eS12 => ?_)
  have h := h a11 q21 S12 eS12
  have g22 := gr_of_new eS12 q21
  have o_a11 := ob_of_new eS12
  have o_a1 := gr_ob g22 o_a1
  have o_a3 := gr_ob g22 o_a3
  have o_a5 := gr_ob g22 o_a5
  have o_a7 := gr_ob g22 o_a7
  have o_a9 := gr_ob g22 o_a9
  have o_v0 := gr_ob g22 o_v0
  refine r_putr (pc := 43) C pfL_X7_28 dX7_init_43 o_v0 ?_
  refine r_aload_n (pc := 46) C dX7_init_46 0 rfl ?_
  refine r_iconst (pc := 47) C (v := (0 : Int32)) dX7_init_47 (by decide) ?_
  refine r_newa14 (pc := 48) C (N := 0) g_266 dX7_init_48 (by decide) (by decide) (by decide) (by decide) (by decide) (fun a13 q19 => ?_)
  refine r_heap (fun S14 eS14 => ?_)
  have h := h a13 q19 S14 eS14
  have g20 := gr_of_new eS14 q19
  have o_a13 := ob_of_new eS14
  have o_a1 := gr_ob g20 o_a1
  have o_a11 := gr_ob g20 o_a11
  have o_a3 := gr_ob g20 o_a3
  have o_a5 := gr_ob g20 o_a5
  have o_a7 := gr_ob g20 o_a7
  have o_a9 := gr_ob g20 o_a9
  have o_v0 := gr_ob g20 o_v0
  refine r_putr (pc := 50) C pfL_X7_31 dX7_init_50 o_v0 ?_
  refine r_aload_n (pc := 53) C dX7_init_53 0 rfl ?_
  refine r_iconst (pc := 54) C (v := (0 : Int32)) dX7_init_54 (by decide) ?_
  refine r_newa13 (pc := 55) C (N := 0) g_72 dX7_init_55 (by decide) (by decide) (by decide) (by decide) (by decide) (fun a15 q17 => ?_)
  refine r_heap (fun S16 eS16 => ?_)
  have h := h a15 q17 S16 eS16
  have g18 := gr_of_new eS16 q17
  have o_a15 := ob_of_new eS16
  have o_a1 := gr_ob g18 o_a1
  have o_a11 := gr_ob g18 o_a11
  have o_a13 := gr_ob g18 o_a13
  have o_a3 := gr_ob g18 o_a3
  have o_a5 := gr_ob g18 o_a5
  have o_a7 := gr_ob g18 o_a7
  have o_a9 := gr_ob g18 o_a9
  have o_v0 := gr_ob g18 o_v0
  refine r_putr (pc := 57) C pfL_X7_34 dX7_init_57 o_v0 ?_
  refine r_aload_n (pc := 60) C dX7_init_60 0 rfl ?_
  refine r_iconst (pc := 61) C (v := (-1 : Int32)) dX7_init_61 (by decide) ?_
  refine r_puti (pc := 62) C pfL_X7_37 dX7_init_62 o_v0 ?_
  refine r_aload_n (pc := 65) C dX7_init_65 0 rfl ?_
  refine r_iconst (pc := 66) C (v := (-1 : Int32)) dX7_init_66 (by decide) ?_
  refine r_puti (pc := 67) C pfL_X7_41 dX7_init_67 o_v0 ?_
  refine r_aload_n (pc := 70) C dX7_init_70 0 rfl ?_
  refine r_iconst (pc := 71) C (v := (-1 : Int32)) dX7_init_71 (by decide) ?_
  refine r_puti (pc := 72) C pfL_X7_44 dX7_init_72 o_v0 ?_
  refine r_aload_n (pc := 75) C dX7_init_75 0 rfl ?_
  refine r_iconst (pc := 76) C (v := (-1 : Int32)) dX7_init_76 (by decide) ?_
  refine r_puti (pc := 77) C pfL_X7_47 dX7_init_77 o_v0 ?_
  exact r_vret (pc := 80) C E ht dX7_init_80 (by decide) (by decide) h
def P_X7_init (v0 : Nat) (Q : HS → Prop) (S : HS) : Prop := P_X7_init_0 Q v0 S
theorem c_X7_init {l : Launch} {Ee : EE} {S : HS} {v0 : Nat} {Q : HS → Prop} (h : P_X7_init v0 Q S) : MV l yX7_init cX7_init 1 none rm_X7_init Ee S [.ref v0] Q :=
  openV (by decide) (by decide) (fun X C E ht hn hE hl => by subst hE; exact r_sub [0] rfl (T_X7_init_0 C E ht hn h))
def rm_X7_isOpen : Room := { frames := 1, cells := 0, slots := 0, locals := 23 }
def P_X7_isOpen_0 (Q : Int32 → HS → Prop) (v0 : Nat) (v1 : Int32) (v2 : Int32) (S : HS) : Prop := ob S v0 7 ∧ (P_X7_keyOf v0 v1 v2 (fun x3 S1 => Gr S S1 → ((((lg_cmp x3 (4611686018427387904 : Int64)) = 0) → (Q (0 : Int32) S1)) ∧ ((¬ (lg_cmp x3 (4611686018427387904 : Int64)) = 0) → (Q (1 : Int32) S1)))) S)
set_option maxRecDepth 20000 in
set_option maxHeartbeats 4000000 in
theorem T_X7_isOpen_0 {X : CX} {Q : Int32 → HS → Prop} (C : Cx X cX7_isOpen RX7 3 rm_X7_isOpen) (E : ReI X rm_X7_isOpen (fun r S => bl r ∧ Q r S)) (ht : (xh X).sig.returnType = (some .boolean)) (hn : (xh X).name = yX7_isOpen.name) {v0 : Nat} {v1 : Int32} {v2 : Int32} {S : HS} (h : P_X7_isOpen_0 Q v0 v1 v2 S) : WS X 3 0 0 0 [(0, .ref v0), (1, .int v1), (2, .int v2)] [] S := by
  refine r_aload_n (pc := 0) C dX7_isOpen_0 0 rfl ?_
  refine r_iload_n (pc := 1) C dX7_isOpen_1 1 rfl ?_
  refine r_iload_n (pc := 2) C dX7_isOpen_2 2 rfl ?_
  obtain ⟨o_v0, h⟩ := h
  refine r_callVl0 (pc := 3) C (rest := []) (a := v0) o_v0 [.int v1, .int v2] yV_X7_keyOf g_892 (c_X7_keyOf h) dX7_isOpen_3 rfl rfl (by decide) ⟨by decide, by decide⟩ ⟨by decide, by decide⟩ ⟨rfl, rfl⟩ (fun x3 S1 h g2 => ?_)
  have h := h g2
  have o_v0 := gr_ob g2 o_v0
  refine r_ldc2 (pc := 6) C (v := (4611686018427387904 : Int64)) dX7_isOpen_6 g_887 ?_
  refine r_lcmp (pc := 9) C dX7_isOpen_9 ?_
  refine r_if_eq (pc := 10) C (tgt := 17) dX7_isOpen_10 (by decide) (fun c4 => ?_) (fun c4 => ?_)
  · have h := h.1 c4
    refine r_iconst (pc := 17) C (v := (0 : Int32)) dX7_isOpen_17 (by decide) ?_
    exact r_zret (pc := 18) C E ht dX7_isOpen_18 (by decide) (by decide) (Or.inl rfl) h
  · have h := h.2 c4
    refine r_iconst (pc := 13) C (v := (1 : Int32)) dX7_isOpen_13 (by decide) ?_
    refine r_goto (pc := 14) C (tgt := 18) dX7_isOpen_14 (by decide) ?_
    exact r_zret (pc := 18) C E ht dX7_isOpen_18 (by decide) (by decide) (Or.inr rfl) h
def P_X7_isOpen (v0 : Nat) (v1 : Int32) (v2 : Int32) (Q : Int32 → HS → Prop) (S : HS) : Prop := P_X7_isOpen_0 Q v0 v1 v2 S
theorem c_X7_isOpen {l : Launch} {Ee : EE} {S : HS} {v0 : Nat} {v1 : Int32} {v2 : Int32} {Q : Int32 → HS → Prop} (h : P_X7_isOpen v0 v1 v2 Q S) : MI l yX7_isOpen cX7_isOpen 3 (some .boolean) rm_X7_isOpen Ee S [.ref v0, .int v1, .int v2] (fun r S => bl r ∧ Q r S) :=
  openI (by decide) (by decide) (fun X C E ht hn hE hl => by subst hE; exact r_sub [0, 1, 2] rfl (T_X7_isOpen_0 C E ht hn h))
def rm_X7_makeRows : Room := { frames := 0, cells := 8, slots := 7937, locals := 0 }
def P_X7_makeRows_0 (Q : HS → Prop) (v0 : Nat) (S : HS) : Prop := ∀ a1 : Nat, a1 ∉ hL S → ∀ S2 : HS, S2 = nW S a1 13 401 → (ob S2 v0 7 ∧ (∀ a3 : Nat, a3 ∉ hL (sR S2 v0 0 (some a1)) → ∀ S4 : HS, S4 = nW (sR S2 v0 0 (some a1)) a3 14 3208 → (∀ a5 : Nat, a5 ∉ hL (sR S4 v0 1 (some a3)) → ∀ S6 : HS, S6 = nW (sR S4 v0 1 (some a3)) a5 13 3208 → (∀ a7 : Nat, a7 ∉ hL (sR S6 v0 2 (some a5)) → ∀ S8 : HS, S8 = nW (sR S6 v0 2 (some a5)) a7 13 224 → (∀ a9 : Nat, a9 ∉ hL (sR S8 v0 4 (some a7)) → ∀ S10 : HS, S10 = nW (sR S8 v0 4 (some a7)) a9 13 224 → (∀ a11 : Nat, a11 ∉ hL (sR S10 v0 5 (some a9)) → ∀ S12 : HS, S12 = nW (sR S10 v0 5 (some a9)) a11 13 224 → (∀ a13 : Nat, a13 ∉ hL (sR S12 v0 6 (some a11)) → ∀ S14 : HS, S14 = nW (sR S12 v0 6 (some a11)) a13 14 224 → (∀ a15 : Nat, a15 ∉ hL (sR S14 v0 7 (some a13)) → ∀ S16 : HS, S16 = nW (sR S14 v0 7 (some a13)) a15 13 224 → (Q (sR S16 v0 8 (some a15)))))))))))
set_option maxRecDepth 20000 in
set_option maxHeartbeats 4000000 in
theorem T_X7_makeRows_0 {X : CX} {Q : HS → Prop} (C : Cx X cX7_makeRows RX7 1 rm_X7_makeRows) (E : ReV X rm_X7_makeRows Q) (ht : (xh X).sig.returnType = none) (hn : (xh X).name = yX7_makeRows.name) {v0 : Nat} {S : HS} (h : P_X7_makeRows_0 Q v0 S) : WS X 1 0 0 0 [(0, .ref v0)] [] S := by
  refine r_aload_n (pc := 0) C dX7_makeRows_0 0 rfl ?_
  refine r_sipush (pc := 1) C (v := (401 : Int32)) dX7_makeRows_1 (by decide) ?_
  refine r_newa13 (pc := 4) C (N := 401) g_72 dX7_makeRows_4 (by decide) (by decide) (by decide) (by decide) (by decide) (fun a1 q31 => ?_)
  refine r_heap (fun S2 eS2 => ?_)
  have h := h a1 q31 S2 eS2
  have g32 := gr_of_new eS2 q31
  have o_a1 := ob_of_new eS2
  obtain ⟨o_v0, h⟩ := h
  refine r_putr (pc := 6) C pfL_X7_9 dX7_makeRows_6 o_v0 ?_
  refine r_aload_n (pc := 9) C dX7_makeRows_9 0 rfl ?_
  refine r_sipush (pc := 10) C (v := (3208 : Int32)) dX7_makeRows_10 (by decide) ?_
  refine r_newa14 (pc := 13) C (N := 3208) g_266 dX7_makeRows_13 (by decide) (by decide) (by decide) (by decide) (by decide) (fun a3 q29 => ?_)
  refine r_heap (fun S4 eS4 => ?_)
  have h := h a3 q29 S4 eS4
  have g30 := gr_of_new eS4 q29
  have o_a3 := ob_of_new eS4
  have o_a1 := gr_ob g30 o_a1
  have o_v0 := gr_ob g30 o_v0
  refine r_putr (pc := 15) C pfL_X7_15 dX7_makeRows_15 o_v0 ?_
  refine r_aload_n (pc := 18) C dX7_makeRows_18 0 rfl ?_
  refine r_sipush (pc := 19) C (v := (3208 : Int32)) dX7_makeRows_19 (by decide) ?_
  refine r_newa13 (pc := 22) C (N := 3208) g_72 dX7_makeRows_22 (by decide) (by decide) (by decide) (by decide) (by decide) (fun a5 q27 => ?_)
  refine r_heap (fun S6 eS6 => ?_)
  have h := h a5 q27 S6 eS6
  have g28 := gr_of_new eS6 q27
  have o_a5 := ob_of_new eS6
  have o_a1 := gr_ob g28 o_a1
  have o_a3 := gr_ob g28 o_a3
  have o_v0 := gr_ob g28 o_v0
  refine r_putr (pc := 24) C pfL_X7_19 dX7_makeRows_24 o_v0 ?_
  refine r_aload_n (pc := 27) C dX7_makeRows_27 0 rfl ?_
  refine r_sipush (pc := 28) C (v := (224 : Int32)) dX7_makeRows_28 (by decide) ?_
  refine r_newa13 (pc := 31) C (N := 224) g_72 dX7_makeRows_31 (by decide) (by decide) (by decide) (by decide) (by decide) (fun a7 q25 => ?_)
  refine r_heap (fun S8 eS8 => ?_)
  have h := h a7 q25 S8 eS8
  have g26 := gr_of_new eS8 q25
  have o_a7 := ob_of_new eS8
  have o_a1 := gr_ob g26 o_a1
  have o_a3 := gr_ob g26 o_a3
  have o_a5 := gr_ob g26 o_a5
  have o_v0 := gr_ob g26 o_v0
  refine r_putr (pc := 33) C pfL_X7_22 dX7_makeRows_33 o_v0 ?_
  refine r_aload_n (pc := 36) C dX7_makeRows_36 0 rfl ?_
  refine r_sipush (pc := 37) C (v := (224 : Int32)) dX7_makeRows_37 (by decide) ?_
  refine r_newa13 (pc := 40) C (N := 224) g_72 dX7_makeRows_40 (by decide) (by decide) (by decide) (by decide) (by decide) (fun a9 q23 => ?_)
  refine r_heap (fun S10 eS10 => ?_)
  have h := h a9 q23 S10 eS10
  have g24 := gr_of_new eS10 q23
  have o_a9 := ob_of_new eS10
  have o_a1 := gr_ob g24 o_a1
  have o_a3 := gr_ob g24 o_a3
  have o_a5 := gr_ob g24 o_a5
  have o_a7 := gr_ob g24 o_a7
  have o_v0 := gr_ob g24 o_v0
  refine r_putr (pc := 42) C pfL_X7_25 dX7_makeRows_42 o_v0 ?_
  refine r_aload_n (pc := 45) C dX7_makeRows_45 0 rfl ?_
  refine r_sipush (pc := 46) C (v := (224 : Int32)) dX7_makeRows_46 (by decide) ?_
  refine r_newa13 (pc := 49) C (N := 224) g_72 dX7_makeRows_49 (by decide) (by decide) (by decide) (by decide) (by decide) (fun a11 q21 => ?_)
  refine r_heap (fun S12 eS12 => ?_)
  have h := h a11 q21 S12 eS12
  have g22 := gr_of_new eS12 q21
  have o_a11 := ob_of_new eS12
  have o_a1 := gr_ob g22 o_a1
  have o_a3 := gr_ob g22 o_a3
  have o_a5 := gr_ob g22 o_a5
  have o_a7 := gr_ob g22 o_a7
  have o_a9 := gr_ob g22 o_a9
  have o_v0 := gr_ob g22 o_v0
  refine r_putr (pc := 51) C pfL_X7_28 dX7_makeRows_51 o_v0 ?_
  refine r_aload_n (pc := 54) C dX7_makeRows_54 0 rfl ?_
  refine r_sipush (pc := 55) C (v := (224 : Int32)) dX7_makeRows_55 (by decide) ?_
  refine r_newa14 (pc := 58) C (N := 224) g_266 dX7_makeRows_58 (by decide) (by decide) (by decide) (by decide) (by decide) (fun a13 q19 => ?_)
  refine r_heap (fun S14 eS14 => ?_)
  have h := h a13 q19 S14 eS14
  have g20 := gr_of_new eS14 q19
  have o_a13 := ob_of_new eS14
  have o_a1 := gr_ob g20 o_a1
  have o_a11 := gr_ob g20 o_a11
  have o_a3 := gr_ob g20 o_a3
  have o_a5 := gr_ob g20 o_a5
  have o_a7 := gr_ob g20 o_a7
  have o_a9 := gr_ob g20 o_a9
  have o_v0 := gr_ob g20 o_v0
  refine r_putr (pc := 60) C pfL_X7_31 dX7_makeRows_60 o_v0 ?_
  refine r_aload_n (pc := 63) C dX7_makeRows_63 0 rfl ?_
  refine r_sipush (pc := 64) C (v := (224 : Int32)) dX7_makeRows_64 (by decide) ?_
  refine r_newa13 (pc := 67) C (N := 224) g_72 dX7_makeRows_67 (by decide) (by decide) (by decide) (by decide) (by decide) (fun a15 q17 => ?_)
  refine r_heap (fun S16 eS16 => ?_)
  have h := h a15 q17 S16 eS16
  have g18 := gr_of_new eS16 q17
  have o_a15 := ob_of_new eS16
  have o_a1 := gr_ob g18 o_a1
  have o_a11 := gr_ob g18 o_a11
  have o_a13 := gr_ob g18 o_a13
  have o_a3 := gr_ob g18 o_a3
  have o_a5 := gr_ob g18 o_a5
  have o_a7 := gr_ob g18 o_a7
  have o_a9 := gr_ob g18 o_a9
  have o_v0 := gr_ob g18 o_v0
  refine r_putr (pc := 69) C pfL_X7_34 dX7_makeRows_69 o_v0 ?_
  exact r_vret (pc := 72) C E ht dX7_makeRows_72 (by decide) (by decide) h
def P_X7_makeRows (v0 : Nat) (Q : HS → Prop) (S : HS) : Prop := P_X7_makeRows_0 Q v0 S
theorem c_X7_makeRows {l : Launch} {Ee : EE} {S : HS} {v0 : Nat} {Q : HS → Prop} (h : P_X7_makeRows v0 Q S) : MV l yX7_makeRows cX7_makeRows 1 none rm_X7_makeRows Ee S [.ref v0] Q :=
  openV (by decide) (by decide) (fun X C E ht hn hE hl => by subst hE; exact r_sub [0] rfl (T_X7_makeRows_0 C E ht hn h))
def rm_X7_meanFrom : Room := { frames := 1, cells := 0, slots := 0, locals := 23 }
def P_X7_meanFrom_0 (Q : Int64 → HS → Prop) (v0 : Nat) (v1 : Int32) (v2 : Int32) (S : HS) : Prop := ob S v0 7 ∧ (P_X7_keyOf v0 v1 v2 (fun x3 S1 => Gr S S1 → (∀ x4 : Int64, x4 = x3 / (512 : Int64) → (Q x4 S1))) S)
set_option maxRecDepth 20000 in
set_option maxHeartbeats 4000000 in
theorem T_X7_meanFrom_0 {X : CX} {Q : Int64 → HS → Prop} (C : Cx X cX7_meanFrom RX7 3 rm_X7_meanFrom) (E : ReJ X rm_X7_meanFrom Q) (ht : (xh X).sig.returnType = (some .long)) (hn : (xh X).name = yX7_meanFrom.name) {v0 : Nat} {v1 : Int32} {v2 : Int32} {S : HS} (h : P_X7_meanFrom_0 Q v0 v1 v2 S) : WS X 3 0 0 0 [(0, .ref v0), (1, .int v1), (2, .int v2)] [] S := by
  refine r_aload_n (pc := 0) C dX7_meanFrom_0 0 rfl ?_
  refine r_iload_n (pc := 1) C dX7_meanFrom_1 1 rfl ?_
  refine r_iload_n (pc := 2) C dX7_meanFrom_2 2 rfl ?_
  obtain ⟨o_v0, h⟩ := h
  refine r_callVl0 (pc := 3) C (rest := []) (a := v0) o_v0 [.int v1, .int v2] yV_X7_keyOf g_892 (c_X7_keyOf h) dX7_meanFrom_3 rfl rfl (by decide) ⟨by decide, by decide⟩ ⟨by decide, by decide⟩ ⟨rfl, rfl⟩ (fun x3 S1 h g2 => ?_)
  have h := h g2
  have o_v0 := gr_ob g2 o_v0
  refine r_ldc2 (pc := 6) C (v := (512 : Int64)) dX7_meanFrom_6 g_857 ?_
  refine r_ldiv (pc := 9) C dX7_meanFrom_9 (by decide) ?_
  refine r_topl (fun x4 ex4 => ?_)
  have h := h x4 ex4
  exact r_lret (pc := 10) C E ht dX7_meanFrom_10 (by decide) (by decide) h
def P_X7_meanFrom (v0 : Nat) (v1 : Int32) (v2 : Int32) (Q : Int64 → HS → Prop) (S : HS) : Prop := P_X7_meanFrom_0 Q v0 v1 v2 S
theorem c_X7_meanFrom {l : Launch} {Ee : EE} {S : HS} {v0 : Nat} {v1 : Int32} {v2 : Int32} {Q : Int64 → HS → Prop} (h : P_X7_meanFrom v0 v1 v2 Q S) : MJ l yX7_meanFrom cX7_meanFrom 3 (some .long) rm_X7_meanFrom Ee S [.ref v0, .int v1, .int v2] Q :=
  openJ (by decide) (by decide) (fun X C E ht hn hE hl => by subst hE; exact r_sub [0, 1, 2] rfl (T_X7_meanFrom_0 C E ht hn h))
