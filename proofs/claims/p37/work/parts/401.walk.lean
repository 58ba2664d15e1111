def rm_X10_minutes : Room := { frames := 0, cells := 0, slots := 0, locals := 0 }
def P_X10_minutes_0 (Q : Int32 → HS → Prop) (v0 : Nat) (v1 : Int32) (v2 : Int32) (S : HS) : Prop := ob S v0 10 ∧ (∃ a1 : Nat, fR S v0 16 = some a1 ∧ (ob S a1 13 ∧ (vp_in v1 (hN S a1) ∧ ∀ x3 : Int32, x3 = fI S a1 v1.toNatClampNeg → (¬ v2 = 0 ∧ ∀ x5 : Int32, x5 = ((x3 + v2) - (1 : Int32)) / v2 → (Q x5 S)))))
set_option maxRecDepth 20000 in
set_option maxHeartbeats 4000000 in
theorem T_X10_minutes_0 {X : CX} {Q : Int32 → HS → Prop} (C : Cx X cX10_minutes RX10 3 rm_X10_minutes) (E : ReI X rm_X10_minutes Q) (ht : (xh X).sig.returnType = (some .int)) (hn : (xh X).name = yX10_minutes.name) {v0 : Nat} {v1 : Int32} {v2 : Int32} {S : HS} (h : P_X10_minutes_0 Q v0 v1 v2 S) : WS X 3 0 0 0 [(0, .ref v0), (1, .int v1), (2, .int v2)] [] S := by
  refine r_aload_n (pc := 0) C dX10_minutes_0 0 rfl ?_
  obtain ⟨o_v0, h⟩ := h
  obtain ⟨a1, ea1, h⟩ := h
  refine r_getr (pc := 1) C fL_X10_39 dX10_minutes_1 o_v0 ea1 ?_
  refine r_iload_n (pc := 4) C dX10_minutes_4 1 rfl ?_
  obtain ⟨o_a1, h⟩ := h
  obtain ⟨i2, h⟩ := h
  refine r_iald (pc := 5) C dX10_minutes_5 o_a1 i2 ?_
  refine r_topi (fun x3 ex3 => ?_)
  have h := h x3 ex3
  refine r_iload_n (pc := 6) C dX10_minutes_6 2 rfl ?_
  refine r_iadd (pc := 7) C dX10_minutes_7 ?_
  refine r_iconst (pc := 8) C (v := (1 : Int32)) dX10_minutes_8 (by decide) ?_
  refine r_isub (pc := 9) C dX10_minutes_9 ?_
  refine r_iload_n (pc := 10) C dX10_minutes_10 2 rfl ?_
  obtain ⟨q4, h⟩ := h
  refine r_idiv (pc := 11) C dX10_minutes_11 q4 ?_
  refine r_topi (fun x5 ex5 => ?_)
  have h := h x5 ex5
  exact r_iret (pc := 12) C E ht dX10_minutes_12 (by decide) (by decide) h
def P_X10_minutes (v0 : Nat) (v1 : Int32) (v2 : Int32) (Q : Int32 → HS → Prop) (S : HS) : Prop := P_X10_minutes_0 Q v0 v1 v2 S
theorem c_X10_minutes {l : Launch} {Ee : EE} {S : HS} {v0 : Nat} {v1 : Int32} {v2 : Int32} {Q : Int32 → HS → Prop} (h : P_X10_minutes v0 v1 v2 Q S) : MI l yX10_minutes cX10_minutes 3 (some .int) rm_X10_minutes Ee S [.ref v0, .int v1, .int v2] Q :=
  openI (by decide) (Nat.le_of_ble_eq_true rfl) (fun X C E ht hn hE hl => by subst hE; exact r_sub [0, 1, 2] rfl (T_X10_minutes_0 C E ht hn h))
def rm_X10_shield : Room := { frames := 0, cells := 0, slots := 0, locals := 0 }
def P_X10_shield_0 (Q : Int32 → HS → Prop) (v0 : Nat) (v1 : Int32) (S : HS) : Prop := ob S v0 10 ∧ (∃ a1 : Nat, fR S v0 19 = some a1 ∧ (ob S a1 13 ∧ (vp_in v1 (hN S a1) ∧ ∀ x3 : Int32, x3 = fI S a1 v1.toNatClampNeg → (((¬ x3 = (3 : Int32)) → (Q (0 : Int32) S)) ∧ ((x3 = (3 : Int32)) → (∃ a5 : Nat, fR S v0 20 = some a5 ∧ (ob S a5 13 ∧ (vp_in v1 (hN S a5) ∧ ∀ x7 : Int32, x7 = fI S a5 v1.toNatClampNeg → (Q x7 S)))))))))
set_option maxRecDepth 20000 in
set_option maxHeartbeats 4000000 in
theorem T_X10_shield_0 {X : CX} {Q : Int32 → HS → Prop} (C : Cx X cX10_shield RX10 2 rm_X10_shield) (E : ReI X rm_X10_shield Q) (ht : (xh X).sig.returnType = (some .int)) (hn : (xh X).name = yX10_shield.name) {v0 : Nat} {v1 : Int32} {S : HS} (h : P_X10_shield_0 Q v0 v1 S) : WS X 2 0 0 0 [(0, .ref v0), (1, .int v1)] [] S := by
  refine r_aload_n (pc := 0) C dX10_shield_0 0 rfl ?_
  obtain ⟨o_v0, h⟩ := h
  obtain ⟨a1, ea1, h⟩ := h
  refine r_getr (pc := 1) C fL_X10_49 dX10_shield_1 o_v0 ea1 ?_
  refine r_iload_n (pc := 4) C dX10_shield_4 1 rfl ?_
  obtain ⟨o_a1, h⟩ := h
  obtain ⟨i2, h⟩ := h
  refine r_iald (pc := 5) C dX10_shield_5 o_a1 i2 ?_
  refine r_topi (fun x3 ex3 => ?_)
  have h := h x3 ex3
  refine r_iconst (pc := 6) C (v := (3 : Int32)) dX10_shield_6 (by decide) ?_
  refine r_icmp_ne (pc := 7) C (tgt := 19) dX10_shield_7 (by decide) (fun c4 => ?_) (fun c4 => ?_)
  · have h := h.1 c4
    refine r_iconst (pc := 19) C (v := (0 : Int32)) dX10_shield_19 (by decide) ?_
    exact r_iret (pc := 20) C E ht dX10_shield_20 (by decide) (by decide) h
  · have h := h.2 c4
    refine r_aload_n (pc := 10) C dX10_shield_10 0 rfl ?_
    obtain ⟨a5, ea5, h⟩ := h
    refine r_getr (pc := 11) C fL_X10_52 dX10_shield_11 o_v0 ea5 ?_
    refine r_iload_n (pc := 14) C dX10_shield_14 1 rfl ?_
    obtain ⟨o_a5, h⟩ := h
    obtain ⟨i6, h⟩ := h
    refine r_iald (pc := 15) C dX10_shield_15 o_a5 i6 ?_
    refine r_topi (fun x7 ex7 => ?_)
    have h := h x7 ex7
    refine r_goto (pc := 16) C (tgt := 20) dX10_shield_16 (by decide) ?_
    exact r_iret (pc := 20) C E ht dX10_shield_20 (by decide) (by decide) h
def P_X10_shield (v0 : Nat) (v1 : Int32) (Q : Int32 → HS → Prop) (S : HS) : Prop := P_X10_shield_0 Q v0 v1 S
theorem c_X10_shield {l : Launch} {Ee : EE} {S : HS} {v0 : Nat} {v1 : Int32} {Q : Int32 → HS → Prop} (h : P_X10_shield v0 v1 Q S) : MI l yX10_shield cX10_shield 2 (some .int) rm_X10_shield Ee S [.ref v0, .int v1] Q :=
  openI (by decide) (Nat.le_of_ble_eq_true rfl) (fun X C E ht hn hE hl => by subst hE; exact r_sub [0, 1] rfl (T_X10_shield_0 C E ht hn h))
def rm_X11_good : Room := { frames := 0, cells := 0, slots := 0, locals := 0 }
def P_X11_good_0 (Q : Int32 → HS → Prop) (v0 : Nat) (v1 : Int32) (S : HS) : Prop := ob S v0 11 ∧ (∀ S1 : HS, S1 = sI S v0 1 (0 : Int32) → (∀ S2 : HS, S2 = sI S1 v0 2 (-1 : Int32) → (Q v1 S2)))
set_option maxRecDepth 20000 in
set_option maxHeartbeats 4000000 in
theorem T_X11_good_0 {X : CX} {Q : Int32 → HS → Prop} (C : Cx X cX11_good RX11 2 rm_X11_good) (E : ReI X rm_X11_good Q) (ht : (xh X).sig.returnType = (some .int)) (hn : (xh X).name = yX11_good.name) {v0 : Nat} {v1 : Int32} {S : HS} (h : P_X11_good_0 Q v0 v1 S) : WS X 2 0 0 0 [(0, .ref v0), (1, .int v1)] [] S := by
  refine r_aload_n (pc := 0) C dX11_good_0 0 rfl ?_
  refine r_iconst (pc := 1) C (v := (0 : Int32)) dX11_good_1 (by decide) ?_
  obtain ⟨o_v0, h⟩ := h
  refine r_puti (pc := 2) C pfL_X11_43 dX11_good_2 o_v0 ?_
  refine r_heap (fun S1 eS1 => ?_)
  have h := h S1 eS1
  have o_v0 := ob_I eS1 o_v0
  refine r_aload_n (pc := 5) C dX11_good_5 0 rfl ?_
  refine r_iconst (pc := 6) C (v := (-1 : Int32)) dX11_good_6 (by decide) ?_
  refine r_puti (pc := 7) C pfL_X11_9 dX11_good_7 o_v0 ?_
  refine r_heap (fun S2 eS2 => ?_)
  have h := h S2 eS2
  have o_v0 := ob_I eS2 o_v0
  refine r_iload_n (pc := 10) C dX11_good_10 1 rfl ?_
  exact r_iret (pc := 11) C E ht dX11_good_11 (by decide) (by decide) h
def P_X11_good (v0 : Nat) (v1 : Int32) (Q : Int32 → HS → Prop) (S : HS) : Prop := P_X11_good_0 Q v0 v1 S
theorem c_X11_good {l : Launch} {Ee : EE} {S : HS} {v0 : Nat} {v1 : Int32} {Q : Int32 → HS → Prop} (h : P_X11_good v0 v1 Q S) : MI l yX11_good cX11_good 2 (some .int) rm_X11_good Ee S [.ref v0, .int v1] Q :=
  openI (by decide) (Nat.le_of_ble_eq_true rfl) (fun X C E ht hn hE hl => by subst hE; exact r_sub [0, 1] rfl (T_X11_good_0 C E ht hn h))
def rm_X11_in : Room := { frames := 0, cells := 0, slots := 0, locals := 0 }
def P_X11_in_0 (Q : Int32 → HS → Prop) (v0 : Int32) (v1 : Int32) (v2 : Int32) (S : HS) : Prop := ((v0 < v1) → (Q (0 : Int32) S)) ∧ ((¬ v0 < v1) → (((v2 < v0) → (Q (0 : Int32) S)) ∧ ((¬ v2 < v0) → (Q (1 : Int32) S))))
set_option maxRecDepth 20000 in
set_option maxHeartbeats 4000000 in
theorem T_X11_in_0 {X : CX} {Q : Int32 → HS → Prop} (C : Cx X cX11_in RX11 3 rm_X11_in) (E : ReI X rm_X11_in (fun r S => bl r ∧ Q r S)) (ht : (xh X).sig.returnType = (some .boolean)) (hn : (xh X).name = yX11_in.name) {v0 : Int32} {v1 : Int32} {v2 : Int32} {S : HS} (h : P_X11_in_0 Q v0 v1 v2 S) : WS X 3 0 0 0 [(0, .int v0), (1, .int v1), (2, .int v2)] [] S := by
  refine r_iload_n (pc := 0) C dX11_in_0 0 rfl ?_
  refine r_iload_n (pc := 1) C dX11_in_1 1 rfl ?_
  refine r_icmp_lt (pc := 2) C (tgt := 14) dX11_in_2 (by decide) (fun c1 => ?_) (fun c1 => ?_)
  · have h := h.1 c1
    refine r_iconst (pc := 14) C (v := (0 : Int32)) dX11_in_14 (by decide) ?_
    exact r_zret (pc := 15) C E ht dX11_in_15 (by decide) (by decide) (Or.inl rfl) h
  · have h := h.2 c1
    refine r_iload_n (pc := 5) C dX11_in_5 0 rfl ?_
    refine r_iload_n (pc := 6) C dX11_in_6 2 rfl ?_
    refine r_icmp_gt (pc := 7) C (tgt := 14) dX11_in_7 (by decide) (fun c2 => ?_) (fun c2 => ?_)
    · have h := h.1 c2
      refine r_iconst (pc := 14) C (v := (0 : Int32)) dX11_in_14 (by decide) ?_
      exact r_zret (pc := 15) C E ht dX11_in_15 (by decide) (by decide) (Or.inl rfl) h
    · have h := h.2 c2
      refine r_iconst (pc := 10) C (v := (1 : Int32)) dX11_in_10 (by decide) ?_
      refine r_goto (pc := 11) C (tgt := 15) dX11_in_11 (by decide) ?_
      exact r_zret (pc := 15) C E ht dX11_in_15 (by decide) (by decide) (Or.inr rfl) h
def P_X11_in (v0 : Int32) (v1 : Int32) (v2 : Int32) (Q : Int32 → HS → Prop) (S : HS) : Prop := P_X11_in_0 Q v0 v1 v2 S
theorem c_X11_in {l : Launch} {Ee : EE} {S : HS} {v0 : Int32} {v1 : Int32} {v2 : Int32} {Q : Int32 → HS → Prop} (h : P_X11_in v0 v1 v2 Q S) : MI l yX11_in cX11_in 3 (some .boolean) rm_X11_in Ee S [.int v0, .int v1, .int v2] (fun r S => bl r ∧ Q r S) :=
  openI (by decide) (Nat.le_of_ble_eq_true rfl) (fun X C E ht hn hE hl => by subst hE; exact r_sub [0, 1, 2] rfl (T_X11_in_0 C E ht hn h))
def rm_X11_isHour : Room := { frames := 0, cells := 0, slots := 0, locals := 0 }
def P_X11_isHour_0 (Q : Int32 → HS → Prop) (v0 : Nat) (v1 : Int32) (S : HS) : Prop := ob S v0 11 ∧ ((fR S v0 3 = none → (Q (0 : Int32) S)) ∧ (∀ a1 : Nat, fR S v0 3 = some a1 → (((v1 < 0) → (Q (0 : Int32) S)) ∧ ((¬ v1 < 0) → (∃ a4 : Nat, fR S v0 3 = some a4 ∧ (ob S a4 10 ∧ (∀ x5 : Int32, x5 = fI S a4 1 → (((x5 ≤ v1) → (Q (0 : Int32) S)) ∧ ((¬ x5 ≤ v1) → (Q (1 : Int32) S))))))))))
set_option maxRecDepth 20000 in
set_option maxHeartbeats 4000000 in
theorem T_X11_isHour_0 {X : CX} {Q : Int32 → HS → Prop} (C : Cx X cX11_isHour RX11 2 rm_X11_isHour) (E : ReI X rm_X11_isHour (fun r S => bl r ∧ Q r S)) (ht : (xh X).sig.returnType = (some .boolean)) (hn : (xh X).name = yX11_isHour.name) {v0 : Nat} {v1 : Int32} {S : HS} (h : P_X11_isHour_0 Q v0 v1 S) : WS X 2 0 0 0 [(0, .ref v0), (1, .int v1)] [] S := by
  refine r_aload_n (pc := 0) C dX11_isHour_0 0 rfl ?_
  obtain ⟨o_v0, h⟩ := h
  rcases e2 : fR S v0 3 with _ | a1
  · refine r_get0 (pc := 1) C fL_X11_338 dX11_isHour_1 o_v0 e2 ?_
    refine r_ifnull0 (pc := 4) C (tgt := 26) dX11_isHour_4 (by decide) ?_
    have h := h.1 e2
    refine r_iconst (pc := 26) C (v := (0 : Int32)) dX11_isHour_26 (by decide) ?_
    exact r_zret (pc := 27) C E ht dX11_isHour_27 (by decide) (by decide) (Or.inl rfl) h
  · refine r_getr (pc := 1) C fL_X11_338 dX11_isHour_1 o_v0 e2 ?_
    refine r_ifnull (pc := 4) C dX11_isHour_4 ?_
    have h := h.2 a1 e2
    refine r_iload_n (pc := 7) C dX11_isHour_7 1 rfl ?_
    refine r_if_lt (pc := 8) C (tgt := 26) dX11_isHour_8 (by decide) (fun c3 => ?_) (fun c3 => ?_)
    · have h := h.1 c3
      refine r_iconst (pc := 26) C (v := (0 : Int32)) dX11_isHour_26 (by decide) ?_
      exact r_zret (pc := 27) C E ht dX11_isHour_27 (by decide) (by decide) (Or.inl rfl) h
    · have h := h.2 c3
      refine r_iload_n (pc := 11) C dX11_isHour_11 1 rfl ?_
      refine r_aload_n (pc := 12) C dX11_isHour_12 0 rfl ?_
      obtain ⟨a4, ea4, h⟩ := h
      refine r_getr (pc := 13) C fL_X11_338 dX11_isHour_13 o_v0 ea4 ?_
      obtain ⟨o_a4, h⟩ := h
      refine r_getNi (pc := 16) C fN_X11_219 dX11_isHour_16 o_a4 ?_
      refine r_topi (fun x5 ex5 => ?_)
      have h := h x5 ex5
      refine r_icmp_ge (pc := 19) C (tgt := 26) dX11_isHour_19 (by decide) (fun c6 => ?_) (fun c6 => ?_)
      · have h := h.1 c6
        refine r_iconst (pc := 26) C (v := (0 : Int32)) dX11_isHour_26 (by decide) ?_
        exact r_zret (pc := 27) C E ht dX11_isHour_27 (by decide) (by decide) (Or.inl rfl) h
      · have h := h.2 c6
        refine r_iconst (pc := 22) C (v := (1 : Int32)) dX11_isHour_22 (by decide) ?_
        refine r_goto (pc := 23) C (tgt := 27) dX11_isHour_23 (by decide) ?_
        exact r_zret (pc := 27) C E ht dX11_isHour_27 (by decide) (by decide) (Or.inr rfl) h
def P_X11_isHour (v0 : Nat) (v1 : Int32) (Q : Int32 → HS → Prop) (S : HS) : Prop := P_X11_isHour_0 Q v0 v1 S
theorem c_X11_isHour {l : Launch} {Ee : EE} {S : HS} {v0 : Nat} {v1 : Int32} {Q : Int32 → HS → Prop} (h : P_X11_isHour v0 v1 Q S) : MI l yX11_isHour cX11_isHour 2 (some .boolean) rm_X11_isHour Ee S [.ref v0, .int v1] (fun r S => bl r ∧ Q r S) :=
  openI (by decide) (Nat.le_of_ble_eq_true rfl) (fun X C E ht hn hE hl => by subst hE; exact r_sub [0, 1] rfl (T_X11_isHour_0 C E ht hn h))
def rm_X11_isRoad : Room := { frames := 0, cells := 0, slots := 0, locals := 0 }
def P_X11_isRoad_0 (Q : Int32 → HS → Prop) (v0 : Nat) (v1 : Int32) (S : HS) : Prop := ob S v0 11 ∧ ((fR S v0 3 = none → (Q (0 : Int32) S)) ∧ (∀ a1 : Nat, fR S v0 3 = some a1 → (((v1 < 0) → (Q (0 : Int32) S)) ∧ ((¬ v1 < 0) → (∃ a4 : Nat, fR S v0 3 = some a4 ∧ (ob S a4 10 ∧ (∀ x5 : Int32, x5 = fI S a4 3 → (((x5 ≤ v1) → (Q (0 : Int32) S)) ∧ ((¬ x5 ≤ v1) → (Q (1 : Int32) S))))))))))
set_option maxRecDepth 20000 in
set_option maxHeartbeats 4000000 in
theorem T_X11_isRoad_0 {X : CX} {Q : Int32 → HS → Prop} (C : Cx X cX11_isRoad RX11 2 rm_X11_isRoad) (E : ReI X rm_X11_isRoad (fun r S => bl r ∧ Q r S)) (ht : (xh X).sig.returnType = (some .boolean)) (hn : (xh X).name = yX11_isRoad.name) {v0 : Nat} {v1 : Int32} {S : HS} (h : P_X11_isRoad_0 Q v0 v1 S) : WS X 2 0 0 0 [(0, .ref v0), (1, .int v1)] [] S := by
  refine r_aload_n (pc := 0) C dX11_isRoad_0 0 rfl ?_
  obtain ⟨o_v0, h⟩ := h
  rcases e2 : fR S v0 3 with _ | a1
  · refine r_get0 (pc := 1) C fL_X11_338 dX11_isRoad_1 o_v0 e2 ?_
    refine r_ifnull0 (pc := 4) C (tgt := 26) dX11_isRoad_4 (by decide) ?_
    have h := h.1 e2
    refine r_iconst (pc := 26) C (v := (0 : Int32)) dX11_isRoad_26 (by decide) ?_
    exact r_zret (pc := 27) C E ht dX11_isRoad_27 (by decide) (by decide) (Or.inl rfl) h
  · refine r_getr (pc := 1) C fL_X11_338 dX11_isRoad_1 o_v0 e2 ?_
    refine r_ifnull (pc := 4) C dX11_isRoad_4 ?_
    have h := h.2 a1 e2
    refine r_iload_n (pc := 7) C dX11_isRoad_7 1 rfl ?_
    refine r_if_lt (pc := 8) C (tgt := 26) dX11_isRoad_8 (by decide) (fun c3 => ?_) (fun c3 => ?_)
    · have h := h.1 c3
      refine r_iconst (pc := 26) C (v := (0 : Int32)) dX11_isRoad_26 (by decide) ?_
      exact r_zret (pc := 27) C E ht dX11_isRoad_27 (by decide) (by decide) (Or.inl rfl) h
    · have h := h.2 c3
      refine r_iload_n (pc := 11) C dX11_isRoad_11 1 rfl ?_
      refine r_aload_n (pc := 12) C dX11_isRoad_12 0 rfl ?_
      obtain ⟨a4, ea4, h⟩ := h
      refine r_getr (pc := 13) C fL_X11_338 dX11_isRoad_13 o_v0 ea4 ?_
      obtain ⟨o_a4, h⟩ := h
      refine r_getNi (pc := 16) C fN_X11_264 dX11_isRoad_16 o_a4 ?_
      refine r_topi (fun x5 ex5 => ?_)
      have h := h x5 ex5
      refine r_icmp_ge (pc := 19) C (tgt := 26) dX11_isRoad_19 (by decide) (fun c6 => ?_) (fun c6 => ?_)
      · have h := h.1 c6
        refine r_iconst (pc := 26) C (v := (0 : Int32)) dX11_isRoad_26 (by decide) ?_
        exact r_zret (pc := 27) C E ht dX11_isRoad_27 (by decide) (by decide) (Or.inl rfl) h
      · have h := h.2 c6
        refine r_iconst (pc := 22) C (v := (1 : Int32)) dX11_isRoad_22 (by decide) ?_
        refine r_goto (pc := 23) C (tgt := 27) dX11_isRoad_23 (by decide) ?_
        exact r_zret (pc := 27) C E ht dX11_isRoad_27 (by decide) (by decide) (Or.inr rfl) h
def P_X11_isRoad (v0 : Nat) (v1 : Int32) (Q : Int32 → HS → Prop) (S : HS) : Prop := P_X11_isRoad_0 Q v0 v1 S
theorem c_X11_isRoad {l : Launch} {Ee : EE} {S : HS} {v0 : Nat} {v1 : Int32} {Q : Int32 → HS → Prop} (h : P_X11_isRoad v0 v1 Q S) : MI l yX11_isRoad cX11_isRoad 2 (some .boolean) rm_X11_isRoad Ee S [.ref v0, .int v1] (fun r S => bl r ∧ Q r S) :=
  openI (by decide) (Nat.le_of_ble_eq_true rfl) (fun X C E ht hn hE hl => by subst hE; exact r_sub [0, 1] rfl (T_X11_isRoad_0 C E ht hn h))
def rm_X11_refused : Room := { frames := 0, cells := 0, slots := 0, locals := 0 }
def P_X11_refused_0 (Q : Int32 → HS → Prop) (v0 : Nat) (v1 : Int32) (S : HS) : Prop := ob S v0 11 ∧ (∀ S1 : HS, S1 = sI S v0 1 v1 → (∀ S2 : HS, S2 = sI S1 v0 2 (-1 : Int32) → (Q (-1 : Int32) S2)))
set_option maxRecDepth 20000 in
set_option maxHeartbeats 4000000 in
theorem T_X11_refused_0 {X : CX} {Q : Int32 → HS → Prop} (C : Cx X cX11_refused RX11 2 rm_X11_refused) (E : ReI X rm_X11_refused Q) (ht : (xh X).sig.returnType = (some .int)) (hn : (xh X).name = yX11_refused.name) {v0 : Nat} {v1 : Int32} {S : HS} (h : P_X11_refused_0 Q v0 v1 S) : WS X 2 0 0 0 [(0, .ref v0), (1, .int v1)] [] S := by
  refine r_aload_n (pc := 0) C dX11_refused_0 0 rfl ?_
  refine r_iload_n (pc := 1) C dX11_refused_1 1 rfl ?_
  obtain ⟨o_v0, h⟩ := h
  refine r_puti (pc := 2) C pfL_X11_43 dX11_refused_2 o_v0 ?_
  refine r_heap (fun S1 eS1 => ?_)
  have h := h S1 eS1
  have o_v0 := ob_I eS1 o_v0
  refine r_aload_n (pc := 5) C dX11_refused_5 0 rfl ?_
  refine r_iconst (pc := 6) C (v := (-1 : Int32)) dX11_refused_6 (by decide) ?_
  refine r_puti (pc := 7) C pfL_X11_9 dX11_refused_7 o_v0 ?_
  refine r_heap (fun S2 eS2 => ?_)
  have h := h S2 eS2
  have o_v0 := ob_I eS2 o_v0
  refine r_iconst (pc := 10) C (v := (-1 : Int32)) dX11_refused_10 (by decide) ?_
  exact r_iret (pc := 11) C E ht dX11_refused_11 (by decide) (by decide) h
def P_X11_refused (v0 : Nat) (v1 : Int32) (Q : Int32 → HS → Prop) (S : HS) : Prop := P_X11_refused_0 Q v0 v1 S
theorem c_X11_refused {l : Launch} {Ee : EE} {S : HS} {v0 : Nat} {v1 : Int32} {Q : Int32 → HS → Prop} (h : P_X11_refused v0 v1 Q S) : MI l yX11_refused cX11_refused 2 (some .int) rm_X11_refused Ee S [.ref v0, .int v1] Q :=
  openI (by decide) (Nat.le_of_ble_eq_true rfl) (fun X C E ht hn hE hl => by subst hE; exact r_sub [0, 1] rfl (T_X11_refused_0 C E ht hn h))
def rm_X11_lost : Room := { frames := 1, cells := 0, slots := 0, locals := 21 }
def P_X11_lost_0 (Q : Int32 → HS → Prop) (v0 : Nat) (v1 : Int32) (S : HS) : Prop := ob S v0 11 ∧ (P_X11_refused v0 v1 (fun x3 S1 => Gr S S1 → (Q (-100 : Int32) S1)) S)
set_option maxRecDepth 20000 in
set_option maxHeartbeats 4000000 in
theorem T_X11_lost_0 {X : CX} {Q : Int32 → HS → Prop} (C : Cx X cX11_lost RX11 2 rm_X11_lost) (E : ReI X rm_X11_lost Q) (ht : (xh X).sig.returnType = (some .int)) (hn : (xh X).name = yX11_lost.name) {v0 : Nat} {v1 : Int32} {S : HS} (h : P_X11_lost_0 Q v0 v1 S) : WS X 2 0 0 0 [(0, .ref v0), (1, .int v1)] [] S := by
  refine r_aload_n (pc := 0) C dX11_lost_0 0 rfl ?_
  refine r_iload_n (pc := 1) C dX11_lost_1 1 rfl ?_
  obtain ⟨o_v0, h⟩ := h
  refine r_callVi0 (pc := 2) C (rest := []) (a := v0) o_v0 [.int v1] yV_X11_refused g_1250 (c_X11_refused h) dX11_lost_2 rfl rfl (Nat.le_of_ble_eq_true rfl) ⟨by decide, by decide⟩ ⟨by decide, by decide⟩ ⟨rfl, rfl⟩ (fun x3 S1 h g2 => ?_)
  have h := h g2
  have o_v0 := gr_ob g2 o_v0
  refine r_pop (pc := 5) C dX11_lost_5 rfl ?_
  refine r_bipush (pc := 6) C (v := (-100 : Int32)) dX11_lost_6 (by decide) ?_
  exact r_iret (pc := 8) C E ht dX11_lost_8 (by decide) (by decide) h
def P_X11_lost (v0 : Nat) (v1 : Int32) (Q : Int32 → HS → Prop) (S : HS) : Prop := P_X11_lost_0 Q v0 v1 S
theorem c_X11_lost {l : Launch} {Ee : EE} {S : HS} {v0 : Nat} {v1 : Int32} {Q : Int32 → HS → Prop} (h : P_X11_lost v0 v1 Q S) : MI l yX11_lost cX11_lost 2 (some .int) rm_X11_lost Ee S [.ref v0, .int v1] Q :=
  openI (by decide) (Nat.le_of_ble_eq_true rfl) (fun X C E ht hn hE hl => by subst hE; exact r_sub [0, 1] rfl (T_X11_lost_0 C E ht hn h))
def rm_X11_air : Room := { frames := 2, cells := 0, slots := 0, locals := 46 }
def P_X11_air_30 (Q : Int32 → HS → Prop) (v0 : Nat) (S : HS) : Prop := ob S v0 11 ∧ (P_X11_lost v0 (1 : Int32) (fun x3 S1 => Gr S S1 → (Q x3 S1)) S)
set_option maxRecDepth 20000 in
set_option maxHeartbeats 4000000 in
theorem T_X11_air_30 {X : CX} {Q : Int32 → HS → Prop} (C : Cx X cX11_air RX11 4 rm_X11_air) (E : ReI X rm_X11_air Q) (ht : (xh X).sig.returnType = (some .int)) (hn : (xh X).name = yX11_air.name) {v0 : Nat} {S : HS} (h : P_X11_air_30 Q v0 S) : WS X 4 0 0 30 [(0, .ref v0)] [] S := by
  refine r_aload_n (pc := 30) C dX11_air_30 0 rfl ?_
  refine r_iconst (pc := 31) C (v := (1 : Int32)) dX11_air_31 (by decide) ?_
  obtain ⟨o_v0, h⟩ := h
  refine r_callVi0 (pc := 32) C (rest := []) (a := v0) o_v0 [.int (1 : Int32)] yV_X11_lost g_1615 (c_X11_lost h) dX11_air_32 rfl rfl (Nat.le_of_ble_eq_true rfl) ⟨by decide, by decide⟩ ⟨by decide, by decide⟩ ⟨rfl, rfl⟩ (fun x3 S1 h g2 => ?_)
  have h := h g2
  have o_v0 := gr_ob g2 o_v0
  exact r_iret (pc := 35) C E ht dX11_air_35 (by decide) (by decide) h
def P_X11_air_0 (Q : Int32 → HS → Prop) (v0 : Nat) (v1 : Int32) (v2 : Int32) (v3 : Int32) (S : HS) : Prop := ob S v0 11 ∧ (∀ S1 : HS, S1 = sI S v0 0 (0 : Int32) → (P_X11_isRoad v0 v1 (fun x4 S2 => Gr S1 S2 → bl x4 → (((x4 = 0) → (P_X11_air_30 Q v0 S2)) ∧ ((¬ x4 = 0) → (P_X11_in v2 (0 : Int32) (1 : Int32) (fun x8 S6 => Gr S2 S6 → bl x8 → (((x8 = 0) → (P_X11_air_30 Q v0 S6)) ∧ ((¬ x8 = 0) → (P_X11_isHour v0 v3 (fun x12 S10 => Gr S6 S10 → bl x12 → (((¬ x12 = 0) → (∃ a14 : Nat, fR S10 v0 3 = some a14 ∧ (ob S10 a14 10 ∧ (P_X10_air a14 v1 v2 v3 (fun x17 S15 => Gr S10 S15 → (P_X11_good v0 x17 (fun x20 S18 => Gr S15 S18 → (Q x20 S18)) S15)) S10)))) ∧ ((x12 = 0) → (P_X11_air_30 Q v0 S10)))) S6)))) S2)))) S1))
set_option maxRecDepth 20000 in
set_option maxHeartbeats 4000000 in
theorem T_X11_air_0 {X : CX} {Q : Int32 → HS → Prop} (C : Cx X cX11_air RX11 4 rm_X11_air) (E : ReI X rm_X11_air Q) (ht : (xh X).sig.returnType = (some .int)) (hn : (xh X).name = yX11_air.name) {v0 : Nat} {v1 : Int32} {v2 : Int32} {v3 : Int32} {S : HS} (h : P_X11_air_0 Q v0 v1 v2 v3 S) : WS X 4 0 0 0 [(0, .ref v0), (1, .int v1), (2, .int v2), (3, .int v3)] [] S := by
  refine r_aload_n (pc := 0) C dX11_air_0 0 rfl ?_
  refine r_iconst (pc := 1) C (v := (0 : Int32)) dX11_air_1 (by decide) ?_
  obtain ⟨o_v0, h⟩ := h
  refine r_puti (pc := 2) C pfL_X11_40 dX11_air_2 o_v0 ?_
  refine r_heap (fun S1 eS1 => ?_)
  have h := h S1 eS1
  have o_v0 := ob_I eS1 o_v0
  refine r_aload_n (pc := 5) C dX11_air_5 0 rfl ?_
  refine r_iload_n (pc := 6) C dX11_air_6 1 rfl ?_
  refine r_callVi0 (pc := 7) C (rest := []) (a := v0) o_v0 [.int v1] yV_X11_isRoad g_1542 (c_X11_isRoad h) dX11_air_7 rfl rfl (Nat.le_of_ble_eq_true rfl) ⟨by decide, by decide⟩ ⟨by decide, by decide⟩ ⟨rfl, rfl⟩ (fun x4 S2 h g3 => ?_)
  have bx4 := h.1
  have h := h.2 g3 bx4
  have o_v0 := gr_ob g3 o_v0
  refine r_if_eq (pc := 10) C (tgt := 30) dX11_air_10 (by decide) (fun c5 => ?_) (fun c5 => ?_)
  · have h := h.1 c5
    exact r_sub [0] rfl (T_X11_air_30 C E ht hn h)
  · have h := h.2 c5
    refine r_iload_n (pc := 13) C dX11_air_13 2 rfl ?_
    refine r_iconst (pc := 14) C (v := (0 : Int32)) dX11_air_14 (by decide) ?_
    refine r_iconst (pc := 15) C (v := (1 : Int32)) dX11_air_15 (by decide) ?_
    refine r_callSi0 (pc := 16) C (rest := []) rfl [.int v2, .int (0 : Int32), .int (1 : Int32)] yS_X11_in g_1434 (c_X11_in h) dX11_air_16 rfl rfl (Nat.le_of_ble_eq_true rfl) ⟨by decide, by decide⟩ ⟨by decide, by decide⟩ ⟨rfl, rfl⟩ (fun x8 S6 h g7 => ?_)
    have bx8 := h.1
    have h := h.2 g7 bx8
    have o_v0 := gr_ob g7 o_v0
    refine r_if_eq (pc := 19) C (tgt := 30) dX11_air_19 (by decide) (fun c9 => ?_) (fun c9 => ?_)
    · have h := h.1 c9
      exact r_sub [0] rfl (T_X11_air_30 C E ht hn h)
    · have h := h.2 c9
      refine r_aload_n (pc := 22) C dX11_air_22 0 rfl ?_
      refine r_iload_n (pc := 23) C dX11_air_23 3 rfl ?_
      refine r_callVi0 (pc := 24) C (rest := []) (a := v0) o_v0 [.int v3] yV_X11_isHour g_1546 (c_X11_isHour h) dX11_air_24 rfl rfl (Nat.le_of_ble_eq_true rfl) ⟨by decide, by decide⟩ ⟨by decide, by decide⟩ ⟨rfl, rfl⟩ (fun x12 S10 h g11 => ?_)
      have bx12 := h.1
      have h := h.2 g11 bx12
      have o_v0 := gr_ob g11 o_v0
      refine r_if_ne (pc := 27) C (tgt := 36) dX11_air_27 (by decide) (fun c13 => ?_) (fun c13 => ?_)
      · have h := h.1 c13
        refine r_aload_n (pc := 36) C dX11_air_36 0 rfl ?_
        refine r_aload_n (pc := 37) C dX11_air_37 0 rfl ?_
        obtain ⟨a14, ea14, h⟩ := h
        refine r_getr (pc := 38) C fL_X11_338 dX11_air_38 o_v0 ea14 ?_
        refine r_iload_n (pc := 41) C dX11_air_41 1 rfl ?_
        refine r_iload_n (pc := 42) C dX11_air_42 2 rfl ?_
        refine r_iload_n (pc := 43) C dX11_air_43 3 rfl ?_
        obtain ⟨o_a14, h⟩ := h
        refine r_callVi0 (pc := 44) C (rest := [.ref v0]) (a := a14) o_a14 [.int v1, .int v2, .int v3] yV_X10_air g_1562 (c_X10_air h) dX11_air_44 rfl rfl (Nat.le_of_ble_eq_true rfl) ⟨by decide, by decide⟩ ⟨by decide, by decide⟩ ⟨rfl, rfl⟩ (fun x17 S15 h g16 => ?_)
        have h := h g16
        have o_a14 := gr_ob g16 o_a14
        have o_v0 := gr_ob g16 o_v0
        refine r_callVi0 (pc := 47) C (rest := []) (a := v0) o_v0 [.int x17] yV_X11_good g_1518 (c_X11_good h) dX11_air_47 rfl rfl (Nat.le_of_ble_eq_true rfl) ⟨by decide, by decide⟩ ⟨by decide, by decide⟩ ⟨rfl, rfl⟩ (fun x20 S18 h g19 => ?_)
        have h := h g19
        have o_a14 := gr_ob g19 o_a14
        have o_v0 := gr_ob g19 o_v0
        exact r_iret (pc := 50) C E ht dX11_air_50 (by decide) (by decide) h
      · have h := h.2 c13
        exact r_sub [0] rfl (T_X11_air_30 C E ht hn h)
def P_X11_air (v0 : Nat) (v1 : Int32) (v2 : Int32) (v3 : Int32) (Q : Int32 → HS → Prop) (S : HS) : Prop := P_X11_air_0 Q v0 v1 v2 v3 S
theorem c_X11_air {l : Launch} {Ee : EE} {S : HS} {v0 : Nat} {v1 : Int32} {v2 : Int32} {v3 : Int32} {Q : Int32 → HS → Prop} (h : P_X11_air v0 v1 v2 v3 Q S) : MI l yX11_air cX11_air 4 (some .int) rm_X11_air Ee S [.ref v0, .int v1, .int v2, .int v3] Q :=
  openI (by decide) (Nat.le_of_ble_eq_true rfl) (fun X C E ht hn hE hl => by subst hE; exact r_sub [0, 1, 2, 3] rfl (T_X11_air_0 C E ht hn h))
def rm_X11_denied : Room := { frames := 1, cells := 0, slots := 0, locals := 21 }
def P_X11_denied_0 (Q : Int32 → HS → Prop) (v0 : Nat) (v1 : Int32) (S : HS) : Prop := ob S v0 11 ∧ (P_X11_refused v0 v1 (fun x3 S1 => Gr S S1 → (Q (0 : Int32) S1)) S)
set_option maxRecDepth 20000 in
set_option maxHeartbeats 4000000 in
theorem T_X11_denied_0 {X : CX} {Q : Int32 → HS → Prop} (C : Cx X cX11_denied RX11 2 rm_X11_denied) (E : ReI X rm_X11_denied (fun r S => bl r ∧ Q r S)) (ht : (xh X).sig.returnType = (some .boolean)) (hn : (xh X).name = yX11_denied.name) {v0 : Nat} {v1 : Int32} {S : HS} (h : P_X11_denied_0 Q v0 v1 S) : WS X 2 0 0 0 [(0, .ref v0), (1, .int v1)] [] S := by
  refine r_aload_n (pc := 0) C dX11_denied_0 0 rfl ?_
  refine r_iload_n (pc := 1) C dX11_denied_1 1 rfl ?_
  obtain ⟨o_v0, h⟩ := h
  refine r_callVi0 (pc := 2) C (rest := []) (a := v0) o_v0 [.int v1] yV_X11_refused g_1250 (c_X11_refused h) dX11_denied_2 rfl rfl (Nat.le_of_ble_eq_true rfl) ⟨by decide, by decide⟩ ⟨by decide, by decide⟩ ⟨rfl, rfl⟩ (fun x3 S1 h g2 => ?_)
  have h := h g2
  have o_v0 := gr_ob g2 o_v0
  refine r_pop (pc := 5) C dX11_denied_5 rfl ?_
  refine r_iconst (pc := 6) C (v := (0 : Int32)) dX11_denied_6 (by decide) ?_
  exact r_zret (pc := 7) C E ht dX11_denied_7 (by decide) (by decide) (Or.inl rfl) h
def P_X11_denied (v0 : Nat) (v1 : Int32) (Q : Int32 → HS → Prop) (S : HS) : Prop := P_X11_denied_0 Q v0 v1 S
theorem c_X11_denied {l : Launch} {Ee : EE} {S : HS} {v0 : Nat} {v1 : Int32} {Q : Int32 → HS → Prop} (h : P_X11_denied v0 v1 Q S) : MI l yX11_denied cX11_denied 2 (some .boolean) rm_X11_denied Ee S [.ref v0, .int v1] (fun r S => bl r ∧ Q r S) :=
  openI (by decide) (Nat.le_of_ble_eq_true rfl) (fun X C E ht hn hE hl => by subst hE; exact r_sub [0, 1] rfl (T_X11_denied_0 C E ht hn h))
def rm_X11_granted : Room := { frames := 1, cells := 0, slots := 0, locals := 21 }
def P_X11_granted_0 (Q : Int32 → HS → Prop) (v0 : Nat) (S : HS) : Prop := ob S v0 11 ∧ (P_X11_good v0 (0 : Int32) (fun x3 S1 => Gr S S1 → (Q (1 : Int32) S1)) S)
set_option maxRecDepth 20000 in
set_option maxHeartbeats 4000000 in
theorem T_X11_granted_0 {X : CX} {Q : Int32 → HS → Prop} (C : Cx X cX11_granted RX11 1 rm_X11_granted) (E : ReI X rm_X11_granted (fun r S => bl r ∧ Q r S)) (ht : (xh X).sig.returnType = (some .boolean)) (hn : (xh X).name = yX11_granted.name) {v0 : Nat} {S : HS} (h : P_X11_granted_0 Q v0 S) : WS X 1 0 0 0 [(0, .ref v0)] [] S := by
  refine r_aload_n (pc := 0) C dX11_granted_0 0 rfl ?_
  refine r_iconst (pc := 1) C (v := (0 : Int32)) dX11_granted_1 (by decide) ?_
  obtain ⟨o_v0, h⟩ := h
  refine r_callVi0 (pc := 2) C (rest := []) (a := v0) o_v0 [.int (0 : Int32)] yV_X11_good g_1518 (c_X11_good h) dX11_granted_2 rfl rfl (Nat.le_of_ble_eq_true rfl) ⟨by decide, by decide⟩ ⟨by decide, by decide⟩ ⟨rfl, rfl⟩ (fun x3 S1 h g2 => ?_)
  have h := h g2
  have o_v0 := gr_ob g2 o_v0
  refine r_pop (pc := 5) C dX11_granted_5 rfl ?_
  refine r_iconst (pc := 6) C (v := (1 : Int32)) dX11_granted_6 (by decide) ?_
  exact r_zret (pc := 7) C E ht dX11_granted_7 (by decide) (by decide) (Or.inr rfl) h
def P_X11_granted (v0 : Nat) (Q : Int32 → HS → Prop) (S : HS) : Prop := P_X11_granted_0 Q v0 S
theorem c_X11_granted {l : Launch} {Ee : EE} {S : HS} {v0 : Nat} {Q : Int32 → HS → Prop} (h : P_X11_granted v0 Q S) : MI l yX11_granted cX11_granted 1 (some .boolean) rm_X11_granted Ee S [.ref v0] (fun r S => bl r ∧ Q r S) :=
  openI (by decide) (Nat.le_of_ble_eq_true rfl) (fun X C E ht hn hE hl => by subst hE; exact r_sub [0] rfl (T_X11_granted_0 C E ht hn h))
def rm_X11_isDay : Room := { frames := 0, cells := 0, slots := 0, locals := 0 }
def P_X11_isDay_0 (Q : Int32 → HS → Prop) (v0 : Nat) (S : HS) : Prop := ob S v0 11 ∧ ((fR S v0 3 = none → (Q (0 : Int32) S)) ∧ (∀ a1 : Nat, fR S v0 3 = some a1 → (∀ x3 : Int32, x3 = fI S v0 19 → (((x3 = (-2 : Int32)) → (Q (0 : Int32) S)) ∧ ((¬ x3 = (-2 : Int32)) → (Q (1 : Int32) S))))))
set_option maxRecDepth 20000 in
set_option maxHeartbeats 4000000 in
theorem T_X11_isDay_0 {X : CX} {Q : Int32 → HS → Prop} (C : Cx X cX11_isDay RX11 1 rm_X11_isDay) (E : ReI X rm_X11_isDay (fun r S => bl r ∧ Q r S)) (ht : (xh X).sig.returnType = (some .boolean)) (hn : (xh X).name = yX11_isDay.name) {v0 : Nat} {S : HS} (h : P_X11_isDay_0 Q v0 S) : WS X 1 0 0 0 [(0, .ref v0)] [] S := by
  refine r_aload_n (pc := 0) C dX11_isDay_0 0 rfl ?_
  obtain ⟨o_v0, h⟩ := h
  rcases e2 : fR S v0 3 with _ | a1
  · refine r_get0 (pc := 1) C fL_X11_338 dX11_isDay_1 o_v0 e2 ?_
    refine r_ifnull0 (pc := 4) C (tgt := 20) dX11_isDay_4 (by decide) ?_
    have h := h.1 e2
    refine r_iconst (pc := 20) C (v := (0 : Int32)) dX11_isDay_20 (by decide) ?_
    exact r_zret (pc := 21) C E ht dX11_isDay_21 (by decide) (by decide) (Or.inl rfl) h
  · refine r_getr (pc := 1) C fL_X11_338 dX11_isDay_1 o_v0 e2 ?_
    refine r_ifnull (pc := 4) C dX11_isDay_4 ?_
    have h := h.2 a1 e2
    refine r_aload_n (pc := 7) C dX11_isDay_7 0 rfl ?_
    refine r_geti (pc := 8) C fL_X11_28 dX11_isDay_8 o_v0 ?_
    refine r_topi (fun x3 ex3 => ?_)
    have h := h x3 ex3
    refine r_bipush (pc := 11) C (v := (-2 : Int32)) dX11_isDay_11 (by decide) ?_
    refine r_icmp_eq (pc := 13) C (tgt := 20) dX11_isDay_13 (by decide) (fun c4 => ?_) (fun c4 => ?_)
    · have h := h.1 c4
      refine r_iconst (pc := 20) C (v := (0 : Int32)) dX11_isDay_20 (by decide) ?_
      exact r_zret (pc := 21) C E ht dX11_isDay_21 (by decide) (by decide) (Or.inl rfl) h
    · have h := h.2 c4
      refine r_iconst (pc := 16) C (v := (1 : Int32)) dX11_isDay_16 (by decide) ?_
      refine r_goto (pc := 17) C (tgt := 21) dX11_isDay_17 (by decide) ?_
      exact r_zret (pc := 21) C E ht dX11_isDay_21 (by decide) (by decide) (Or.inr rfl) h
def P_X11_isDay (v0 : Nat) (Q : Int32 → HS → Prop) (S : HS) : Prop := P_X11_isDay_0 Q v0 S
theorem c_X11_isDay {l : Launch} {Ee : EE} {S : HS} {v0 : Nat} {Q : Int32 → HS → Prop} (h : P_X11_isDay v0 Q S) : MI l yX11_isDay cX11_isDay 1 (some .boolean) rm_X11_isDay Ee S [.ref v0] (fun r S => bl r ∧ Q r S) :=
  openI (by decide) (Nat.le_of_ble_eq_true rfl) (fun X C E ht hn hE hl => by subst hE; exact r_sub [0] rfl (T_X11_isDay_0 C E ht hn h))
def rm_X11_back : Room := { frames := 2, cells := 0, slots := 0, locals := 42 }
def P_X11_back_24 (Q : Int32 → HS → Prop) (v0 : Nat) (S : HS) : Prop := ob S v0 11 ∧ (P_X11_denied v0 (1 : Int32) (fun x3 S1 => Gr S S1 → bl x3 → (bl x3 ∧ Q x3 S1)) S)
set_option maxRecDepth 20000 in
set_option maxHeartbeats 4000000 in
theorem T_X11_back_24 {X : CX} {Q : Int32 → HS → Prop} (C : Cx X cX11_back RX11 3 rm_X11_back) (E : ReI X rm_X11_back (fun r S => bl r ∧ Q r S)) (ht : (xh X).sig.returnType = (some .boolean)) (hn : (xh X).name = yX11_back.name) {v0 : Nat} {S : HS} (h : P_X11_back_24 Q v0 S) : WS X 3 0 0 24 [(0, .ref v0)] [] S := by
  refine r_aload_n (pc := 24) C dX11_back_24 0 rfl ?_
  refine r_iconst (pc := 25) C (v := (1 : Int32)) dX11_back_25 (by decide) ?_
  obtain ⟨o_v0, h⟩ := h
  refine r_callVi0 (pc := 26) C (rest := []) (a := v0) o_v0 [.int (1 : Int32)] yV_X11_denied g_1795 (c_X11_denied h) dX11_back_26 rfl rfl (Nat.le_of_ble_eq_true rfl) ⟨by decide, by decide⟩ ⟨by decide, by decide⟩ ⟨rfl, rfl⟩ (fun x3 S1 h g2 => ?_)
  have bx3 := h.1
  have h := h.2 g2 bx3
  have o_v0 := gr_ob g2 o_v0
  exact r_zret (pc := 29) C E ht dX11_back_29 (by decide) (by decide) h.1 h.2
def B_X11_back_32 (Q : Int32 → HS → Prop) (X32 : Nat → Int32 → Int32 → HS → Prop) (v0 : Nat) (v1 : Int32) (v2 : Int32) (S : HS) : Prop := (((7 : Int32) ≤ v2) → (ob S v0 11 ∧ (∀ S2 : HS, S2 = sI S v0 24 (0 : Int32) → (P_X11_granted v0 (fun x5 S3 => Gr S2 S3 → bl x5 → (bl x5 ∧ Q x5 S3)) S2)))) ∧ ((¬ (7 : Int32) ≤ v2) → (ob S v0 11 ∧ (∃ a6 : Nat, fR S v0 21 = some a6 ∧ (∃ a7 : Nat, fR S v0 23 = some a7 ∧ (ob S a7 14 ∧ (∀ x9 : Int32, x9 = ((7 : Int32) * v1) + v2 → (vp_in x9 (hN S a7) ∧ ∀ x10 : Int64, x10 = fJ S a7 x9.toNatClampNeg → (ob S a6 14 ∧ (vp_in v2 (hN S a6) ∧ (∀ S12 : HS, S12 = sJ S a6 v2.toNatClampNeg x10 → (∀ x13 : Int32, x13 = v2 + (1 : Int32) → (X32 v0 v1 x13 S12))))))))))))
def P_X11_back_32 (Q : Int32 → HS → Prop) (v0 : Nat) (v1 : Int32) (v2 : Int32) (S : HS) : Prop := ∀ X32 : Nat → Int32 → Int32 → HS → Prop, (∀ (v0 : Nat) (v1 : Int32) (v2 : Int32) (S : HS), B_X11_back_32 Q X32 v0 v1 v2 S → X32 v0 v1 v2 S) → X32 v0 v1 v2 S
set_option maxRecDepth 20000 in
set_option maxHeartbeats 4000000 in
theorem TB_X11_back_32 {X : CX} {Q : Int32 → HS → Prop} (C : Cx X cX11_back RX11 3 rm_X11_back) (E : ReI X rm_X11_back (fun r S => bl r ∧ Q r S)) (ht : (xh X).sig.returnType = (some .boolean)) (hn : (xh X).name = yX11_back.name) {X32 : Nat → Int32 → Int32 → HS → Prop} (hX32 : ∀ (v0 : Nat) (v1 : Int32) (v2 : Int32) (S : HS), X32 v0 v1 v2 S → WS X 3 0 0 32 [(0, .ref v0), (1, .int v1), (2, .int v2)] [] S) {v0 : Nat} {v1 : Int32} {v2 : Int32} {S : HS} (h : B_X11_back_32 Q X32 v0 v1 v2 S) : WS X 3 0 0 32 [(0, .ref v0), (1, .int v1), (2, .int v2)] [] S := by
  refine r_iload_n (pc := 32) C dX11_back_32 2 rfl ?_
  refine r_bipush (pc := 33) C (v := (7 : Int32)) dX11_back_33 (by decide) ?_
  refine r_icmp_ge (pc := 35) C (tgt := 61) dX11_back_35 (by decide) (fun c1 => ?_) (fun c1 => ?_)
  · have h := h.1 c1
    refine r_aload_n (pc := 61) C dX11_back_61 0 rfl ?_
    refine r_iconst (pc := 62) C (v := (0 : Int32)) dX11_back_62 (by decide) ?_
    obtain ⟨o_v0, h⟩ := h
    refine r_puti (pc := 63) C pfL_X11_340 dX11_back_63 o_v0 ?_
    refine r_heap (fun S2 eS2 => ?_)
    have h := h S2 eS2
    have o_v0 := ob_I eS2 o_v0
    refine r_aload_n (pc := 66) C dX11_back_66 0 rfl ?_
    refine r_callVi0 (pc := 67) C (rest := []) (a := v0) o_v0 [] yV_X11_granted g_1800 (c_X11_granted h) dX11_back_67 rfl rfl (Nat.le_of_ble_eq_true rfl) ⟨by decide, by decide⟩ ⟨by decide, by decide⟩ ⟨rfl, rfl⟩ (fun x5 S3 h g4 => ?_)
    have bx5 := h.1
    have h := h.2 g4 bx5
    have o_v0 := gr_ob g4 o_v0
    exact r_zret (pc := 70) C E ht dX11_back_70 (by decide) (by decide) h.1 h.2
  · have h := h.2 c1
    refine r_aload_n (pc := 38) C dX11_back_38 0 rfl ?_
    obtain ⟨o_v0, h⟩ := h
    obtain ⟨a6, ea6, h⟩ := h
    refine r_getr (pc := 39) C fL_X11_31 dX11_back_39 o_v0 ea6 ?_
    refine r_iload_n (pc := 42) C dX11_back_42 2 rfl ?_
    refine r_aload_n (pc := 43) C dX11_back_43 0 rfl ?_
    obtain ⟨a7, ea7, h⟩ := h
    refine r_getr (pc := 44) C fL_X11_37 dX11_back_44 o_v0 ea7 ?_
    refine r_bipush (pc := 47) C (v := (7 : Int32)) dX11_back_47 (by decide) ?_
    refine r_iload_n (pc := 49) C dX11_back_49 1 rfl ?_
    refine r_imul (pc := 50) C dX11_back_50 ?_
    refine r_iload_n (pc := 51) C dX11_back_51 2 rfl ?_
    refine r_iadd (pc := 52) C dX11_back_52 ?_
    obtain ⟨o_a7, h⟩ := h
    refine r_topi (fun x9 ex9 => ?_)
    have h := h x9 ex9
    obtain ⟨i8, h⟩ := h
    refine r_lald (pc := 53) C dX11_back_53 o_a7 i8 ?_
    refine r_topl (fun x10 ex10 => ?_)
    have h := h x10 ex10
    obtain ⟨o_a6, h⟩ := h
    obtain ⟨i11, h⟩ := h
    refine r_last (pc := 54) C dX11_back_54 o_a6 i11 ?_
    refine r_heap (fun S12 eS12 => ?_)
    have h := h S12 eS12
    have o_a6 := ob_J eS12 o_a6
    have o_a7 := ob_J eS12 o_a7
    have o_v0 := ob_J eS12 o_v0
    obtain ⟨x13, ex13⟩ : ∃ z : Int32, z = v2 + (1 : Int32) := ⟨_, rfl⟩
    have h := h x13 ex13
    refine r_iinc (pc := 55) C (v := x13) (lv' := [(2, .int x13), (0, .ref v0), (1, .int v1)]) dX11_back_55 2 rfl ex13.symm (by decide) rfl ?_
    refine r_goto (pc := 58) C (tgt := 32) dX11_back_58 (by decide) ?_
    exact r_sub [1, 2, 0] rfl (hX32 v0 v1 x13 S12 h)
theorem T_X11_back_32 {X : CX} {Q : Int32 → HS → Prop} (C : Cx X cX11_back RX11 3 rm_X11_back) (E : ReI X rm_X11_back (fun r S => bl r ∧ Q r S)) (ht : (xh X).sig.returnType = (some .boolean)) (hn : (xh X).name = yX11_back.name) {v0 : Nat} {v1 : Int32} {v2 : Int32} {S : HS} (h : P_X11_back_32 Q v0 v1 v2 S) : WS X 3 0 0 32 [(0, .ref v0), (1, .int v1), (2, .int v2)] [] S :=
  h (fun v0 v1 v2 S => WS X 3 0 0 32 [(0, .ref v0), (1, .int v1), (2, .int v2)] [] S) (fun v0 v1 v2 S hh => TB_X11_back_32 C E ht hn (fun v0 v1 v2 S z => z) hh)
def P_X11_back_0 (Q : Int32 → HS → Prop) (v0 : Nat) (v1 : Int32) (S : HS) : Prop := ob S v0 11 ∧ (∀ S1 : HS, S1 = sI S v0 0 (0 : Int32) → (P_X11_isDay v0 (fun x4 S2 => Gr S1 S2 → bl x4 → (((x4 = 0) → (P_X11_back_24 Q v0 S2)) ∧ ((¬ x4 = 0) → (((v1 < 0) → (P_X11_back_24 Q v0 S2)) ∧ ((¬ v1 < 0) → (∀ x7 : Int32, x7 = fI S2 v0 25 → (((v1 < x7) → (P_X11_back_32 Q v0 v1 (0 : Int32) S2)) ∧ ((¬ v1 < x7) → (P_X11_back_24 Q v0 S2))))))))) S1))
set_option maxRecDepth 20000 in
set_option maxHeartbeats 4000000 in
theorem T_X11_back_0 {X : CX} {Q : Int32 → HS → Prop} (C : Cx X cX11_back RX11 3 rm_X11_back) (E : ReI X rm_X11_back (fun r S => bl r ∧ Q r S)) (ht : (xh X).sig.returnType = (some .boolean)) (hn : (xh X).name = yX11_back.name) {v0 : Nat} {v1 : Int32} {S : HS} (h : P_X11_back_0 Q v0 v1 S) : WS X 3 0 0 0 [(0, .ref v0), (1, .int v1)] [] S := by
  refine r_aload_n (pc := 0) C dX11_back_0 0 rfl ?_
  refine r_iconst (pc := 1) C (v := (0 : Int32)) dX11_back_1 (by decide) ?_
  obtain ⟨o_v0, h⟩ := h
  refine r_puti (pc := 2) C pfL_X11_40 dX11_back_2 o_v0 ?_
  refine r_heap (fun S1 eS1 => ?_)
  have h := h S1 eS1
  have o_v0 := ob_I eS1 o_v0
  refine r_aload_n (pc := 5) C dX11_back_5 0 rfl ?_
  refine r_callVi0 (pc := 6) C (rest := []) (a := v0) o_v0 [] yV_X11_isDay g_1779 (c_X11_isDay h) dX11_back_6 rfl rfl (Nat.le_of_ble_eq_true rfl) ⟨by decide, by decide⟩ ⟨by decide, by decide⟩ ⟨rfl, rfl⟩ (fun x4 S2 h g3 => ?_)
  have bx4 := h.1
  have h := h.2 g3 bx4
  have o_v0 := gr_ob g3 o_v0
  refine r_if_eq (pc := 9) C (tgt := 24) dX11_back_9 (by decide) (fun c5 => ?_) (fun c5 => ?_)
  · have h := h.1 c5
    exact r_sub [0] rfl (T_X11_back_24 C E ht hn h)
  · have h := h.2 c5
    refine r_iload_n (pc := 12) C dX11_back_12 1 rfl ?_
    refine r_if_lt (pc := 13) C (tgt := 24) dX11_back_13 (by decide) (fun c6 => ?_) (fun c6 => ?_)
    · have h := h.1 c6
      exact r_sub [0] rfl (T_X11_back_24 C E ht hn h)
    · have h := h.2 c6
      refine r_iload_n (pc := 16) C dX11_back_16 1 rfl ?_
      refine r_aload_n (pc := 17) C dX11_back_17 0 rfl ?_
      refine r_geti (pc := 18) C fL_X11_343 dX11_back_18 o_v0 ?_
      refine r_topi (fun x7 ex7 => ?_)
      have h := h x7 ex7
      refine r_icmp_lt (pc := 21) C (tgt := 30) dX11_back_21 (by decide) (fun c8 => ?_) (fun c8 => ?_)
      · have h := h.1 c8
        refine r_iconst (pc := 30) C (v := (0 : Int32)) dX11_back_30 (by decide) ?_
        refine r_istore_n (pc := 31) C dX11_back_31 rfl (by decide) (lv' := [(2, .int (0 : Int32)), (0, .ref v0), (1, .int v1)]) rfl ?_
        exact r_sub [1, 2, 0] rfl (T_X11_back_32 C E ht hn h)
      · have h := h.2 c8
        exact r_sub [0] rfl (T_X11_back_24 C E ht hn h)
def P_X11_back (v0 : Nat) (v1 : Int32) (Q : Int32 → HS → Prop) (S : HS) : Prop := P_X11_back_0 Q v0 v1 S
theorem c_X11_back {l : Launch} {Ee : EE} {S : HS} {v0 : Nat} {v1 : Int32} {Q : Int32 → HS → Prop} (h : P_X11_back v0 v1 Q S) : MI l yX11_back cX11_back 3 (some .boolean) rm_X11_back Ee S [.ref v0, .int v1] (fun r S => bl r ∧ Q r S) :=
  openI (by decide) (Nat.le_of_ble_eq_true rfl) (fun X C E ht hn hE hl => by subst hE; exact r_sub [0, 1] rfl (T_X11_back_0 C E ht hn h))
def rm_X11_flaw : Room := { frames := 0, cells := 0, slots := 0, locals := 0 }
def P_X11_flaw_0 (Q : HS → Prop) (v0 : Nat) (v1 : Int32) (S : HS) : Prop := ob S v0 11 ∧ (∀ x1 : Int32, x1 = fI S v0 9 → (((¬ x1 = (5 : Int32)) → (∀ S3 : HS, S3 = sI S v0 13 v1 → (∀ x4 : Int32, x4 = fI S3 v0 10 → (∀ S5 : HS, S5 = sI S3 v0 14 x4 → (∀ S6 : HS, S6 = sI S5 v0 9 (5 : Int32) → (Q S6)))))) ∧ ((x1 = (5 : Int32)) → (Q S))))
set_option maxRecDepth 20000 in
set_option maxHeartbeats 4000000 in
theorem T_X11_flaw_0 {X : CX} {Q : HS → Prop} (C : Cx X cX11_flaw RX11 2 rm_X11_flaw) (E : ReV X rm_X11_flaw Q) (ht : (xh X).sig.returnType = none) (hn : (xh X).name = yX11_flaw.name) {v0 : Nat} {v1 : Int32} {S : HS} (h : P_X11_flaw_0 Q v0 v1 S) : WS X 2 0 0 0 [(0, .ref v0), (1, .int v1)] [] S := by
  refine r_aload_n (pc := 0) C dX11_flaw_0 0 rfl ?_
  obtain ⟨o_v0, h⟩ := h
  refine r_geti (pc := 1) C fL_X11_68 dX11_flaw_1 o_v0 ?_
  refine r_topi (fun x1 ex1 => ?_)
  have h := h x1 ex1
  refine r_iconst (pc := 4) C (v := (5 : Int32)) dX11_flaw_4 (by decide) ?_
  refine r_icmp_ne (pc := 5) C (tgt := 9) dX11_flaw_5 (by decide) (fun c2 => ?_) (fun c2 => ?_)
  · have h := h.1 c2
    refine r_aload_n (pc := 9) C dX11_flaw_9 0 rfl ?_
    refine r_iload_n (pc := 10) C dX11_flaw_10 1 rfl ?_
    refine r_puti (pc := 11) C pfL_X11_97 dX11_flaw_11 o_v0 ?_
    refine r_heap (fun S3 eS3 => ?_)
    have h := h S3 eS3
    have o_v0 := ob_I eS3 o_v0
    refine r_aload_n (pc := 14) C dX11_flaw_14 0 rfl ?_
    refine r_aload_n (pc := 15) C dX11_flaw_15 0 rfl ?_
    refine r_geti (pc := 16) C fL_X11_77 dX11_flaw_16 o_v0 ?_
    refine r_topi (fun x4 ex4 => ?_)
    have h := h x4 ex4
    refine r_puti (pc := 19) C pfL_X11_100 dX11_flaw_19 o_v0 ?_
    refine r_heap (fun S5 eS5 => ?_)
    have h := h S5 eS5
    have o_v0 := ob_I eS5 o_v0
    refine r_aload_n (pc := 22) C dX11_flaw_22 0 rfl ?_
    refine r_iconst (pc := 23) C (v := (5 : Int32)) dX11_flaw_23 (by decide) ?_
    refine r_puti (pc := 24) C pfL_X11_68 dX11_flaw_24 o_v0 ?_
    refine r_heap (fun S6 eS6 => ?_)
    have h := h S6 eS6
    have o_v0 := ob_I eS6 o_v0
    exact r_vret (pc := 27) C E ht dX11_flaw_27 (by decide) (by decide) h
  · have h := h.2 c2
    exact r_vret (pc := 8) C E ht dX11_flaw_8 (by decide) (by decide) h
def P_X11_flaw (v0 : Nat) (v1 : Int32) (Q : HS → Prop) (S : HS) : Prop := P_X11_flaw_0 Q v0 v1 S
theorem c_X11_flaw {l : Launch} {Ee : EE} {S : HS} {v0 : Nat} {v1 : Int32} {Q : HS → Prop} (h : P_X11_flaw v0 v1 Q S) : MV l yX11_flaw cX11_flaw 2 none rm_X11_flaw Ee S [.ref v0, .int v1] Q :=
  openV (by decide) (Nat.le_of_ble_eq_true rfl) (fun X C E ht hn hE hl => by subst hE; exact r_sub [0, 1] rfl (T_X11_flaw_0 C E ht hn h))
def rm_X11_byteAt : Room := { frames := 0, cells := 0, slots := 0, locals := 0 }
def P_X11_byteAt_0 (Q : Int32 → HS → Prop) (v0 : Nat) (v1 : Int32) (S : HS) : Prop := ob S v0 11 ∧ (∀ x1 : Int32, x1 = fI S v0 7 → (((x1 ≤ v1) → (Q (-1 : Int32) S)) ∧ ((¬ x1 ≤ v1) → (∃ a3 : Nat, fR S v0 5 = some a3 ∧ (ob S a3 12 ∧ (vp_in v1 (hN S a3) ∧ ∀ x5 : Int32, x5 = fI S a3 v1.toNatClampNeg → (Q (x5 &&& (255 : Int32)) S)))))))
set_option maxRecDepth 20000 in
set_option maxHeartbeats 4000000 in
theorem T_X11_byteAt_0 {X : CX} {Q : Int32 → HS → Prop} (C : Cx X cX11_byteAt RX11 2 rm_X11_byteAt) (E : ReI X rm_X11_byteAt Q) (ht : (xh X).sig.returnType = (some .int)) (hn : (xh X).name = yX11_byteAt.name) {v0 : Nat} {v1 : Int32} {S : HS} (h : P_X11_byteAt_0 Q v0 v1 S) : WS X 2 0 0 0 [(0, .ref v0), (1, .int v1)] [] S := by
  refine r_iload_n (pc := 0) C dX11_byteAt_0 1 rfl ?_
  refine r_aload_n (pc := 1) C dX11_byteAt_1 0 rfl ?_
  obtain ⟨o_v0, h⟩ := h
  refine r_geti (pc := 2) C fL_X11_53 dX11_byteAt_2 o_v0 ?_
  refine r_topi (fun x1 ex1 => ?_)
  have h := h x1 ex1
  refine r_icmp_ge (pc := 5) C (tgt := 21) dX11_byteAt_5 (by decide) (fun c2 => ?_) (fun c2 => ?_)
  · have h := h.1 c2
    refine r_iconst (pc := 21) C (v := (-1 : Int32)) dX11_byteAt_21 (by decide) ?_
    exact r_iret (pc := 22) C E ht dX11_byteAt_22 (by decide) (by decide) h
  · have h := h.2 c2
    refine r_aload_n (pc := 8) C dX11_byteAt_8 0 rfl ?_
    obtain ⟨a3, ea3, h⟩ := h
    refine r_getr (pc := 9) C fL_X11_13 dX11_byteAt_9 o_v0 ea3 ?_
    refine r_iload_n (pc := 12) C dX11_byteAt_12 1 rfl ?_
    obtain ⟨o_a3, h⟩ := h
    obtain ⟨i4, h⟩ := h
    refine r_bald (pc := 13) C dX11_byteAt_13 o_a3 i4 ?_
    refine r_topi (fun x5 ex5 => ?_)
    have h := h x5 ex5
    refine r_sipush (pc := 14) C (v := (255 : Int32)) dX11_byteAt_14 (by decide) ?_
    refine r_iand (pc := 17) C dX11_byteAt_17 ?_
    refine r_goto (pc := 18) C (tgt := 22) dX11_byteAt_18 (by decide) ?_
    exact r_iret (pc := 22) C E ht dX11_byteAt_22 (by decide) (by decide) h
def P_X11_byteAt (v0 : Nat) (v1 : Int32) (Q : Int32 → HS → Prop) (S : HS) : Prop := P_X11_byteAt_0 Q v0 v1 S
theorem c_X11_byteAt {l : Launch} {Ee : EE} {S : HS} {v0 : Nat} {v1 : Int32} {Q : Int32 → HS → Prop} (h : P_X11_byteAt v0 v1 Q S) : MI l yX11_byteAt cX11_byteAt 2 (some .int) rm_X11_byteAt Ee S [.ref v0, .int v1] Q :=
  openI (by decide) (Nat.le_of_ble_eq_true rfl) (fun X C E ht hn hE hl => by subst hE; exact r_sub [0, 1] rfl (T_X11_byteAt_0 C E ht hn h))
def rm_X11_isDigit : Room := { frames := 0, cells := 0, slots := 0, locals := 0 }
def P_X11_isDigit_0 (Q : Int32 → HS → Prop) (v0 : Int32) (S : HS) : Prop := ((v0 < (48 : Int32)) → (Q (0 : Int32) S)) ∧ ((¬ v0 < (48 : Int32)) → ((((57 : Int32) < v0) → (Q (0 : Int32) S)) ∧ ((¬ (57 : Int32) < v0) → (Q (1 : Int32) S))))
set_option maxRecDepth 20000 in
set_option maxHeartbeats 4000000 in
theorem T_X11_isDigit_0 {X : CX} {Q : Int32 → HS → Prop} (C : Cx X cX11_isDigit RX11 1 rm_X11_isDigit) (E : ReI X rm_X11_isDigit (fun r S => bl r ∧ Q r S)) (ht : (xh X).sig.returnType = (some .boolean)) (hn : (xh X).name = yX11_isDigit.name) {v0 : Int32} {S : HS} (h : P_X11_isDigit_0 Q v0 S) : WS X 1 0 0 0 [(0, .int v0)] [] S := by
  refine r_iload_n (pc := 0) C dX11_isDigit_0 0 rfl ?_
  refine r_bipush (pc := 1) C (v := (48 : Int32)) dX11_isDigit_1 (by decide) ?_
  refine r_icmp_lt (pc := 3) C (tgt := 16) dX11_isDigit_3 (by decide) (fun c1 => ?_) (fun c1 => ?_)
  · have h := h.1 c1
    refine r_iconst (pc := 16) C (v := (0 : Int32)) dX11_isDigit_16 (by decide) ?_
    exact r_zret (pc := 17) C E ht dX11_isDigit_17 (by decide) (by decide) (Or.inl rfl) h
  · have h := h.2 c1
    refine r_iload_n (pc := 6) C dX11_isDigit_6 0 rfl ?_
    refine r_bipush (pc := 7) C (v := (57 : Int32)) dX11_isDigit_7 (by decide) ?_
    refine r_icmp_gt (pc := 9) C (tgt := 16) dX11_isDigit_9 (by decide) (fun c2 => ?_) (fun c2 => ?_)
    · have h := h.1 c2
      refine r_iconst (pc := 16) C (v := (0 : Int32)) dX11_isDigit_16 (by decide) ?_
      exact r_zret (pc := 17) C E ht dX11_isDigit_17 (by decide) (by decide) (Or.inl rfl) h
    · have h := h.2 c2
      refine r_iconst (pc := 12) C (v := (1 : Int32)) dX11_isDigit_12 (by decide) ?_
      refine r_goto (pc := 13) C (tgt := 17) dX11_isDigit_13 (by decide) ?_
      exact r_zret (pc := 17) C E ht dX11_isDigit_17 (by decide) (by decide) (Or.inr rfl) h
def P_X11_isDigit (v0 : Int32) (Q : Int32 → HS → Prop) (S : HS) : Prop := P_X11_isDigit_0 Q v0 S
theorem c_X11_isDigit {l : Launch} {Ee : EE} {S : HS} {v0 : Int32} {Q : Int32 → HS → Prop} (h : P_X11_isDigit v0 Q S) : MI l yX11_isDigit cX11_isDigit 1 (some .boolean) rm_X11_isDigit Ee S [.int v0] (fun r S => bl r ∧ Q r S) :=
  openI (by decide) (Nat.le_of_ble_eq_true rfl) (fun X C E ht hn hE hl => by subst hE; exact r_sub [0] rfl (T_X11_isDigit_0 C E ht hn h))
def rm_X11_isLetter : Room := { frames := 0, cells := 0, slots := 0, locals := 0 }
def P_X11_isLetter_0 (Q : Int32 → HS → Prop) (v0 : Int32) (S : HS) : Prop := ((v0 < (97 : Int32)) → (Q (0 : Int32) S)) ∧ ((¬ v0 < (97 : Int32)) → ((((122 : Int32) < v0) → (Q (0 : Int32) S)) ∧ ((¬ (122 : Int32) < v0) → (Q (1 : Int32) S))))
set_option maxRecDepth 20000 in
set_option maxHeartbeats 4000000 in
theorem T_X11_isLetter_0 {X : CX} {Q : Int32 → HS → Prop} (C : Cx X cX11_isLetter RX11 1 rm_X11_isLetter) (E : ReI X rm_X11_isLetter (fun r S => bl r ∧ Q r S)) (ht : (xh X).sig.returnType = (some .boolean)) (hn : (xh X).name = yX11_isLetter.name) {v0 : Int32} {S : HS} (h : P_X11_isLetter_0 Q v0 S) : WS X 1 0 0 0 [(0, .int v0)] [] S := by
  refine r_iload_n (pc := 0) C dX11_isLetter_0 0 rfl ?_
  refine r_bipush (pc := 1) C (v := (97 : Int32)) dX11_isLetter_1 (by decide) ?_
  refine r_icmp_lt (pc := 3) C (tgt := 16) dX11_isLetter_3 (by decide) (fun c1 => ?_) (fun c1 => ?_)
  · have h := h.1 c1
    refine r_iconst (pc := 16) C (v := (0 : Int32)) dX11_isLetter_16 (by decide) ?_
    exact r_zret (pc := 17) C E ht dX11_isLetter_17 (by decide) (by decide) (Or.inl rfl) h
  · have h := h.2 c1
    refine r_iload_n (pc := 6) C dX11_isLetter_6 0 rfl ?_
    refine r_bipush (pc := 7) C (v := (122 : Int32)) dX11_isLetter_7 (by decide) ?_
    refine r_icmp_gt (pc := 9) C (tgt := 16) dX11_isLetter_9 (by decide) (fun c2 => ?_) (fun c2 => ?_)
    · have h := h.1 c2
      refine r_iconst (pc := 16) C (v := (0 : Int32)) dX11_isLetter_16 (by decide) ?_
      exact r_zret (pc := 17) C E ht dX11_isLetter_17 (by decide) (by decide) (Or.inl rfl) h
    · have h := h.2 c2
      refine r_iconst (pc := 12) C (v := (1 : Int32)) dX11_isLetter_12 (by decide) ?_
      refine r_goto (pc := 13) C (tgt := 17) dX11_isLetter_13 (by decide) ?_
      exact r_zret (pc := 17) C E ht dX11_isLetter_17 (by decide) (by decide) (Or.inr rfl) h
def P_X11_isLetter (v0 : Int32) (Q : Int32 → HS → Prop) (S : HS) : Prop := P_X11_isLetter_0 Q v0 S
theorem c_X11_isLetter {l : Launch} {Ee : EE} {S : HS} {v0 : Int32} {Q : Int32 → HS → Prop} (h : P_X11_isLetter v0 Q S) : MI l yX11_isLetter cX11_isLetter 1 (some .boolean) rm_X11_isLetter Ee S [.int v0] (fun r S => bl r ∧ Q r S) :=
  openI (by decide) (Nat.le_of_ble_eq_true rfl) (fun X C E ht hn hE hl => by subst hE; exact r_sub [0] rfl (T_X11_isLetter_0 C E ht hn h))
def rm_X11_goesOn : Room := { frames := 1, cells := 0, slots := 0, locals := 21 }
def P_X11_goesOn_136 (Q : HS → Prop) (X89 : Nat → Int32 → HS → Prop) (v0 : Nat) (v2 : Int32) (S : HS) : Prop := ∀ x1 : Int32, x1 = v2 + (1 : Int32) → (ob S v0 11 ∧ (∀ x2 : Int32, x2 = fI S v0 8 → (∀ x3 : Int32, x3 = x2 + (1 : Int32) → (∀ S4 : HS, S4 = sI S v0 8 x3 → (X89 v0 x1 S4)))))
set_option maxRecDepth 20000 in
set_option maxHeartbeats 4000000 in
theorem T_X11_goesOn_136 {X : CX} {Q : HS → Prop} (C : Cx X cX11_goesOn RX11 3 rm_X11_goesOn) (E : ReV X rm_X11_goesOn Q) (ht : (xh X).sig.returnType = none) (hn : (xh X).name = yX11_goesOn.name) {X89 : Nat → Int32 → HS → Prop} (hX89 : ∀ (v0 : Nat) (v2 : Int32) (S : HS), X89 v0 v2 S → WS X 3 0 0 89 [(0, .ref v0), (2, .int v2)] [] S) {v0 : Nat} {v2 : Int32} {S : HS} (h : P_X11_goesOn_136 Q X89 v0 v2 S) : WS X 3 0 0 136 [(0, .ref v0), (2, .int v2)] [] S := by
  obtain ⟨x1, ex1⟩ : ∃ z : Int32, z = v2 + (1 : Int32) := ⟨_, rfl⟩
  have h := h x1 ex1
  refine r_iinc (pc := 136) C (v := x1) (lv' := [(2, .int x1), (0, .ref v0)]) dX11_goesOn_136 1 rfl ex1.symm (by decide) rfl ?_
  refine r_aload_n (pc := 139) C dX11_goesOn_139 1 rfl ?_
  refine r_dup (pc := 140) C dX11_goesOn_140 rfl ?_
  obtain ⟨o_v0, h⟩ := h
  refine r_geti (pc := 141) C fL_X11_71 dX11_goesOn_141 o_v0 ?_
  refine r_topi (fun x2 ex2 => ?_)
  have h := h x2 ex2
  refine r_iconst (pc := 144) C (v := (1 : Int32)) dX11_goesOn_144 (by decide) ?_
  refine r_iadd (pc := 145) C dX11_goesOn_145 ?_
  refine r_topi (fun x3 ex3 => ?_)
  have h := h x3 ex3
  refine r_puti (pc := 146) C pfL_X11_71 dX11_goesOn_146 o_v0 ?_
  refine r_heap (fun S4 eS4 => ?_)
  have h := h S4 eS4
  have o_v0 := ob_I eS4 o_v0
  refine r_goto (pc := 149) C (tgt := 89) dX11_goesOn_149 (by decide) ?_
  exact r_sub [1, 0] rfl (hX89 v0 x1 S4 h)
def B_X11_goesOn_89 (Q : HS → Prop) (X89 : Nat → Int32 → HS → Prop) (v0 : Nat) (v2 : Int32) (S : HS) : Prop := ob S v0 11 ∧ (∀ x1 : Int32, x1 = fI S v0 8 → (P_X11_byteAt v0 x1 (fun x4 S2 => Gr S S2 → (P_X11_isLetter x4 (fun x7 S5 => Gr S2 S5 → bl x7 → (((x7 = 0) → ((((8 : Int32) < v2) → (Q S5)) ∧ ((¬ (8 : Int32) < v2) → (∀ S10 : HS, S10 = sI S5 v0 9 (2 : Int32) → (Q S10))))) ∧ ((¬ x7 = 0) → ((((8 : Int32) ≤ v2) → (P_X11_goesOn_136 Q X89 v0 v2 S5)) ∧ ((¬ (8 : Int32) ≤ v2) → (∀ x12 : Int64, x12 = fJ S5 v0 15 → (∀ x13 : Int32, x13 = fI S5 v0 8 → (P_X11_byteAt v0 x13 (fun x16 S14 => Gr S5 S14 → (∀ x17 : Int64, x17 = ((32 : Int64) * x12) + (((x16 - (97 : Int32)) + (1 : Int32)).toInt64) → (∀ S18 : HS, S18 = sJ S14 v0 15 x17 → (P_X11_goesOn_136 Q X89 v0 v2 S18)))) S5)))))))) S2)) S))
def P_X11_goesOn_89 (Q : HS → Prop) (v0 : Nat) (v2 : Int32) (S : HS) : Prop := ∀ X89 : Nat → Int32 → HS → Prop, (∀ (v0 : Nat) (v2 : Int32) (S : HS), B_X11_goesOn_89 Q X89 v0 v2 S → X89 v0 v2 S) → X89 v0 v2 S
set_option maxRecDepth 20000 in
set_option maxHeartbeats 4000000 in
theorem TB_X11_goesOn_89 {X : CX} {Q : HS → Prop} (C : Cx X cX11_goesOn RX11 3 rm_X11_goesOn) (E : ReV X rm_X11_goesOn Q) (ht : (xh X).sig.returnType = none) (hn : (xh X).name = yX11_goesOn.name) {X89 : Nat → Int32 → HS → Prop} (hX89 : ∀ (v0 : Nat) (v2 : Int32) (S : HS), X89 v0 v2 S → WS X 3 0 0 89 [(0, .ref v0), (2, .int v2)] [] S) {v0 : Nat} {v2 : Int32} {S : HS} (h : B_X11_goesOn_89 Q X89 v0 v2 S) : WS X 3 0 0 89 [(0, .ref v0), (2, .int v2)] [] S := by
  refine r_aload_n (pc := 89) C dX11_goesOn_89 0 rfl ?_
  refine r_aload_n (pc := 90) C dX11_goesOn_90 0 rfl ?_
  obtain ⟨o_v0, h⟩ := h
  refine r_geti (pc := 91) C fL_X11_71 dX11_goesOn_91 o_v0 ?_
  refine r_topi (fun x1 ex1 => ?_)
  have h := h x1 ex1
  refine r_callVi0 (pc := 94) C (rest := []) (a := v0) o_v0 [.int x1] yV_X11_byteAt g_1384 (c_X11_byteAt h) dX11_goesOn_94 rfl rfl (Nat.le_of_ble_eq_true rfl) ⟨by decide, by decide⟩ ⟨by decide, by decide⟩ ⟨rfl, rfl⟩ (fun x4 S2 h g3 => ?_)
  have h := h g3
  have o_v0 := gr_ob g3 o_v0
  refine r_callSi0 (pc := 97) C (rest := []) rfl [.int x4] yS_X11_isLetter g_1388 (c_X11_isLetter h) dX11_goesOn_97 rfl rfl (Nat.le_of_ble_eq_true rfl) ⟨by decide, by decide⟩ ⟨by decide, by decide⟩ ⟨rfl, rfl⟩ (fun x7 S5 h g6 => ?_)
  have bx7 := h.1
  have h := h.2 g6 bx7
  have o_v0 := gr_ob g6 o_v0
  refine r_if_eq (pc := 100) C (tgt := 152) dX11_goesOn_100 (by decide) (fun c8 => ?_) (fun c8 => ?_)
  · have h := h.1 c8
    refine r_iload_n (pc := 152) C dX11_goesOn_152 1 rfl ?_
    refine r_bipush (pc := 153) C (v := (8 : Int32)) dX11_goesOn_153 (by decide) ?_
    refine r_icmp_gt (pc := 155) C (tgt := 281) dX11_goesOn_155 (by decide) (fun c9 => ?_) (fun c9 => ?_)
    · have h := h.1 c9
      exact r_vret (pc := 281) C E ht dX11_goesOn_281 (by decide) (by decide) h
    · have h := h.2 c9
      refine r_aload_n (pc := 158) C dX11_goesOn_158 0 rfl ?_
      refine r_iconst (pc := 159) C (v := (2 : Int32)) dX11_goesOn_159 (by decide) ?_
      refine r_puti (pc := 160) C pfL_X11_68 dX11_goesOn_160 o_v0 ?_
      refine r_heap (fun S10 eS10 => ?_)
      have h := h S10 eS10
      have o_v0 := ob_I eS10 o_v0
      refine r_goto (pc := 163) C (tgt := 281) dX11_goesOn_163 (by decide) ?_
      exact r_vret (pc := 281) C E ht dX11_goesOn_281 (by decide) (by decide) h
  · have h := h.2 c8
    refine r_iload_n (pc := 103) C dX11_goesOn_103 1 rfl ?_
    refine r_bipush (pc := 104) C (v := (8 : Int32)) dX11_goesOn_104 (by decide) ?_
    refine r_icmp_ge (pc := 106) C (tgt := 136) dX11_goesOn_106 (by decide) (fun c11 => ?_) (fun c11 => ?_)
    · have h := h.1 c11
      exact r_sub [0, 1] rfl (T_X11_goesOn_136 C E ht hn hX89 h)
    · have h := h.2 c11
      refine r_aload_n (pc := 109) C dX11_goesOn_109 0 rfl ?_
      refine r_ldc2 (pc := 110) C (v := (32 : Int64)) dX11_goesOn_110 g_1391 ?_
      refine r_aload_n (pc := 113) C dX11_goesOn_113 0 rfl ?_
      refine r_getl (pc := 114) C fL_X11_87 dX11_goesOn_114 o_v0 ?_
      refine r_topl (fun x12 ex12 => ?_)
      have h := h x12 ex12
      refine r_lmul (pc := 117) C dX11_goesOn_117 ?_
      refine r_aload_n (pc := 118) C dX11_goesOn_118 0 rfl ?_
      refine r_aload_n (pc := 119) C dX11_goesOn_119 0 rfl ?_
      refine r_geti (pc := 120) C fL_X11_71 dX11_goesOn_120 o_v0 ?_
      refine r_topi (fun x13 ex13 => ?_)
      have h := h x13 ex13
      refine r_callVi0 (pc := 123) C (rest := [.long ((32 : Int64) * x12), .ref v0]) (a := v0) o_v0 [.int x13] yV_X11_byteAt g_1384 (c_X11_byteAt h) dX11_goesOn_123 rfl rfl (Nat.le_of_ble_eq_true rfl) ⟨by decide, by decide⟩ ⟨by decide, by decide⟩ ⟨rfl, rfl⟩ (fun x16 S14 h g15 => ?_)
      have h := h g15
      have o_v0 := gr_ob g15 o_v0
      refine r_bipush (pc := 126) C (v := (97 : Int32)) dX11_goesOn_126 (by decide) ?_
      refine r_isub (pc := 128) C dX11_goesOn_128 ?_
      refine r_iconst (pc := 129) C (v := (1 : Int32)) dX11_goesOn_129 (by decide) ?_
      refine r_iadd (pc := 130) C dX11_goesOn_130 ?_
      refine r_i2l (pc := 131) C dX11_goesOn_131 ?_
      refine r_ladd (pc := 132) C dX11_goesOn_132 ?_
      refine r_topl (fun x17 ex17 => ?_)
      have h := h x17 ex17
      refine r_putl (pc := 133) C pfL_X11_87 dX11_goesOn_133 o_v0 ?_
      refine r_heap (fun S18 eS18 => ?_)
      have h := h S18 eS18
      have o_v0 := ob_J eS18 o_v0
      exact r_sub [0, 1] rfl (T_X11_goesOn_136 C E ht hn hX89 h)
theorem T_X11_goesOn_89 {X : CX} {Q : HS → Prop} (C : Cx X cX11_goesOn RX11 3 rm_X11_goesOn) (E : ReV X rm_X11_goesOn Q) (ht : (xh X).sig.returnType = none) (hn : (xh X).name = yX11_goesOn.name) {v0 : Nat} {v2 : Int32} {S : HS} (h : P_X11_goesOn_89 Q v0 v2 S) : WS X 3 0 0 89 [(0, .ref v0), (2, .int v2)] [] S :=
  h (fun v0 v2 S => WS X 3 0 0 89 [(0, .ref v0), (2, .int v2)] [] S) (fun v0 v2 S hh => TB_X11_goesOn_89 C E ht hn (fun v0 v2 S z => z) hh)
def P_X11_goesOn_220 (Q : HS → Prop) (X178 : Nat → Int32 → HS → Prop) (v0 : Nat) (v2 : Int32) (S : HS) : Prop := ∀ x1 : Int32, x1 = v2 + (1 : Int32) → (ob S v0 11 ∧ (∀ x2 : Int32, x2 = fI S v0 8 → (∀ x3 : Int32, x3 = x2 + (1 : Int32) → (∀ S4 : HS, S4 = sI S v0 8 x3 → (X178 v0 x1 S4)))))
set_option maxRecDepth 20000 in
set_option maxHeartbeats 4000000 in
theorem T_X11_goesOn_220 {X : CX} {Q : HS → Prop} (C : Cx X cX11_goesOn RX11 3 rm_X11_goesOn) (E : ReV X rm_X11_goesOn Q) (ht : (xh X).sig.returnType = none) (hn : (xh X).name = yX11_goesOn.name) {X178 : Nat → Int32 → HS → Prop} (hX178 : ∀ (v0 : Nat) (v2 : Int32) (S : HS), X178 v0 v2 S → WS X 3 0 0 178 [(0, .ref v0), (2, .int v2)] [] S) {v0 : Nat} {v2 : Int32} {S : HS} (h : P_X11_goesOn_220 Q X178 v0 v2 S) : WS X 3 0 0 220 [(0, .ref v0), (2, .int v2)] [] S := by
  obtain ⟨x1, ex1⟩ : ∃ z : Int32, z = v2 + (1 : Int32) := ⟨_, rfl⟩
  have h := h x1 ex1
  refine r_iinc (pc := 220) C (v := x1) (lv' := [(2, .int x1), (0, .ref v0)]) dX11_goesOn_220 1 rfl ex1.symm (by decide) rfl ?_
  refine r_aload_n (pc := 223) C dX11_goesOn_223 1 rfl ?_
  refine r_dup (pc := 224) C dX11_goesOn_224 rfl ?_
  obtain ⟨o_v0, h⟩ := h
  refine r_geti (pc := 225) C fL_X11_71 dX11_goesOn_225 o_v0 ?_
  refine r_topi (fun x2 ex2 => ?_)
  have h := h x2 ex2
  refine r_iconst (pc := 228) C (v := (1 : Int32)) dX11_goesOn_228 (by decide) ?_
  refine r_iadd (pc := 229) C dX11_goesOn_229 ?_
  refine r_topi (fun x3 ex3 => ?_)
  have h := h x3 ex3
  refine r_puti (pc := 230) C pfL_X11_71 dX11_goesOn_230 o_v0 ?_
  refine r_heap (fun S4 eS4 => ?_)
  have h := h S4 eS4
  have o_v0 := ob_I eS4 o_v0
  refine r_goto (pc := 233) C (tgt := 178) dX11_goesOn_233 (by decide) ?_
  exact r_sub [1, 0] rfl (hX178 v0 x1 S4 h)
def B_X11_goesOn_178 (Q : HS → Prop) (X178 : Nat → Int32 → HS → Prop) (v0 : Nat) (v2 : Int32) (S : HS) : Prop := ob S v0 11 ∧ (∀ x1 : Int32, x1 = fI S v0 8 → (P_X11_byteAt v0 x1 (fun x4 S2 => Gr S S2 → (P_X11_isDigit x4 (fun x7 S5 => Gr S2 S5 → bl x7 → (((x7 = 0) → ((((3 : Int32) < v2) → (Q S5)) ∧ ((¬ (3 : Int32) < v2) → (∀ S10 : HS, S10 = sI S5 v0 9 (3 : Int32) → (Q S10))))) ∧ ((¬ x7 = 0) → ((((3 : Int32) ≤ v2) → (P_X11_goesOn_220 Q X178 v0 v2 S5)) ∧ ((¬ (3 : Int32) ≤ v2) → (∀ x12 : Int32, x12 = fI S5 v0 12 → (∀ x13 : Int32, x13 = fI S5 v0 8 → (P_X11_byteAt v0 x13 (fun x16 S14 => Gr S5 S14 → (∀ x17 : Int32, x17 = (((10 : Int32) * x12) + x16) - (48 : Int32) → (∀ S18 : HS, S18 = sI S14 v0 12 x17 → (P_X11_goesOn_220 Q X178 v0 v2 S18)))) S5)))))))) S2)) S))
def P_X11_goesOn_178 (Q : HS → Prop) (v0 : Nat) (v2 : Int32) (S : HS) : Prop := ∀ X178 : Nat → Int32 → HS → Prop, (∀ (v0 : Nat) (v2 : Int32) (S : HS), B_X11_goesOn_178 Q X178 v0 v2 S → X178 v0 v2 S) → X178 v0 v2 S
set_option maxRecDepth 20000 in
set_option maxHeartbeats 4000000 in
theorem TB_X11_goesOn_178 {X : CX} {Q : HS → Prop} (C : Cx X cX11_goesOn RX11 3 rm_X11_goesOn) (E : ReV X rm_X11_goesOn Q) (ht : (xh X).sig.returnType = none) (hn : (xh X).name = yX11_goesOn.name) {X178 : Nat → Int32 → HS → Prop} (hX178 : ∀ (v0 : Nat) (v2 : Int32) (S : HS), X178 v0 v2 S → WS X 3 0 0 178 [(0, .ref v0), (2, .int v2)] [] S) {v0 : Nat} {v2 : Int32} {S : HS} (h : B_X11_goesOn_178 Q X178 v0 v2 S) : WS X 3 0 0 178 [(0, .ref v0), (2, .int v2)] [] S := by
  refine r_aload_n (pc := 178) C dX11_goesOn_178 0 rfl ?_
  refine r_aload_n (pc := 179) C dX11_goesOn_179 0 rfl ?_
  obtain ⟨o_v0, h⟩ := h
  refine r_geti (pc := 180) C fL_X11_71 dX11_goesOn_180 o_v0 ?_
  refine r_topi (fun x1 ex1 => ?_)
  have h := h x1 ex1
  refine r_callVi0 (pc := 183) C (rest := []) (a := v0) o_v0 [.int x1] yV_X11_byteAt g_1384 (c_X11_byteAt h) dX11_goesOn_183 rfl rfl (Nat.le_of_ble_eq_true rfl) ⟨by decide, by decide⟩ ⟨by decide, by decide⟩ ⟨rfl, rfl⟩ (fun x4 S2 h g3 => ?_)
  have h := h g3
  have o_v0 := gr_ob g3 o_v0
  refine r_callSi0 (pc := 186) C (rest := []) rfl [.int x4] yS_X11_isDigit g_1392 (c_X11_isDigit h) dX11_goesOn_186 rfl rfl (Nat.le_of_ble_eq_true rfl) ⟨by decide, by decide⟩ ⟨by decide, by decide⟩ ⟨rfl, rfl⟩ (fun x7 S5 h g6 => ?_)
  have bx7 := h.1
  have h := h.2 g6 bx7
  have o_v0 := gr_ob g6 o_v0
  refine r_if_eq (pc := 189) C (tgt := 236) dX11_goesOn_189 (by decide) (fun c8 => ?_) (fun c8 => ?_)
  · have h := h.1 c8
    refine r_iload_n (pc := 236) C dX11_goesOn_236 1 rfl ?_
    refine r_iconst (pc := 237) C (v := (3 : Int32)) dX11_goesOn_237 (by decide) ?_
    refine r_icmp_gt (pc := 238) C (tgt := 281) dX11_goesOn_238 (by decide) (fun c9 => ?_) (fun c9 => ?_)
    · have h := h.1 c9
      exact r_vret (pc := 281) C E ht dX11_goesOn_281 (by decide) (by decide) h
    · have h := h.2 c9
      refine r_aload_n (pc := 241) C dX11_goesOn_241 0 rfl ?_
      refine r_iconst (pc := 242) C (v := (3 : Int32)) dX11_goesOn_242 (by decide) ?_
      refine r_puti (pc := 243) C pfL_X11_68 dX11_goesOn_243 o_v0 ?_
      refine r_heap (fun S10 eS10 => ?_)
      have h := h S10 eS10
      have o_v0 := ob_I eS10 o_v0
      refine r_goto (pc := 246) C (tgt := 281) dX11_goesOn_246 (by decide) ?_
      exact r_vret (pc := 281) C E ht dX11_goesOn_281 (by decide) (by decide) h
  · have h := h.2 c8
    refine r_iload_n (pc := 192) C dX11_goesOn_192 1 rfl ?_
    refine r_iconst (pc := 193) C (v := (3 : Int32)) dX11_goesOn_193 (by decide) ?_
    refine r_icmp_ge (pc := 194) C (tgt := 220) dX11_goesOn_194 (by decide) (fun c11 => ?_) (fun c11 => ?_)
    · have h := h.1 c11
      exact r_sub [0, 1] rfl (T_X11_goesOn_220 C E ht hn hX178 h)
    · have h := h.2 c11
      refine r_aload_n (pc := 197) C dX11_goesOn_197 0 rfl ?_
      refine r_bipush (pc := 198) C (v := (10 : Int32)) dX11_goesOn_198 (by decide) ?_
      refine r_aload_n (pc := 200) C dX11_goesOn_200 0 rfl ?_
      refine r_geti (pc := 201) C fL_X11_94 dX11_goesOn_201 o_v0 ?_
      refine r_topi (fun x12 ex12 => ?_)
      have h := h x12 ex12
      refine r_imul (pc := 204) C dX11_goesOn_204 ?_
      refine r_aload_n (pc := 205) C dX11_goesOn_205 0 rfl ?_
      refine r_aload_n (pc := 206) C dX11_goesOn_206 0 rfl ?_
      refine r_geti (pc := 207) C fL_X11_71 dX11_goesOn_207 o_v0 ?_
      refine r_topi (fun x13 ex13 => ?_)
      have h := h x13 ex13
      refine r_callVi0 (pc := 210) C (rest := [.int ((10 : Int32) * x12), .ref v0]) (a := v0) o_v0 [.int x13] yV_X11_byteAt g_1384 (c_X11_byteAt h) dX11_goesOn_210 rfl rfl (Nat.le_of_ble_eq_true rfl) ⟨by decide, by decide⟩ ⟨by decide, by decide⟩ ⟨rfl, rfl⟩ (fun x16 S14 h g15 => ?_)
      have h := h g15
      have o_v0 := gr_ob g15 o_v0
      refine r_iadd (pc := 213) C dX11_goesOn_213 ?_
      refine r_bipush (pc := 214) C (v := (48 : Int32)) dX11_goesOn_214 (by decide) ?_
      refine r_isub (pc := 216) C dX11_goesOn_216 ?_
      refine r_topi (fun x17 ex17 => ?_)
      have h := h x17 ex17
      refine r_puti (pc := 217) C pfL_X11_94 dX11_goesOn_217 o_v0 ?_
      refine r_heap (fun S18 eS18 => ?_)
      have h := h S18 eS18
      have o_v0 := ob_I eS18 o_v0
      exact r_sub [0, 1] rfl (T_X11_goesOn_220 C E ht hn hX178 h)
theorem T_X11_goesOn_178 {X : CX} {Q : HS → Prop} (C : Cx X cX11_goesOn RX11 3 rm_X11_goesOn) (E : ReV X rm_X11_goesOn Q) (ht : (xh X).sig.returnType = none) (hn : (xh X).name = yX11_goesOn.name) {v0 : Nat} {v2 : Int32} {S : HS} (h : P_X11_goesOn_178 Q v0 v2 S) : WS X 3 0 0 178 [(0, .ref v0), (2, .int v2)] [] S :=
  h (fun v0 v2 S => WS X 3 0 0 178 [(0, .ref v0), (2, .int v2)] [] S) (fun v0 v2 S hh => TB_X11_goesOn_178 C E ht hn (fun v0 v2 S z => z) hh)
def P_X11_goesOn_261 (Q : HS → Prop) (v0 : Nat) (v1 : Int32) (S : HS) : Prop := ob S v0 11 ∧ (∀ S1 : HS, S1 = sI S v0 9 (4 : Int32) → (∀ S2 : HS, S2 = sI S1 v0 11 v1 → (∀ x3 : Int32, x3 = fI S2 v0 8 → (∀ x4 : Int32, x4 = x3 + (1 : Int32) → (∀ S5 : HS, S5 = sI S2 v0 8 x4 → (Q S5))))))
set_option maxRecDepth 20000 in
set_option maxHeartbeats 4000000 in
theorem T_X11_goesOn_261 {X : CX} {Q : HS → Prop} (C : Cx X cX11_goesOn RX11 3 rm_X11_goesOn) (E : ReV X rm_X11_goesOn Q) (ht : (xh X).sig.returnType = none) (hn : (xh X).name = yX11_goesOn.name) {v0 : Nat} {v1 : Int32} {S : HS} (h : P_X11_goesOn_261 Q v0 v1 S) : WS X 3 0 0 261 [(0, .ref v0), (1, .int v1)] [] S := by
  refine r_aload_n (pc := 261) C dX11_goesOn_261 0 rfl ?_
  refine r_iconst (pc := 262) C (v := (4 : Int32)) dX11_goesOn_262 (by decide) ?_
  obtain ⟨o_v0, h⟩ := h
  refine r_puti (pc := 263) C pfL_X11_68 dX11_goesOn_263 o_v0 ?_
  refine r_heap (fun S1 eS1 => ?_)
  have h := h S1 eS1
  have o_v0 := ob_I eS1 o_v0
  refine r_aload_n (pc := 266) C dX11_goesOn_266 0 rfl ?_
  refine r_iload_n (pc := 267) C dX11_goesOn_267 1 rfl ?_
  refine r_puti (pc := 268) C pfL_X11_80 dX11_goesOn_268 o_v0 ?_
  refine r_heap (fun S2 eS2 => ?_)
  have h := h S2 eS2
  have o_v0 := ob_I eS2 o_v0
  refine r_aload_n (pc := 271) C dX11_goesOn_271 0 rfl ?_
  refine r_dup (pc := 272) C dX11_goesOn_272 rfl ?_
  refine r_geti (pc := 273) C fL_X11_71 dX11_goesOn_273 o_v0 ?_
  refine r_topi (fun x3 ex3 => ?_)
  have h := h x3 ex3
  refine r_iconst (pc := 276) C (v := (1 : Int32)) dX11_goesOn_276 (by decide) ?_
  refine r_iadd (pc := 277) C dX11_goesOn_277 ?_
  refine r_topi (fun x4 ex4 => ?_)
  have h := h x4 ex4
  refine r_puti (pc := 278) C pfL_X11_71 dX11_goesOn_278 o_v0 ?_
  refine r_heap (fun S5 eS5 => ?_)
  have h := h S5 eS5
  have o_v0 := ob_I eS5 o_v0
  exact r_vret (pc := 281) C E ht dX11_goesOn_281 (by decide) (by decide) h
def B_X11_goesOn_9 (Q : HS → Prop) (X9 : Nat → HS → Prop) (v0 : Nat) (S : HS) : Prop := ob S v0 11 ∧ (∀ x1 : Int32, x1 = fI S v0 8 → (P_X11_byteAt v0 x1 (fun x4 S2 => Gr S S2 → (((¬ x4 = (32 : Int32)) → (∀ x6 : Int32, x6 = fI S2 v0 8 → (∀ S7 : HS, S7 = sI S2 v0 10 x6 → (∀ S8 : HS, S8 = sI S7 v0 9 (0 : Int32) → (∀ S9 : HS, S9 = sI S8 v0 11 (0 : Int32) → (∀ x10 : Int32, x10 = fI S9 v0 8 → (P_X11_byteAt v0 x10 (fun x13 S11 => Gr S9 S11 → (((¬ x13 = (-1 : Int32)) → (P_X11_isLetter x13 (fun x17 S15 => Gr S11 S15 → bl x17 → (((x17 = 0) → (P_X11_isDigit x13 (fun x21 S19 => Gr S15 S19 → bl x21 → (((x21 = 0) → (((x13 = (59 : Int32)) → (P_X11_goesOn_261 Q v0 x13 S19)) ∧ ((¬ x13 = (59 : Int32)) → (((¬ x13 = (44 : Int32)) → (Q S19)) ∧ ((x13 = (44 : Int32)) → (P_X11_goesOn_261 Q v0 x13 S19)))))) ∧ ((¬ x21 = 0) → (∀ S25 : HS, S25 = sI S19 v0 12 (0 : Int32) → (P_X11_goesOn_178 Q v0 (0 : Int32) S25))))) S15)) ∧ ((¬ x17 = 0) → (∀ S26 : HS, S26 = sJ S15 v0 15 (0 : Int64) → (P_X11_goesOn_89 Q v0 (0 : Int32) S26))))) S11)) ∧ ((x13 = (-1 : Int32)) → (∀ S27 : HS, S27 = sI S11 v0 9 (1 : Int32) → (Q S27))))) S9))))))) ∧ ((x4 = (32 : Int32)) → (∀ x28 : Int32, x28 = fI S2 v0 8 → (∀ x29 : Int32, x29 = x28 + (1 : Int32) → (∀ S30 : HS, S30 = sI S2 v0 8 x29 → (X9 v0 S30))))))) S))
def P_X11_goesOn_9 (Q : HS → Prop) (v0 : Nat) (S : HS) : Prop := ∀ X9 : Nat → HS → Prop, (∀ (v0 : Nat) (S : HS), B_X11_goesOn_9 Q X9 v0 S → X9 v0 S) → X9 v0 S
set_option maxRecDepth 20000 in
set_option maxHeartbeats 4000000 in
theorem TB_X11_goesOn_9 {X : CX} {Q : HS → Prop} (C : Cx X cX11_goesOn RX11 3 rm_X11_goesOn) (E : ReV X rm_X11_goesOn Q) (ht : (xh X).sig.returnType = none) (hn : (xh X).name = yX11_goesOn.name) {X9 : Nat → HS → Prop} (hX9 : ∀ (v0 : Nat) (S : HS), X9 v0 S → WS X 3 0 0 9 [(0, .ref v0)] [] S) {v0 : Nat} {S : HS} (h : B_X11_goesOn_9 Q X9 v0 S) : WS X 3 0 0 9 [(0, .ref v0)] [] S := by
  refine r_aload_n (pc := 9) C dX11_goesOn_9 0 rfl ?_
  refine r_aload_n (pc := 10) C dX11_goesOn_10 0 rfl ?_
  obtain ⟨o_v0, h⟩ := h
  refine r_geti (pc := 11) C fL_X11_71 dX11_goesOn_11 o_v0 ?_
  refine r_topi (fun x1 ex1 => ?_)
  have h := h x1 ex1
  refine r_callVi0 (pc := 14) C (rest := []) (a := v0) o_v0 [.int x1] yV_X11_byteAt g_1384 (c_X11_byteAt h) dX11_goesOn_14 rfl rfl (Nat.le_of_ble_eq_true rfl) ⟨by decide, by decide⟩ ⟨by decide, by decide⟩ ⟨rfl, rfl⟩ (fun x4 S2 h g3 => ?_)
  have h := h g3
  have o_v0 := gr_ob g3 o_v0
  refine r_bipush (pc := 17) C (v := (32 : Int32)) dX11_goesOn_17 (by decide) ?_
  refine r_icmp_ne (pc := 19) C (tgt := 35) dX11_goesOn_19 (by decide) (fun c5 => ?_) (fun c5 => ?_)
  · have h := h.1 c5
    refine r_aload_n (pc := 35) C dX11_goesOn_35 0 rfl ?_
    refine r_aload_n (pc := 36) C dX11_goesOn_36 0 rfl ?_
    refine r_geti (pc := 37) C fL_X11_71 dX11_goesOn_37 o_v0 ?_
    refine r_topi (fun x6 ex6 => ?_)
    have h := h x6 ex6
    refine r_puti (pc := 40) C pfL_X11_77 dX11_goesOn_40 o_v0 ?_
    refine r_heap (fun S7 eS7 => ?_)
    have h := h S7 eS7
    have o_v0 := ob_I eS7 o_v0
    refine r_aload_n (pc := 43) C dX11_goesOn_43 0 rfl ?_
    refine r_iconst (pc := 44) C (v := (0 : Int32)) dX11_goesOn_44 (by decide) ?_
    refine r_puti (pc := 45) C pfL_X11_68 dX11_goesOn_45 o_v0 ?_
    refine r_heap (fun S8 eS8 => ?_)
    have h := h S8 eS8
    have o_v0 := ob_I eS8 o_v0
    refine r_aload_n (pc := 48) C dX11_goesOn_48 0 rfl ?_
    refine r_iconst (pc := 49) C (v := (0 : Int32)) dX11_goesOn_49 (by decide) ?_
    refine r_puti (pc := 50) C pfL_X11_80 dX11_goesOn_50 o_v0 ?_
    refine r_heap (fun S9 eS9 => ?_)
    have h := h S9 eS9
    have o_v0 := ob_I eS9 o_v0
    refine r_aload_n (pc := 53) C dX11_goesOn_53 0 rfl ?_
    refine r_aload_n (pc := 54) C dX11_goesOn_54 0 rfl ?_
    refine r_geti (pc := 55) C fL_X11_71 dX11_goesOn_55 o_v0 ?_
    refine r_topi (fun x10 ex10 => ?_)
    have h := h x10 ex10
    refine r_callVi0 (pc := 58) C (rest := []) (a := v0) o_v0 [.int x10] yV_X11_byteAt g_1384 (c_X11_byteAt h) dX11_goesOn_58 rfl rfl (Nat.le_of_ble_eq_true rfl) ⟨by decide, by decide⟩ ⟨by decide, by decide⟩ ⟨rfl, rfl⟩ (fun x13 S11 h g12 => ?_)
    have h := h g12
    have o_v0 := gr_ob g12 o_v0
    refine r_istore_n (pc := 61) C dX11_goesOn_61 rfl (by decide) (lv' := [(1, .int x13), (0, .ref v0)]) rfl ?_
    refine r_iconst (pc := 62) C (v := (0 : Int32)) dX11_goesOn_62 (by decide) ?_
    refine r_istore_n (pc := 63) C dX11_goesOn_63 rfl (by decide) (lv' := [(2, .int (0 : Int32)), (1, .int x13), (0, .ref v0)]) rfl ?_
    refine r_iload_n (pc := 64) C dX11_goesOn_64 1 rfl ?_
    refine r_iconst (pc := 65) C (v := (-1 : Int32)) dX11_goesOn_65 (by decide) ?_
    refine r_icmp_ne (pc := 66) C (tgt := 77) dX11_goesOn_66 (by decide) (fun c14 => ?_) (fun c14 => ?_)
    · have h := h.1 c14
      refine r_iload_n (pc := 77) C dX11_goesOn_77 1 rfl ?_
      refine r_callSi0 (pc := 78) C (rest := []) rfl [.int x13] yS_X11_isLetter g_1388 (c_X11_isLetter h) dX11_goesOn_78 rfl rfl (Nat.le_of_ble_eq_true rfl) ⟨by decide, by decide⟩ ⟨by decide, by decide⟩ ⟨rfl, rfl⟩ (fun x17 S15 h g16 => ?_)
      have bx17 := h.1
      have h := h.2 g16 bx17
      have o_v0 := gr_ob g16 o_v0
      refine r_if_eq (pc := 81) C (tgt := 166) dX11_goesOn_81 (by decide) (fun c18 => ?_) (fun c18 => ?_)
      · have h := h.1 c18
        refine r_iload_n (pc := 166) C dX11_goesOn_166 1 rfl ?_
        refine r_callSi0 (pc := 167) C (rest := []) rfl [.int x13] yS_X11_isDigit g_1392 (c_X11_isDigit h) dX11_goesOn_167 rfl rfl (Nat.le_of_ble_eq_true rfl) ⟨by decide, by decide⟩ ⟨by decide, by decide⟩ ⟨rfl, rfl⟩ (fun x21 S19 h g20 => ?_)
        have bx21 := h.1
        have h := h.2 g20 bx21
        have o_v0 := gr_ob g20 o_v0
        refine r_if_eq (pc := 170) C (tgt := 249) dX11_goesOn_170 (by decide) (fun c22 => ?_) (fun c22 => ?_)
        · have h := h.1 c22
          refine r_iload_n (pc := 249) C dX11_goesOn_249 1 rfl ?_
          refine r_bipush (pc := 250) C (v := (59 : Int32)) dX11_goesOn_250 (by decide) ?_
          refine r_icmp_eq (pc := 252) C (tgt := 261) dX11_goesOn_252 (by decide) (fun c23 => ?_) (fun c23 => ?_)
          · have h := h.1 c23
            exact r_sub [2, 1] rfl (T_X11_goesOn_261 C E ht hn h)
          · have h := h.2 c23
            refine r_iload_n (pc := 255) C dX11_goesOn_255 1 rfl ?_
            refine r_bipush (pc := 256) C (v := (44 : Int32)) dX11_goesOn_256 (by decide) ?_
            refine r_icmp_ne (pc := 258) C (tgt := 281) dX11_goesOn_258 (by decide) (fun c24 => ?_) (fun c24 => ?_)
            · have h := h.1 c24
              exact r_vret (pc := 281) C E ht dX11_goesOn_281 (by decide) (by decide) h
            · have h := h.2 c24
              exact r_sub [2, 1] rfl (T_X11_goesOn_261 C E ht hn h)
        · have h := h.2 c22
          refine r_aload_n (pc := 173) C dX11_goesOn_173 2 rfl ?_
          refine r_iconst (pc := 174) C (v := (0 : Int32)) dX11_goesOn_174 (by decide) ?_
          refine r_puti (pc := 175) C pfL_X11_94 dX11_goesOn_175 o_v0 ?_
          refine r_heap (fun S25 eS25 => ?_)
          have h := h S25 eS25
          have o_v0 := ob_I eS25 o_v0
          exact r_sub [2, 0] rfl (T_X11_goesOn_178 C E ht hn h)
      · have h := h.2 c18
        refine r_aload_n (pc := 84) C dX11_goesOn_84 2 rfl ?_
        refine r_lconst (pc := 85) C (v := (0 : Int64)) dX11_goesOn_85 (by decide) ?_
        refine r_putl (pc := 86) C pfL_X11_87 dX11_goesOn_86 o_v0 ?_
        refine r_heap (fun S26 eS26 => ?_)
        have h := h S26 eS26
        have o_v0 := ob_J eS26 o_v0
        exact r_sub [2, 0] rfl (T_X11_goesOn_89 C E ht hn h)
    · have h := h.2 c14
      refine r_aload_n (pc := 69) C dX11_goesOn_69 2 rfl ?_
      refine r_iconst (pc := 70) C (v := (1 : Int32)) dX11_goesOn_70 (by decide) ?_
      refine r_puti (pc := 71) C pfL_X11_68 dX11_goesOn_71 o_v0 ?_
      refine r_heap (fun S27 eS27 => ?_)
      have h := h S27 eS27
      have o_v0 := ob_I eS27 o_v0
      refine r_goto (pc := 74) C (tgt := 281) dX11_goesOn_74 (by decide) ?_
      exact r_vret (pc := 281) C E ht dX11_goesOn_281 (by decide) (by decide) h
  · have h := h.2 c5
    refine r_aload_n (pc := 22) C dX11_goesOn_22 0 rfl ?_
    refine r_dup (pc := 23) C dX11_goesOn_23 rfl ?_
    refine r_geti (pc := 24) C fL_X11_71 dX11_goesOn_24 o_v0 ?_
    refine r_topi (fun x28 ex28 => ?_)
    have h := h x28 ex28
    refine r_iconst (pc := 27) C (v := (1 : Int32)) dX11_goesOn_27 (by decide) ?_
    refine r_iadd (pc := 28) C dX11_goesOn_28 ?_
    refine r_topi (fun x29 ex29 => ?_)
    have h := h x29 ex29
    refine r_puti (pc := 29) C pfL_X11_71 dX11_goesOn_29 o_v0 ?_
    refine r_heap (fun S30 eS30 => ?_)
    have h := h S30 eS30
    have o_v0 := ob_I eS30 o_v0
    refine r_goto (pc := 32) C (tgt := 9) dX11_goesOn_32 (by decide) ?_
    exact r_sub [0] rfl (hX9 v0 S30 h)
theorem T_X11_goesOn_9 {X : CX} {Q : HS → Prop} (C : Cx X cX11_goesOn RX11 3 rm_X11_goesOn) (E : ReV X rm_X11_goesOn Q) (ht : (xh X).sig.returnType = none) (hn : (xh X).name = yX11_goesOn.name) {v0 : Nat} {S : HS} (h : P_X11_goesOn_9 Q v0 S) : WS X 3 0 0 9 [(0, .ref v0)] [] S :=
  h (fun v0 S => WS X 3 0 0 9 [(0, .ref v0)] [] S) (fun v0 S hh => TB_X11_goesOn_9 C E ht hn (fun v0 S z => z) hh)
def P_X11_goesOn_0 (Q : HS → Prop) (v0 : Nat) (S : HS) : Prop := ob S v0 11 ∧ (∀ x1 : Int32, x1 = fI S v0 9 → (((¬ x1 = (5 : Int32)) → (P_X11_goesOn_9 Q v0 S)) ∧ ((x1 = (5 : Int32)) → (Q S))))
set_option maxRecDepth 20000 in
set_option maxHeartbeats 4000000 in
theorem T_X11_goesOn_0 {X : CX} {Q : HS → Prop} (C : Cx X cX11_goesOn RX11 3 rm_X11_goesOn) (E : ReV X rm_X11_goesOn Q) (ht : (xh X).sig.returnType = none) (hn : (xh X).name = yX11_goesOn.name) {v0 : Nat} {S : HS} (h : P_X11_goesOn_0 Q v0 S) : WS X 3 0 0 0 [(0, .ref v0)] [] S := by
  refine r_aload_n (pc := 0) C dX11_goesOn_0 0 rfl ?_
  obtain ⟨o_v0, h⟩ := h
  refine r_geti (pc := 1) C fL_X11_68 dX11_goesOn_1 o_v0 ?_
  refine r_topi (fun x1 ex1 => ?_)
  have h := h x1 ex1
  refine r_iconst (pc := 4) C (v := (5 : Int32)) dX11_goesOn_4 (by decide) ?_
  refine r_icmp_ne (pc := 5) C (tgt := 9) dX11_goesOn_5 (by decide) (fun c2 => ?_) (fun c2 => ?_)
  · have h := h.1 c2
    exact r_sub [0] rfl (T_X11_goesOn_9 C E ht hn h)
  · have h := h.2 c2
    exact r_vret (pc := 8) C E ht dX11_goesOn_8 (by decide) (by decide) h
def P_X11_goesOn (v0 : Nat) (Q : HS → Prop) (S : HS) : Prop := P_X11_goesOn_0 Q v0 S
theorem c_X11_goesOn {l : Launch} {Ee : EE} {S : HS} {v0 : Nat} {Q : HS → Prop} (h : P_X11_goesOn v0 Q S) : MV l yX11_goesOn cX11_goesOn 3 none rm_X11_goesOn Ee S [.ref v0] Q :=
  openV (by decide) (Nat.le_of_ble_eq_true rfl) (fun X C E ht hn hE hl => by subst hE; exact r_sub [0] rfl (T_X11_goesOn_0 C E ht hn h))
def rm_X11_begins : Room := { frames := 2, cells := 0, slots := 0, locals := 43 }
def P_X11_begins_26 (Q : HS → Prop) (v0 : Nat) (S : HS) : Prop := ob S v0 11 ∧ (P_X11_goesOn v0 (fun S1 => Gr S S1 → (Q S1)) S)
set_option maxRecDepth 20000 in
set_option maxHeartbeats 4000000 in
theorem T_X11_begins_26 {X : CX} {Q : HS → Prop} (C : Cx X cX11_begins RX11 3 rm_X11_begins) (E : ReV X rm_X11_begins Q) (ht : (xh X).sig.returnType = none) (hn : (xh X).name = yX11_begins.name) {v0 : Nat} {S : HS} (h : P_X11_begins_26 Q v0 S) : WS X 3 0 0 26 [(0, .ref v0)] [] S := by
  refine r_aload_n (pc := 26) C dX11_begins_26 0 rfl ?_
  obtain ⟨o_v0, h⟩ := h
  refine r_callVv0 (pc := 27) C (rest := []) (a := v0) o_v0 [] yV_X11_goesOn g_1380 (c_X11_goesOn h) dX11_begins_27 rfl rfl (Nat.le_of_ble_eq_true rfl) ⟨by decide, by decide⟩ ⟨by decide, by decide⟩ ⟨rfl, rfl⟩ (fun S1 h g2 => ?_)
  have h := h g2
  have o_v0 := gr_ob g2 o_v0
  exact r_vret (pc := 30) C E ht dX11_begins_30 (by decide) (by decide) h
def P_X11_begins_10 (Q : HS → Prop) (v0 : Nat) (S : HS) : Prop := ob S v0 11 ∧ (∃ a1 : Nat, fR S v0 4 = some a1 ∧ (ob S a1 10 ∧ (∀ x2 : Int32, x2 = fI S a1 0 → (((¬ x2 = 0) → (P_X11_begins_26 Q v0 S)) ∧ ((x2 = 0) → (P_X11_flaw v0 (6 : Int32) (fun S4 => Gr S S4 → (P_X11_begins_26 Q v0 S4)) S))))))
set_option maxRecDepth 20000 in
set_option maxHeartbeats 4000000 in
theorem T_X11_begins_10 {X : CX} {Q : HS → Prop} (C : Cx X cX11_begins RX11 3 rm_X11_begins) (E : ReV X rm_X11_begins Q) (ht : (xh X).sig.returnType = none) (hn : (xh X).name = yX11_begins.name) {v0 : Nat} {S : HS} (h : P_X11_begins_10 Q v0 S) : WS X 3 0 0 10 [(0, .ref v0)] [] S := by
  refine r_aload_n (pc := 10) C dX11_begins_10 0 rfl ?_
  obtain ⟨o_v0, h⟩ := h
  obtain ⟨a1, ea1, h⟩ := h
  refine r_getr (pc := 11) C fL_X11_147 dX11_begins_11 o_v0 ea1 ?_
  obtain ⟨o_a1, h⟩ := h
  refine r_getNi (pc := 14) C fN_X11_151 dX11_begins_14 o_a1 ?_
  refine r_topi (fun x2 ex2 => ?_)
  have h := h x2 ex2
  refine r_if_ne (pc := 17) C (tgt := 26) dX11_begins_17 (by decide) (fun c3 => ?_) (fun c3 => ?_)
  · have h := h.1 c3
    exact r_sub [0] rfl (T_X11_begins_26 C E ht hn h)
  · have h := h.2 c3
    refine r_aload_n (pc := 20) C dX11_begins_20 0 rfl ?_
    refine r_bipush (pc := 21) C (v := (6 : Int32)) dX11_begins_21 (by decide) ?_
    refine r_callVv0 (pc := 23) C (rest := []) (a := v0) o_v0 [.int (6 : Int32)] yV_X11_flaw g_1417 (c_X11_flaw h) dX11_begins_23 rfl rfl (Nat.le_of_ble_eq_true rfl) ⟨by decide, by decide⟩ ⟨by decide, by decide⟩ ⟨rfl, rfl⟩ (fun S4 h g5 => ?_)
    have h := h g5
    have o_a1 := gr_ob g5 o_a1
    have o_v0 := gr_ob g5 o_v0
    exact r_sub [0] rfl (T_X11_begins_26 C E ht hn h)
def P_X11_begins_0 (Q : HS → Prop) (v0 : Nat) (v1 : Int32) (v2 : Int32) (S : HS) : Prop := ((¬ v1 = v2) → (P_X11_begins_10 Q v0 S)) ∧ ((v1 = v2) → (ob S v0 11 ∧ (P_X11_flaw v0 (5 : Int32) (fun S2 => Gr S S2 → (P_X11_begins_10 Q v0 S2)) S)))
set_option maxRecDepth 20000 in
set_option maxHeartbeats 4000000 in
theorem T_X11_begins_0 {X : CX} {Q : HS → Prop} (C : Cx X cX11_begins RX11 3 rm_X11_begins) (E : ReV X rm_X11_begins Q) (ht : (xh X).sig.returnType = none) (hn : (xh X).name = yX11_begins.name) {v0 : Nat} {v1 : Int32} {v2 : Int32} {S : HS} (h : P_X11_begins_0 Q v0 v1 v2 S) : WS X 3 0 0 0 [(0, .ref v0), (1, .int v1), (2, .int v2)] [] S := by
  refine r_iload_n (pc := 0) C dX11_begins_0 1 rfl ?_
  refine r_iload_n (pc := 1) C dX11_begins_1 2 rfl ?_
  refine r_icmp_ne (pc := 2) C (tgt := 10) dX11_begins_2 (by decide) (fun c1 => ?_) (fun c1 => ?_)
  · have h := h.1 c1
    exact r_sub [0] rfl (T_X11_begins_10 C E ht hn h)
  · have h := h.2 c1
    refine r_aload_n (pc := 5) C dX11_begins_5 0 rfl ?_
    refine r_iconst (pc := 6) C (v := (5 : Int32)) dX11_begins_6 (by decide) ?_
    obtain ⟨o_v0, h⟩ := h
    refine r_callVv0 (pc := 7) C (rest := []) (a := v0) o_v0 [.int (5 : Int32)] yV_X11_flaw g_1417 (c_X11_flaw h) dX11_begins_7 rfl rfl (Nat.le_of_ble_eq_true rfl) ⟨by decide, by decide⟩ ⟨by decide, by decide⟩ ⟨rfl, rfl⟩ (fun S2 h g3 => ?_)
    have h := h g3
    have o_v0 := gr_ob g3 o_v0
    exact r_sub [0] rfl (T_X11_begins_10 C E ht hn h)
def P_X11_begins (v0 : Nat) (v1 : Int32) (v2 : Int32) (Q : HS → Prop) (S : HS) : Prop := P_X11_begins_0 Q v0 v1 v2 S
theorem c_X11_begins {l : Launch} {Ee : EE} {S : HS} {v0 : Nat} {v1 : Int32} {v2 : Int32} {Q : HS → Prop} (h : P_X11_begins v0 v1 v2 Q S) : MV l yX11_begins cX11_begins 3 none rm_X11_begins Ee S [.ref v0, .int v1, .int v2] Q :=
  openV (by decide) (Nat.le_of_ble_eq_true rfl) (fun X C E ht hn hE hl => by subst hE; exact r_sub [0, 1, 2] rfl (T_X11_begins_0 C E ht hn h))
def rm_X11_isForward : Room := { frames := 2, cells := 0, slots := 0, locals := 46 }
def P_X11_isForward_112 (Q : Int32 → HS → Prop) (v0 : Nat) (v4 : Int32) (v7 : Int32) (v8 : Int32) (v9 : Int32) (s0 : Int32) (S : HS) : Prop := ((s0 = 0) → (Q (0 : Int32) S)) ∧ ((¬ s0 = 0) → (((v7 ≤ 0) → (Q (0 : Int32) S)) ∧ ((¬ v7 ≤ 0) → (ob S v0 11 ∧ (∃ a3 : Nat, fR S v0 3 = some a3 ∧ (ob S a3 10 ∧ (∃ a4 : Nat, fR S a3 7 = some a4 ∧ (ob S a4 13 ∧ (vp_in v4 (hN S a4) ∧ ∀ x6 : Int32, x6 = fI S a4 v4.toNatClampNeg → (∃ a7 : Nat, fR S v0 3 = some a7 ∧ (ob S a7 10 ∧ (∃ a8 : Nat, fR S a7 7 = some a8 ∧ (ob S a8 13 ∧ (vp_in v4 (hN S a8) ∧ ∀ x10 : Int32, x10 = fI S a8 v4.toNatClampNeg → (∃ a11 : Nat, fR S v0 3 = some a11 ∧ (ob S a11 10 ∧ (∃ a12 : Nat, fR S a11 8 = some a12 ∧ (ob S a12 13 ∧ (vp_in v4 (hN S a12) ∧ ∀ x14 : Int32, x14 = fI S a12 v4.toNatClampNeg → (((((x6 * v7) * v8) ≤ ((x10 * x14) * v9)) → (Q (0 : Int32) S)) ∧ ((¬ ((x6 * v7) * v8) ≤ ((x10 * x14) * v9)) → (Q (1 : Int32) S))))))))))))))))))))))
set_option maxRecDepth 20000 in
set_option maxHeartbeats 4000000 in
theorem T_X11_isForward_112 {X : CX} {Q : Int32 → HS → Prop} (C : Cx X cX11_isForward RX11 11 rm_X11_isForward) (E : ReI X rm_X11_isForward (fun r S => bl r ∧ Q r S)) (ht : (xh X).sig.returnType = (some .boolean)) (hn : (xh X).name = yX11_isForward.name) {v0 : Nat} {v4 : Int32} {v7 : Int32} {v8 : Int32} {v9 : Int32} {s0 : Int32} {S : HS} (h : P_X11_isForward_112 Q v0 v4 v7 v8 v9 s0 S) : WS X 11 0 0 112 [(0, .ref v0), (4, .int v4), (7, .int v7), (8, .int v8), (9, .int v9)] [.int s0] S := by
  refine r_istore (pc := 112) C dX11_isForward_112 (by decide) (lv' := [(10, .int s0), (0, .ref v0), (4, .int v4), (7, .int v7), (8, .int v8), (9, .int v9)]) rfl ?_
  refine r_iload (pc := 114) C dX11_isForward_114 0 rfl ?_
  refine r_if_eq (pc := 116) C (tgt := 171) dX11_isForward_116 (by decide) (fun c1 => ?_) (fun c1 => ?_)
  · have h := h.1 c1
    refine r_iconst (pc := 171) C (v := (0 : Int32)) dX11_isForward_171 (by decide) ?_
    exact r_zret (pc := 172) C E ht dX11_isForward_172 (by decide) (by decide) (Or.inl rfl) h
  · have h := h.2 c1
    refine r_iload (pc := 119) C dX11_isForward_119 3 rfl ?_
    refine r_if_le (pc := 121) C (tgt := 171) dX11_isForward_121 (by decide) (fun c2 => ?_) (fun c2 => ?_)
    · have h := h.1 c2
      refine r_iconst (pc := 171) C (v := (0 : Int32)) dX11_isForward_171 (by decide) ?_
      exact r_zret (pc := 172) C E ht dX11_isForward_172 (by decide) (by decide) (Or.inl rfl) h
    · have h := h.2 c2
      refine r_aload_n (pc := 124) C dX11_isForward_124 1 rfl ?_
      obtain ⟨o_v0, h⟩ := h
      obtain ⟨a3, ea3, h⟩ := h
      refine r_getr (pc := 125) C fL_X11_338 dX11_isForward_125 o_v0 ea3 ?_
      obtain ⟨o_a3, h⟩ := h
      obtain ⟨a4, ea4, h⟩ := h
      refine r_getNr (pc := 128) C fN_X11_237 dX11_isForward_128 o_a3 ea4 ?_
      refine r_iload (pc := 131) C dX11_isForward_131 2 rfl ?_
      obtain ⟨o_a4, h⟩ := h
      obtain ⟨i5, h⟩ := h
      refine r_iald (pc := 133) C dX11_isForward_133 o_a4 i5 ?_
      refine r_topi (fun x6 ex6 => ?_)
      have h := h x6 ex6
      refine r_iload (pc := 134) C dX11_isForward_134 3 rfl ?_
      refine r_imul (pc := 136) C dX11_isForward_136 ?_
      refine r_iload (pc := 137) C dX11_isForward_137 4 rfl ?_
      refine r_imul (pc := 139) C dX11_isForward_139 ?_
      refine r_aload_n (pc := 140) C dX11_isForward_140 1 rfl ?_
      obtain ⟨a7, ea7, h⟩ := h
      refine r_getr (pc := 141) C fL_X11_338 dX11_isForward_141 o_v0 ea7 ?_
      obtain ⟨o_a7, h⟩ := h
      obtain ⟨a8, ea8, h⟩ := h
      refine r_getNr (pc := 144) C fN_X11_237 dX11_isForward_144 o_a7 ea8 ?_
      refine r_iload (pc := 147) C dX11_isForward_147 2 rfl ?_
      obtain ⟨o_a8, h⟩ := h
      obtain ⟨i9, h⟩ := h
      refine r_iald (pc := 149) C dX11_isForward_149 o_a8 i9 ?_
      refine r_topi (fun x10 ex10 => ?_)
      have h := h x10 ex10
      refine r_aload_n (pc := 150) C dX11_isForward_150 1 rfl ?_
      obtain ⟨a11, ea11, h⟩ := h
      refine r_getr (pc := 151) C fL_X11_338 dX11_isForward_151 o_v0 ea11 ?_
      obtain ⟨o_a11, h⟩ := h
      obtain ⟨a12, ea12, h⟩ := h
      refine r_getNr (pc := 154) C fN_X11_239 dX11_isForward_154 o_a11 ea12 ?_
      refine r_iload (pc := 157) C dX11_isForward_157 2 rfl ?_
      obtain ⟨o_a12, h⟩ := h
      obtain ⟨i13, h⟩ := h
      refine r_iald (pc := 159) C dX11_isForward_159 o_a12 i13 ?_
      refine r_topi (fun x14 ex14 => ?_)
      have h := h x14 ex14
      refine r_imul (pc := 160) C dX11_isForward_160 ?_
      refine r_iload (pc := 161) C dX11_isForward_161 5 rfl ?_
      refine r_imul (pc := 163) C dX11_isForward_163 ?_
      refine r_icmp_le (pc := 164) C (tgt := 171) dX11_isForward_164 (by decide) (fun c15 => ?_) (fun c15 => ?_)
      · have h := h.1 c15
        refine r_iconst (pc := 171) C (v := (0 : Int32)) dX11_isForward_171 (by decide) ?_
        exact r_zret (pc := 172) C E ht dX11_isForward_172 (by decide) (by decide) (Or.inl rfl) h
      · have h := h.2 c15
        refine r_iconst (pc := 167) C (v := (1 : Int32)) dX11_isForward_167 (by decide) ?_
        refine r_goto (pc := 168) C (tgt := 172) dX11_isForward_168 (by decide) ?_
        exact r_zret (pc := 172) C E ht dX11_isForward_172 (by decide) (by decide) (Or.inr rfl) h
def P_X11_isForward_84 (Q : Int32 → HS → Prop) (v0 : Nat) (v2 : Int32) (v4 : Int32) (v7 : Int32) (v8 : Int32) (s0 : Int32) (S : HS) : Prop := ob S v0 11 ∧ (∃ a1 : Nat, fR S v0 3 = some a1 ∧ (ob S a1 10 ∧ (∃ a2 : Nat, fR S a1 17 = some a2 ∧ (ob S a2 13 ∧ (vp_in v2 (hN S a2) ∧ ∀ x4 : Int32, x4 = fI S a2 v2.toNatClampNeg → (∃ a5 : Nat, fR S v0 3 = some a5 ∧ (ob S a5 10 ∧ (∃ a6 : Nat, fR S a5 16 = some a6 ∧ (ob S a6 13 ∧ (vp_in v2 (hN S a6) ∧ ∀ x8 : Int32, x8 = fI S a6 v2.toNatClampNeg → (((x8 ≤ x4) → (P_X11_isForward_112 Q v0 v4 v7 v8 s0 (0 : Int32) S)) ∧ ((¬ x8 ≤ x4) → (P_X11_isForward_112 Q v0 v4 v7 v8 s0 (1 : Int32) S)))))))))))))
set_option maxRecDepth 20000 in
set_option maxHeartbeats 4000000 in
theorem T_X11_isForward_84 {X : CX} {Q : Int32 → HS → Prop} (C : Cx X cX11_isForward RX11 11 rm_X11_isForward) (E : ReI X rm_X11_isForward (fun r S => bl r ∧ Q r S)) (ht : (xh X).sig.returnType = (some .boolean)) (hn : (xh X).name = yX11_isForward.name) {v0 : Nat} {v2 : Int32} {v4 : Int32} {v7 : Int32} {v8 : Int32} {s0 : Int32} {S : HS} (h : P_X11_isForward_84 Q v0 v2 v4 v7 v8 s0 S) : WS X 11 0 0 84 [(0, .ref v0), (2, .int v2), (4, .int v4), (7, .int v7), (8, .int v8)] [.int s0] S := by
  refine r_istore (pc := 84) C dX11_isForward_84 (by decide) (lv' := [(9, .int s0), (0, .ref v0), (2, .int v2), (4, .int v4), (7, .int v7), (8, .int v8)]) rfl ?_
  refine r_aload_n (pc := 86) C dX11_isForward_86 1 rfl ?_
  obtain ⟨o_v0, h⟩ := h
  obtain ⟨a1, ea1, h⟩ := h
  refine r_getr (pc := 87) C fL_X11_338 dX11_isForward_87 o_v0 ea1 ?_
  obtain ⟨o_a1, h⟩ := h
  obtain ⟨a2, ea2, h⟩ := h
  refine r_getNr (pc := 90) C fN_X11_282 dX11_isForward_90 o_a1 ea2 ?_
  refine r_iload_n (pc := 93) C dX11_isForward_93 2 rfl ?_
  obtain ⟨o_a2, h⟩ := h
  obtain ⟨i3, h⟩ := h
  refine r_iald (pc := 94) C dX11_isForward_94 o_a2 i3 ?_
  refine r_topi (fun x4 ex4 => ?_)
  have h := h x4 ex4
  refine r_aload_n (pc := 95) C dX11_isForward_95 1 rfl ?_
  obtain ⟨a5, ea5, h⟩ := h
  refine r_getr (pc := 96) C fL_X11_338 dX11_isForward_96 o_v0 ea5 ?_
  obtain ⟨o_a5, h⟩ := h
  obtain ⟨a6, ea6, h⟩ := h
  refine r_getNr (pc := 99) C fN_X11_279 dX11_isForward_99 o_a5 ea6 ?_
  refine r_iload_n (pc := 102) C dX11_isForward_102 2 rfl ?_
  obtain ⟨o_a6, h⟩ := h
  obtain ⟨i7, h⟩ := h
  refine r_iald (pc := 103) C dX11_isForward_103 o_a6 i7 ?_
  refine r_topi (fun x8 ex8 => ?_)
  have h := h x8 ex8
  refine r_icmp_ge (pc := 104) C (tgt := 111) dX11_isForward_104 (by decide) (fun c9 => ?_) (fun c9 => ?_)
  · have h := h.1 c9
    refine r_iconst (pc := 111) C (v := (0 : Int32)) dX11_isForward_111 (by decide) ?_
    exact r_sub [1, 3, 4, 5, 0] rfl (T_X11_isForward_112 C E ht hn h)
  · have h := h.2 c9
    refine r_iconst (pc := 107) C (v := (1 : Int32)) dX11_isForward_107 (by decide) ?_
    refine r_goto (pc := 108) C (tgt := 112) dX11_isForward_108 (by decide) ?_
    exact r_sub [1, 3, 4, 5, 0] rfl (T_X11_isForward_112 C E ht hn h)
def P_X11_isForward_54 (Q : Int32 → HS → Prop) (v0 : Nat) (v1 : Int32) (v2 : Int32) (v4 : Int32) (v6 : Int32) (v7 : Int32) (s0 : Int32) (S : HS) : Prop := ob S v0 11 ∧ (∃ a1 : Nat, fR S v0 3 = some a1 ∧ (ob S a1 10 ∧ (∃ a2 : Nat, fR S a1 21 = some a2 ∧ (ob S a2 13 ∧ (vp_in v1 (hN S a2) ∧ ∀ x4 : Int32, x4 = fI S a2 v1.toNatClampNeg → (((x4 ≤ v6) → (∃ a6 : Nat, fR S v0 3 = some a6 ∧ (ob S a6 10 ∧ (∃ a7 : Nat, fR S a6 21 = some a7 ∧ (ob S a7 13 ∧ (vp_in v1 (hN S a7) ∧ ∀ x9 : Int32, x9 = fI S a7 v1.toNatClampNeg → (P_X11_isForward_84 Q v0 v2 v4 v7 s0 x9 S))))))) ∧ ((¬ x4 ≤ v6) → (P_X11_isForward_84 Q v0 v2 v4 v7 s0 v6 S))))))))
set_option maxRecDepth 20000 in
set_option maxHeartbeats 4000000 in
theorem T_X11_isForward_54 {X : CX} {Q : Int32 → HS → Prop} (C : Cx X cX11_isForward RX11 11 rm_X11_isForward) (E : ReI X rm_X11_isForward (fun r S => bl r ∧ Q r S)) (ht : (xh X).sig.returnType = (some .boolean)) (hn : (xh X).name = yX11_isForward.name) {v0 : Nat} {v1 : Int32} {v2 : Int32} {v4 : Int32} {v6 : Int32} {v7 : Int32} {s0 : Int32} {S : HS} (h : P_X11_isForward_54 Q v0 v1 v2 v4 v6 v7 s0 S) : WS X 11 0 0 54 [(0, .ref v0), (1, .int v1), (2, .int v2), (4, .int v4), (6, .int v6), (7, .int v7)] [.int s0] S := by
  refine r_istore (pc := 54) C dX11_isForward_54 (by decide) (lv' := [(8, .int s0), (0, .ref v0), (1, .int v1), (2, .int v2), (4, .int v4), (6, .int v6), (7, .int v7)]) rfl ?_
  refine r_iload (pc := 56) C dX11_isForward_56 5 rfl ?_
  refine r_aload_n (pc := 58) C dX11_isForward_58 1 rfl ?_
  obtain ⟨o_v0, h⟩ := h
  obtain ⟨a1, ea1, h⟩ := h
  refine r_getr (pc := 59) C fL_X11_338 dX11_isForward_59 o_v0 ea1 ?_
  obtain ⟨o_a1, h⟩ := h
  obtain ⟨a2, ea2, h⟩ := h
  refine r_getNr (pc := 62) C fN_X11_308 dX11_isForward_62 o_a1 ea2 ?_
  refine r_iload_n (pc := 65) C dX11_isForward_65 2 rfl ?_
  obtain ⟨o_a2, h⟩ := h
  obtain ⟨i3, h⟩ := h
  refine r_iald (pc := 66) C dX11_isForward_66 o_a2 i3 ?_
  refine r_topi (fun x4 ex4 => ?_)
  have h := h x4 ex4
  refine r_icmp_ge (pc := 67) C (tgt := 75) dX11_isForward_67 (by decide) (fun c5 => ?_) (fun c5 => ?_)
  · have h := h.1 c5
    refine r_aload_n (pc := 75) C dX11_isForward_75 1 rfl ?_
    obtain ⟨a6, ea6, h⟩ := h
    refine r_getr (pc := 76) C fL_X11_338 dX11_isForward_76 o_v0 ea6 ?_
    obtain ⟨o_a6, h⟩ := h
    obtain ⟨a7, ea7, h⟩ := h
    refine r_getNr (pc := 79) C fN_X11_308 dX11_isForward_79 o_a6 ea7 ?_
    refine r_iload_n (pc := 82) C dX11_isForward_82 2 rfl ?_
    obtain ⟨o_a7, h⟩ := h
    obtain ⟨i8, h⟩ := h
    refine r_iald (pc := 83) C dX11_isForward_83 o_a7 i8 ?_
    refine r_topi (fun x9 ex9 => ?_)
    have h := h x9 ex9
    exact r_sub [1, 3, 4, 6, 0] rfl (T_X11_isForward_84 C E ht hn h)
  · have h := h.2 c5
    refine r_iload (pc := 70) C dX11_isForward_70 5 rfl ?_
    refine r_goto (pc := 72) C (tgt := 84) dX11_isForward_72 (by decide) ?_
    exact r_sub [1, 3, 4, 6, 0] rfl (T_X11_isForward_84 C E ht hn h)
def P_X11_isForward_0 (Q : Int32 → HS → Prop) (v0 : Nat) (v1 : Int32) (v2 : Int32) (v3 : Int32) (v4 : Int32) (v5 : Int32) (S : HS) : Prop := ob S v0 11 ∧ (∃ a1 : Nat, fR S v0 3 = some a1 ∧ (ob S a1 10 ∧ (P_X10_shield a1 v1 (fun x4 S2 => Gr S S2 → (∃ a5 : Nat, fR S2 v0 3 = some a5 ∧ (ob S2 a5 10 ∧ (P_X10_air a5 v2 v3 v4 (fun x8 S6 => Gr S2 S6 → (∀ x9 : Int32, x9 = v5 - x8 → (∃ a10 : Nat, fR S6 v0 3 = some a10 ∧ (ob S6 a10 10 ∧ (∃ a11 : Nat, fR S6 a10 22 = some a11 ∧ (ob S6 a11 13 ∧ (vp_in v1 (hN S6 a11) ∧ ∀ x13 : Int32, x13 = fI S6 a11 v1.toNatClampNeg → (((x13 ≤ x4) → (∃ a15 : Nat, fR S6 v0 3 = some a15 ∧ (ob S6 a15 10 ∧ (∃ a16 : Nat, fR S6 a15 22 = some a16 ∧ (ob S6 a16 13 ∧ (vp_in v1 (hN S6 a16) ∧ ∀ x18 : Int32, x18 = fI S6 a16 v1.toNatClampNeg → (P_X11_isForward_54 Q v0 v1 v2 v4 x4 x9 x18 S6))))))) ∧ ((¬ x13 ≤ x4) → (P_X11_isForward_54 Q v0 v1 v2 v4 x4 x9 x4 S6)))))))))) S2)))) S)))
set_option maxRecDepth 20000 in
set_option maxHeartbeats 4000000 in
theorem T_X11_isForward_0 {X : CX} {Q : Int32 → HS → Prop} (C : Cx X cX11_isForward RX11 11 rm_X11_isForward) (E : ReI X rm_X11_isForward (fun r S => bl r ∧ Q r S)) (ht : (xh X).sig.returnType = (some .boolean)) (hn : (xh X).name = yX11_isForward.name) {v0 : Nat} {v1 : Int32} {v2 : Int32} {v3 : Int32} {v4 : Int32} {v5 : Int32} {S : HS} (h : P_X11_isForward_0 Q v0 v1 v2 v3 v4 v5 S) : WS X 11 0 0 0 [(0, .ref v0), (1, .int v1), (2, .int v2), (3, .int v3), (4, .int v4), (5, .int v5)] [] S := by
  refine r_aload_n (pc := 0) C dX11_isForward_0 0 rfl ?_
  obtain ⟨o_v0, h⟩ := h
  obtain ⟨a1, ea1, h⟩ := h
  refine r_getr (pc := 1) C fL_X11_338 dX11_isForward_1 o_v0 ea1 ?_
  refine r_iload_n (pc := 4) C dX11_isForward_4 1 rfl ?_
  obtain ⟨o_a1, h⟩ := h
  refine r_callVi0 (pc := 5) C (rest := []) (a := a1) o_a1 [.int v1] yV_X10_shield g_1578 (c_X10_shield h) dX11_isForward_5 rfl rfl (Nat.le_of_ble_eq_true rfl) ⟨by decide, by decide⟩ ⟨by decide, by decide⟩ ⟨rfl, rfl⟩ (fun x4 S2 h g3 => ?_)
  have h := h g3
  have o_a1 := gr_ob g3 o_a1
  have o_v0 := gr_ob g3 o_v0
  refine r_istore (pc := 8) C dX11_isForward_8 (by decide) (lv' := [(6, .int x4), (0, .ref v0), (1, .int v1), (2, .int v2), (3, .int v3), (4, .int v4), (5, .int v5)]) rfl ?_
  refine r_iload (pc := 10) C dX11_isForward_10 6 rfl ?_
  refine r_aload_n (pc := 12) C dX11_isForward_12 1 rfl ?_
  obtain ⟨a5, ea5, h⟩ := h
  refine r_getr (pc := 13) C fL_X11_338 dX11_isForward_13 o_v0 ea5 ?_
  refine r_iload_n (pc := 16) C dX11_isForward_16 3 rfl ?_
  refine r_iload_n (pc := 17) C dX11_isForward_17 4 rfl ?_
  refine r_iload (pc := 18) C dX11_isForward_18 5 rfl ?_
  obtain ⟨o_a5, h⟩ := h
  refine r_callVi0 (pc := 20) C (rest := [.int v5]) (a := a5) o_a5 [.int v2, .int v3, .int v4] yV_X10_air g_1562 (c_X10_air h) dX11_isForward_20 rfl rfl (Nat.le_of_ble_eq_true rfl) ⟨by decide, by decide⟩ ⟨by decide, by decide⟩ ⟨rfl, rfl⟩ (fun x8 S6 h g7 => ?_)
  have h := h g7
  have o_a1 := gr_ob g7 o_a1
  have o_a5 := gr_ob g7 o_a5
  have o_v0 := gr_ob g7 o_v0
  refine r_isub (pc := 23) C dX11_isForward_23 ?_
  refine r_topi (fun x9 ex9 => ?_)
  have h := h x9 ex9
  refine r_istore (pc := 24) C dX11_isForward_24 (by decide) (lv' := [(7, .int x9), (6, .int x4), (0, .ref v0), (1, .int v1), (2, .int v2), (3, .int v3), (4, .int v4), (5, .int v5)]) rfl ?_
  refine r_iload (pc := 26) C dX11_isForward_26 1 rfl ?_
  refine r_aload_n (pc := 28) C dX11_isForward_28 2 rfl ?_
  obtain ⟨a10, ea10, h⟩ := h
  refine r_getr (pc := 29) C fL_X11_338 dX11_isForward_29 o_v0 ea10 ?_
  obtain ⟨o_a10, h⟩ := h
  obtain ⟨a11, ea11, h⟩ := h
  refine r_getNr (pc := 32) C fN_X11_311 dX11_isForward_32 o_a10 ea11 ?_
  refine r_iload_n (pc := 35) C dX11_isForward_35 3 rfl ?_
  obtain ⟨o_a11, h⟩ := h
  obtain ⟨i12, h⟩ := h
  refine r_iald (pc := 36) C dX11_isForward_36 o_a11 i12 ?_
  refine r_topi (fun x13 ex13 => ?_)
  have h := h x13 ex13
  refine r_icmp_ge (pc := 37) C (tgt := 45) dX11_isForward_37 (by decide) (fun c14 => ?_) (fun c14 => ?_)
  · have h := h.1 c14
    refine r_aload_n (pc := 45) C dX11_isForward_45 2 rfl ?_
    obtain ⟨a15, ea15, h⟩ := h
    refine r_getr (pc := 46) C fL_X11_338 dX11_isForward_46 o_v0 ea15 ?_
    obtain ⟨o_a15, h⟩ := h
    obtain ⟨a16, ea16, h⟩ := h
    refine r_getNr (pc := 49) C fN_X11_311 dX11_isForward_49 o_a15 ea16 ?_
    refine r_iload_n (pc := 52) C dX11_isForward_52 3 rfl ?_
    obtain ⟨o_a16, h⟩ := h
    obtain ⟨i17, h⟩ := h
    refine r_iald (pc := 53) C dX11_isForward_53 o_a16 i17 ?_
    refine r_topi (fun x18 ex18 => ?_)
    have h := h x18 ex18
    exact r_sub [2, 3, 4, 6, 1, 0] rfl (T_X11_isForward_54 C E ht hn h)
  · have h := h.2 c14
    refine r_iload (pc := 40) C dX11_isForward_40 1 rfl ?_
    refine r_goto (pc := 42) C (tgt := 54) dX11_isForward_42 (by decide) ?_
    exact r_sub [2, 3, 4, 6, 1, 0] rfl (T_X11_isForward_54 C E ht hn h)
def P_X11_isForward (v0 : Nat) (v1 : Int32) (v2 : Int32) (v3 : Int32) (v4 : Int32) (v5 : Int32) (Q : Int32 → HS → Prop) (S : HS) : Prop := P_X11_isForward_0 Q v0 v1 v2 v3 v4 v5 S
theorem c_X11_isForward {l : Launch} {Ee : EE} {S : HS} {v0 : Nat} {v1 : Int32} {v2 : Int32} {v3 : Int32} {v4 : Int32} {v5 : Int32} {Q : Int32 → HS → Prop} (h : P_X11_isForward v0 v1 v2 v3 v4 v5 Q S) : MI l yX11_isForward cX11_isForward 11 (some .boolean) rm_X11_isForward Ee S [.ref v0, .int v1, .int v2, .int v3, .int v4, .int v5] (fun r S => bl r ∧ Q r S) :=
  openI (by decide) (Nat.le_of_ble_eq_true rfl) (fun X C E ht hn hE hl => by subst hE; exact r_sub [0, 1, 2, 3, 4, 5] rfl (T_X11_isForward_0 C E ht hn h))
def rm_X11_less : Room := { frames := 0, cells := 0, slots := 0, locals := 0 }
def P_X11_less_0 (Q : Int32 → HS → Prop) (v0 : Int32) (v1 : Int32) (S : HS) : Prop := ((v0 ≤ v1) → (Q (0 : Int32) S)) ∧ ((¬ v0 ≤ v1) → (Q (v0 - v1) S))
set_option maxRecDepth 20000 in
set_option maxHeartbeats 4000000 in
theorem T_X11_less_0 {X : CX} {Q : Int32 → HS → Prop} (C : Cx X cX11_less RX11 2 rm_X11_less) (E : ReI X rm_X11_less Q) (ht : (xh X).sig.returnType = (some .int)) (hn : (xh X).name = yX11_less.name) {v0 : Int32} {v1 : Int32} {S : HS} (h : P_X11_less_0 Q v0 v1 S) : WS X 2 0 0 0 [(0, .int v0), (1, .int v1)] [] S := by
  refine r_iload_n (pc := 0) C dX11_less_0 0 rfl ?_
  refine r_iload_n (pc := 1) C dX11_less_1 1 rfl ?_
  refine r_icmp_le (pc := 2) C (tgt := 11) dX11_less_2 (by decide) (fun c1 => ?_) (fun c1 => ?_)
  · have h := h.1 c1
    refine r_iconst (pc := 11) C (v := (0 : Int32)) dX11_less_11 (by decide) ?_
    exact r_iret (pc := 12) C E ht dX11_less_12 (by decide) (by decide) h
  · have h := h.2 c1
    refine r_iload_n (pc := 5) C dX11_less_5 0 rfl ?_
    refine r_iload_n (pc := 6) C dX11_less_6 1 rfl ?_
    refine r_isub (pc := 7) C dX11_less_7 ?_
    refine r_goto (pc := 8) C (tgt := 12) dX11_less_8 (by decide) ?_
    exact r_iret (pc := 12) C E ht dX11_less_12 (by decide) (by decide) h
def P_X11_less (v0 : Int32) (v1 : Int32) (Q : Int32 → HS → Prop) (S : HS) : Prop := P_X11_less_0 Q v0 v1 S
theorem c_X11_less {l : Launch} {Ee : EE} {S : HS} {v0 : Int32} {v1 : Int32} {Q : Int32 → HS → Prop} (h : P_X11_less v0 v1 Q S) : MI l yX11_less cX11_less 2 (some .int) rm_X11_less Ee S [.int v0, .int v1] Q :=
  openI (by decide) (Nat.le_of_ble_eq_true rfl) (fun X C E ht hn hE hl => by subst hE; exact r_sub [0, 1] rfl (T_X11_less_0 C E ht hn h))
def rm_X11_inTime : Room := { frames := 3, cells := 0, slots := 0, locals := 76 }
def P_X11_inTime_129 (Q : Int32 → HS → Prop) (s0 : Int32) (s1 : Int32) (s2 : Int32) (S : HS) : Prop := P_X11_less s1 s2 (fun x3 S1 => Gr S S1 → (Q (s0 * x3) S1)) S
set_option maxRecDepth 20000 in
set_option maxHeartbeats 4000000 in
theorem T_X11_inTime_129 {X : CX} {Q : Int32 → HS → Prop} (C : Cx X cX11_inTime RX11 14 rm_X11_inTime) (E : ReI X rm_X11_inTime Q) (ht : (xh X).sig.returnType = (some .int)) (hn : (xh X).name = yX11_inTime.name) {s0 : Int32} {s1 : Int32} {s2 : Int32} {S : HS} (h : P_X11_inTime_129 Q s0 s1 s2 S) : WS X 14 0 0 129 [] [.int s2, .int s1, .int s0] S := by
  refine r_callSi0 (pc := 129) C (rest := [.int s0]) rfl [.int s1, .int s2] yS_X11_less g_1582 (c_X11_less h) dX11_inTime_129 rfl rfl (Nat.le_of_ble_eq_true rfl) ⟨by decide, by decide⟩ ⟨by decide, by decide⟩ ⟨rfl, rfl⟩ (fun x3 S1 h g2 => ?_)
  have h := h g2
  refine r_imul (pc := 132) C dX11_inTime_132 ?_
  exact r_iret (pc := 133) C E ht dX11_inTime_133 (by decide) (by decide) h
def P_X11_inTime_164 (Q : Int32 → HS → Prop) (v7 : Int32) (s0 : Int32) (s1 : Int32) (s2 : Int32) (S : HS) : Prop := P_X11_less s1 s2 (fun x3 S1 => Gr S S1 → (P_X11_less x3 v7 (fun x6 S4 => Gr S1 S4 → (Q (s0 * x6) S4)) S1)) S
set_option maxRecDepth 20000 in
set_option maxHeartbeats 4000000 in
theorem T_X11_inTime_164 {X : CX} {Q : Int32 → HS → Prop} (C : Cx X cX11_inTime RX11 14 rm_X11_inTime) (E : ReI X rm_X11_inTime Q) (ht : (xh X).sig.returnType = (some .int)) (hn : (xh X).name = yX11_inTime.name) {v7 : Int32} {s0 : Int32} {s1 : Int32} {s2 : Int32} {S : HS} (h : P_X11_inTime_164 Q v7 s0 s1 s2 S) : WS X 14 0 0 164 [(7, .int v7)] [.int s2, .int s1, .int s0] S := by
  refine r_callSi0 (pc := 164) C (rest := [.int s0]) rfl [.int s1, .int s2] yS_X11_less g_1582 (c_X11_less h) dX11_inTime_164 rfl rfl (Nat.le_of_ble_eq_true rfl) ⟨by decide, by decide⟩ ⟨by decide, by decide⟩ ⟨rfl, rfl⟩ (fun x3 S1 h g2 => ?_)
  have h := h g2
  refine r_iload (pc := 167) C dX11_inTime_167 0 rfl ?_
  refine r_callSi0 (pc := 169) C (rest := [.int s0]) rfl [.int x3, .int v7] yS_X11_less g_1582 (c_X11_less h) dX11_inTime_169 rfl rfl (Nat.le_of_ble_eq_true rfl) ⟨by decide, by decide⟩ ⟨by decide, by decide⟩ ⟨rfl, rfl⟩ (fun x6 S4 h g5 => ?_)
  have h := h g5
  refine r_imul (pc := 172) C dX11_inTime_172 ?_
  refine r_goto (pc := 173) C (tgt := 177) dX11_inTime_173 (by decide) ?_
  exact r_iret (pc := 177) C E ht dX11_inTime_177 (by decide) (by decide) h
def P_X11_inTime_0 (Q : Int32 → HS → Prop) (v0 : Nat) (v1 : Int32) (v2 : Int32) (v3 : Int32) (v4 : Int32) (v5 : Int32) (v6 : Int32) (v7 : Int32) (v8 : Int32) (S : HS) : Prop := ob S v0 11 ∧ (∃ a1 : Nat, fR S v0 3 = some a1 ∧ (ob S a1 10 ∧ (∃ a2 : Nat, fR S a1 7 = some a2 ∧ (ob S a2 13 ∧ (vp_in v4 (hN S a2) ∧ ∀ x4 : Int32, x4 = fI S a2 v4.toNatClampNeg → (∃ a5 : Nat, fR S v0 3 = some a5 ∧ (ob S a5 10 ∧ (P_X10_air a5 v2 v3 v4 (fun x8 S6 => Gr S S6 → (∀ x9 : Int32, x9 = v5 - x8 → (∃ a10 : Nat, fR S6 v0 3 = some a10 ∧ (ob S6 a10 10 ∧ (P_X10_across a10 v2 v3 v4 (fun x13 S11 => Gr S6 S11 → (P_X11_isForward v0 v1 v2 v3 v4 v5 (fun x16 S14 => Gr S11 S14 → bl x16 → (∃ a17 : Nat, fR S14 v0 3 = some a17 ∧ (ob S14 a17 10 ∧ (P_X10_shield a17 v1 (fun x20 S18 => Gr S14 S18 → ((v6.toInt < 0 ∨ 3 < v6.toInt → (((0 ≤ x13) → (Q (0 : Int32) S18)) ∧ ((¬ 0 ≤ x13) → (∃ a23 : Nat, fR S18 v0 3 = some a23 ∧ (ob S18 a23 10 ∧ (∃ a24 : Nat, fR S18 a23 23 = some a24 ∧ (ob S18 a24 13 ∧ (vp_in v1 (hN S18 a24) ∧ ∀ x26 : Int32, x26 = fI S18 a24 v1.toNatClampNeg → (Q ((x4 * (-x13)) * x26) S18))))))))) ∧ (v6.toInt = 0 → (∃ a27 : Nat, fR S18 v0 3 = some a27 ∧ (ob S18 a27 10 ∧ (∃ a28 : Nat, fR S18 a27 8 = some a28 ∧ (ob S18 a28 13 ∧ (vp_in v4 (hN S18 a28) ∧ ∀ x30 : Int32, x30 = fI S18 a28 v4.toNatClampNeg → (∃ a31 : Nat, fR S18 v0 3 = some a31 ∧ (ob S18 a31 10 ∧ (∃ a32 : Nat, fR S18 a31 21 = some a32 ∧ (ob S18 a32 13 ∧ (vp_in v1 (hN S18 a32) ∧ ∀ x34 : Int32, x34 = fI S18 a32 v1.toNatClampNeg → (((x16 = 0) → (P_X11_inTime_129 Q (x4 * x30) x34 x20 S18)) ∧ ((¬ x16 = 0) → (P_X11_inTime_129 Q (x4 * x30) x34 (0 : Int32) S18)))))))))))))) ∧ (v6.toInt = 1 → (((x9 ≤ 0) → (Q (0 : Int32) S18)) ∧ ((¬ x9 ≤ 0) → (∃ a37 : Nat, fR S18 v0 3 = some a37 ∧ (ob S18 a37 10 ∧ (∃ a38 : Nat, fR S18 a37 22 = some a38 ∧ (ob S18 a38 13 ∧ (vp_in v1 (hN S18 a38) ∧ ∀ x40 : Int32, x40 = fI S18 a38 v1.toNatClampNeg → (((x16 = 0) → (P_X11_inTime_164 Q v7 (x4 * x9) x40 (0 : Int32) S18)) ∧ ((¬ x16 = 0) → (P_X11_inTime_164 Q v7 (x4 * x9) x40 x20 S18))))))))))) ∧ (v6.toInt = 2 → (((0 ≤ x9) → (Q (0 : Int32) S18)) ∧ ((¬ 0 ≤ x9) → (∃ a43 : Nat, fR S18 v0 3 = some a43 ∧ (ob S18 a43 10 ∧ (∃ a44 : Nat, fR S18 a43 22 = some a44 ∧ (ob S18 a44 13 ∧ (vp_in v1 (hN S18 a44) ∧ ∀ x46 : Int32, x46 = fI S18 a44 v1.toNatClampNeg → (P_X11_less x46 v8 (fun x49 S47 => Gr S18 S47 → (Q ((x4 * (-x9)) * x49) S47)) S18))))))))) ∧ (v6.toInt = 3 → (((x13 ≤ 0) → (Q (0 : Int32) S18)) ∧ ((¬ x13 ≤ 0) → (∃ a51 : Nat, fR S18 v0 3 = some a51 ∧ (ob S18 a51 10 ∧ (∃ a52 : Nat, fR S18 a51 23 = some a52 ∧ (ob S18 a52 13 ∧ (vp_in v1 (hN S18 a52) ∧ ∀ x54 : Int32, x54 = fI S18 a52 v1.toNatClampNeg → (Q ((x4 * x13) * x54) S18))))))))))) S14)))) S11)) S6))))) S))))))))
set_option maxRecDepth 20000 in
set_option maxHeartbeats 4000000 in
theorem T_X11_inTime_0 {X : CX} {Q : Int32 → HS → Prop} (C : Cx X cX11_inTime RX11 14 rm_X11_inTime) (E : ReI X rm_X11_inTime Q) (ht : (xh X).sig.returnType = (some .int)) (hn : (xh X).name = yX11_inTime.name) {v0 : Nat} {v1 : Int32} {v2 : Int32} {v3 : Int32} {v4 : Int32} {v5 : Int32} {v6 : Int32} {v7 : Int32} {v8 : Int32} {S : HS} (h : P_X11_inTime_0 Q v0 v1 v2 v3 v4 v5 v6 v7 v8 S) : WS X 14 0 0 0 [(0, .ref v0), (1, .int v1), (2, .int v2), (3, .int v3), (4, .int v4), (5, .int v5), (6, .int v6), (7, .int v7), (8, .int v8)] [] S := by
  refine r_aload_n (pc := 0) C dX11_inTime_0 0 rfl ?_
  obtain ⟨o_v0, h⟩ := h
  obtain ⟨a1, ea1, h⟩ := h
  refine r_getr (pc := 1) C fL_X11_338 dX11_inTime_1 o_v0 ea1 ?_
  obtain ⟨o_a1, h⟩ := h
  obtain ⟨a2, ea2, h⟩ := h
  refine r_getNr (pc := 4) C fN_X11_237 dX11_inTime_4 o_a1 ea2 ?_
  refine r_iload (pc := 7) C dX11_inTime_7 4 rfl ?_
  obtain ⟨o_a2, h⟩ := h
  obtain ⟨i3, h⟩ := h
  refine r_iald (pc := 9) C dX11_inTime_9 o_a2 i3 ?_
  refine r_topi (fun x4 ex4 => ?_)
  have h := h x4 ex4
  refine r_istore (pc := 10) C dX11_inTime_10 (by decide) (lv' := [(9, .int x4), (0, .ref v0), (1, .int v1), (2, .int v2), (3, .int v3), (4, .int v4), (5, .int v5), (6, .int v6), (7, .int v7), (8, .int v8)]) rfl ?_
  refine r_iload (pc := 12) C dX11_inTime_12 6 rfl ?_
  refine r_aload_n (pc := 14) C dX11_inTime_14 1 rfl ?_
  obtain ⟨a5, ea5, h⟩ := h
  refine r_getr (pc := 15) C fL_X11_338 dX11_inTime_15 o_v0 ea5 ?_
  refine r_iload_n (pc := 18) C dX11_inTime_18 3 rfl ?_
  refine r_iload_n (pc := 19) C dX11_inTime_19 4 rfl ?_
  refine r_iload (pc := 20) C dX11_inTime_20 5 rfl ?_
  obtain ⟨o_a5, h⟩ := h
  refine r_callVi0 (pc := 22) C (rest := [.int v5]) (a := a5) o_a5 [.int v2, .int v3, .int v4] yV_X10_air g_1562 (c_X10_air h) dX11_inTime_22 rfl rfl (Nat.le_of_ble_eq_true rfl) ⟨by decide, by decide⟩ ⟨by decide, by decide⟩ ⟨rfl, rfl⟩ (fun x8 S6 h g7 => ?_)
  have h := h g7
  have o_a1 := gr_ob g7 o_a1
  have o_a2 := gr_ob g7 o_a2
  have o_a5 := gr_ob g7 o_a5
  have o_v0 := gr_ob g7 o_v0
  refine r_isub (pc := 25) C dX11_inTime_25 ?_
  refine r_topi (fun x9 ex9 => ?_)
  have h := h x9 ex9
  refine r_istore (pc := 26) C dX11_inTime_26 (by decide) (lv' := [(10, .int x9), (9, .int x4), (0, .ref v0), (1, .int v1), (2, .int v2), (3, .int v3), (4, .int v4), (5, .int v5), (6, .int v6), (7, .int v7), (8, .int v8)]) rfl ?_
  refine r_aload_n (pc := 28) C dX11_inTime_28 2 rfl ?_
  obtain ⟨a10, ea10, h⟩ := h
  refine r_getr (pc := 29) C fL_X11_338 dX11_inTime_29 o_v0 ea10 ?_
  refine r_iload_n (pc := 32) C dX11_inTime_32 4 rfl ?_
  refine r_iload_n (pc := 33) C dX11_inTime_33 5 rfl ?_
  refine r_iload (pc := 34) C dX11_inTime_34 6 rfl ?_
  obtain ⟨o_a10, h⟩ := h
  refine r_callVi0 (pc := 36) C (rest := []) (a := a10) o_a10 [.int v2, .int v3, .int v4] yV_X10_across g_1570 (c_X10_across h) dX11_inTime_36 rfl rfl (Nat.le_of_ble_eq_true rfl) ⟨by decide, by decide⟩ ⟨by decide, by decide⟩ ⟨rfl, rfl⟩ (fun x13 S11 h g12 => ?_)
  have h := h g12
  have o_a1 := gr_ob g12 o_a1
  have o_a10 := gr_ob g12 o_a10
  have o_a2 := gr_ob g12 o_a2
  have o_a5 := gr_ob g12 o_a5
  have o_v0 := gr_ob g12 o_v0
  refine r_istore (pc := 39) C dX11_inTime_39 (by decide) (lv' := [(11, .int x13), (10, .int x9), (9, .int x4), (0, .ref v0), (1, .int v1), (2, .int v2), (3, .int v3), (4, .int v4), (5, .int v5), (6, .int v6), (7, .int v7), (8, .int v8)]) rfl ?_
  refine r_aload_n (pc := 41) C dX11_inTime_41 3 rfl ?_
  refine r_iload_n (pc := 42) C dX11_inTime_42 4 rfl ?_
  refine r_iload_n (pc := 43) C dX11_inTime_43 5 rfl ?_
  refine r_iload_n (pc := 44) C dX11_inTime_44 6 rfl ?_
  refine r_iload (pc := 45) C dX11_inTime_45 7 rfl ?_
  refine r_iload (pc := 47) C dX11_inTime_47 8 rfl ?_
  refine r_callVi0 (pc := 49) C (rest := []) (a := v0) o_v0 [.int v1, .int v2, .int v3, .int v4, .int v5] yV_X11_isForward g_1574 (c_X11_isForward h) dX11_inTime_49 rfl rfl (Nat.le_of_ble_eq_true rfl) ⟨by decide, by decide⟩ ⟨by decide, by decide⟩ ⟨rfl, rfl⟩ (fun x16 S14 h g15 => ?_)
  have bx16 := h.1
  have h := h.2 g15 bx16
  have o_a1 := gr_ob g15 o_a1
  have o_a10 := gr_ob g15 o_a10
  have o_a2 := gr_ob g15 o_a2
  have o_a5 := gr_ob g15 o_a5
  have o_v0 := gr_ob g15 o_v0
  refine r_istore (pc := 52) C dX11_inTime_52 (by decide) (lv' := [(12, .int x16), (11, .int x13), (10, .int x9), (9, .int x4), (0, .ref v0), (1, .int v1), (2, .int v2), (3, .int v3), (4, .int v4), (5, .int v5), (6, .int v6), (7, .int v7), (8, .int v8)]) rfl ?_
  refine r_aload_n (pc := 54) C dX11_inTime_54 4 rfl ?_
  obtain ⟨a17, ea17, h⟩ := h
  refine r_getr (pc := 55) C fL_X11_338 dX11_inTime_55 o_v0 ea17 ?_
  refine r_iload_n (pc := 58) C dX11_inTime_58 5 rfl ?_
  obtain ⟨o_a17, h⟩ := h
  refine r_callVi0 (pc := 59) C (rest := []) (a := a17) o_a17 [.int v1] yV_X10_shield g_1578 (c_X10_shield h) dX11_inTime_59 rfl rfl (Nat.le_of_ble_eq_true rfl) ⟨by decide, by decide⟩ ⟨by decide, by decide⟩ ⟨rfl, rfl⟩ (fun x20 S18 h g19 => ?_)
  have h := h g19
  have o_a1 := gr_ob g19 o_a1
  have o_a10 := gr_ob g19 o_a10
  have o_a17 := gr_ob g19 o_a17
  have o_a2 := gr_ob g19 o_a2
  have o_a5 := gr_ob g19 o_a5
  have o_v0 := gr_ob g19 o_v0
  refine r_istore (pc := 62) C dX11_inTime_62 (by decide) (lv' := [(13, .int x20), (12, .int x16), (11, .int x13), (10, .int x9), (9, .int x4), (0, .ref v0), (1, .int v1), (2, .int v2), (3, .int v3), (4, .int v4), (5, .int v5), (6, .int v6), (7, .int v7), (8, .int v8)]) rfl ?_
  refine r_iload (pc := 64) C dX11_inTime_64 11 rfl ?_
  refine r_table (pc := 66) C (tgt := 234) dX11_inTime_66 (by decide) (fun c21 => ?_) (fun j hj hx => ?_)
  · have h := h.1 c21
    refine r_iload (pc := 234) C dX11_inTime_234 2 rfl ?_
    refine r_if_ge (pc := 236) C (tgt := 258) dX11_inTime_236 (by decide) (fun c22 => ?_) (fun c22 => ?_)
    · have h := h.1 c22
      refine r_iconst (pc := 258) C (v := (0 : Int32)) dX11_inTime_258 (by decide) ?_
      exact r_iret (pc := 259) C E ht dX11_inTime_259 (by decide) (by decide) h
    · have h := h.2 c22
      refine r_iload (pc := 239) C dX11_inTime_239 4 rfl ?_
      refine r_iload (pc := 241) C dX11_inTime_241 2 rfl ?_
      refine r_ineg (pc := 243) C dX11_inTime_243 ?_
      refine r_imul (pc := 244) C dX11_inTime_244 ?_
      refine r_aload_n (pc := 245) C dX11_inTime_245 5 rfl ?_
      obtain ⟨a23, ea23, h⟩ := h
      refine r_getr (pc := 246) C fL_X11_338 dX11_inTime_246 o_v0 ea23 ?_
      obtain ⟨o_a23, h⟩ := h
      obtain ⟨a24, ea24, h⟩ := h
      refine r_getNr (pc := 249) C fN_X11_314 dX11_inTime_249 o_a23 ea24 ?_
      refine r_iload_n (pc := 252) C dX11_inTime_252 6 rfl ?_
      obtain ⟨o_a24, h⟩ := h
      obtain ⟨i25, h⟩ := h
      refine r_iald (pc := 253) C dX11_inTime_253 o_a24 i25 ?_
      refine r_topi (fun x26 ex26 => ?_)
      have h := h x26 ex26
      refine r_imul (pc := 254) C dX11_inTime_254 ?_
      refine r_goto (pc := 255) C (tgt := 259) dX11_inTime_255 (by decide) ?_
      exact r_iret (pc := 259) C E ht dX11_inTime_259 (by decide) (by decide) h
  · match j, hj, hx with
    | 0, _, hx =>
      refine ⟨30, 96, rfl, by decide, ?_⟩
      have h := h.2.1 (by simpa using hx)
      refine r_iload (pc := 96) C dX11_inTime_96 4 rfl ?_
      refine r_aload_n (pc := 98) C dX11_inTime_98 5 rfl ?_
      obtain ⟨a27, ea27, h⟩ := h
      refine r_getr (pc := 99) C fL_X11_338 dX11_inTime_99 o_v0 ea27 ?_
      obtain ⟨o_a27, h⟩ := h
      obtain ⟨a28, ea28, h⟩ := h
      refine r_getNr (pc := 102) C fN_X11_239 dX11_inTime_102 o_a27 ea28 ?_
      refine r_iload (pc := 105) C dX11_inTime_105 9 rfl ?_
      obtain ⟨o_a28, h⟩ := h
      obtain ⟨i29, h⟩ := h
      refine r_iald (pc := 107) C dX11_inTime_107 o_a28 i29 ?_
      refine r_topi (fun x30 ex30 => ?_)
      have h := h x30 ex30
      refine r_imul (pc := 108) C dX11_inTime_108 ?_
      refine r_aload_n (pc := 109) C dX11_inTime_109 5 rfl ?_
      obtain ⟨a31, ea31, h⟩ := h
      refine r_getr (pc := 110) C fL_X11_338 dX11_inTime_110 o_v0 ea31 ?_
      obtain ⟨o_a31, h⟩ := h
      obtain ⟨a32, ea32, h⟩ := h
      refine r_getNr (pc := 113) C fN_X11_308 dX11_inTime_113 o_a31 ea32 ?_
      refine r_iload_n (pc := 116) C dX11_inTime_116 6 rfl ?_
      obtain ⟨o_a32, h⟩ := h
      obtain ⟨i33, h⟩ := h
      refine r_iald (pc := 117) C dX11_inTime_117 o_a32 i33 ?_
      refine r_topi (fun x34 ex34 => ?_)
      have h := h x34 ex34
      refine r_iload (pc := 118) C dX11_inTime_118 1 rfl ?_
      refine r_if_eq (pc := 120) C (tgt := 127) dX11_inTime_120 (by decide) (fun c35 => ?_) (fun c35 => ?_)
      · have h := h.1 c35
        refine r_iload (pc := 127) C dX11_inTime_127 0 rfl ?_
        exact r_sub [] rfl (T_X11_inTime_129 C E ht hn h)
      · have h := h.2 c35
        refine r_iconst (pc := 123) C (v := (0 : Int32)) dX11_inTime_123 (by decide) ?_
        refine r_goto (pc := 124) C (tgt := 129) dX11_inTime_124 (by decide) ?_
        exact r_sub [] rfl (T_X11_inTime_129 C E ht hn h)
    | 1, _, hx =>
      refine ⟨68, 134, rfl, by decide, ?_⟩
      have h := h.2.2.1 (by simpa using hx)
      refine r_iload (pc := 134) C dX11_inTime_134 3 rfl ?_
      refine r_if_le (pc := 136) C (tgt := 176) dX11_inTime_136 (by decide) (fun c36 => ?_) (fun c36 => ?_)
      · have h := h.1 c36
        refine r_iconst (pc := 176) C (v := (0 : Int32)) dX11_inTime_176 (by decide) ?_
        exact r_iret (pc := 177) C E ht dX11_inTime_177 (by decide) (by decide) h
      · have h := h.2 c36
        refine r_iload (pc := 139) C dX11_inTime_139 4 rfl ?_
        refine r_iload (pc := 141) C dX11_inTime_141 3 rfl ?_
        refine r_imul (pc := 143) C dX11_inTime_143 ?_
        refine r_aload_n (pc := 144) C dX11_inTime_144 5 rfl ?_
        obtain ⟨a37, ea37, h⟩ := h
        refine r_getr (pc := 145) C fL_X11_338 dX11_inTime_145 o_v0 ea37 ?_
        obtain ⟨o_a37, h⟩ := h
        obtain ⟨a38, ea38, h⟩ := h
        refine r_getNr (pc := 148) C fN_X11_311 dX11_inTime_148 o_a37 ea38 ?_
        refine r_iload_n (pc := 151) C dX11_inTime_151 6 rfl ?_
        obtain ⟨o_a38, h⟩ := h
        obtain ⟨i39, h⟩ := h
        refine r_iald (pc := 152) C dX11_inTime_152 o_a38 i39 ?_
        refine r_topi (fun x40 ex40 => ?_)
        have h := h x40 ex40
        refine r_iload (pc := 153) C dX11_inTime_153 1 rfl ?_
        refine r_if_eq (pc := 155) C (tgt := 163) dX11_inTime_155 (by decide) (fun c41 => ?_) (fun c41 => ?_)
        · have h := h.1 c41
          refine r_iconst (pc := 163) C (v := (0 : Int32)) dX11_inTime_163 (by decide) ?_
          exact r_sub [12] rfl (T_X11_inTime_164 C E ht hn h)
        · have h := h.2 c41
          refine r_iload (pc := 158) C dX11_inTime_158 0 rfl ?_
          refine r_goto (pc := 160) C (tgt := 164) dX11_inTime_160 (by decide) ?_
          exact r_sub [12] rfl (T_X11_inTime_164 C E ht hn h)
    | 2, _, hx =>
      refine ⟨112, 178, rfl, by decide, ?_⟩
      have h := h.2.2.2.1 (by simpa using hx)
      refine r_iload (pc := 178) C dX11_inTime_178 3 rfl ?_
      refine r_if_ge (pc := 180) C (tgt := 207) dX11_inTime_180 (by decide) (fun c42 => ?_) (fun c42 => ?_)
      · have h := h.1 c42
        refine r_iconst (pc := 207) C (v := (0 : Int32)) dX11_inTime_207 (by decide) ?_
        exact r_iret (pc := 208) C E ht dX11_inTime_208 (by decide) (by decide) h
      · have h := h.2 c42
        refine r_iload (pc := 183) C dX11_inTime_183 4 rfl ?_
        refine r_iload (pc := 185) C dX11_inTime_185 3 rfl ?_
        refine r_ineg (pc := 187) C dX11_inTime_187 ?_
        refine r_imul (pc := 188) C dX11_inTime_188 ?_
        refine r_aload_n (pc := 189) C dX11_inTime_189 5 rfl ?_
        obtain ⟨a43, ea43, h⟩ := h
        refine r_getr (pc := 190) C fL_X11_338 dX11_inTime_190 o_v0 ea43 ?_
        obtain ⟨o_a43, h⟩ := h
        obtain ⟨a44, ea44, h⟩ := h
        refine r_getNr (pc := 193) C fN_X11_311 dX11_inTime_193 o_a43 ea44 ?_
        refine r_iload_n (pc := 196) C dX11_inTime_196 6 rfl ?_
        obtain ⟨o_a44, h⟩ := h
        obtain ⟨i45, h⟩ := h
        refine r_iald (pc := 197) C dX11_inTime_197 o_a44 i45 ?_
        refine r_topi (fun x46 ex46 => ?_)
        have h := h x46 ex46
        refine r_iload (pc := 198) C dX11_inTime_198 13 rfl ?_
        refine r_callSi0 (pc := 200) C (rest := [.int (x4 * (-x9))]) rfl [.int x46, .int v8] yS_X11_less g_1582 (c_X11_less h) dX11_inTime_200 rfl rfl (Nat.le_of_ble_eq_true rfl) ⟨by decide, by decide⟩ ⟨by decide, by decide⟩ ⟨rfl, rfl⟩ (fun x49 S47 h g48 => ?_)
        have h := h g48
        have o_a1 := gr_ob g48 o_a1
        have o_a10 := gr_ob g48 o_a10
        have o_a17 := gr_ob g48 o_a17
        have o_a2 := gr_ob g48 o_a2
        have o_a43 := gr_ob g48 o_a43
        have o_a44 := gr_ob g48 o_a44
        have o_a5 := gr_ob g48 o_a5
        have o_v0 := gr_ob g48 o_v0
        refine r_imul (pc := 203) C dX11_inTime_203 ?_
        refine r_goto (pc := 204) C (tgt := 208) dX11_inTime_204 (by decide) ?_
        exact r_iret (pc := 208) C E ht dX11_inTime_208 (by decide) (by decide) h
    | 3, _, hx =>
      refine ⟨143, 209, rfl, by decide, ?_⟩
      have h := h.2.2.2.2 (by simpa using hx)
      refine r_iload (pc := 209) C dX11_inTime_209 2 rfl ?_
      refine r_if_le (pc := 211) C (tgt := 232) dX11_inTime_211 (by decide) (fun c50 => ?_) (fun c50 => ?_)
      · have h := h.1 c50
        refine r_iconst (pc := 232) C (v := (0 : Int32)) dX11_inTime_232 (by decide) ?_
        exact r_iret (pc := 233) C E ht dX11_inTime_233 (by decide) (by decide) h
      · have h := h.2 c50
        refine r_iload (pc := 214) C dX11_inTime_214 4 rfl ?_
        refine r_iload (pc := 216) C dX11_inTime_216 2 rfl ?_
        refine r_imul (pc := 218) C dX11_inTime_218 ?_
        refine r_aload_n (pc := 219) C dX11_inTime_219 5 rfl ?_
        obtain ⟨a51, ea51, h⟩ := h
        refine r_getr (pc := 220) C fL_X11_338 dX11_inTime_220 o_v0 ea51 ?_
        obtain ⟨o_a51, h⟩ := h
        obtain ⟨a52, ea52, h⟩ := h
        refine r_getNr (pc := 223) C fN_X11_314 dX11_inTime_223 o_a51 ea52 ?_
        refine r_iload_n (pc := 226) C dX11_inTime_226 6 rfl ?_
        obtain ⟨o_a52, h⟩ := h
        obtain ⟨i53, h⟩ := h
        refine r_iald (pc := 227) C dX11_inTime_227 o_a52 i53 ?_
        refine r_topi (fun x54 ex54 => ?_)
        have h := h x54 ex54
        refine r_imul (pc := 228) C dX11_inTime_228 ?_
        refine r_goto (pc := 229) C (tgt := 233) dX11_inTime_229 (by decide) ?_
        exact r_iret (pc := 233) C E ht dX11_inTime_233 (by decide) (by decide) h
    | j + 4, hj, _ => exact absurd hj (by omega)
def P_X11_inTime (v0 : Nat) (v1 : Int32) (v2 : Int32) (v3 : Int32) (v4 : Int32) (v5 : Int32) (v6 : Int32) (v7 : Int32) (v8 : Int32) (Q : Int32 → HS → Prop) (S : HS) : Prop := P_X11_inTime_0 Q v0 v1 v2 v3 v4 v5 v6 v7 v8 S
theorem c_X11_inTime {l : Launch} {Ee : EE} {S : HS} {v0 : Nat} {v1 : Int32} {v2 : Int32} {v3 : Int32} {v4 : Int32} {v5 : Int32} {v6 : Int32} {v7 : Int32} {v8 : Int32} {Q : Int32 → HS → Prop} (h : P_X11_inTime v0 v1 v2 v3 v4 v5 v6 v7 v8 Q S) : MI l yX11_inTime cX11_inTime 14 (some .int) rm_X11_inTime Ee S [.ref v0, .int v1, .int v2, .int v3, .int v4, .int v5, .int v6, .int v7, .int v8] Q :=
  openI (by decide) (Nat.le_of_ble_eq_true rfl) (fun X C E ht hn hE hl => by subst hE; exact r_sub [0, 1, 2, 3, 4, 5, 6, 7, 8] rfl (T_X11_inTime_0 C E ht hn h))
