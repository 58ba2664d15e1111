section
def rm_X10_minutes : Room := { frames := 0, cells := 0, slots := 0, locals := 0 }
def P_X10_minutes_0 (Q : Int32 → HS → Prop) (v0 : Nat) (v1 : Int32) (v2 : Int32) (S : HS) : Prop := ob S v0 10 ∧ (∃ a1 : Nat, fR S v0 16 = some a1 ∧ (ob S a1 13 ∧ (vp_in v1 (hN S a1) ∧ ∀ x3 : Int32, x3 = fI S a1 v1.toNatClampNeg → (¬ v2 = 0 ∧ ∀ x5 : Int32, x5 = ((x3 + v2) - (1 : Int32)) / v2 → (Q x5 S)))))
set_option maxRecDepth 20000 in
set_option maxHeartbeats 4000000 in
theorem T_X10_minutes_0 {X : CX} {Q : Int32 → HS → Prop} (C : Cx X cX10_minutes RX10 3 rm_X10_minutes) (E : ReI X rm_X10_minutes Q) (ht : (xh X).sig.returnType = (some .int)) (hn : (xh X).name = yX10_minutes.name) {v0 : Nat} {v1 : Int32} {v2 : Int32} {S : HS} (h : P_X10_minutes_0 Q v0 v1 v2 S) : WS X 3 0 0 0 [(0, .ref v0), (1, .int v1), (2, .int v2)] [] S := by
  refine r_aload_n (pc := 0) C dX10_minutes_0 0 rfl ?_
  obtain ⟨o_v0, h⟩ := h
  obtain ⟨a1, ea1, h⟩ := h
  refine r_getr (pc := 1) C fL_X10_39 dX10_minutes_1 o_v0 ea1 ?_
  refine r_iload_n (pc := 4) C dX10_minutes_4 1 rfl ?_
  obtain ⟨o_a1, h⟩ := h
  obtain ⟨i2, h⟩ := h
  refine r_iald (pc := 5) C dX10_minutes_5 o_a1 i2 ?_
  refine r_topi (fun x3 ex3 => ?_)
  have h := h x3 ex3
  refine r_iload_n (pc := 6) C dX10_minutes_6 2 rfl ?_
  refine r_iadd (pc := 7) C dX10_minutes_7 ?_
  refine r_iconst (pc := 8) C (v := (1 : Int32)) dX10_minutes_8 (by decide) ?_
  refine r_isub (pc := 9) C dX10_minutes_9 ?_
  refine r_iload_n (pc := 10) C dX10_minutes_10 2 rfl ?_
  obtain ⟨q4, h⟩ := h
  refine r_idiv (pc := 11) C dX10_minutes_11 q4 ?_
  refine r_topi (fun x5 ex5 => ?_)
  have h := h x5 ex5
  exact r_iret (pc := 12) C E ht dX10_minutes_12 (by decide) (by decide) h
def P_X10_minutes (v0 : Nat) (v1 : Int32) (v2 : Int32) (Q : Int32 → HS → Prop) (S : HS) : Prop := P_X10_minutes_0 Q v0 v1 v2 S
theorem c_X10_minutes {l : Launch} {Ee : EE} {S : HS} {v0 : Nat} {v1 : Int32} {v2 : Int32} {Q : Int32 → HS → Prop} (h : P_X10_minutes v0 v1 v2 Q S) : MI l yX10_minutes cX10_minutes 3 (some .int) rm_X10_minutes Ee S [.ref v0, .int v1, .int v2] Q :=
  openI (by decide) (Nat.le_of_ble_eq_true rfl) (fun X C E ht hn hE hl => by subst hE; exact r_sub [0, 1, 2] rfl (T_X10_minutes_0 C E ht hn h))
def rm_X10_shield : Room := { frames := 0, cells := 0, slots := 0, locals := 0 }
def P_X10_shield_0 (Q : Int32 → HS → Prop) (v0 : Nat) (v1 : Int32) (S : HS) : Prop := ob S v0 10 ∧ (∃ a1 : Nat, fR S v0 19 = some a1 ∧ (ob S a1 13 ∧ (vp_in v1 (hN S a1) ∧ ∀ x3 : Int32, x3 = fI S a1 v1.toNatClampNeg → (((¬ x3 = (3 : Int32)) → (Q (0 : Int32) S)) ∧ ((x3 = (3 : Int32)) → (∃ a5 : Nat, fR S v0 20 = some a5 ∧ (ob S a5 13 ∧ (vp_in v1 (hN S a5) ∧ ∀ x7 : Int32, x7 = fI S a5 v1.toNatClampNeg → (Q x7 S)))))))))
set_option maxRecDepth 20000 in
set_option maxHeartbeats 4000000 in
theorem T_X10_shield_0 {X : CX} {Q : Int32 → HS → Prop} (C : Cx X cX10_shield RX10 2 rm_X10_shield) (E : ReI X rm_X10_shield Q) (ht : (xh X).sig.returnType = (some .int)) (hn : (xh X).name = yX10_shield.name) {v0 : Nat} {v1 : Int32} {S : HS} (h : P_X10_shield_0 Q v0 v1 S) : WS X 2 0 0 0 [(0, .ref v0), (1, .int v1)] [] S := by
  refine r_aload_n (pc := 0) C dX10_shield_0 0 rfl ?_
  obtain ⟨o_v0, h⟩ := h
  obtain ⟨a1, ea1, h⟩ := h
  refine r_getr (pc := 1) C fL_X10_49 dX10_shield_1 o_v0 ea1 ?_
  refine r_iload_n (pc := 4) C dX10_shield_4 1 rfl ?_
  obtain ⟨o_a1, h⟩ := h
  obtain ⟨i2, h⟩ := h
  refine r_iald (pc := 5) C dX10_shield_5 o_a1 i2 ?_
  refine r_topi (fun x3 ex3 => ?_)
  have h := h x3 ex3
  refine r_iconst (pc := 6) C (v := (3 : Int32)) dX10_shield_6 (by decide) ?_
  refine r_icmp_ne (pc := 7) C (tgt := 19) dX10_shield_7 (by decide) (fun c4 => ?_) (fun c4 => ?_)
  · have h := h.1 c4
    refine r_iconst (pc := 19) C (v := (0 : Int32)) dX10_shield_19 (by decide) ?_
    exact r_iret (pc := 20) C E ht dX10_shield_20 (by decide) (by decide) h
  · have h := h.2 c4
    refine r_aload_n (pc := 10) C dX10_shield_10 0 rfl ?_
    obtain ⟨a5, ea5, h⟩ := h
    refine r_getr (pc := 11) C fL_X10_52 dX10_shield_11 o_v0 ea5 ?_
    refine r_iload_n (pc := 14) C dX10_shield_14 1 rfl ?_
    obtain ⟨o_a5, h⟩ := h
    obtain ⟨i6, h⟩ := h
    refine r_iald (pc := 15) C dX10_shield_15 o_a5 i6 ?_
    refine r_topi (fun x7 ex7 => ?_)
    have h := h x7 ex7
    refine r_goto (pc := 16) C (tgt := 20) dX10_shield_16 (by decide) ?_
    exact r_iret (pc := 20) C E ht dX10_shield_20 (by decide) (by decide) h
def P_X10_shield (v0 : Nat) (v1 : Int32) (Q : Int32 → HS → Prop) (S : HS) : Prop := P_X10_shield_0 Q v0 v1 S
theorem c_X10_shield {l : Launch} {Ee : EE} {S : HS} {v0 : Nat} {v1 : Int32} {Q : Int32 → HS → Prop} (h : P_X10_shield v0 v1 Q S) : MI l yX10_shield cX10_shield 2 (some .int) rm_X10_shield Ee S [.ref v0, .int v1] Q :=
  openI (by decide) (Nat.le_of_ble_eq_true rfl) (fun X C E ht hn hE hl => by subst hE; exact r_sub [0, 1] rfl (T_X10_shield_0 C E ht hn h))
def rm_X11_good : Room := { frames := 0, cells := 0, slots := 0, locals := 0 }
def P_X11_good_0 (Q : Int32 → HS → Prop) (v0 : Nat) (v1 : Int32) (S : HS) : Prop := ob S v0 11 ∧ (∀ S1 : HS, S1 = sI S v0 1 (0 : Int32) → (∀ S2 : HS, S2 = sI S1 v0 2 (-1 : Int32) → (Q v1 S2)))
set_option maxRecDepth 20000 in
set_option maxHeartbeats 4000000 in
theorem T_X11_good_0 {X : CX} {Q : Int32 → HS → Prop} (C : Cx X cX11_good RX11 2 rm_X11_good) (E : ReI X rm_X11_good Q) (ht : (xh X).sig.returnType = (some .int)) (hn : (xh X).name = yX11_good.name) {v0 : Nat} {v1 : Int32} {S : HS} (h : P_X11_good_0 Q v0 v1 S) : WS X 2 0 0 0 [(0, .ref v0), (1, .int v1)] [] S := by
  refine r_aload_n (pc := 0) C dX11_good_0 0 rfl ?_
  refine r_iconst (pc := 1) C (v := (0 : Int32)) dX11_good_1 (by decide) ?_
  obtain ⟨o_v0, h⟩ := h
  refine r_puti (pc := 2) C pfL_X11_43 dX11_good_2 o_v0 ?_
  refine r_heap (fun S1 eS1 => ?_)
  have h := h S1 eS1
  have o_v0 := ob_I eS1 o_v0
  refine r_aload_n (pc := 5) C dX11_good_5 0 rfl ?_
  refine r_iconst (pc := 6) C (v := (-1 : Int32)) dX11_good_6 (by decide) ?_
  refine r_puti (pc := 7) C pfL_X11_9 dX11_good_7 o_v0 ?_
  refine r_heap (fun S2 eS2 => ?_)
  have h := h S2 eS2
  have o_v0 := ob_I eS2 o_v0
  refine r_iload_n (pc := 10) C dX11_good_10 1 rfl ?_
  exact r_iret (pc := 11) C E ht dX11_good_11 (by decide) (by decide) h
def P_X11_good (v0 : Nat) (v1 : Int32) (Q : Int32 → HS → Prop) (S : HS) : Prop := P_X11_good_0 Q v0 v1 S
theorem c_X11_good {l : Launch} {Ee : EE} {S : HS} {v0 : Nat} {v1 : Int32} {Q : Int32 → HS → Prop} (h : P_X11_good v0 v1 Q S) : MI l yX11_good cX11_good 2 (some .int) rm_X11_good Ee S [.ref v0, .int v1] Q :=
  openI (by decide) (Nat.le_of_ble_eq_true rfl) (fun X C E ht hn hE hl => by subst hE; exact r_sub [0, 1] rfl (T_X11_good_0 C E ht hn h))
def rm_X11_in : Room := { frames := 0, cells := 0, slots := 0, locals := 0 }
def P_X11_in_0 (Q : Int32 → HS → Prop) (v0 : Int32) (v1 : Int32) (v2 : Int32) (S : HS) : Prop := ((v0 < v1) → (Q (0 : Int32) S)) ∧ ((¬ v0 < v1) → (((v2 < v0) → (Q (0 : Int32) S)) ∧ ((¬ v2 < v0) → (Q (1 : Int32) S))))
set_option maxRecDepth 20000 in
set_option maxHeartbeats 4000000 in
theorem T_X11_in_0 {X : CX} {Q : Int32 → HS → Prop} (C : Cx X cX11_in RX11 3 rm_X11_in) (E : ReI X rm_X11_in (fun r S => bl r ∧ Q r S)) (ht : (xh X).sig.returnType = (some .boolean)) (hn : (xh X).name = yX11_in.name) {v0 : Int32} {v1 : Int32} {v2 : Int32} {S : HS} (h : P_X11_in_0 Q v0 v1 v2 S) : WS X 3 0 0 0 [(0, .int v0), (1, .int v1), (2, .int v2)] [] S := by
  refine r_iload_n (pc := 0) C dX11_in_0 0 rfl ?_
  refine r_iload_n (pc := 1) C dX11_in_1 1 rfl ?_
  refine r_icmp_lt (pc := 2) C (tgt := 14) dX11_in_2 (by decide) (fun c1 => ?_) (fun c1 => ?_)
  · have h := h.1 c1
    refine r_iconst (pc := 14) C (v := (0 : Int32)) dX11_in_14 (by decide) ?_
    exact r_zret (pc := 15) C E ht dX11_in_15 (by decide) (by decide) (Or.inl rfl) h
  · have h := h.2 c1
    refine r_iload_n (pc := 5) C dX11_in_5 0 rfl ?_
    refine r_iload_n (pc := 6) C dX11_in_6 2 rfl ?_
    refine r_icmp_gt (pc := 7) C (tgt := 14) dX11_in_7 (by decide) (fun c2 => ?_) (fun c2 => ?_)
    · have h := h.1 c2
      refine r_iconst (pc := 14) C (v := (0 : Int32)) dX11_in_14 (by decide) ?_
      exact r_zret (pc := 15) C E ht dX11_in_15 (by decide) (by decide) (Or.inl rfl) h
    · have h := h.2 c2
      refine r_iconst (pc := 10) C (v := (1 : Int32)) dX11_in_10 (by decide) ?_
      refine r_goto (pc := 11) C (tgt := 15) dX11_in_11 (by decide) ?_
      exact r_zret (pc := 15) C E ht dX11_in_15 (by decide) (by decide) (Or.inr rfl) h
def P_X11_in (v0 : Int32) (v1 : Int32) (v2 : Int32) (Q : Int32 → HS → Prop) (S : HS) : Prop := P_X11_in_0 Q v0 v1 v2 S
theorem c_X11_in {l : Launch} {Ee : EE} {S : HS} {v0 : Int32} {v1 : Int32} {v2 : Int32} {Q : Int32 → HS → Prop} (h : P_X11_in v0 v1 v2 Q S) : MI l yX11_in cX11_in 3 (some .boolean) rm_X11_in Ee S [.int v0, .int v1, .int v2] (fun r S => bl r ∧ Q r S) :=
  openI (by decide) (Nat.le_of_ble_eq_true rfl) (fun X C E ht hn hE hl => by subst hE; exact r_sub [0, 1, 2] rfl (T_X11_in_0 C E ht hn h))
def rm_X11_isHour : Room := { frames := 0, cells := 0, slots := 0, locals := 0 }
def P_X11_isHour_0 (Q : Int32 → HS → Prop) (v0 : Nat) (v1 : Int32) (S : HS) : Prop := ob S v0 11 ∧ ((fR S v0 3 = none → (Q (0 : Int32) S)) ∧ (∀ a1 : Nat, fR S v0 3 = some a1 → (((v1 < 0) → (Q (0 : Int32) S)) ∧ ((¬ v1 < 0) → (∃ a4 : Nat, fR S v0 3 = some a4 ∧ (ob S a4 10 ∧ (∀ x5 : Int32, x5 = fI S a4 1 → (((x5 ≤ v1) → (Q (0 : Int32) S)) ∧ ((¬ x5 ≤ v1) → (Q (1 : Int32) S))))))))))
set_option maxRecDepth 20000 in
set_option maxHeartbeats 4000000 in
theorem T_X11_isHour_0 {X : CX} {Q : Int32 → HS → Prop} (C : Cx X cX11_isHour RX11 2 rm_X11_isHour) (E : ReI X rm_X11_isHour (fun r S => bl r ∧ Q r S)) (ht : (xh X).sig.returnType = (some .boolean)) (hn : (xh X).name = yX11_isHour.name) {v0 : Nat} {v1 : Int32} {S : HS} (h : P_X11_isHour_0 Q v0 v1 S) : WS X 2 0 0 0 [(0, .ref v0), (1, .int v1)] [] S := by
  refine r_aload_n (pc := 0) C dX11_isHour_0 0 rfl ?_
  obtain ⟨o_v0, h⟩ := h
  rcases e2 : fR S v0 3 with _ | a1
  · refine r_get0 (pc := 1) C fL_X11_338 dX11_isHour_1 o_v0 e2 ?_
    refine r_ifnull0 (pc := 4) C (tgt := 26) dX11_isHour_4 (by decide) ?_
    have h := h.1 e2
    refine r_iconst (pc := 26) C (v := (0 : Int32)) dX11_isHour_26 (by decide) ?_
    exact r_zret (pc := 27) C E ht dX11_isHour_27 (by decide) (by decide) (Or.inl rfl) h
  · refine r_getr (pc := 1) C fL_X11_338 dX11_isHour_1 o_v0 e2 ?_
    refine r_ifnull (pc := 4) C dX11_isHour_4 ?_
    have h := h.2 a1 e2
    refine r_iload_n (pc := 7) C dX11_isHour_7 1 rfl ?_
    refine r_if_lt (pc := 8) C (tgt := 26) dX11_isHour_8 (by decide) (fun c3 => ?_) (fun c3 => ?_)
    · have h := h.1 c3
      refine r_iconst (pc := 26) C (v := (0 : Int32)) dX11_isHour_26 (by decide) ?_
      exact r_zret (pc := 27) C E ht dX11_isHour_27 (by decide) (by decide) (Or.inl rfl) h
    · have h := h.2 c3
      refine r_iload_n (pc := 11) C dX11_isHour_11 1 rfl ?_
      refine r_aload_n (pc := 12) C dX11_isHour_12 0 rfl ?_
      obtain ⟨a4, ea4, h⟩ := h
      refine r_getr (pc := 13) C fL_X11_338 dX11_isHour_13 o_v0 ea4 ?_
      obtain ⟨o_a4, h⟩ := h
      refine r_getNi (pc := 16) C fN_X11_219 dX11_isHour_16 o_a4 ?_
      refine r_topi (fun x5 ex5 => ?_)
      have h := h x5 ex5
      refine r_icmp_ge (pc := 19) C (tgt := 26) dX11_isHour_19 (by decide) (fun c6 => ?_) (fun c6 => ?_)
      · have h := h.1 c6
        refine r_iconst (pc := 26) C (v := (0 : Int32)) dX11_isHour_26 (by decide) ?_
        exact r_zret (pc := 27) C E ht dX11_isHour_27 (by decide) (by decide) (Or.inl rfl) h
      · have h := h.2 c6
        refine r_iconst (pc := 22) C (v := (1 : Int32)) dX11_isHour_22 (by decide) ?_
        refine r_goto (pc := 23) C (tgt := 27) dX11_isHour_23 (by decide) ?_
        exact r_zret (pc := 27) C E ht dX11_isHour_27 (by decide) (by decide) (Or.inr rfl) h
def P_X11_isHour (v0 : Nat) (v1 : Int32) (Q : Int32 → HS → Prop) (S : HS) : Prop := P_X11_isHour_0 Q v0 v1 S
theorem c_X11_isHour {l : Launch} {Ee : EE} {S : HS} {v0 : Nat} {v1 : Int32} {Q : Int32 → HS → Prop} (h : P_X11_isHour v0 v1 Q S) : MI l yX11_isHour cX11_isHour 2 (some .boolean) rm_X11_isHour Ee S [.ref v0, .int v1] (fun r S => bl r ∧ Q r S) :=
  openI (by decide) (Nat.le_of_ble_eq_true rfl) (fun X C E ht hn hE hl => by subst hE; exact r_sub [0, 1] rfl (T_X11_isHour_0 C E ht hn h))
def rm_X11_isRoad : Room := { frames := 0, cells := 0, slots := 0, locals := 0 }
def P_X11_isRoad_0 (Q : Int32 → HS → Prop) (v0 : Nat) (v1 : Int32) (S : HS) : Prop := ob S v0 11 ∧ ((fR S v0 3 = none → (Q (0 : Int32) S)) ∧ (∀ a1 : Nat, fR S v0 3 = some a1 → (((v1 < 0) → (Q (0 : Int32) S)) ∧ ((¬ v1 < 0) → (∃ a4 : Nat, fR S v0 3 = some a4 ∧ (ob S a4 10 ∧ (∀ x5 : Int32, x5 = fI S a4 3 → (((x5 ≤ v1) → (Q (0 : Int32) S)) ∧ ((¬ x5 ≤ v1) → (Q (1 : Int32) S))))))))))
set_option maxRecDepth 20000 in
set_option maxHeartbeats 4000000 in
theorem T_X11_isRoad_0 {X : CX} {Q : Int32 → HS → Prop} (C : Cx X cX11_isRoad RX11 2 rm_X11_isRoad) (E : ReI X rm_X11_isRoad (fun r S => bl r ∧ Q r S)) (ht : (xh X).sig.returnType = (some .boolean)) (hn : (xh X).name = yX11_isRoad.name) {v0 : Nat} {v1 : Int32} {S : HS} (h : P_X11_isRoad_0 Q v0 v1 S) : WS X 2 0 0 0 [(0, .ref v0), (1, .int v1)] [] S := by
  refine r_aload_n (pc := 0) C dX11_isRoad_0 0 rfl ?_
  obtain ⟨o_v0, h⟩ := h
  rcases e2 : fR S v0 3 with _ | a1
  · refine r_get0 (pc := 1) C fL_X11_338 dX11_isRoad_1 o_v0 e2 ?_
    refine r_ifnull0 (pc := 4) C (tgt := 26) dX11_isRoad_4 (by decide) ?_
    have h := h.1 e2
    refine r_iconst (pc := 26) C (v := (0 : Int32)) dX11_isRoad_26 (by decide) ?_
    exact r_zret (pc := 27) C E ht dX11_isRoad_27 (by decide) (by decide) (Or.inl rfl) h
  · refine r_getr (pc := 1) C fL_X11_338 dX11_isRoad_1 o_v0 e2 ?_
    refine r_ifnull (pc := 4) C dX11_isRoad_4 ?_
    have h := h.2 a1 e2
    refine r_iload_n (pc := 7) C dX11_isRoad_7 1 rfl ?_
    refine r_if_lt (pc := 8) C (tgt := 26) dX11_isRoad_8 (by decide) (fun c3 => ?_) (fun c3 => ?_)
    · have h := h.1 c3
      refine r_iconst (pc := 26) C (v := (0 : Int32)) dX11_isRoad_26 (by decide) ?_
      exact r_zret (pc := 27) C E ht dX11_isRoad_27 (by decide) (by decide) (Or.inl rfl) h
    · have h := h.2 c3
      refine r_iload_n (pc := 11) C dX11_isRoad_11 1 rfl ?_
      refine r_aload_n (pc := 12) C dX11_isRoad_12 0 rfl ?_
      obtain ⟨a4, ea4, h⟩ := h
      refine r_getr (pc := 13) C fL_X11_338 dX11_isRoad_13 o_v0 ea4 ?_
      obtain ⟨o_a4, h⟩ := h
      refine r_getNi (pc := 16) C fN_X11_264 dX11_isRoad_16 o_a4 ?_
      refine r_topi (fun x5 ex5 => ?_)
      have h := h x5 ex5
      refine r_icmp_ge (pc := 19) C (tgt := 26) dX11_isRoad_19 (by decide) (fun c6 => ?_) (fun c6 => ?_)
      · have h := h.1 c6
        refine r_iconst (pc := 26) C (v := (0 : Int32)) dX11_isRoad_26 (by decide) ?_
        exact r_zret (pc := 27) C E ht dX11_isRoad_27 (by decide) (by decide) (Or.inl rfl) h
      · have h := h.2 c6
        refine r_iconst (pc := 22) C (v := (1 : Int32)) dX11_isRoad_22 (by decide) ?_
        refine r_goto (pc := 23) C (tgt := 27) dX11_isRoad_23 (by decide) ?_
        exact r_zret (pc := 27) C E ht dX11_isRoad_27 (by decide) (by decide) (Or.inr rfl) h
def P_X11_isRoad (v0 : Nat) (v1 : Int32) (Q : Int32 → HS → Prop) (S : HS) : Prop := P_X11_isRoad_0 Q v0 v1 S
theorem c_X11_isRoad {l : Launch} {Ee : EE} {S : HS} {v0 : Nat} {v1 : Int32} {Q : Int32 → HS → Prop} (h : P_X11_isRoad v0 v1 Q S) : MI l yX11_isRoad cX11_isRoad 2 (some .boolean) rm_X11_isRoad Ee S [.ref v0, .int v1] (fun r S => bl r ∧ Q r S) :=
  openI (by decide) (Nat.le_of_ble_eq_true rfl) (fun X C E ht hn hE hl => by subst hE; exact r_sub [0, 1] rfl (T_X11_isRoad_0 C E ht hn h))
def rm_X11_refused : Room := { frames := 0, cells := 0, slots := 0, locals := 0 }
def P_X11_refused_0 (Q : Int32 → HS → Prop) (v0 : Nat) (v1 : Int32) (S : HS) : Prop := ob S v0 11 ∧ (∀ S1 : HS, S1 = sI S v0 1 v1 → (∀ S2 : HS, S2 = sI S1 v0 2 (-1 : Int32) → (Q (-1 : Int32) S2)))
set_option maxRecDepth 20000 in
set_option maxHeartbeats 4000000 in
theorem T_X11_refused_0 {X : CX} {Q : Int32 → HS → Prop} (C : Cx X cX11_refused RX11 2 rm_X11_refused) (E : ReI X rm_X11_refused Q) (ht : (xh X).sig.returnType = (some .int)) (hn : (xh X).name = yX11_refused.name) {v0 : Nat} {v1 : Int32} {S : HS} (h : P_X11_refused_0 Q v0 v1 S) : WS X 2 0 0 0 [(0, .ref v0), (1, .int v1)] [] S := by
  refine r_aload_n (pc := 0) C dX11_refused_0 0 rfl ?_
  refine r_iload_n (pc := 1) C dX11_refused_1 1 rfl ?_
  obtain ⟨o_v0, h⟩ := h
  refine r_puti (pc := 2) C pfL_X11_43 dX11_refused_2 o_v0 ?_
  refine r_heap (fun S1 eS1 => ?_)
  have h := h S1 eS1
  have o_v0 := ob_I eS1 o_v0
  refine r_aload_n (pc := 5) C dX11_refused_5 0 rfl ?_
  refine r_iconst (pc := 6) C (v := (-1 : Int32)) dX11_refused_6 (by decide) ?_
  refine r_puti (pc := 7) C pfL_X11_9 dX11_refused_7 o_v0 ?_
  refine r_heap (fun S2 eS2 => ?_)
  have h := h S2 eS2
  have o_v0 := ob_I eS2 o_v0
  refine r_iconst (pc := 10) C (v := (-1 : Int32)) dX11_refused_10 (by decide) ?_
  exact r_iret (pc := 11) C E ht dX11_refused_11 (by decide) (by decide) h
def P_X11_refused (v0 : Nat) (v1 : Int32) (Q : Int32 → HS → Prop) (S : HS) : Prop := P_X11_refused_0 Q v0 v1 S
theorem c_X11_refused {l : Launch} {Ee : EE} {S : HS} {v0 : Nat} {v1 : Int32} {Q : Int32 → HS → Prop} (h : P_X11_refused v0 v1 Q S) : MI l yX11_refused cX11_refused 2 (some .int) rm_X11_refused Ee S [.ref v0, .int v1] Q :=
  openI (by decide) (Nat.le_of_ble_eq_true rfl) (fun X C E ht hn hE hl => by subst hE; exact r_sub [0, 1] rfl (T_X11_refused_0 C E ht hn h))
def rm_X11_lost : Room := { frames := 1, cells := 0, slots := 0, locals := 21 }
def P_X11_lost_0 (Q : Int32 → HS → Prop) (v0 : Nat) (v1 : Int32) (S : HS) : Prop := ob S v0 11 ∧ (P_X11_refused v0 v1 (fun x3 S1 => Gr S S1 → (Q (-100 : Int32) S1)) S)
set_option maxRecDepth 20000 in
set_option maxHeartbeats 4000000 in
theorem T_X11_lost_0 {X : CX} {Q : Int32 → HS → Prop} (C : Cx X cX11_lost RX11 2 rm_X11_lost) (E : ReI X rm_X11_lost Q) (ht : (xh X).sig.returnType = (some .int)) (hn : (xh X).name = yX11_lost.name) {v0 : Nat} {v1 : Int32} {S : HS} (h : P_X11_lost_0 Q v0 v1 S) : WS X 2 0 0 0 [(0, .ref v0), (1, .int v1)] [] S := by
  refine r_aload_n (pc := 0) C dX11_lost_0 0 rfl ?_
  refine r_iload_n (pc := 1) C dX11_lost_1 1 rfl ?_
  obtain ⟨o_v0, h⟩ := h
  refine r_callVi0 (pc := 2) C (rest := []) (a := v0) o_v0 [.int v1] yV_X11_refused g_1250 (c_X11_refused h) dX11_lost_2 rfl rfl (Nat.le_of_ble_eq_true rfl) ⟨by decide, by decide⟩ ⟨by decide, by decide⟩ ⟨rfl, rfl⟩ (fun x3 S1 h g2 => ?_)
  have h := h g2
  have o_v0 := gr_ob g2 o_v0
  refine r_pop (pc := 5) C dX11_lost_5 rfl ?_
  refine r_bipush (pc := 6) C (v := (-100 : Int32)) dX11_lost_6 (by decide) ?_
  exact r_iret (pc := 8) C E ht dX11_lost_8 (by decide) (by decide) h
def P_X11_lost (v0 : Nat) (v1 : Int32) (Q : Int32 → HS → Prop) (S : HS) : Prop := P_X11_lost_0 Q v0 v1 S
theorem c_X11_lost {l : Launch} {Ee : EE} {S : HS} {v0 : Nat} {v1 : Int32} {Q : Int32 → HS → Prop} (h : P_X11_lost v0 v1 Q S) : MI l yX11_lost cX11_lost 2 (some .int) rm_X11_lost Ee S [.ref v0, .int v1] Q :=
  openI (by decide) (Nat.le_of_ble_eq_true rfl) (fun X C E ht hn hE hl => by subst hE; exact r_sub [0, 1] rfl (T_X11_lost_0 C E ht hn h))
def rm_X11_air : Room := { frames := 2, cells := 0, slots := 0, locals := 46 }
def P_X11_air_30 (Q : Int32 → HS → Prop) (v0 : Nat) (S : HS) : Prop := ob S v0 11 ∧ (P_X11_lost v0 (1 : Int32) (fun x3 S1 => Gr S S1 → (Q x3 S1)) S)
set_option maxRecDepth 20000 in
set_option maxHeartbeats 4000000 in
theorem T_X11_air_30 {X : CX} {Q : Int32 → HS → Prop} (C : Cx X cX11_air RX11 4 rm_X11_air) (E : ReI X rm_X11_air Q) (ht : (xh X).sig.returnType = (some .int)) (hn : (xh X).name = yX11_air.name) {v0 : Nat} {S : HS} (h : P_X11_air_30 Q v0 S) : WS X 4 0 0 30 [(0, .ref v0)] [] S := by
  refine r_aload_n (pc := 30) C dX11_air_30 0 rfl ?_
  refine r_iconst (pc := 31) C (v := (1 : Int32)) dX11_air_31 (by decide) ?_
  obtain ⟨o_v0, h⟩ := h
  refine r_callVi0 (pc := 32) C (rest := []) (a := v0) o_v0 [.int (1 : Int32)] yV_X11_lost g_1615 (c_X11_lost h) dX11_air_32 rfl rfl (Nat.le_of_ble_eq_true rfl) ⟨by decide, by decide⟩ ⟨by decide, by decide⟩ ⟨rfl, rfl⟩ (fun x3 S1 h g2 => ?_)
  have h := h g2
  have o_v0 := gr_ob g2 o_v0
  exact r_iret (pc := 35) C E ht dX11_air_35 (by decide) (by decide) h
def P_X11_air_0 (Q : Int32 → HS → Prop) (v0 : Nat) (v1 : Int32) (v2 : Int32) (v3 : Int32) (S : HS) : Prop := ob S v0 11 ∧ (∀ S1 : HS, S1 = sI S v0 0 (0 : Int32) → (P_X11_isRoad v0 v1 (fun x4 S2 => Gr S1 S2 → bl x4 → (((x4 = 0) → (P_X11_air_30 Q v0 S2)) ∧ ((¬ x4 = 0) → (P_X11_in v2 (0 : Int32) (1 : Int32) (fun x8 S6 => Gr S2 S6 → bl x8 → (((x8 = 0) → (P_X11_air_30 Q v0 S6)) ∧ ((¬ x8 = 0) → (P_X11_isHour v0 v3 (fun x12 S10 => Gr S6 S10 → bl x12 → (((¬ x12 = 0) → (∃ a14 : Nat, fR S10 v0 3 = some a14 ∧ (ob S10 a14 10 ∧ (P_X10_air a14 v1 v2 v3 (fun x17 S15 => Gr S10 S15 → (P_X11_good v0 x17 (fun x20 S18 => Gr S15 S18 → (Q x20 S18)) S15)) S10)))) ∧ ((x12 = 0) → (P_X11_air_30 Q v0 S10)))) S6)))) S2)))) S1))
set_option maxRecDepth 20000 in
set_option maxHeartbeats 4000000 in
theorem T_X11_air_0 {X : CX} {Q : Int32 → HS → Prop} (C : Cx X cX11_air RX11 4 rm_X11_air) (E : ReI X rm_X11_air Q) (ht : (xh X).sig.returnType = (some .int)) (hn : (xh X).name = yX11_air.name) {v0 : Nat} {v1 : Int32} {v2 : Int32} {v3 : Int32} {S : HS} (h : P_X11_air_0 Q v0 v1 v2 v3 S) : WS X 4 0 0 0 [(0, .ref v0), (1, .int v1), (2, .int v2), (3, .int v3)] [] S := by
  refine r_aload_n (pc := 0) C dX11_air_0 0 rfl ?_
  refine r_iconst (pc := 1) C (v := (0 : Int32)) dX11_air_1 (by decide) ?_
  obtain ⟨o_v0, h⟩ := h
  refine r_puti (pc := 2) C pfL_X11_40 dX11_air_2 o_v0 ?_
  refine r_heap (fun S1 eS1 => ?_)
  have h := h S1 eS1
  have o_v0 := ob_I eS1 o_v0
  refine r_aload_n (pc := 5) C dX11_air_5 0 rfl ?_
  refine r_iload_n (pc := 6) C dX11_air_6 1 rfl ?_
  refine r_callVi0 (pc := 7) C (rest := []) (a := v0) o_v0 [.int v1] yV_X11_isRoad g_1542 (c_X11_isRoad h) dX11_air_7 rfl rfl (Nat.le_of_ble_eq_true rfl) ⟨by decide, by decide⟩ ⟨by decide, by decide⟩ ⟨rfl, rfl⟩ (fun x4 S2 h g3 => ?_)
  have bx4 := h.1
  have h := h.2 g3 bx4
  have o_v0 := gr_ob g3 o_v0
  refine r_if_eq (pc := 10) C (tgt := 30) dX11_air_10 (by decide) (fun c5 => ?_) (fun c5 => ?_)
  · have h := h.1 c5
    exact r_sub [0] rfl (T_X11_air_30 C E ht hn h)
  · have h := h.2 c5
    refine r_iload_n (pc := 13) C dX11_air_13 2 rfl ?_
    refine r_iconst (pc := 14) C (v := (0 : Int32)) dX11_air_14 (by decide) ?_
    refine r_iconst (pc := 15) C (v := (1 : Int32)) dX11_air_15 (by decide) ?_
    refine r_callSi0 (pc := 16) C (rest := []) rfl [.int v2, .int (0 : Int32), .int (1 : Int32)] yS_X11_in g_1434 (c_X11_in h) dX11_air_16 rfl rfl (Nat.le_of_ble_eq_true rfl) ⟨by decide, by decide⟩ ⟨by decide, by decide⟩ ⟨rfl, rfl⟩ (fun x8 S6 h g7 => ?_)
    have bx8 := h.1
    have h := h.2 g7 bx8
    have o_v0 := gr_ob g7 o_v0
    refine r_if_eq (pc := 19) C (tgt := 30) dX11_air_19 (by decide) (fun c9 => ?_) (fun c9 => ?_)
    · have h := h.1 c9
      exact r_sub [0] rfl (T_X11_air_30 C E ht hn h)
    · have h := h.2 c9
      refine r_aload_n (pc := 22) C dX11_air_22 0 rfl ?_
      refine r_iload_n (pc := 23) C dX11_air_23 3 rfl ?_
      refine r_callVi0 (pc := 24) C (rest := []) (a := v0) o_v0 [.int v3] yV_X11_isHour g_1546 (c_X11_isHour h) dX11_air_24 rfl rfl (Nat.le_of_ble_eq_true rfl) ⟨by decide, by decide⟩ ⟨by decide, by decide⟩ ⟨rfl, rfl⟩ (fun x12 S10 h g11 => ?_)
      have bx12 := h.1
      have h := h.2 g11 bx12
      have o_v0 := gr_ob g11 o_v0
      refine r_if_ne (pc := 27) C (tgt := 36) dX11_air_27 (by decide) (fun c13 => ?_) (fun c13 => ?_)
      · have h := h.1 c13
        refine r_aload_n (pc := 36) C dX11_air_36 0 rfl ?_
        refine r_aload_n (pc := 37) C dX11_air_37 0 rfl ?_
        obtain ⟨a14, ea14, h⟩ := h
        refine r_getr (pc := 38) C fL_X11_338 dX11_air_38 o_v0 ea14 ?_
        refine r_iload_n (pc := 41) C dX11_air_41 1 rfl ?_
        refine r_iload_n (pc := 42) C dX11_air_42 2 rfl ?_
        refine r_iload_n (pc := 43) C dX11_air_43 3 rfl ?_
        obtain ⟨o_a14, h⟩ := h
        refine r_callVi0 (pc := 44) C (rest := [.ref v0]) (a := a14) o_a14 [.int v1, .int v2, .int v3] yV_X10_air g_1562 (c_X10_air h) dX11_air_44 rfl rfl (Nat.le_of_ble_eq_true rfl) ⟨by decide, by decide⟩ ⟨by decide, by decide⟩ ⟨rfl, rfl⟩ (fun x17 S15 h g16 => ?_)
        have h := h g16
        have o_a14 := gr_ob g16 o_a14
        have o_v0 := gr_ob g16 o_v0
        refine r_callVi0 (pc := 47) C (rest := []) (a := v0) o_v0 [.int x17] yV_X11_good g_1518 (c_X11_good h) dX11_air_47 rfl rfl (Nat.le_of_ble_eq_true rfl) ⟨by decide, by decide⟩ ⟨by decide, by decide⟩ ⟨rfl, rfl⟩ (fun x20 S18 h g19 => ?_)
        have h := h g19
        have o_a14 := gr_ob g19 o_a14
        have o_v0 := gr_ob g19 o_v0
        exact r_iret (pc := 50) C E ht dX11_air_50 (by decide) (by decide) h
      · have h := h.2 c13
        exact r_sub [0] rfl (T_X11_air_30 C E ht hn h)
def P_X11_air (v0 : Nat) (v1 : Int32) (v2 : Int32) (v3 : Int32) (Q : Int32 → HS → Prop) (S : HS) : Prop := P_X11_air_0 Q v0 v1 v2 v3 S
theorem c_X11_air {l : Launch} {Ee : EE} {S : HS} {v0 : Nat} {v1 : Int32} {v2 : Int32} {v3 : Int32} {Q : Int32 → HS → Prop} (h : P_X11_air v0 v1 v2 v3 Q S) : MI l yX11_air cX11_air 4 (some .int) rm_X11_air Ee S [.ref v0, .int v1, .int v2, .int v3] Q :=
  openI (by decide) (Nat.le_of_ble_eq_true rfl) (fun X C E ht hn hE hl => by subst hE; exact r_sub [0, 1, 2, 3] rfl (T_X11_air_0 C E ht hn h))
def rm_X11_denied : Room := { frames := 1, cells := 0, slots := 0, locals := 21 }
def P_X11_denied_0 (Q : Int32 → HS → Prop) (v0 : Nat) (v1 : Int32) (S : HS) : Prop := ob S v0 11 ∧ (P_X11_refused v0 v1 (fun x3 S1 => Gr S S1 → (Q (0 : Int32) S1)) S)
set_option maxRecDepth 20000 in
set_option maxHeartbeats 4000000 in
theorem T_X11_denied_0 {X : CX} {Q : Int32 → HS → Prop} (C : Cx X cX11_denied RX11 2 rm_X11_denied) (E : ReI X rm_X11_denied (fun r S => bl r ∧ Q r S)) (ht : (xh X).sig.returnType = (some .boolean)) (hn : (xh X).name = yX11_denied.name) {v0 : Nat} {v1 : Int32} {S : HS} (h : P_X11_denied_0 Q v0 v1 S) : WS X 2 0 0 0 [(0, .ref v0), (1, .int v1)] [] S := by
  refine r_aload_n (pc := 0) C dX11_denied_0 0 rfl ?_
  refine r_iload_n (pc := 1) C dX11_denied_1 1 rfl ?_
  obtain ⟨o_v0, h⟩ := h
  refine r_callVi0 (pc := 2) C (rest := []) (a := v0) o_v0 [.int v1] yV_X11_refused g_1250 (c_X11_refused h) dX11_denied_2 rfl rfl (Nat.le_of_ble_eq_true rfl) ⟨by decide, by decide⟩ ⟨by decide, by decide⟩ ⟨rfl, rfl⟩ (fun x3 S1 h g2 => ?_)
  have h := h g2
  have o_v0 := gr_ob g2 o_v0
  refine r_pop (pc := 5) C dX11_denied_5 rfl ?_
  refine r_iconst (pc := 6) C (v := (0 : Int32)) dX11_denied_6 (by decide) ?_
  exact r_zret (pc := 7) C E ht dX11_denied_7 (by decide) (by decide) (Or.inl rfl) h
def P_X11_denied (v0 : Nat) (v1 : Int32) (Q : Int32 → HS → Prop) (S : HS) : Prop := P_X11_denied_0 Q v0 v1 S
theorem c_X11_denied {l : Launch} {Ee : EE} {S : HS} {v0 : Nat} {v1 : Int32} {Q : Int32 → HS → Prop} (h : P_X11_denied v0 v1 Q S) : MI l yX11_denied cX11_denied 2 (some .boolean) rm_X11_denied Ee S [.ref v0, .int v1] (fun r S => bl r ∧ Q r S) :=
  openI (by decide) (Nat.le_of_ble_eq_true rfl) (fun X C E ht hn hE hl => by subst hE; exact r_sub [0, 1] rfl (T_X11_denied_0 C E ht hn h))
def rm_X11_granted : Room := { frames := 1, cells := 0, slots := 0, locals := 21 }
def P_X11_granted_0 (Q : Int32 → HS → Prop) (v0 : Nat) (S : HS) : Prop := ob S v0 11 ∧ (P_X11_good v0 (0 : Int32) (fun x3 S1 => Gr S S1 → (Q (1 : Int32) S1)) S)
set_option maxRecDepth 20000 in
set_option maxHeartbeats 4000000 in
theorem T_X11_granted_0 {X : CX} {Q : Int32 → HS → Prop} (C : Cx X cX11_granted RX11 1 rm_X11_granted) (E : ReI X rm_X11_granted (fun r S => bl r ∧ Q r S)) (ht : (xh X).sig.returnType = (some .boolean)) (hn : (xh X).name = yX11_granted.name) {v0 : Nat} {S : HS} (h : P_X11_granted_0 Q v0 S) : WS X 1 0 0 0 [(0, .ref v0)] [] S := by
  refine r_aload_n (pc := 0) C dX11_granted_0 0 rfl ?_
  refine r_iconst (pc := 1) C (v := (0 : Int32)) dX11_granted_1 (by decide) ?_
  obtain ⟨o_v0, h⟩ := h
  refine r_callVi0 (pc := 2) C (rest := []) (a := v0) o_v0 [.int (0 : Int32)] yV_X11_good g_1518 (c_X11_good h) dX11_granted_2 rfl rfl (Nat.le_of_ble_eq_true rfl) ⟨by decide, by decide⟩ ⟨by decide, by decide⟩ ⟨rfl, rfl⟩ (fun x3 S1 h g2 => ?_)
  have h := h g2
  have o_v0 := gr_ob g2 o_v0
  refine r_pop (pc := 5) C dX11_granted_5 rfl ?_
  refine r_iconst (pc := 6) C (v := (1 : Int32)) dX11_granted_6 (by decide) ?_
  exact r_zret (pc := 7) C E ht dX11_granted_7 (by decide) (by decide) (Or.inr rfl) h
def P_X11_granted (v0 : Nat) (Q : Int32 → HS → Prop) (S : HS) : Prop := P_X11_granted_0 Q v0 S
theorem c_X11_granted {l : Launch} {Ee : EE} {S : HS} {v0 : Nat} {Q : Int32 → HS → Prop} (h : P_X11_granted v0 Q S) : MI l yX11_granted cX11_granted 1 (some .boolean) rm_X11_granted Ee S [.ref v0] (fun r S => bl r ∧ Q r S) :=
  openI (by decide) (Nat.le_of_ble_eq_true rfl) (fun X C E ht hn hE hl => by subst hE; exact r_sub [0] rfl (T_X11_granted_0 C E ht hn h))
def rm_X11_isDay : Room := { frames := 0, cells := 0, slots := 0, locals := 0 }
def P_X11_isDay_0 (Q : Int32 → HS → Prop) (v0 : Nat) (S : HS) : Prop := ob S v0 11 ∧ ((fR S v0 3 = none → (Q (0 : Int32) S)) ∧ (∀ a1 : Nat, fR S v0 3 = some a1 → (∀ x3 : Int32, x3 = fI S v0 19 → (((x3 = (-2 : Int32)) → (Q (0 : Int32) S)) ∧ ((¬ x3 = (-2 : Int32)) → (Q (1 : Int32) S))))))
set_option maxRecDepth 20000 in
set_option maxHeartbeats 4000000 in
theorem T_X11_isDay_0 {X : CX} {Q : Int32 → HS → Prop} (C : Cx X cX11_isDay RX11 1 rm_X11_isDay) (E : ReI X rm_X11_isDay (fun r S => bl r ∧ Q r S)) (ht : (xh X).sig.returnType = (some .boolean)) (hn : (xh X).name = yX11_isDay.name) {v0 : Nat} {S : HS} (h : P_X11_isDay_0 Q v0 S) : WS X 1 0 0 0 [(0, .ref v0)] [] S := by
  refine r_aload_n (pc := 0) C dX11_isDay_0 0 rfl ?_
  obtain ⟨o_v0, h⟩ := h
  rcases e2 : fR S v0 3 with _ | a1
  · refine r_get0 (pc := 1) C fL_X11_338 dX11_isDay_1 o_v0 e2 ?_
    refine r_ifnull0 (pc := 4) C (tgt := 20) dX11_isDay_4 (by decide) ?_
    have h := h.1 e2
    refine r_iconst (pc := 20) C (v := (0 : Int32)) dX11_isDay_20 (by decide) ?_
    exact r_zret (pc := 21) C E ht dX11_isDay_21 (by decide) (by decide) (Or.inl rfl) h
  · refine r_getr (pc := 1) C fL_X11_338 dX11_isDay_1 o_v0 e2 ?_
    refine r_ifnull (pc := 4) C dX11_isDay_4 ?_
    have h := h.2 a1 e2
    refine r_aload_n (pc := 7) C dX11_isDay_7 0 rfl ?_
    refine r_geti (pc := 8) C fL_X11_28 dX11_isDay_8 o_v0 ?_
    refine r_topi (fun x3 ex3 => ?_)
    have h := h x3 ex3
    refine r_bipush (pc := 11) C (v := (-2 : Int32)) dX11_isDay_11 (by decide) ?_
    refine r_icmp_eq (pc := 13) C (tgt := 20) dX11_isDay_13 (by decide) (fun c4 => ?_) (fun c4 => ?_)
    · have h := h.1 c4
      refine r_iconst (pc := 20) C (v := (0 : Int32)) dX11_isDay_20 (by decide) ?_
      exact r_zret (pc := 21) C E ht dX11_isDay_21 (by decide) (by decide) (Or.inl rfl) h
    · have h := h.2 c4
      refine r_iconst (pc := 16) C (v := (1 : Int32)) dX11_isDay_16 (by decide) ?_
      refine r_goto (pc := 17) C (tgt := 21) dX11_isDay_17 (by decide) ?_
      exact r_zret (pc := 21) C E ht dX11_isDay_21 (by decide) (by decide) (Or.inr rfl) h
def P_X11_isDay (v0 : Nat) (Q : Int32 → HS → Prop) (S : HS) : Prop := P_X11_isDay_0 Q v0 S
theorem c_X11_isDay {l : Launch} {Ee : EE} {S : HS} {v0 : Nat} {Q : Int32 → HS → Prop} (h : P_X11_isDay v0 Q S) : MI l yX11_isDay cX11_isDay 1 (some .boolean) rm_X11_isDay Ee S [.ref v0] (fun r S => bl r ∧ Q r S) :=
  openI (by decide) (Nat.le_of_ble_eq_true rfl) (fun X C E ht hn hE hl => by subst hE; exact r_sub [0] rfl (T_X11_isDay_0 C E ht hn h))
def rm_X11_back : Room := { frames := 2, cells := 0, slots := 0, locals := 42 }
def P_X11_back_24 (Q : Int32 → HS → Prop) (v0 : Nat) (S : HS) : Prop := ob S v0 11 ∧ (P_X11_denied v0 (1 : Int32) (fun x3 S1 => Gr S S1 → bl x3 → (bl x3 ∧ Q x3 S1)) S)
set_option maxRecDepth 20000 in
set_option maxHeartbeats 4000000 in
theorem T_X11_back_24 {X : CX} {Q : Int32 → HS → Prop} (C : Cx X cX11_back RX11 3 rm_X11_back) (E : ReI X rm_X11_back (fun r S => bl r ∧ Q r S)) (ht : (xh X).sig.returnType = (some .boolean)) (hn : (xh X).name = yX11_back.name) {v0 : Nat} {S : HS} (h : P_X11_back_24 Q v0 S) : WS X 3 0 0 24 [(0, .ref v0)] [] S := by
  refine r_aload_n (pc := 24) C dX11_back_24 0 rfl ?_
  refine r_iconst (pc := 25) C (v := (1 : Int32)) dX11_back_25 (by decide) ?_
  obtain ⟨o_v0, h⟩ := h
  refine r_callVi0 (pc := 26) C (rest := []) (a := v0) o_v0 [.int (1 : Int32)] yV_X11_denied g_1795 (c_X11_denied h) dX11_back_26 rfl rfl (Nat.le_of_ble_eq_true rfl) ⟨by decide, by decide⟩ ⟨by decide, by decide⟩ ⟨rfl, rfl⟩ (fun x3 S1 h g2 => ?_)
  have bx3 := h.1
  have h := h.2 g2 bx3
  have o_v0 := gr_ob g2 o_v0
  exact r_zret (pc := 29) C E ht dX11_back_29 (by decide) (by decide) h.1 h.2
def B_X11_back_32 (Q : Int32 → HS → Prop) (X32 : Nat → Int32 → Int32 → HS → Prop) (v0 : Nat) (v1 : Int32) (v2 : Int32) (S : HS) : Prop := (((7 : Int32) ≤ v2) → (ob S v0 11 ∧ (∀ S2 : HS, S2 = sI S v0 24 (0 : Int32) → (P_X11_granted v0 (fun x5 S3 => Gr S2 S3 → bl x5 → (bl x5 ∧ Q x5 S3)) S2)))) ∧ ((¬ (7 : Int32) ≤ v2) → (ob S v0 11 ∧ (∃ a6 : Nat, fR S v0 21 = some a6 ∧ (∃ a7 : Nat, fR S v0 23 = some a7 ∧ (ob S a7 14 ∧ (∀ x9 : Int32, x9 = ((7 : Int32) * v1) + v2 → (vp_in x9 (hN S a7) ∧ ∀ x10 : Int64, x10 = fJ S a7 x9.toNatClampNeg → (ob S a6 14 ∧ (vp_in v2 (hN S a6) ∧ (∀ S12 : HS, S12 = sJ S a6 v2.toNatClampNeg x10 → (∀ x13 : Int32, x13 = v2 + (1 : Int32) → (X32 v0 v1 x13 S12))))))))))))
def P_X11_back_32 (Q : Int32 → HS → Prop) (v0 : Nat) (v1 : Int32) (v2 : Int32) (S : HS) : Prop := ∀ X32 : Nat → Int32 → Int32 → HS → Prop, (∀ (v0 : Nat) (v1 : Int32) (v2 : Int32) (S : HS), B_X11_back_32 Q X32 v0 v1 v2 S → X32 v0 v1 v2 S) → X32 v0 v1 v2 S
set_option maxRecDepth 20000 in
set_option maxHeartbeats 4000000 in
theorem TB_X11_back_32 {X : CX} {Q : Int32 → HS → Prop} (C : Cx X cX11_back RX11 3 rm_X11_back) (E : ReI X rm_X11_back (fun r S => bl r ∧ Q r S)) (ht : (xh X).sig.returnType = (some .boolean)) (hn : (xh X).name = yX11_back.name) {X32 : Nat → Int32 → Int32 → HS → Prop} (hX32 : ∀ (v0 : Nat) (v1 : Int32) (v2 : Int32) (S : HS), X32 v0 v1 v2 S → WS X 3 0 0 32 [(0, .ref v0), (1, .int v1), (2, .int v2)] [] S) {v0 : Nat} {v1 : Int32} {v2 : Int32} {S : HS} (h : B_X11_back_32 Q X32 v0 v1 v2 S) : WS X 3 0 0 32 [(0, .ref v0), (1, .int v1), (2, .int v2)] [] S := by
  refine r_iload_n (pc := 32) C dX11_back_32 2 rfl ?_
  refine r_bipush (pc := 33) C (v := (7 : Int32)) dX11_back_33 (by decide) ?_
  refine r_icmp_ge (pc := 35) C (tgt := 61) dX11_back_35 (by decide) (fun c1 => ?_) (fun c1 => ?_)
  · have h := h.1 c1
    refine r_aload_n (pc := 61) C dX11_back_61 0 rfl ?_
    refine r_iconst (pc := 62) C (v := (0 : Int32)) dX11_back_62 (by decide) ?_
    obtain ⟨o_v0, h⟩ := h
    refine r_puti (pc := 63) C pfL_X11_340 dX11_back_63 o_v0 ?_
    refine r_heap (fun S2 eS2 => ?_)
    have h := h S2 eS2
    have o_v0 := ob_I eS2 o_v0
    refine r_aload_n (pc := 66) C dX11_back_66 0 rfl ?_
    refine r_callVi0 (pc := 67) C (rest := []) (a := v0) o_v0 [] yV_X11_granted g_1800 (c_X11_granted h) dX11_back_67 rfl rfl (Nat.le_of_ble_eq_true rfl) ⟨by decide, by decide⟩ ⟨by decide, by decide⟩ ⟨rfl, rfl⟩ (fun x5 S3 h g4 => ?_)
    have bx5 := h.1
    have h := h.2 g4 bx5
    have o_v0 := gr_ob g4 o_v0
    exact r_zret (pc := 70) C E ht dX11_back_70 (by decide) (by decide) h.1 h.2
  · have h := h.2 c1
    refine r_aload_n (pc := 38) C dX11_back_38 0 rfl ?_
    obtain ⟨o_v0, h⟩ := h
    obtain ⟨a6, ea6, h⟩ := h
    refine r_getr (pc := 39) C fL_X11_31 dX11_back_39 o_v0 ea6 ?_
    refine r_iload_n (pc := 42) C dX11_back_42 2 rfl ?_
    refine r_aload_n (pc := 43) C dX11_back_43 0 rfl ?_
    obtain ⟨a7, ea7, h⟩ := h
    refine r_getr (pc := 44) C fL_X11_37 dX11_back_44 o_v0 ea7 ?_
    refine r_bipush (pc := 47) C (v := (7 : Int32)) dX11_back_47 (by decide) ?_
    refine r_iload_n (pc := 49) C dX11_back_49 1 rfl ?_
    refine r_imul (pc := 50) C dX11_back_50 ?_
    refine r_iload_n (pc := 51) C dX11_back_51 2 rfl ?_
    refine r_iadd (pc := 52) C dX11_back_52 ?_
    obtain ⟨o_a7, h⟩ := h
    refine r_topi (fun x9 ex9 => ?_)
    have h := h x9 ex9
    obtain ⟨i8, h⟩ := h
    refine r_lald (pc := 53) C dX11_back_53 o_a7 i8 ?_
    refine r_topl (fun x10 ex10 => ?_)
    have h := h x10 ex10
    obtain ⟨o_a6, h⟩ := h
    obtain ⟨i11, h⟩ := h
    refine r_last (pc := 54) C dX11_back_54 o_a6 i11 ?_
    refine r_heap (fun S12 eS12 => ?_)
    have h := h S12 eS12
    have o_a6 := ob_J eS12 o_a6
    have o_a7 := ob_J eS12 o_a7
    have o_v0 := ob_J eS12 o_v0
    obtain ⟨x13, ex13⟩ : ∃ z : Int32, z = v2 + (1 : Int32) := ⟨_, rfl⟩
    have h := h x13 ex13
    refine r_iinc (pc := 55) C (v := x13) (lv' := [(2, .int x13), (0, .ref v0), (1, .int v1)]) dX11_back_55 2 rfl ex13.symm (by decide) rfl ?_
    refine r_goto (pc := 58) C (tgt := 32) dX11_back_58 (by decide) ?_
    exact r_sub [1, 2, 0] rfl (hX32 v0 v1 x13 S12 h)
theorem T_X11_back_32 {X : CX} {Q : Int32 → HS → Prop} (C : Cx X cX11_back RX11 3 rm_X11_back) (E : ReI X rm_X11_back (fun r S => bl r ∧ Q r S)) (ht : (xh X).sig.returnType = (some .boolean)) (hn : (xh X).name = yX11_back.name) {v0 : Nat} {v1 : Int32} {v2 : Int32} {S : HS} (h : P_X11_back_32 Q v0 v1 v2 S) : WS X 3 0 0 32 [(0, .ref v0), (1, .int v1), (2, .int v2)] [] S :=
  h (fun v0 v1 v2 S => WS X 3 0 0 32 [(0, .ref v0), (1, .int v1), (2, .int v2)] [] S) (fun v0 v1 v2 S hh => TB_X11_back_32 C E ht hn (fun v0 v1 v2 S z => z) hh)
def P_X11_back_0 (Q : Int32 → HS → Prop) (v0 : Nat) (v1 : Int32) (S : HS) : Prop := ob S v0 11 ∧ (∀ S1 : HS, S1 = sI S v0 0 (0 : Int32) → (P_X11_isDay v0 (fun x4 S2 => Gr S1 S2 → bl x4 → (((x4 = 0) → (P_X11_back_24 Q v0 S2)) ∧ ((¬ x4 = 0) → (((v1 < 0) → (P_X11_back_24 Q v0 S2)) ∧ ((¬ v1 < 0) → (∀ x7 : Int32, x7 = fI S2 v0 25 → (((v1 < x7) → (P_X11_back_32 Q v0 v1 (0 : Int32) S2)) ∧ ((¬ v1 < x7) → (P_X11_back_24 Q v0 S2))))))))) S1))
set_option maxRecDepth 20000 in
set_option maxHeartbeats 4000000 in
theorem T_X11_back_0 {X : CX} {Q : Int32 → HS → Prop} (C : Cx X cX11_back RX11 3 rm_X11_back) (E : ReI X rm_X11_back (fun r S => bl r ∧ Q r S)) (ht : (xh X).sig.returnType = (some .boolean)) (hn : (xh X).name = yX11_back.name) {v0 : Nat} {v1 : Int32} {S : HS} (h : P_X11_back_0 Q v0 v1 S) : WS X 3 0 0 0 [(0, .ref v0), (1, .int v1)] [] S := by
  refine r_aload_n (pc := 0) C dX11_back_0 0 rfl ?_
  refine r_iconst (pc := 1) C (v := (0 : Int32)) dX11_back_1 (by decide) ?_
  obtain ⟨o_v0, h⟩ := h
  refine r_puti (pc := 2) C pfL_X11_40 dX11_back_2 o_v0 ?_
  refine r_heap (fun S1 eS1 => ?_)
  have h := h S1 eS1
  have o_v0 := ob_I eS1 o_v0
  refine r_aload_n (pc := 5) C dX11_back_5 0 rfl ?_
  refine r_callVi0 (pc := 6) C (rest := []) (a := v0) o_v0 [] yV_X11_isDay g_1779 (c_X11_isDay h) dX11_back_6 rfl rfl (Nat.le_of_ble_eq_true rfl) ⟨by decide, by decide⟩ ⟨by decide, by decide⟩ ⟨rfl, rfl⟩ (fun x4 S2 h g3 => ?_)
  have bx4 := h.1
  have h := h.2 g3 bx4
  have o_v0 := gr_ob g3 o_v0
  refine r_if_eq (pc := 9) C (tgt := 24) dX11_back_9 (by decide) (fun c5 => ?_) (fun c5 => ?_)
  · have h := h.1 c5
    exact r_sub [0] rfl (T_X11_back_24 C E ht hn h)
  · have h := h.2 c5
    refine r_iload_n (pc := 12) C dX11_back_12 1 rfl ?_
    refine r_if_lt (pc := 13) C (tgt := 24) dX11_back_13 (by decide) (fun c6 => ?_) (fun c6 => ?_)
    · have h := h.1 c6
      exact r_sub [0] rfl (T_X11_back_24 C E ht hn h)
    · have h := h.2 c6
      refine r_iload_n (pc := 16) C dX11_back_16 1 rfl ?_
      refine r_aload_n (pc := 17) C dX11_back_17 0 rfl ?_
      refine r_geti (pc := 18) C fL_X11_343 dX11_back_18 o_v0 ?_
      refine r_topi (fun x7 ex7 => ?_)
      have h := h x7 ex7
      refine r_icmp_lt (pc := 21) C (tgt := 30) dX11_back_21 (by decide) (fun c8 => ?_) (fun c8 => ?_)
      · have h := h.1 c8
        refine r_iconst (pc := 30) C (v := (0 : Int32)) dX11_back_30 (by decide) ?_
        refine r_istore_n (pc := 31) C dX11_back_31 rfl (by decide) (lv' := [(2, .int (0 : Int32)), (0, .ref v0), (1, .int v1)]) rfl ?_
        exact r_sub [1, 2, 0] rfl (T_X11_back_32 C E ht hn h)
      · have h := h.2 c8
        exact r_sub [0] rfl (T_X11_back_24 C E ht hn h)
def P_X11_back (v0 : Nat) (v1 : Int32) (Q : Int32 → HS → Prop) (S : HS) : Prop := P_X11_back_0 Q v0 v1 S
theorem c_X11_back {l : Launch} {Ee : EE} {S : HS} {v0 : Nat} {v1 : Int32} {Q : Int32 → HS → Prop} (h : P_X11_back v0 v1 Q S) : MI l yX11_back cX11_back 3 (some .boolean) rm_X11_back Ee S [.ref v0, .int v1] (fun r S => bl r ∧ Q r S) :=
  openI (by decide) (Nat.le_of_ble_eq_true rfl) (fun X C E ht hn hE hl => by subst hE; exact r_sub [0, 1] rfl (T_X11_back_0 C E ht hn h))
def rm_X11_flaw : Room := { frames := 0, cells := 0, slots := 0, locals := 0 }
def P_X11_flaw_0 (Q : HS → Prop) (v0 : Nat) (v1 : Int32) (S : HS) : Prop := ob S v0 11 ∧ (∀ x1 : Int32, x1 = fI S v0 9 → (((¬ x1 = (5 : Int32)) → (∀ S3 : HS, S3 = sI S v0 13 v1 → (∀ x4 : Int32, x4 = fI S3 v0 10 → (∀ S5 : HS, S5 = sI S3 v0 14 x4 → (∀ S6 : HS, S6 = sI S5 v0 9 (5 : Int32) → (Q S6)))))) ∧ ((x1 = (5 : Int32)) → (Q S))))
set_option maxRecDepth 20000 in
set_option maxHeartbeats 4000000 in
theorem T_X11_flaw_0 {X : CX} {Q : HS → Prop} (C : Cx X cX11_flaw RX11 2 rm_X11_flaw) (E : ReV X rm_X11_flaw Q) (ht : (xh X).sig.returnType = none) (hn : (xh X).name = yX11_flaw.name) {v0 : Nat} {v1 : Int32} {S : HS} (h : P_X11_flaw_0 Q v0 v1 S) : WS X 2 0 0 0 [(0, .ref v0), (1, .int v1)] [] S := by
  refine r_aload_n (pc := 0) C dX11_flaw_0 0 rfl ?_
  obtain ⟨o_v0, h⟩ := h
  refine r_geti (pc := 1) C fL_X11_68 dX11_flaw_1 o_v0 ?_
  refine r_topi (fun x1 ex1 => ?_)
  have h := h x1 ex1
  refine r_iconst (pc := 4) C (v := (5 : Int32)) dX11_flaw_4 (by decide) ?_
  refine r_icmp_ne (pc := 5) C (tgt := 9) dX11_flaw_5 (by decide) (fun c2 => ?_) (fun c2 => ?_)
  · have h := h.1 c2
    refine r_aload_n (pc := 9) C dX11_flaw_9 0 rfl ?_
    refine r_iload_n (pc := 10) C dX11_flaw_10 1 rfl ?_
    refine r_puti (pc := 11) C pfL_X11_97 dX11_flaw_11 o_v0 ?_
    refine r_heap (fun S3 eS3 => ?_)
    have h := h S3 eS3
    have o_v0 := ob_I eS3 o_v0
    refine r_aload_n (pc := 14) C dX11_flaw_14 0 rfl ?_
    refine r_aload_n (pc := 15) C dX11_flaw_15 0 rfl ?_
    refine r_geti (pc := 16) C fL_X11_77 dX11_flaw_16 o_v0 ?_
    refine r_topi (fun x4 ex4 => ?_)
    have h := h x4 ex4
    refine r_puti (pc := 19) C pfL_X11_100 dX11_flaw_19 o_v0 ?_
    refine r_heap (fun S5 eS5 => ?_)
    have h := h S5 eS5
    have o_v0 := ob_I eS5 o_v0
    refine r_aload_n (pc := 22) C dX11_flaw_22 0 rfl ?_
    refine r_iconst (pc := 23) C (v := (5 : Int32)) dX11_flaw_23 (by decide) ?_
    refine r_puti (pc := 24) C pfL_X11_68 dX11_flaw_24 o_v0 ?_
    refine r_heap (fun S6 eS6 => ?_)
    have h := h S6 eS6
    have o_v0 := ob_I eS6 o_v0
    exact r_vret (pc := 27) C E ht dX11_flaw_27 (by decide) (by decide) h
  · have h := h.2 c2
    exact r_vret (pc := 8) C E ht dX11_flaw_8 (by decide) (by decide) h
def P_X11_flaw (v0 : Nat) (v1 : Int32) (Q : HS → Prop) (S : HS) : Prop := P_X11_flaw_0 Q v0 v1 S
theorem c_X11_flaw {l : Launch} {Ee : EE} {S : HS} {v0 : Nat} {v1 : Int32} {Q : HS → Prop} (h : P_X11_flaw v0 v1 Q S) : MV l yX11_flaw cX11_flaw 2 none rm_X11_flaw Ee S [.ref v0, .int v1] Q :=
  openV (by decide) (Nat.le_of_ble_eq_true rfl) (fun X C E ht hn hE hl => by subst hE; exact r_sub [0, 1] rfl (T_X11_flaw_0 C E ht hn h))
def rm_X11_byteAt : Room := { frames := 0, cells := 0, slots := 0, locals := 0 }
def P_X11_byteAt_0 (Q : Int32 → HS → Prop) (v0 : Nat) (v1 : Int32) (S : HS) : Prop := ob S v0 11 ∧ (∀ x1 : Int32, x1 = fI S v0 7 → (((x1 ≤ v1) → (Q (-1 : Int32) S)) ∧ ((¬ x1 ≤ v1) → (∃ a3 : Nat, fR S v0 5 = some a3 ∧ (ob S a3 12 ∧ (vp_in v1 (hN S a3) ∧ ∀ x5 : Int32, x5 = fI S a3 v1.toNatClampNeg → (Q (x5 &&& (255 : Int32)) S)))))))
set_option maxRecDepth 20000 in
set_option maxHeartbeats 4000000 in
theorem T_X11_byteAt_0 {X : CX} {Q : Int32 → HS → Prop} (C : Cx X cX11_byteAt RX11 2 rm_X11_byteAt) (E : ReI X rm_X11_byteAt Q) (ht : (xh X).sig.returnType = (some .int)) (hn : (xh X).name = yX11_byteAt.name) {v0 : Nat} {v1 : Int32} {S : HS} (h : P_X11_byteAt_0 Q v0 v1 S) : WS X 2 0 0 0 [(0, .ref v0), (1, .int v1)] [] S := by
  refine r_iload_n (pc := 0) C dX11_byteAt_0 1 rfl ?_
  refine r_aload_n (pc := 1) C dX11_byteAt_1 0 rfl ?_
  obtain ⟨o_v0, h⟩ := h
  refine r_geti (pc := 2) C fL_X11_53 dX11_byteAt_2 o_v0 ?_
  refine r_topi (fun x1 ex1 => ?_)
  have h := h x1 ex1
  refine r_icmp_ge (pc := 5) C (tgt := 21) dX11_byteAt_5 (by decide) (fun c2 => ?_) (fun c2 => ?_)
  · have h := h.1 c2
    refine r_iconst (pc := 21) C (v := (-1 : Int32)) dX11_byteAt_21 (by decide) ?_
    exact r_iret (pc := 22) C E ht dX11_byteAt_22 (by decide) (by decide) h
  · have h := h.2 c2
    refine r_aload_n (pc := 8) C dX11_byteAt_8 0 rfl ?_
    obtain ⟨a3, ea3, h⟩ := h
    refine r_getr (pc := 9) C fL_X11_13 dX11_byteAt_9 o_v0 ea3 ?_
    refine r_iload_n (pc := 12) C dX11_byteAt_12 1 rfl ?_
    obtain ⟨o_a3, h⟩ := h
    obtain ⟨i4, h⟩ := h
    refine r_bald (pc := 13) C dX11_byteAt_13 o_a3 i4 ?_
    refine r_topi (fun x5 ex5 => ?_)
    have h := h x5 ex5
    refine r_sipush (pc := 14) C (v := (255 : Int32)) dX11_byteAt_14 (by decide) ?_
    refine r_iand (pc := 17) C dX11_byteAt_17 ?_
    refine r_goto (pc := 18) C (tgt := 22) dX11_byteAt_18 (by decide) ?_
    exact r_iret (pc := 22) C E ht dX11_byteAt_22 (by decide) (by decide) h
def P_X11_byteAt (v0 : Nat) (v1 : Int32) (Q : Int32 → HS → Prop) (S : HS) : Prop := P_X11_byteAt_0 Q v0 v1 S
theorem c_X11_byteAt {l : Launch} {Ee : EE} {S : HS} {v0 : Nat} {v1 : Int32} {Q : Int32 → HS → Prop} (h : P_X11_byteAt v0 v1 Q S) : MI l yX11_byteAt cX11_byteAt 2 (some .int) rm_X11_byteAt Ee S [.ref v0, .int v1] Q :=
  openI (by decide) (Nat.le_of_ble_eq_true rfl) (fun X C E ht hn hE hl => by subst hE; exact r_sub [0, 1] rfl (T_X11_byteAt_0 C E ht hn h))
def rm_X11_isDigit : Room := { frames := 0, cells := 0, slots := 0, locals := 0 }
def P_X11_isDigit_0 (Q : Int32 → HS → Prop) (v0 : Int32) (S : HS) : Prop := ((v0 < (48 : Int32)) → (Q (0 : Int32) S)) ∧ ((¬ v0 < (48 : Int32)) → ((((57 : Int32) < v0) → (Q (0 : Int32) S)) ∧ ((¬ (57 : Int32) < v0) → (Q (1 : Int32) S))))
set_option maxRecDepth 20000 in
set_option maxHeartbeats 4000000 in
theorem T_X11_isDigit_0 {X : CX} {Q : Int32 → HS → Prop} (C : Cx X cX11_isDigit RX11 1 rm_X11_isDigit) (E : ReI X rm_X11_isDigit (fun r S => bl r ∧ Q r S)) (ht : (xh X).sig.returnType = (some .boolean)) (hn : (xh X).name = yX11_isDigit.name) {v0 : Int32} {S : HS} (h : P_X11_isDigit_0 Q v0 S) : WS X 1 0 0 0 [(0, .int v0)] [] S := by
  refine r_iload_n (pc := 0) C dX11_isDigit_0 0 rfl ?_
  refine r_bipush (pc := 1) C (v := (48 : Int32)) dX11_isDigit_1 (by decide) ?_
  refine r_icmp_lt (pc := 3) C (tgt := 16) dX11_isDigit_3 (by decide) (fun c1 => ?_) (fun c1 => ?_)
  · have h := h.1 c1
    refine r_iconst (pc := 16) C (v := (0 : Int32)) dX11_isDigit_16 (by decide) ?_
    exact r_zret (pc := 17) C E ht dX11_isDigit_17 (by decide) (by decide) (Or.inl rfl) h
  · have h := h.2 c1
    refine r_iload_n (pc := 6) C dX11_isDigit_6 0 rfl ?_
    refine r_bipush (pc := 7) C (v := (57 : Int32)) dX11_isDigit_7 (by decide) ?_
    refine r_icmp_gt (pc := 9) C (tgt := 16) dX11_isDigit_9 (by decide) (fun c2 => ?_) (fun c2 => ?_)
    · have h := h.1 c2
      refine r_iconst (pc := 16) C (v := (0 : Int32)) dX11_isDigit_16 (by decide) ?_
      exact r_zret (pc := 17) C E ht dX11_isDigit_17 (by decide) (by decide) (Or.inl rfl) h
    · have h := h.2 c2
      refine r_iconst (pc := 12) C (v := (1 : Int32)) dX11_isDigit_12 (by decide) ?_
      refine r_goto (pc := 13) C (tgt := 17) dX11_isDigit_13 (by decide) ?_
      exact r_zret (pc := 17) C E ht dX11_isDigit_17 (by decide) (by decide) (Or.inr rfl) h
def P_X11_isDigit (v0 : Int32) (Q : Int32 → HS → Prop) (S : HS) : Prop := P_X11_isDigit_0 Q v0 S
theorem c_X11_isDigit {l : Launch} {Ee : EE} {S : HS} {v0 : Int32} {Q : Int32 → HS → Prop} (h : P_X11_isDigit v0 Q S) : MI l yX11_isDigit cX11_isDigit 1 (some .boolean) rm_X11_isDigit Ee S [.int v0] (fun r S => bl r ∧ Q r S) :=
  openI (by decide) (Nat.le_of_ble_eq_true rfl) (fun X C E ht hn hE hl => by subst hE; exact r_sub [0] rfl (T_X11_isDigit_0 C E ht hn h))
def rm_X11_isLetter : Room := { frames := 0, cells := 0, slots := 0, locals := 0 }
def P_X11_isLetter_0 (Q : Int32 → HS → Prop) (v0 : Int32) (S : HS) : Prop := ((v0 < (97 : Int32)) → (Q (0 : Int32) S)) ∧ ((¬ v0 < (97 : Int32)) → ((((122 : Int32) < v0) → (Q (0 : Int32) S)) ∧ ((¬ (122 : Int32) < v0) → (Q (1 : Int32) S))))
set_option maxRecDepth 20000 in
set_option maxHeartbeats 4000000 in
theorem T_X11_isLetter_0 {X : CX} {Q : Int32 → HS → Prop} (C : Cx X cX11_isLetter RX11 1 rm_X11_isLetter) (E : ReI X rm_X11_isLetter (fun r S => bl r ∧ Q r S)) (ht : (xh X).sig.returnType = (some .boolean)) (hn : (xh X).name = yX11_isLetter.name) {v0 : Int32} {S : HS} (h : P_X11_isLetter_0 Q v0 S) : WS X 1 0 0 0 [(0, .int v0)] [] S := by
  refine r_iload_n (pc := 0) C dX11_isLetter_0 0 rfl ?_
  refine r_bipush (pc := 1) C (v := (97 : Int32)) dX11_isLetter_1 (by decide) ?_
  refine r_icmp_lt (pc := 3) C (tgt := 16) dX11_isLetter_3 (by decide) (fun c1 => ?_) (fun c1 => ?_)
  · have h := h.1 c1
    refine r_iconst (pc := 16) C (v := (0 : Int32)) dX11_isLetter_16 (by decide) ?_
    exact r_zret (pc := 17) C E ht dX11_isLetter_17 (by decide) (by decide) (Or.inl rfl) h
  · have h := h.2 c1
    refine r_iload_n (pc := 6) C dX11_isLetter_6 0 rfl ?_
    refine r_bipush (pc := 7) C (v := (122 : Int32)) dX11_isLetter_7 (by decide) ?_
    refine r_icmp_gt (pc := 9) C (tgt := 16) dX11_isLetter_9 (by decide) (fun c2 => ?_) (fun c2 => ?_)
    · have h := h.1 c2
      refine r_iconst (pc := 16) C (v := (0 : Int32)) dX11_isLetter_16 (by decide) ?_
      exact r_zret (pc := 17) C E ht dX11_isLetter_17 (by decide) (by decide) (Or.inl rfl) h
    · have h := h.2 c2
      refine r_iconst (pc := 12) C (v := (1 : Int32)) dX11_isLetter_12 (by decide) ?_
      refine r_goto (pc := 13) C (tgt := 17) dX11_isLetter_13 (by decide) ?_
      exact r_zret (pc := 17) C E ht dX11_isLetter_17 (by decide) (by decide) (Or.inr rfl) h
def P_X11_isLetter (v0 : Int32) (Q : Int32 → HS → Prop) (S : HS) : Prop := P_X11_isLetter_0 Q v0 S
theorem c_X11_isLetter {l : Launch} {Ee : EE} {S : HS} {v0 : Int32} {Q : Int32 → HS → Prop} (h : P_X11_isLetter v0 Q S) : MI l yX11_isLetter cX11_isLetter 1 (some .boolean) rm_X11_isLetter Ee S [.int v0] (fun r S => bl r ∧ Q r S) :=
  openI (by decide) (Nat.le_of_ble_eq_true rfl) (fun X C E ht hn hE hl => by subst hE; exact r_sub [0] rfl (T_X11_isLetter_0 C E ht hn h))
def rm_X11_goesOn : Room := { frames := 1, cells := 0, slots := 0, locals := 21 }
def P_X11_goesOn_136 (Q : HS → Prop) (X89 : Nat → Int32 → HS → Prop) (v0 : Nat) (v2 : Int32) (S : HS) : Prop := ∀ x1 : Int32, x1 = v2 + (1 : Int32) → (ob S v0 11 ∧ (∀ x2 : Int32, x2 = fI S v0 8 → (∀ x3 : Int32, x3 = x2 + (1 : Int32) → (∀ S4 : HS, S4 = sI S v0 8 x3 → (X89 v0 x1 S4)))))
set_option maxRecDepth 20000 in
set_option maxHeartbeats 4000000 in
theorem T_X11_goesOn_136 {X : CX} {Q : HS → Prop} (C : Cx X cX11_goesOn RX11 3 rm_X11_goesOn) (E : ReV X rm_X11_goesOn Q) (ht : (xh X).sig.returnType = none) (hn : (xh X).name = yX11_goesOn.name) {X89 : Nat → Int32 → HS → Prop} (hX89 : ∀ (v0 : Nat) (v2 : Int32) (S : HS), X89 v0 v2 S → WS X 3 0 0 89 [(0, .ref v0), (2, .int v2)] [] S) {v0 : Nat} {v2 : Int32} {S : HS} (h : P_X11_goesOn_136 Q X89 v0 v2 S) : WS X 3 0 0 136 [(0, .ref v0), (2, .int v2)] [] S := by
  obtain ⟨x1, ex1⟩ : ∃ z : Int32, z = v2 + (1 : Int32) := ⟨_, rfl⟩
  have h := h x1 ex1
  refine r_iinc (pc := 136) C (v := x1) (lv' := [(2, .int x1), (0, .ref v0)]) dX11_goesOn_136 1 rfl ex1.symm (by decide) rfl ?_
  refine r_aload_n (pc := 139) C dX11_goesOn_139 1 rfl ?_
  refine r_dup (pc := 140) C dX11_goesOn_140 rfl ?_
  obtain ⟨o_v0, h⟩ := h
  refine r_geti (pc := 141) C fL_X11_71 dX11_goesOn_141 o_v0 ?_
  refine r_topi (fun x2 ex2 => ?_)
  have h := h x2 ex2
  refine r_iconst (pc := 144) C (v := (1 : Int32)) dX11_goesOn_144 (by decide) ?_
  refine r_iadd (pc := 145) C dX11_goesOn_145 ?_
  refine r_topi (fun x3 ex3 => ?_)
  have h := h x3 ex3
  refine r_puti (pc := 146) C pfL_X11_71 dX11_goesOn_146 o_v0 ?_
  refine r_heap (fun S4 eS4 => ?_)
  have h := h S4 eS4
  have o_v0 := ob_I eS4 o_v0
  refine r_goto (pc := 149) C (tgt := 89) dX11_goesOn_149 (by decide) ?_
  exact r_sub [1, 0] rfl (hX89 v0 x1 S4 h)
def B_X11_goesOn_89 (Q : HS → Prop) (X89 : Nat → Int32 → HS → Prop) (v0 : Nat) (v2 : Int32) (S : HS) : Prop := ob S v0 11 ∧ (∀ x1 : Int32, x1 = fI S v0 8 → (P_X11_byteAt v0 x1 (fun x4 S2 => Gr S S2 → (P_X11_isLetter x4 (fun x7 S5 => Gr S2 S5 → bl x7 → (((x7 = 0) → ((((8 : Int32) < v2) → (Q S5)) ∧ ((¬ (8 : Int32) < v2) → (∀ S10 : HS, S10 = sI S5 v0 9 (2 : Int32) → (Q S10))))) ∧ ((¬ x7 = 0) → ((((8 : Int32) ≤ v2) → (P_X11_goesOn_136 Q X89 v0 v2 S5)) ∧ ((¬ (8 : Int32) ≤ v2) → (∀ x12 : Int64, x12 = fJ S5 v0 15 → (∀ x13 : Int32, x13 = fI S5 v0 8 → (P_X11_byteAt v0 x13 (fun x16 S14 => Gr S5 S14 → (∀ x17 : Int64, x17 = ((32 : Int64) * x12) + (((x16 - (97 : Int32)) + (1 : Int32)).toInt64) → (∀ S18 : HS, S18 = sJ S14 v0 15 x17 → (P_X11_goesOn_136 Q X89 v0 v2 S18)))) S5)))))))) S2)) S))
def P_X11_goesOn_89 (Q : HS → Prop) (v0 : Nat) (v2 : Int32) (S : HS) : Prop := ∀ X89 : Nat → Int32 → HS → Prop, (∀ (v0 : Nat) (v2 : Int32) (S : HS), B_X11_goesOn_89 Q X89 v0 v2 S → X89 v0 v2 S) → X89 v0 v2 S
set_option maxRecDepth 20000 in
set_option maxHeartbeats 4000000 in
theorem TB_X11_goesOn_89 {X : CX} {Q : HS → Prop} (C : Cx X cX11_goesOn RX11 3 rm_X11_goesOn) (E : ReV X rm_X11_goesOn Q) (ht : (xh X).sig.returnType = none) (hn : (xh X).name = yX11_goesOn.name) {X89 : Nat → Int32 → HS → Prop} (hX89 : ∀ (v0 : Nat) (v2 : Int32) (S : HS), X89 v0 v2 S → WS X 3 0 0 89 [(0, .ref v0), (2, .int v2)] [] S) {v0 : Nat} {v2 : Int32} {S : HS} (h : B_X11_goesOn_89 Q X89 v0 v2 S) : WS X 3 0 0 89 [(0, .ref v0), (2, .int v2)] [] S := by
  refine r_aload_n (pc := 89) C dX11_goesOn_89 0 rfl ?_
  refine r_aload_n (pc := 90) C dX11_goesOn_90 0 rfl ?_
  obtain ⟨o_v0, h⟩ := h
  refine r_geti (pc := 91) C fL_X11_71 dX11_goesOn_91 o_v0 ?_
  refine r_topi (fun x1 ex1 => ?_)
  have h := h x1 ex1
  refine r_callVi0 (pc := 94) C (rest := []) (a := v0) o_v0 [.int x1] yV_X11_byteAt g_1384 (c_X11_byteAt h) dX11_goesOn_94 rfl rfl (Nat.le_of_ble_eq_true rfl) ⟨by decide, by decide⟩ ⟨by decide, by decide⟩ ⟨rfl, rfl⟩ (fun x4 S2 h g3 => ?_)
  have h := h g3
  have o_v0 := gr_ob g3 o_v0
  refine r_callSi0 (pc := 97) C (rest := []) rfl [.int x4] yS_X11_isLetter g_1388 (c_X11_isLetter h) dX11_goesOn_97 rfl rfl (Nat.le_of_ble_eq_true rfl) ⟨by decide, by decide⟩ ⟨by decide, by decide⟩ ⟨rfl, rfl⟩ (fun x7 S5 h g6 => ?_)
  have bx7 := h.1
  have h := h.2 g6 bx7
  have o_v0 := gr_ob g6 o_v0
  refine r_if_eq (pc := 100) C (tgt := 152) dX11_goesOn_100 (by decide) (fun c8 => ?_) (fun c8 => ?_)
  · have h := h.1 c8
    refine r_iload_n (pc := 152) C dX11_goesOn_152 1 rfl ?_
    refine r_bipush (pc := 153) C (v := (8 : Int32)) dX11_goesOn_153 (by decide) ?_
    refine r_icmp_gt (pc := 155) C (tgt := 281) dX11_goesOn_155 (by decide) (fun c9 => ?_) (fun c9 => ?_)
    · have h := h.1 c9
      exact r_vret (pc := 281) C E ht dX11_goesOn_281 (by decide) (by decide) h
    · have h := h.2 c9
      refine r_aload_n (pc := 158) C dX11_goesOn_158 0 rfl ?_
      refine r_iconst (pc := 159) C (v := (2 : Int32)) dX11_goesOn_159 (by decide) ?_
      refine r_puti (pc := 160) C pfL_X11_68 dX11_goesOn_160 o_v0 ?_
      refine r_heap (fun S10 eS10 => ?_)
      have h := h S10 eS10
      have o_v0 := ob_I eS10 o_v0
      refine r_goto (pc := 163) C (tgt := 281) dX11_goesOn_163 (by decide) ?_
      exact r_vret (pc := 281) C E ht dX11_goesOn_281 (by decide) (by decide) h
  · have h := h.2 c8
    refine r_iload_n (pc := 103) C dX11_goesOn_103 1 rfl ?_
    refine r_bipush (pc := 104) C (v := (8 : Int32)) dX11_goesOn_104 (by decide) ?_
    refine r_icmp_ge (pc := 106) C (tgt := 136) dX11_goesOn_106 (by decide) (fun c11 => ?_) (fun c11 => ?_)
    · have h := h.1 c11
      exact r_sub [0, 1] rfl (T_X11_goesOn_136 C E ht hn hX89 h)
    · have h := h.2 c11
      refine r_aload_n (pc := 109) C dX11_goesOn_109 0 rfl ?_
      refine r_ldc2 (pc := 110) C (v := (32 : Int64)) dX11_goesOn_110 g_1391 ?_
      refine r_aload_n (pc := 113) C dX11_goesOn_113 0 rfl ?_
      refine r_getl (pc := 114) C fL_X11_87 dX11_goesOn_114 o_v0 ?_
      refine r_topl (fun x12 ex12 => ?_)
      have h := h x12 ex12
      refine r_lmul (pc := 117) C dX11_goesOn_117 ?_
      refine r_aload_n (pc := 118) C dX11_goesOn_118 0 rfl ?_
      refine r_aload_n (pc := 119) C dX11_goesOn_119 0 rfl ?_
      refine r_geti (pc := 120) C fL_X11_71 dX11_goesOn_120 o_v0 ?_
      refine r_topi (fun x13 ex13 => ?_)
      have h := h x13 ex13
      refine r_callVi0 (pc := 123) C (rest := [.long ((32 : Int64) * x12), .ref v0]) (a := v0) o_v0 [.int x13] yV_X11_byteAt g_1384 (c_X11_byteAt h) dX11_goesOn_123 rfl rfl (Nat.le_of_ble_eq_true rfl) ⟨by decide, by decide⟩ ⟨by decide, by decide⟩ ⟨rfl, rfl⟩ (fun x16 S14 h g15 => ?_)
      have h := h g15
      have o_v0 := gr_ob g15 o_v0
      refine r_bipush (pc := 126) C (v := (97 : Int32)) dX11_goesOn_126 (by decide) ?_
      refine r_isub (pc := 128) C dX11_goesOn_128 ?_
      refine r_iconst (pc := 129) C (v := (1 : Int32)) dX11_goesOn_129 (by decide) ?_
      refine r_iadd (pc := 130) C dX11_goesOn_130 ?_
      refine r_i2l (pc := 131) C dX11_goesOn_131 ?_
      refine r_ladd (pc := 132) C dX11_goesOn_132 ?_
      refine r_topl (fun x17 ex17 => ?_)
      have h := h x17 ex17
      refine r_putl (pc := 133) C pfL_X11_87 dX11_goesOn_133 o_v0 ?_
      refine r_heap (fun S18 eS18 => ?_)
      have h := h S18 eS18
      have o_v0 := ob_J eS18 o_v0
      exact r_sub [0, 1] rfl (T_X11_goesOn_136 C E ht hn hX89 h)
theorem T_X11_goesOn_89 {X : CX} {Q : HS → Prop} (C : Cx X cX11_goesOn RX11 3 rm_X11_goesOn) (E : ReV X rm_X11_goesOn Q) (ht : (xh X).sig.returnType = none) (hn : (xh X).name = yX11_goesOn.name) {v0 : Nat} {v2 : Int32} {S : HS} (h : P_X11_goesOn_89 Q v0 v2 S) : WS X 3 0 0 89 [(0, .ref v0), (2, .int v2)] [] S :=
  h (fun v0 v2 S => WS X 3 0 0 89 [(0, .ref v0), (2, .int v2)] [] S) (fun v0 v2 S hh => TB_X11_goesOn_89 C E ht hn (fun v0 v2 S z => z) hh)
def P_X11_goesOn_220 (Q : HS → Prop) (X178 : Nat → Int32 → HS → Prop) (v0 : Nat) (v2 : Int32) (S : HS) : Prop := ∀ x1 : Int32, x1 = v2 + (1 : Int32) → (ob S v0 11 ∧ (∀ x2 : Int32, x2 = fI S v0 8 → (∀ x3 : Int32, x3 = x2 + (1 : Int32) → (∀ S4 : HS, S4 = sI S v0 8 x3 → (X178 v0 x1 S4)))))
set_option maxRecDepth 20000 in
set_option maxHeartbeats 4000000 in
theorem T_X11_goesOn_220 {X : CX} {Q : HS → Prop} (C : Cx X cX11_goesOn RX11 3 rm_X11_goesOn) (E : ReV X rm_X11_goesOn Q) (ht : (xh X).sig.returnType = none) (hn : (xh X).name = yX11_goesOn.name) {X178 : Nat → Int32 → HS → Prop} (hX178 : ∀ (v0 : Nat) (v2 : Int32) (S : HS), X178 v0 v2 S → WS X 3 0 0 178 [(0, .ref v0), (2, .int v2)] [] S) {v0 : Nat} {v2 : Int32} {S : HS} (h : P_X11_goesOn_220 Q X178 v0 v2 S) : WS X 3 0 0 220 [(0, .ref v0), (2, .int v2)] [] S := by
  obtain ⟨x1, ex1⟩ : ∃ z : Int32, z = v2 + (1 : Int32) := ⟨_, rfl⟩
  have h := h x1 ex1
  refine r_iinc (pc := 220) C (v := x1) (lv' := [(2, .int x1), (0, .ref v0)]) dX11_goesOn_220 1 rfl ex1.symm (by decide) rfl ?_
  refine r_aload_n (pc := 223) C dX11_goesOn_223 1 rfl ?_
  refine r_dup (pc := 224) C dX11_goesOn_224 rfl ?_
  obtain ⟨o_v0, h⟩ := h
  refine r_geti (pc := 225) C fL_X11_71 dX11_goesOn_225 o_v0 ?_
  refine r_topi (fun x2 ex2 => ?_)
  have h := h x2 ex2
  refine r_iconst (pc := 228) C (v := (1 : Int32)) dX11_goesOn_228 (by decide) ?_
  refine r_iadd (pc := 229) C dX11_goesOn_229 ?_
  refine r_topi (fun x3 ex3 => ?_)
  have h := h x3 ex3
  refine r_puti (pc := 230) C pfL_X11_71 dX11_goesOn_230 o_v0 ?_
  refine r_heap (fun S4 eS4 => ?_)
  have h := h S4 eS4
  have o_v0 := ob_I eS4 o_v0
  refine r_goto (pc := 233) C (tgt := 178) dX11_goesOn_233 (by decide) ?_
  exact r_sub [1, 0] rfl (hX178 v0 x1 S4 h)
def B_X11_goesOn_178 (Q : HS → Prop) (X178 : Nat → Int32 → HS → Prop) (v0 : Nat) (v2 : Int32) (S : HS) : Prop := ob S v0 11 ∧ (∀ x1 : Int32, x1 = fI S v0 8 → (P_X11_byteAt v0 x1 (fun x4 S2 => Gr S S2 → (P_X11_isDigit x4 (fun x7 S5 => Gr S2 S5 → bl x7 → (((x7 = 0) → ((((3 : Int32) < v2) → (Q S5)) ∧ ((¬ (3 : Int32) < v2) → (∀ S10 : HS, S10 = sI S5 v0 9 (3 : Int32) → (Q S10))))) ∧ ((¬ x7 = 0) → ((((3 : Int32) ≤ v2) → (P_X11_goesOn_220 Q X178 v0 v2 S5)) ∧ ((¬ (3 : Int32) ≤ v2) → (∀ x12 : Int32, x12 = fI S5 v0 12 → (∀ x13 : Int32, x13 = fI S5 v0 8 → (P_X11_byteAt v0 x13 (fun x16 S14 => Gr S5 S14 → (∀ x17 : Int32, x17 = (((10 : Int32) * x12) + x16) - (48 : Int32) → (∀ S18 : HS, S18 = sI S14 v0 12 x17 → (P_X11_goesOn_220 Q X178 v0 v2 S18)))) S5)))))))) S2)) S))
def P_X11_goesOn_178 (Q : HS → Prop) (v0 : Nat) (v2 : Int32) (S : HS) : Prop := ∀ X178 : Nat → Int32 → HS → Prop, (∀ (v0 : Nat) (v2 : Int32) (S : HS), B_X11_goesOn_178 Q X178 v0 v2 S → X178 v0 v2 S) → X178 v0 v2 S
set_option maxRecDepth 20000 in
set_option maxHeartbeats 4000000 in
theorem TB_X11_goesOn_178 {X : CX} {Q : HS → Prop} (C : Cx X cX11_goesOn RX11 3 rm_X11_goesOn) (E : ReV X rm_X11_goesOn Q) (ht : (xh X).sig.returnType = none) (hn : (xh X).name = yX11_goesOn.name) {X178 : Nat → Int32 → HS → Prop} (hX178 : ∀ (v0 : Nat) (v2 : Int32) (S : HS), X178 v0 v2 S → WS X 3 0 0 178 [(0, .ref v0), (2, .int v2)] [] S) {v0 : Nat} {v2 : Int32} {S : HS} (h : B_X11_goesOn_178 Q X178 v0 v2 S) : WS X 3 0 0 178 [(0, .ref v0), (2, .int v2)] [] S := by
  refine r_aload_n (pc := 178) C dX11_goesOn_178 0 rfl ?_
  refine r_aload_n (pc := 179) C dX11_goesOn_179 0 rfl ?_
  obtain ⟨o_v0, h⟩ := h
  refine r_geti (pc := 180) C fL_X11_71 dX11_goesOn_180 o_v0 ?_
  refine r_topi (fun x1 ex1 => ?_)
  have h := h x1 ex1
  refine r_callVi0 (pc := 183) C (rest := []) (a := v0) o_v0 [.int x1] yV_X11_byteAt g_1384 (c_X11_byteAt h) dX11_goesOn_183 rfl rfl (Nat.le_of_ble_eq_true rfl) ⟨by decide, by decide⟩ ⟨by decide, by decide⟩ ⟨rfl, rfl⟩ (fun x4 S2 h g3 => ?_)
  have h := h g3
  have o_v0 := gr_ob g3 o_v0
  refine r_callSi0 (pc := 186) C (rest := []) rfl [.int x4] yS_X11_isDigit g_1392 (c_X11_isDigit h) dX11_goesOn_186 rfl rfl (Nat.le_of_ble_eq_true rfl) ⟨by decide, by decide⟩ ⟨by decide, by decide⟩ ⟨rfl, rfl⟩ (fun x7 S5 h g6 => ?_)
  have bx7 := h.1
  have h := h.2 g6 bx7
  have o_v0 := gr_ob g6 o_v0
  refine r_if_eq (pc := 189) C (tgt := 236) dX11_goesOn_189 (by decide) (fun c8 => ?_) (fun c8 => ?_)
  · have h := h.1 c8
    refine r_iload_n (pc := 236) C dX11_goesOn_236 1 rfl ?_
    refine r_iconst (pc := 237) C (v := (3 : Int32)) dX11_goesOn_237 (by decide) ?_
    refine r_icmp_gt (pc := 238) C (tgt := 281) dX11_goesOn_238 (by decide) (fun c9 => ?_) (fun c9 => ?_)
    · have h := h.1 c9
      exact r_vret (pc := 281) C E ht dX11_goesOn_281 (by decide) (by decide) h
    · have h := h.2 c9
      refine r_aload_n (pc := 241) C dX11_goesOn_241 0 rfl ?_
      refine r_iconst (pc := 242) C (v := (3 : Int32)) dX11_goesOn_242 (by decide) ?_
      refine r_puti (pc := 243) C pfL_X11_68 dX11_goesOn_243 o_v0 ?_
      refine r_heap (fun S10 eS10 => ?_)
      have h := h S10 eS10
      have o_v0 := ob_I eS10 o_v0
      refine r_goto (pc := 246) C (tgt := 281) dX11_goesOn_246 (by decide) ?_
      exact r_vret (pc := 281) C E ht dX11_goesOn_281 (by decide) (by decide) h
  · have h := h.2 c8
    refine r_iload_n (pc := 192) C dX11_goesOn_192 1 rfl ?_
    refine r_iconst (pc := 193) C (v := (3 : Int32)) dX11_goesOn_193 (by decide) ?_
    refine r_icmp_ge (pc := 194) C (tgt := 220) dX11_goesOn_194 (by decide) (fun c11 => ?_) (fun c11 => ?_)
    · have h := h.1 c11
      exact r_sub [0, 1] rfl (T_X11_goesOn_220 C E ht hn hX178 h)
    · have h := h.2 c11
      refine r_aload_n (pc := 197) C dX11_goesOn_197 0 rfl ?_
      refine r_bipush (pc := 198) C (v := (10 : Int32)) dX11_goesOn_198 (by decide) ?_
      refine r_aload_n (pc := 200) C dX11_goesOn_200 0 rfl ?_
      refine r_geti (pc := 201) C fL_X11_94 dX11_goesOn_201 o_v0 ?_
      refine r_topi (fun x12 ex12 => ?_)
      have h := h x12 ex12
      refine r_imul (pc := 204) C dX11_goesOn_204 ?_
      refine r_aload_n (pc := 205) C dX11_goesOn_205 0 rfl ?_
      refine r_aload_n (pc := 206) C dX11_goesOn_206 0 rfl ?_
      refine r_geti (pc := 207) C fL_X11_71 dX11_goesOn_207 o_v0 ?_
      refine r_topi (fun x13 ex13 => ?_)
      have h := h x13 ex13
      refine r_callVi0 (pc := 210) C (rest := [.int ((10 : Int32) * x12), .ref v0]) (a := v0) o_v0 [.int x13] yV_X11_byteAt g_1384 (c_X11_byteAt h) dX11_goesOn_210 rfl rfl (Nat.le_of_ble_eq_true rfl) ⟨by decide, by decide⟩ ⟨by decide, by decide⟩ ⟨rfl, rfl⟩ (fun x16 S14 h g15 => ?_)
      have h := h g15
      have o_v0 := gr_ob g15 o_v0
      refine r_iadd (pc := 213) C dX11_goesOn_213 ?_
      refine r_bipush (pc := 214) C (v := (48 : Int32)) dX11_goesOn_214 (by decide) ?_
      refine r_isub (pc := 216) C dX11_goesOn_216 ?_
      refine r_topi (fun x17 ex17 => ?_)
      have h := h x17 ex17
      refine r_puti (pc := 217) C pfL_X11_94 dX11_goesOn_217 o_v0 ?_
      refine r_heap (fun S18 eS18 => ?_)
      have h := h S18 eS18
      have o_v0 := ob_I eS18 o_v0
      exact r_sub [0, 1] rfl (T_X11_goesOn_220 C E ht hn hX178 h)
theorem T_X11_goesOn_178 {X : CX} {Q : HS → Prop} (C : Cx X cX11_goesOn RX11 3 rm_X11_goesOn) (E : ReV X rm_X11_goesOn Q) (ht : (xh X).sig.returnType = none) (hn : (xh X).name = yX11_goesOn.name) {v0 : Nat} {v2 : Int32} {S : HS} (h : P_X11_goesOn_178 Q v0 v2 S) : WS X 3 0 0 178 [(0, .ref v0), (2, .int v2)] [] S :=
  h (fun v0 v2 S => WS X 3 0 0 178 [(0, .ref v0), (2, .int v2)] [] S) (fun v0 v2 S hh => TB_X11_goesOn_178 C E ht hn (fun v0 v2 S z => z) hh)
def P_X11_goesOn_261 (Q : HS → Prop) (v0 : Nat) (v1 : Int32) (S : HS) : Prop := ob S v0 11 ∧ (∀ S1 : HS, S1 = sI S v0 9 (4 : Int32) → (∀ S2 : HS, S2 = sI S1 v0 11 v1 → (∀ x3 : Int32, x3 = fI S2 v0 8 → (∀ x4 : Int32, x4 = x3 + (1 : Int32) → (∀ S5 : HS, S5 = sI S2 v0 8 x4 → (Q S5))))))
set_option maxRecDepth 20000 in
set_option maxHeartbeats 4000000 in
theorem T_X11_goesOn_261 {X : CX} {Q : HS → Prop} (C : Cx X cX11_goesOn RX11 3 rm_X11_goesOn) (E : ReV X rm_X11_goesOn Q) (ht : (xh X).sig.returnType = none) (hn : (xh X).name = yX11_goesOn.name) {v0 : Nat} {v1 : Int32} {S : HS} (h : P_X11_goesOn_261 Q v0 v1 S) : WS X 3 0 0 261 [(0, .ref v0), (1, .int v1)] [] S := by
  refine r_aload_n (pc := 261) C dX11_goesOn_261 0 rfl ?_
  refine r_iconst (pc := 262) C (v := (4 : Int32)) dX11_goesOn_262 (by decide) ?_
  obtain ⟨o_v0, h⟩ := h
  refine r_puti (pc := 263) C pfL_X11_68 dX11_goesOn_263 o_v0 ?_
  refine r_heap (fun S1 eS1 => ?_)
  have h := h S1 eS1
  have o_v0 := ob_I eS1 o_v0
  refine r_aload_n (pc := 266) C dX11_goesOn_266 0 rfl ?_
  refine r_iload_n (pc := 267) C dX11_goesOn_267 1 rfl ?_
  refine r_puti (pc := 268) C pfL_X11_80 dX11_goesOn_268 o_v0 ?_
  refine r_heap (fun S2 eS2 => ?_)
  have h := h S2 eS2
  have o_v0 := ob_I eS2 o_v0
  refine r_aload_n (pc := 271) C dX11_goesOn_271 0 rfl ?_
  refine r_dup (pc := 272) C dX11_goesOn_272 rfl ?_
  refine r_geti (pc := 273) C fL_X11_71 dX11_goesOn_273 o_v0 ?_
  refine r_topi (fun x3 ex3 => ?_)
  have h := h x3 ex3
  refine r_iconst (pc := 276) C (v := (1 : Int32)) dX11_goesOn_276 (by decide) ?_
  refine r_iadd (pc := 277) C dX11_goesOn_277 ?_
  refine r_topi (fun x4 ex4 => ?_)
  have h := h x4 ex4
  refine r_puti (pc := 278) C pfL_X11_71 dX11_goesOn_278 o_v0 ?_
  refine r_heap (fun S5 eS5 => ?_)
  have h := h S5 eS5
  have o_v0 := ob_I eS5 o_v0
  exact r_vret (pc := 281) C E ht dX11_goesOn_281 (by decide) (by decide) h
def B_X11_goesOn_9 (Q : HS → Prop) (X9 : Nat → HS → Prop) (v0 : Nat) (S : HS) : Prop := ob S v0 11 ∧ (∀ x1 : Int32, x1 = fI S v0 8 → (P_X11_byteAt v0 x1 (fun x4 S2 => Gr S S2 → (((¬ x4 = (32 : Int32)) → (∀ x6 : Int32, x6 = fI S2 v0 8 → (∀ S7 : HS, S7 = sI S2 v0 10 x6 → (∀ S8 : HS, S8 = sI S7 v0 9 (0 : Int32) → (∀ S9 : HS, S9 = sI S8 v0 11 (0 : Int32) → (∀ x10 : Int32, x10 = fI S9 v0 8 → (P_X11_byteAt v0 x10 (fun x13 S11 => Gr S9 S11 → (((¬ x13 = (-1 : Int32)) → (P_X11_isLetter x13 (fun x17 S15 => Gr S11 S15 → bl x17 → (((x17 = 0) → (P_X11_isDigit x13 (fun x21 S19 => Gr S15 S19 → bl x21 → (((x21 = 0) → (((x13 = (59 : Int32)) → (P_X11_goesOn_261 Q v0 x13 S19)) ∧ ((¬ x13 = (59 : Int32)) → (((¬ x13 = (44 : Int32)) → (Q S19)) ∧ ((x13 = (44 : Int32)) → (P_X11_goesOn_261 Q v0 x13 S19)))))) ∧ ((¬ x21 = 0) → (∀ S25 : HS, S25 = sI S19 v0 12 (0 : Int32) → (P_X11_goesOn_178 Q v0 (0 : Int32) S25))))) S15)) ∧ ((¬ x17 = 0) → (∀ S26 : HS, S26 = sJ S15 v0 15 (0 : Int64) → (P_X11_goesOn_89 Q v0 (0 : Int32) S26))))) S11)) ∧ ((x13 = (-1 : Int32)) → (∀ S27 : HS, S27 = sI S11 v0 9 (1 : Int32) → (Q S27))))) S9))))))) ∧ ((x4 = (32 : Int32)) → (∀ x28 : Int32, x28 = fI S2 v0 8 → (∀ x29 : Int32, x29 = x28 + (1 : Int32) → (∀ S30 : HS, S30 = sI S2 v0 8 x29 → (X9 v0 S30))))))) S))
def P_X11_goesOn_9 (Q : HS → Prop) (v0 : Nat) (S : HS) : Prop := ∀ X9 : Nat → HS → Prop, (∀ (v0 : Nat) (S : HS), B_X11_goesOn_9 Q X9 v0 S → X9 v0 S) → X9 v0 S
set_option maxRecDepth 20000 in
set_option maxHeartbeats 4000000 in
theorem TB_X11_goesOn_9 {X : CX} {Q : HS → Prop} (C : Cx X cX11_goesOn RX11 3 rm_X11_goesOn) (E : ReV X rm_X11_goesOn Q) (ht : (xh X).sig.returnType = none) (hn : (xh X).name = yX11_goesOn.name) {X9 : Nat → HS → Prop} (hX9 : ∀ (v0 : Nat) (S : HS), X9 v0 S → WS X 3 0 0 9 [(0, .ref v0)] [] S) {v0 : Nat} {S : HS} (h : B_X11_goesOn_9 Q X9 v0 S) : WS X 3 0 0 9 [(0, .ref v0)] [] S := by
  refine r_aload_n (pc := 9) C dX11_goesOn_9 0 rfl ?_
  refine r_aload_n (pc := 10) C dX11_goesOn_10 0 rfl ?_
  obtain ⟨o_v0, h⟩ := h
  refine r_geti (pc := 11) C fL_X11_71 dX11_goesOn_11 o_v0 ?_
  refine r_topi (fun x1 ex1 => ?_)
  have h := h x1 ex1
  refine r_callVi0 (pc := 14) C (rest := []) (a := v0) o_v0 [.int x1] yV_X11_byteAt g_1384 (c_X11_byteAt h) dX11_goesOn_14 rfl rfl (Nat.le_of_ble_eq_true rfl) ⟨by decide, by decide⟩ ⟨by decide, by decide⟩ ⟨rfl, rfl⟩ (fun x4 S2 h g3 => ?_)
  have h := h g3
  have o_v0 := gr_ob g3 o_v0
  refine r_bipush (pc := 17) C (v := (32 : Int32)) dX11_goesOn_17 (by decide) ?_
  refine r_icmp_ne (pc := 19) C (tgt := 35) dX11_goesOn_19 (by decide) (fun c5 => ?_) (fun c5 => ?_)
  · have h := h.1 c5
    refine r_aload_n (pc := 35) C dX11_goesOn_35 0 rfl ?_
    refine r_aload_n (pc := 36) C dX11_goesOn_36 0 rfl ?_
    refine r_geti (pc := 37) C fL_X11_71 dX11_goesOn_37 o_v0 ?_
    refine r_topi (fun x6 ex6 => ?_)
    have h := h x6 ex6
    refine r_puti (pc := 40) C pfL_X11_77 dX11_goesOn_40 o_v0 ?_
    refine r_heap (fun S7 eS7 => ?_)
    have h := h S7 eS7
    have o_v0 := ob_I eS7 o_v0
    refine r_aload_n (pc := 43) C dX11_goesOn_43 0 rfl ?_
    refine r_iconst (pc := 44) C (v := (0 : Int32)) dX11_goesOn_44 (by decide) ?_
    refine r_puti (pc := 45) C pfL_X11_68 dX11_goesOn_45 o_v0 ?_
    refine r_heap (fun S8 eS8 => ?_)
    have h := h S8 eS8
    have o_v0 := ob_I eS8 o_v0
    refine r_aload_n (pc := 48) C dX11_goesOn_48 0 rfl ?_
    refine r_iconst (pc := 49) C (v := (0 : Int32)) dX11_goesOn_49 (by decide) ?_
    refine r_puti (pc := 50) C pfL_X11_80 dX11_goesOn_50 o_v0 ?_
    refine r_heap (fun S9 eS9 => ?_)
    have h := h S9 eS9
    have o_v0 := ob_I eS9 o_v0
    refine r_aload_n (pc := 53) C dX11_goesOn_53 0 rfl ?_
    refine r_aload_n (pc := 54) C dX11_goesOn_54 0 rfl ?_
    refine r_geti (pc := 55) C fL_X11_71 dX11_goesOn_55 o_v0 ?_
    refine r_topi (fun x10 ex10 => ?_)
    have h := h x10 ex10
    refine r_callVi0 (pc := 58) C (rest := []) (a := v0) o_v0 [.int x10] yV_X11_byteAt g_1384 (c_X11_byteAt h) dX11_goesOn_58 rfl rfl (Nat.le_of_ble_eq_true rfl) ⟨by decide, by decide⟩ ⟨by decide, by decide⟩ ⟨rfl, rfl⟩ (fun x13 S11 h g12 => ?_)
    have h := h g12
    have o_v0 := gr_ob g12 o_v0
    refine r_istore_n (pc := 61) C dX11_goesOn_61 rfl (by decide) (lv' := [(1, .int x13), (0, .ref v0)]) rfl ?_
    refine r_iconst (pc := 62) C (v := (0 : Int32)) dX11_goesOn_62 (by decide) ?_
    refine r_istore_n (pc := 63) C dX11_goesOn_63 rfl (by decide) (lv' := [(2, .int (0 : Int32)), (1, .int x13), (0, .ref v0)]) rfl ?_
    refine r_iload_n (pc := 64) C dX11_goesOn_64 1 rfl ?_
    refine r_iconst (pc := 65) C (v := (-1 : Int32)) dX11_goesOn_65 (by decide) ?_
    refine r_icmp_ne (pc := 66) C (tgt := 77) dX11_goesOn_66 (by decide) (fun c14 => ?_) (fun c14 => ?_)
    · have h := h.1 c14
      refine r_iload_n (pc := 77) C dX11_goesOn_77 1 rfl ?_
      refine r_callSi0 (pc := 78) C (rest := []) rfl [.int x13] yS_X11_isLetter g_1388 (c_X11_isLetter h) dX11_goesOn_78 rfl rfl (Nat.le_of_ble_eq_true rfl) ⟨by decide, by decide⟩ ⟨by decide, by decide⟩ ⟨rfl, rfl⟩ (fun x17 S15 h g16 => ?_)
      have bx17 := h.1
      have h := h.2 g16 bx17
      have o_v0 := gr_ob g16 o_v0
      refine r_if_eq (pc := 81) C (tgt := 166) dX11_goesOn_81 (by decide) (fun c18 => ?_) (fun c18 => ?_)
      · have h := h.1 c18
        refine r_iload_n (pc := 166) C dX11_goesOn_166 1 rfl ?_
        refine r_callSi0 (pc := 167) C (rest := []) rfl [.int x13] yS_X11_isDigit g_1392 (c_X11_isDigit h) dX11_goesOn_167 rfl rfl (Nat.le_of_ble_eq_true rfl) ⟨by decide, by decide⟩ ⟨by decide, by decide⟩ ⟨rfl, rfl⟩ (fun x21 S19 h g20 => ?_)
        have bx21 := h.1
        have h := h.2 g20 bx21
        have o_v0 := gr_ob g20 o_v0
        refine r_if_eq (pc := 170) C (tgt := 249) dX11_goesOn_170 (by decide) (fun c22 => ?_) (fun c22 => ?_)
        · have h := h.1 c22
          refine r_iload_n (pc := 249) C dX11_goesOn_249 1 rfl ?_
          refine r_bipush (pc := 250) C (v := (59 : Int32)) dX11_goesOn_250 (by decide) ?_
          refine r_icmp_eq (pc := 252) C (tgt := 261) dX11_goesOn_252 (by decide) (fun c23 => ?_) (fun c23 => ?_)
          · have h := h.1 c23
            exact r_sub [2, 1] rfl (T_X11_goesOn_261 C E ht hn h)
          · have h := h.2 c23
            refine r_iload_n (pc := 255) C dX11_goesOn_255 1 rfl ?_
            refine r_bipush (pc := 256) C (v := (44 : Int32)) dX11_goesOn_256 (by decide) ?_
            refine r_icmp_ne (pc := 258) C (tgt := 281) dX11_goesOn_258 (by decide) (fun c24 => ?_) (fun c24 => ?_)
            · have h := h.1 c24
              exact r_vret (pc := 281) C E ht dX11_goesOn_281 (by decide) (by decide) h
            · have h := h.2 c24
              exact r_sub [2, 1] rfl (T_X11_goesOn_261 C E ht hn h)
        · have h := h.2 c22
          refine r_aload_n (pc := 173) C dX11_goesOn_173 2 rfl ?_
          refine r_iconst (pc := 174) C (v := (0 : Int32)) dX11_goesOn_174 (by decide) ?_
          refine r_puti (pc := 175) C pfL_X11_94 dX11_goesOn_175 o_v0 ?_
          refine r_heap (fun S25 eS25 => ?_)
          have h := h S25 eS25
          have o_v0 := ob_I eS25 o_v0
          exact r_sub [2, 0] rfl (T_X11_goesOn_178 C E ht hn h)
      · have h := h.2 c18
        refine r_aload_n (pc := 84) C dX11_goesOn_84 2 rfl ?_
        refine r_lconst (pc := 85) C (v := (0 : Int64)) dX11_goesOn_85 (by decide) ?_
        refine r_putl (pc := 86) C pfL_X11_87 dX11_goesOn_86 o_v0 ?_
        refine r_heap (fun S26 eS26 => ?_)
        have h := h S26 eS26
        have o_v0 := ob_J eS26 o_v0
        exact r_sub [2, 0] rfl (T_X11_goesOn_89 C E ht hn h)
    · have h := h.2 c14
      refine r_aload_n (pc := 69) C dX11_goesOn_69 2 rfl ?_
      refine r_iconst (pc := 70) C (v := (1 : Int32)) dX11_goesOn_70 (by decide) ?_
      refine r_puti (pc := 71) C pfL_X11_68 dX11_goesOn_71 o_v0 ?_
      refine r_heap (fun S27 eS27 => ?_)
      have h := h S27 eS27
      have o_v0 := ob_I eS27 o_v0
      refine r_goto (pc := 74) C (tgt := 281) dX11_goesOn_74 (by decide) ?_
      exact r_vret (pc := 281) C E ht dX11_goesOn_281 (by decide) (by decide) h
  · have h := h.2 c5
    refine r_aload_n (pc := 22) C dX11_goesOn_22 0 rfl ?_
    refine r_dup (pc := 23) C dX11_goesOn_23 rfl ?_
    refine r_geti (pc := 24) C fL_X11_71 dX11_goesOn_24 o_v0 ?_
    refine r_topi (fun x28 ex28 => ?_)
    have h := h x28 ex28
    refine r_iconst (pc := 27) C (v := (1 : Int32)) dX11_goesOn_27 (by decide) ?_
    refine r_iadd (pc := 28) C dX11_goesOn_28 ?_
    refine r_topi (fun x29 ex29 => ?_)
    have h := h x29 ex29
    refine r_puti (pc := 29) C pfL_X11_71 dX11_goesOn_29 o_v0 ?_
    refine r_heap (fun S30 eS30 => ?_)
    have h := h S30 eS30
    have o_v0 := ob_I eS30 o_v0
    refine r_goto (pc := 32) C (tgt := 9) dX11_goesOn_32 (by decide) ?_
    exact r_sub [0] rfl (hX9 v0 S30 h)
theorem T_X11_goesOn_9 {X : CX} {Q : HS → Prop} (C : Cx X cX11_goesOn RX11 3 rm_X11_goesOn) (E : ReV X rm_X11_goesOn Q) (ht : (xh X).sig.returnType = none) (hn : (xh X).name = yX11_goesOn.name) {v0 : Nat} {S : HS} (h : P_X11_goesOn_9 Q v0 S) : WS X 3 0 0 9 [(0, .ref v0)] [] S :=
  h (fun v0 S => WS X 3 0 0 9 [(0, .ref v0)] [] S) (fun v0 S hh => TB_X11_goesOn_9 C E ht hn (fun v0 S z => z) hh)
def P_X11_goesOn_0 (Q : HS → Prop) (v0 : Nat) (S : HS) : Prop := ob S v0 11 ∧ (∀ x1 : Int32, x1 = fI S v0 9 → (((¬ x1 = (5 : Int32)) → (P_X11_goesOn_9 Q v0 S)) ∧ ((x1 = (5 : Int32)) → (Q S))))
set_option maxRecDepth 20000 in
set_option maxHeartbeats 4000000 in
theorem T_X11_goesOn_0 {X : CX} {Q : HS → Prop} (C : Cx X cX11_goesOn RX11 3 rm_X11_goesOn) (E : ReV X rm_X11_goesOn Q) (ht : (xh X).sig.returnType = none) (hn : (xh X).name = yX11_goesOn.name) {v0 : Nat} {S : HS} (h : P_X11_goesOn_0 Q v0 S) : WS X 3 0 0 0 [(0, .ref v0)] [] S := by
  refine r_aload_n (pc := 0) C dX11_goesOn_0 0 rfl ?_
  obtain ⟨o_v0, h⟩ := h
  refine r_geti (pc := 1) C fL_X11_68 dX11_goesOn_1 o_v0 ?_
  refine r_topi (fun x1 ex1 => ?_)
  have h := h x1 ex1
  refine r_iconst (pc := 4) C (v := (5 : Int32)) dX11_goesOn_4 (by decide) ?_
  refine r_icmp_ne (pc := 5) C (tgt := 9) dX11_goesOn_5 (by decide) (fun c2 => ?_) (fun c2 => ?_)
  · have h := h.1 c2
    exact r_sub [0] rfl (T_X11_goesOn_9 C E ht hn h)
  · have h := h.2 c2
    exact r_vret (pc := 8) C E ht dX11_goesOn_8 (by decide) (by decide) h
def P_X11_goesOn (v0 : Nat) (Q : HS → Prop) (S : HS) : Prop := P_X11_goesOn_0 Q v0 S
theorem c_X11_goesOn {l : Launch} {Ee : EE} {S : HS} {v0 : Nat} {Q : HS → Prop} (h : P_X11_goesOn v0 Q S) : MV l yX11_goesOn cX11_goesOn 3 none rm_X11_goesOn Ee S [.ref v0] Q :=
  openV (by decide) (Nat.le_of_ble_eq_true rfl) (fun X C E ht hn hE hl => by subst hE; exact r_sub [0] rfl (T_X11_goesOn_0 C E ht hn h))
def rm_X11_begins : Room := { frames := 2, cells := 0, slots := 0, locals := 43 }
def P_X11_begins_26 (Q : HS → Prop) (v0 : Nat) (S : HS) : Prop := ob S v0 11 ∧ (P_X11_goesOn v0 (fun S1 => Gr S S1 → (Q S1)) S)
set_option maxRecDepth 20000 in
set_option maxHeartbeats 4000000 in
theorem T_X11_begins_26 {X : CX} {Q : HS → Prop} (C : Cx X cX11_begins RX11 3 rm_X11_begins) (E : ReV X rm_X11_begins Q) (ht : (xh X).sig.returnType = none) (hn : (xh X).name = yX11_begins.name) {v0 : Nat} {S : HS} (h : P_X11_begins_26 Q v0 S) : WS X 3 0 0 26 [(0, .ref v0)] [] S := by
  refine r_aload_n (pc := 26) C dX11_begins_26 0 rfl ?_
  obtain ⟨o_v0, h⟩ := h
  refine r_callVv0 (pc := 27) C (rest := []) (a := v0) o_v0 [] yV_X11_goesOn g_1380 (c_X11_goesOn h) dX11_begins_27 rfl rfl (Nat.le_of_ble_eq_true rfl) ⟨by decide, by decide⟩ ⟨by decide, by decide⟩ ⟨rfl, rfl⟩ (fun S1 h g2 => ?_)
  have h := h g2
  have o_v0 := gr_ob g2 o_v0
  exact r_vret (pc := 30) C E ht dX11_begins_30 (by decide) (by decide) h
def P_X11_begins_10 (Q : HS → Prop) (v0 : Nat) (S : HS) : Prop := ob S v0 11 ∧ (∃ a1 : Nat, fR S v0 4 = some a1 ∧ (ob S a1 10 ∧ (∀ x2 : Int32, x2 = fI S a1 0 → (((¬ x2 = 0) → (P_X11_begins_26 Q v0 S)) ∧ ((x2 = 0) → (P_X11_flaw v0 (6 : Int32) (fun S4 => Gr S S4 → (P_X11_begins_26 Q v0 S4)) S))))))
set_option maxRecDepth 20000 in
set_option maxHeartbeats 4000000 in
theorem T_X11_begins_10 {X : CX} {Q : HS → Prop} (C : Cx X cX11_begins RX11 3 rm_X11_begins) (E : ReV X rm_X11_begins Q) (ht : (xh X).sig.returnType = none) (hn : (xh X).name = yX11_begins.name) {v0 : Nat} {S : HS} (h : P_X11_begins_10 Q v0 S) : WS X 3 0 0 10 [(0, .ref v0)] [] S := by
  refine r_aload_n (pc := 10) C dX11_begins_10 0 rfl ?_
  obtain ⟨o_v0, h⟩ := h
  obtain ⟨a1, ea1, h⟩ := h
  refine r_getr (pc := 11) C fL_X11_147 dX11_begins_11 o_v0 ea1 ?_
  obtain ⟨o_a1, h⟩ := h
  refine r_getNi (pc := 14) C fN_X11_151 dX11_begins_14 o_a1 ?_
  refine r_topi (fun x2 ex2 => ?_)
  have h := h x2 ex2
  refine r_if_ne (pc := 17) C (tgt := 26) dX11_begins_17 (by decide) (fun c3 => ?_) (fun c3 => ?_)
  · have h := h.1 c3
    exact r_sub [0] rfl (T_X11_begins_26 C E ht hn h)
  · have h := h.2 c3
    refine r_aload_n (pc := 20) C dX11_begins_20 0 rfl ?_
    refine r_bipush (pc := 21) C (v := (6 : Int32)) dX11_begins_21 (by decide) ?_
    refine r_callVv0 (pc := 23) C (rest := []) (a := v0) o_v0 [.int (6 : Int32)] yV_X11_flaw g_1417 (c_X11_flaw h) dX11_begins_23 rfl rfl (Nat.le_of_ble_eq_true rfl) ⟨by decide, by decide⟩ ⟨by decide, by decide⟩ ⟨rfl, rfl⟩ (fun S4 h g5 => ?_)
    have h := h g5
    have o_a1 := gr_ob g5 o_a1
    have o_v0 := gr_ob g5 o_v0
    exact r_sub [0] rfl (T_X11_begins_26 C E ht hn h)
def P_X11_begins_0 (Q : HS → Prop) (v0 : Nat) (v1 : Int32) (v2 : Int32) (S : HS) : Prop := ((¬ v1 = v2) → (P_X11_begins_10 Q v0 S)) ∧ ((v1 = v2) → (ob S v0 11 ∧ (P_X11_flaw v0 (5 : Int32) (fun S2 => Gr S S2 → (P_X11_begins_10 Q v0 S2)) S)))
set_option maxRecDepth 20000 in
set_option maxHeartbeats 4000000 in
theorem T_X11_begins_0 {X : CX} {Q : HS → Prop} (C : Cx X cX11_begins RX11 3 rm_X11_begins) (E : ReV X rm_X11_begins Q) (ht : (xh X).sig.returnType = none) (hn : (xh X).name = yX11_begins.name) {v0 : Nat} {v1 : Int32} {v2 : Int32} {S : HS} (h : P_X11_begins_0 Q v0 v1 v2 S) : WS X 3 0 0 0 [(0, .ref v0), (1, .int v1), (2, .int v2)] [] S := by
  refine r_iload_n (pc := 0) C dX11_begins_0 1 rfl ?_
  refine r_iload_n (pc := 1) C dX11_begins_1 2 rfl ?_
  refine r_icmp_ne (pc := 2) C (tgt := 10) dX11_begins_2 (by decide) (fun c1 => ?_) (fun c1 => ?_)
  · have h := h.1 c1
    exact r_sub [0] rfl (T_X11_begins_10 C E ht hn h)
  · have h := h.2 c1
    refine r_aload_n (pc := 5) C dX11_begins_5 0 rfl ?_
    refine r_iconst (pc := 6) C (v := (5 : Int32)) dX11_begins_6 (by decide) ?_
    obtain ⟨o_v0, h⟩ := h
    refine r_callVv0 (pc := 7) C (rest := []) (a := v0) o_v0 [.int (5 : Int32)] yV_X11_flaw g_1417 (c_X11_flaw h) dX11_begins_7 rfl rfl (Nat.le_of_ble_eq_true rfl) ⟨by decide, by decide⟩ ⟨by decide, by decide⟩ ⟨rfl, rfl⟩ (fun S2 h g3 => ?_)
    have h := h g3
    have o_v0 := gr_ob g3 o_v0
    exact r_sub [0] rfl (T_X11_begins_10 C E ht hn h)
def P_X11_begins (v0 : Nat) (v1 : Int32) (v2 : Int32) (Q : HS → Prop) (S : HS) : Prop := P_X11_begins_0 Q v0 v1 v2 S
theorem c_X11_begins {l : Launch} {Ee : EE} {S : HS} {v0 : Nat} {v1 : Int32} {v2 : Int32} {Q : HS → Prop} (h : P_X11_begins v0 v1 v2 Q S) : MV l yX11_begins cX11_begins 3 none rm_X11_begins Ee S [.ref v0, .int v1, .int v2] Q :=
  openV (by decide) (Nat.le_of_ble_eq_true rfl) (fun X C E ht hn hE hl => by subst hE; exact r_sub [0, 1, 2] rfl (T_X11_begins_0 C E ht hn h))
def rm_X11_isForward : Room := { frames := 2, cells := 0, slots := 0, locals := 46 }
def P_X11_isForward_112 (Q : Int32 → HS → Prop) (v0 : Nat) (v4 : Int32) (v7 : Int32) (v8 : Int32) (v9 : Int32) (s0 : Int32) (S : HS) : Prop := ((s0 = 0) → (Q (0 : Int32) S)) ∧ ((¬ s0 = 0) → (((v7 ≤ 0) → (Q (0 : Int32) S)) ∧ ((¬ v7 ≤ 0) → (ob S v0 11 ∧ (∃ a3 : Nat, fR S v0 3 = some a3 ∧ (ob S a3 10 ∧ (∃ a4 : Nat, fR S a3 7 = some a4 ∧ (ob S a4 13 ∧ (vp_in v4 (hN S a4) ∧ ∀ x6 : Int32, x6 = fI S a4 v4.toNatClampNeg → (∃ a7 : Nat, fR S v0 3 = some a7 ∧ (ob S a7 10 ∧ (∃ a8 : Nat, fR S a7 7 = some a8 ∧ (ob S a8 13 ∧ (vp_in v4 (hN S a8) ∧ ∀ x10 : Int32, x10 = fI S a8 v4.toNatClampNeg → (∃ a11 : Nat, fR S v0 3 = some a11 ∧ (ob S a11 10 ∧ (∃ a12 : Nat, fR S a11 8 = some a12 ∧ (ob S a12 13 ∧ (vp_in v4 (hN S a12) ∧ ∀ x14 : Int32, x14 = fI S a12 v4.toNatClampNeg → (((((x6 * v7) * v8) ≤ ((x10 * x14) * v9)) → (Q (0 : Int32) S)) ∧ ((¬ ((x6 * v7) * v8) ≤ ((x10 * x14) * v9)) → (Q (1 : Int32) S))))))))))))))))))))))
set_option maxRecDepth 20000 in
set_option maxHeartbeats 4000000 in
theorem T_X11_isForward_112 {X : CX} {Q : Int32 → HS → Prop} (C : Cx X cX11_isForward RX11 11 rm_X11_isForward) (E : ReI X rm_X11_isForward (fun r S => bl r ∧ Q r S)) (ht : (xh X).sig.returnType = (some .boolean)) (hn : (xh X).name = yX11_isForward.name) {v0 : Nat} {v4 : Int32} {v7 : Int32} {v8 : Int32} {v9 : Int32} {s0 : Int32} {S : HS} (h : P_X11_isForward_112 Q v0 v4 v7 v8 v9 s0 S) : WS X 11 0 0 112 [(0, .ref v0), (4, .int v4), (7, .int v7), (8, .int v8), (9, .int v9)] [.int s0] S := by
  refine r_istore (pc := 112) C dX11_isForward_112 (by decide) (lv' := [(10, .int s0), (0, .ref v0), (4, .int v4), (7, .int v7), (8, .int v8), (9, .int v9)]) rfl ?_
  refine r_iload (pc := 114) C dX11_isForward_114 0 rfl ?_
  refine r_if_eq (pc := 116) C (tgt := 171) dX11_isForward_116 (by decide) (fun c1 => ?_) (fun c1 => ?_)
  · have h := h.1 c1
    refine r_iconst (pc := 171) C (v := (0 : Int32)) dX11_isForward_171 (by decide) ?_
    exact r_zret (pc := 172) C E ht dX11_isForward_172 (by decide) (by decide) (Or.inl rfl) h
  · have h := h.2 c1
    refine r_iload (pc := 119) C dX11_isForward_119 3 rfl ?_
    refine r_if_le (pc := 121) C (tgt := 171) dX11_isForward_121 (by decide) (fun c2 => ?_) (fun c2 => ?_)
    · have h := h.1 c2
      refine r_iconst (pc := 171) C (v := (0 : Int32)) dX11_isForward_171 (by decide) ?_
      exact r_zret (pc := 172) C E ht dX11_isForward_172 (by decide) (by decide) (Or.inl rfl) h
    · have h := h.2 c2
      refine r_aload_n (pc := 124) C dX11_isForward_124 1 rfl ?_
      obtain ⟨o_v0, h⟩ := h
      obtain ⟨a3, ea3, h⟩ := h
      refine r_getr (pc := 125) C fL_X11_338 dX11_isForward_125 o_v0 ea3 ?_
      obtain ⟨o_a3, h⟩ := h
      obtain ⟨a4, ea4, h⟩ := h
      refine r_getNr (pc := 128) C fN_X11_237 dX11_isForward_128 o_a3 ea4 ?_
      refine r_iload (pc := 131) C dX11_isForward_131 2 rfl ?_
      obtain ⟨o_a4, h⟩ := h
      obtain ⟨i5, h⟩ := h
      refine r_iald (pc := 133) C dX11_isForward_133 o_a4 i5 ?_
      refine r_topi (fun x6 ex6 => ?_)
      have h := h x6 ex6
      refine r_iload (pc := 134) C dX11_isForward_134 3 rfl ?_
      refine r_imul (pc := 136) C dX11_isForward_136 ?_
      refine r_iload (pc := 137) C dX11_isForward_137 4 rfl ?_
      refine r_imul (pc := 139) C dX11_isForward_139 ?_
      refine r_aload_n (pc := 140) C dX11_isForward_140 1 rfl ?_
      obtain ⟨a7, ea7, h⟩ := h
      refine r_getr (pc := 141) C fL_X11_338 dX11_isForward_141 o_v0 ea7 ?_
      obtain ⟨o_a7, h⟩ := h
      obtain ⟨a8, ea8, h⟩ := h
      refine r_getNr (pc := 144) C fN_X11_237 dX11_isForward_144 o_a7 ea8 ?_
      refine r_iload (pc := 147) C dX11_isForward_147 2 rfl ?_
      obtain ⟨o_a8, h⟩ := h
      obtain ⟨i9, h⟩ := h
      refine r_iald (pc := 149) C dX11_isForward_149 o_a8 i9 ?_
      refine r_topi (fun x10 ex10 => ?_)
      have h := h x10 ex10
      refine r_aload_n (pc := 150) C dX11_isForward_150 1 rfl ?_
      obtain ⟨a11, ea11, h⟩ := h
      refine r_getr (pc := 151) C fL_X11_338 dX11_isForward_151 o_v0 ea11 ?_
      obtain ⟨o_a11, h⟩ := h
      obtain ⟨a12, ea12, h⟩ := h
      refine r_getNr (pc := 154) C fN_X11_239 dX11_isForward_154 o_a11 ea12 ?_
      refine r_iload (pc := 157) C dX11_isForward_157 2 rfl ?_
      obtain ⟨o_a12, h⟩ := h
      obtain ⟨i13, h⟩ := h
      refine r_iald (pc := 159) C dX11_isForward_159 o_a12 i13 ?_
      refine r_topi (fun x14 ex14 => ?_)
      have h := h x14 ex14
      refine r_imul (pc := 160) C dX11_isForward_160 ?_
      refine r_iload (pc := 161) C dX11_isForward_161 5 rfl ?_
      refine r_imul (pc := 163) C dX11_isForward_163 ?_
      refine r_icmp_le (pc := 164) C (tgt := 171) dX11_isForward_164 (by decide) (fun c15 => ?_) (fun c15 => ?_)
      · have h := h.1 c15
        refine r_iconst (pc := 171) C (v := (0 : Int32)) dX11_isForward_171 (by decide) ?_
        exact r_zret (pc := 172) C E ht dX11_isForward_172 (by decide) (by decide) (Or.inl rfl) h
      · have h := h.2 c15
        refine r_iconst (pc := 167) C (v := (1 : Int32)) dX11_isForward_167 (by decide) ?_
        refine r_goto (pc := 168) C (tgt := 172) dX11_isForward_168 (by decide) ?_
        exact r_zret (pc := 172) C E ht dX11_isForward_172 (by decide) (by decide) (Or.inr rfl) h
def P_X11_isForward_84 (Q : Int32 → HS → Prop) (v0 : Nat) (v2 : Int32) (v4 : Int32) (v7 : Int32) (v8 : Int32) (s0 : Int32) (S : HS) : Prop := ob S v0 11 ∧ (∃ a1 : Nat, fR S v0 3 = some a1 ∧ (ob S a1 10 ∧ (∃ a2 : Nat, fR S a1 17 = some a2 ∧ (ob S a2 13 ∧ (vp_in v2 (hN S a2) ∧ ∀ x4 : Int32, x4 = fI S a2 v2.toNatClampNeg → (∃ a5 : Nat, fR S v0 3 = some a5 ∧ (ob S a5 10 ∧ (∃ a6 : Nat, fR S a5 16 = some a6 ∧ (ob S a6 13 ∧ (vp_in v2 (hN S a6) ∧ ∀ x8 : Int32, x8 = fI S a6 v2.toNatClampNeg → (((x8 ≤ x4) → (P_X11_isForward_112 Q v0 v4 v7 v8 s0 (0 : Int32) S)) ∧ ((¬ x8 ≤ x4) → (P_X11_isForward_112 Q v0 v4 v7 v8 s0 (1 : Int32) S)))))))))))))
set_option maxRecDepth 20000 in
set_option maxHeartbeats 4000000 in
theorem T_X11_isForward_84 {X : CX} {Q : Int32 → HS → Prop} (C : Cx X cX11_isForward RX11 11 rm_X11_isForward) (E : ReI X rm_X11_isForward (fun r S => bl r ∧ Q r S)) (ht : (xh X).sig.returnType = (some .boolean)) (hn : (xh X).name = yX11_isForward.name) {v0 : Nat} {v2 : Int32} {v4 : Int32} {v7 : Int32} {v8 : Int32} {s0 : Int32} {S : HS} (h : P_X11_isForward_84 Q v0 v2 v4 v7 v8 s0 S) : WS X 11 0 0 84 [(0, .ref v0), (2, .int v2), (4, .int v4), (7, .int v7), (8, .int v8)] [.int s0] S := by
  refine r_istore (pc := 84) C dX11_isForward_84 (by decide) (lv' := [(9, .int s0), (0, .ref v0), (2, .int v2), (4, .int v4), (7, .int v7), (8, .int v8)]) rfl ?_
  refine r_aload_n (pc := 86) C dX11_isForward_86 1 rfl ?_
  obtain ⟨o_v0, h⟩ := h
  obtain ⟨a1, ea1, h⟩ := h
  refine r_getr (pc := 87) C fL_X11_338 dX11_isForward_87 o_v0 ea1 ?_
  obtain ⟨o_a1, h⟩ := h
  obtain ⟨a2, ea2, h⟩ := h
  refine r_getNr (pc := 90) C fN_X11_282 dX11_isForward_90 o_a1 ea2 ?_
  refine r_iload_n (pc := 93) C dX11_isForward_93 2 rfl ?_
  obtain ⟨o_a2, h⟩ := h
  obtain ⟨i3, h⟩ := h
  refine r_iald (pc := 94) C dX11_isForward_94 o_a2 i3 ?_
  refine r_topi (fun x4 ex4 => ?_)
  have h := h x4 ex4
  refine r_aload_n (pc := 95) C dX11_isForward_95 1 rfl ?_
  obtain ⟨a5, ea5, h⟩ := h
  refine r_getr (pc := 96) C fL_X11_338 dX11_isForward_96 o_v0 ea5 ?_
  obtain ⟨o_a5, h⟩ := h
  obtain ⟨a6, ea6, h⟩ := h
  refine r_getNr (pc := 99) C fN_X11_279 dX11_isForward_99 o_a5 ea6 ?_
  refine r_iload_n (pc := 102) C dX11_isForward_102 2 rfl ?_
  obtain ⟨o_a6, h⟩ := h
  obtain ⟨i7, h⟩ := h
  refine r_iald (pc := 103) C dX11_isForward_103 o_a6 i7 ?_
  refine r_topi (fun x8 ex8 => ?_)
  have h := h x8 ex8
  refine r_icmp_ge (pc := 104) C (tgt := 111) dX11_isForward_104 (by decide) (fun c9 => ?_) (fun c9 => ?_)
  · have h := h.1 c9
    refine r_iconst (pc := 111) C (v := (0 : Int32)) dX11_isForward_111 (by decide) ?_
    exact r_sub [1, 3, 4, 5, 0] rfl (T_X11_isForward_112 C E ht hn h)
  · have h := h.2 c9
    refine r_iconst (pc := 107) C (v := (1 : Int32)) dX11_isForward_107 (by decide) ?_
    refine r_goto (pc := 108) C (tgt := 112) dX11_isForward_108 (by decide) ?_
    exact r_sub [1, 3, 4, 5, 0] rfl (T_X11_isForward_112 C E ht hn h)
def P_X11_isForward_54 (Q : Int32 → HS → Prop) (v0 : Nat) (v1 : Int32) (v2 : Int32) (v4 : Int32) (v6 : Int32) (v7 : Int32) (s0 : Int32) (S : HS) : Prop := ob S v0 11 ∧ (∃ a1 : Nat, fR S v0 3 = some a1 ∧ (ob S a1 10 ∧ (∃ a2 : Nat, fR S a1 21 = some a2 ∧ (ob S a2 13 ∧ (vp_in v1 (hN S a2) ∧ ∀ x4 : Int32, x4 = fI S a2 v1.toNatClampNeg → (((x4 ≤ v6) → (∃ a6 : Nat, fR S v0 3 = some a6 ∧ (ob S a6 10 ∧ (∃ a7 : Nat, fR S a6 21 = some a7 ∧ (ob S a7 13 ∧ (vp_in v1 (hN S a7) ∧ ∀ x9 : Int32, x9 = fI S a7 v1.toNatClampNeg → (P_X11_isForward_84 Q v0 v2 v4 v7 s0 x9 S))))))) ∧ ((¬ x4 ≤ v6) → (P_X11_isForward_84 Q v0 v2 v4 v7 s0 v6 S))))))))
set_option maxRecDepth 20000 in
set_option maxHeartbeats 4000000 in
theorem T_X11_isForward_54 {X : CX} {Q : Int32 → HS → Prop} (C : Cx X cX11_isForward RX11 11 rm_X11_isForward) (E : ReI X rm_X11_isForward (fun r S => bl r ∧ Q r S)) (ht : (xh X).sig.returnType = (some .boolean)) (hn : (xh X).name = yX11_isForward.name) {v0 : Nat} {v1 : Int32} {v2 : Int32} {v4 : Int32} {v6 : Int32} {v7 : Int32} {s0 : Int32} {S : HS} (h : P_X11_isForward_54 Q v0 v1 v2 v4 v6 v7 s0 S) : WS X 11 0 0 54 [(0, .ref v0), (1, .int v1), (2, .int v2), (4, .int v4), (6, .int v6), (7, .int v7)] [.int s0] S := by
  refine r_istore (pc := 54) C dX11_isForward_54 (by decide) (lv' := [(8, .int s0), (0, .ref v0), (1, .int v1), (2, .int v2), (4, .int v4), (6, .int v6), (7, .int v7)]) rfl ?_
  refine r_iload (pc := 56) C dX11_isForward_56 5 rfl ?_
  refine r_aload_n (pc := 58) C dX11_isForward_58 1 rfl ?_
  obtain ⟨o_v0, h⟩ := h
  obtain ⟨a1, ea1, h⟩ := h
  refine r_getr (pc := 59) C fL_X11_338 dX11_isForward_59 o_v0 ea1 ?_
  obtain ⟨o_a1, h⟩ := h
  obtain ⟨a2, ea2, h⟩ := h
  refine r_getNr (pc := 62) C fN_X11_308 dX11_isForward_62 o_a1 ea2 ?_
  refine r_iload_n (pc := 65) C dX11_isForward_65 2 rfl ?_
  obtain ⟨o_a2, h⟩ := h
  obtain ⟨i3, h⟩ := h
  refine r_iald (pc := 66) C dX11_isForward_66 o_a2 i3 ?_
  refine r_topi (fun x4 ex4 => ?_)
  have h := h x4 ex4
  refine r_icmp_ge (pc := 67) C (tgt := 75) dX11_isForward_67 (by decide) (fun c5 => ?_) (fun c5 => ?_)
  · have h := h.1 c5
    refine r_aload_n (pc := 75) C dX11_isForward_75 1 rfl ?_
    obtain ⟨a6, ea6, h⟩ := h
    refine r_getr (pc := 76) C fL_X11_338 dX11_isForward_76 o_v0 ea6 ?_
    obtain ⟨o_a6, h⟩ := h
    obtain ⟨a7, ea7, h⟩ := h
    refine r_getNr (pc := 79) C fN_X11_308 dX11_isForward_79 o_a6 ea7 ?_
    refine r_iload_n (pc := 82) C dX11_isForward_82 2 rfl ?_
    obtain ⟨o_a7, h⟩ := h
    obtain ⟨i8, h⟩ := h
    refine r_iald (pc := 83) C dX11_isForward_83 o_a7 i8 ?_
    refine r_topi (fun x9 ex9 => ?_)
    have h := h x9 ex9
    exact r_sub [1, 3, 4, 6, 0] rfl (T_X11_isForward_84 C E ht hn h)
  · have h := h.2 c5
    refine r_iload (pc := 70) C dX11_isForward_70 5 rfl ?_
    refine r_goto (pc := 72) C (tgt := 84) dX11_isForward_72 (by decide) ?_
    exact r_sub [1, 3, 4, 6, 0] rfl (T_X11_isForward_84 C E ht hn h)
def P_X11_isForward_0 (Q : Int32 → HS → Prop) (v0 : Nat) (v1 : Int32) (v2 : Int32) (v3 : Int32) (v4 : Int32) (v5 : Int32) (S : HS) : Prop := ob S v0 11 ∧ (∃ a1 : Nat, fR S v0 3 = some a1 ∧ (ob S a1 10 ∧ (P_X10_shield a1 v1 (fun x4 S2 => Gr S S2 → (∃ a5 : Nat, fR S2 v0 3 = some a5 ∧ (ob S2 a5 10 ∧ (P_X10_air a5 v2 v3 v4 (fun x8 S6 => Gr S2 S6 → (∀ x9 : Int32, x9 = v5 - x8 → (∃ a10 : Nat, fR S6 v0 3 = some a10 ∧ (ob S6 a10 10 ∧ (∃ a11 : Nat, fR S6 a10 22 = some a11 ∧ (ob S6 a11 13 ∧ (vp_in v1 (hN S6 a11) ∧ ∀ x13 : Int32, x13 = fI S6 a11 v1.toNatClampNeg → (((x13 ≤ x4) → (∃ a15 : Nat, fR S6 v0 3 = some a15 ∧ (ob S6 a15 10 ∧ (∃ a16 : Nat, fR S6 a15 22 = some a16 ∧ (ob S6 a16 13 ∧ (vp_in v1 (hN S6 a16) ∧ ∀ x18 : Int32, x18 = fI S6 a16 v1.toNatClampNeg → (P_X11_isForward_54 Q v0 v1 v2 v4 x4 x9 x18 S6))))))) ∧ ((¬ x13 ≤ x4) → (P_X11_isForward_54 Q v0 v1 v2 v4 x4 x9 x4 S6)))))))))) S2)))) S)))
set_option maxRecDepth 20000 in
set_option maxHeartbeats 4000000 in
theorem T_X11_isForward_0 {X : CX} {Q : Int32 → HS → Prop} (C : Cx X cX11_isForward RX11 11 rm_X11_isForward) (E : ReI X rm_X11_isForward (fun r S => bl r ∧ Q r S)) (ht : (xh X).sig.returnType = (some .boolean)) (hn : (xh X).name = yX11_isForward.name) {v0 : Nat} {v1 : Int32} {v2 : Int32} {v3 : Int32} {v4 : Int32} {v5 : Int32} {S : HS} (h : P_X11_isForward_0 Q v0 v1 v2 v3 v4 v5 S) : WS X 11 0 0 0 [(0, .ref v0), (1, .int v1), (2, .int v2), (3, .int v3), (4, .int v4), (5, .int v5)] [] S := by
  refine r_aload_n (pc := 0) C dX11_isForward_0 0 rfl ?_
  obtain ⟨o_v0, h⟩ := h
  obtain ⟨a1, ea1, h⟩ := h
  refine r_getr (pc := 1) C fL_X11_338 dX11_isForward_1 o_v0 ea1 ?_
  refine r_iload_n (pc := 4) C dX11_isForward_4 1 rfl ?_
  obtain ⟨o_a1, h⟩ := h
  refine r_callVi0 (pc := 5) C (rest := []) (a := a1) o_a1 [.int v1] yV_X10_shield g_1578 (c_X10_shield h) dX11_isForward_5 rfl rfl (Nat.le_of_ble_eq_true rfl) ⟨by decide, by decide⟩ ⟨by decide, by decide⟩ ⟨rfl, rfl⟩ (fun x4 S2 h g3 => ?_)
  have h := h g3
  have o_a1 := gr_ob g3 o_a1
  have o_v0 := gr_ob g3 o_v0
  refine r_istore (pc := 8) C dX11_isForward_8 (by decide) (lv' := [(6, .int x4), (0, .ref v0), (1, .int v1), (2, .int v2), (3, .int v3), (4, .int v4), (5, .int v5)]) rfl ?_
  refine r_iload (pc := 10) C dX11_isForward_10 6 rfl ?_
  refine r_aload_n (pc := 12) C dX11_isForward_12 1 rfl ?_
  obtain ⟨a5, ea5, h⟩ := h
  refine r_getr (pc := 13) C fL_X11_338 dX11_isForward_13 o_v0 ea5 ?_
  refine r_iload_n (pc := 16) C dX11_isForward_16 3 rfl ?_
  refine r_iload_n (pc := 17) C dX11_isForward_17 4 rfl ?_
  refine r_iload (pc := 18) C dX11_isForward_18 5 rfl ?_
  obtain ⟨o_a5, h⟩ := h
  refine r_callVi0 (pc := 20) C (rest := [.int v5]) (a := a5) o_a5 [.int v2, .int v3, .int v4] yV_X10_air g_1562 (c_X10_air h) dX11_isForward_20 rfl rfl (Nat.le_of_ble_eq_true rfl) ⟨by decide, by decide⟩ ⟨by decide, by decide⟩ ⟨rfl, rfl⟩ (fun x8 S6 h g7 => ?_)
  have h := h g7
  have o_a1 := gr_ob g7 o_a1
  have o_a5 := gr_ob g7 o_a5
  have o_v0 := gr_ob g7 o_v0
  refine r_isub (pc := 23) C dX11_isForward_23 ?_
  refine r_topi (fun x9 ex9 => ?_)
  have h := h x9 ex9
  refine r_istore (pc := 24) C dX11_isForward_24 (by decide) (lv' := [(7, .int x9), (6, .int x4), (0, .ref v0), (1, .int v1), (2, .int v2), (3, .int v3), (4, .int v4), (5, .int v5)]) rfl ?_
  refine r_iload (pc := 26) C dX11_isForward_26 1 rfl ?_
  refine r_aload_n (pc := 28) C dX11_isForward_28 2 rfl ?_
  obtain ⟨a10, ea10, h⟩ := h
  refine r_getr (pc := 29) C fL_X11_338 dX11_isForward_29 o_v0 ea10 ?_
  obtain ⟨o_a10, h⟩ := h
  obtain ⟨a11, ea11, h⟩ := h
  refine r_getNr (pc := 32) C fN_X11_311 dX11_isForward_32 o_a10 ea11 ?_
  refine r_iload_n (pc := 35) C dX11_isForward_35 3 rfl ?_
  obtain ⟨o_a11, h⟩ := h
  obtain ⟨i12, h⟩ := h
  refine r_iald (pc := 36) C dX11_isForward_36 o_a11 i12 ?_
  refine r_topi (fun x13 ex13 => ?_)
  have h := h x13 ex13
  refine r_icmp_ge (pc := 37) C (tgt := 45) dX11_isForward_37 (by decide) (fun c14 => ?_) (fun c14 => ?_)
  · have h := h.1 c14
    refine r_aload_n (pc := 45) C dX11_isForward_45 2 rfl ?_
    obtain ⟨a15, ea15, h⟩ := h
    refine r_getr (pc := 46) C fL_X11_338 dX11_isForward_46 o_v0 ea15 ?_
    obtain ⟨o_a15, h⟩ := h
    obtain ⟨a16, ea16, h⟩ := h
    refine r_getNr (pc := 49) C fN_X11_311 dX11_isForward_49 o_a15 ea16 ?_
    refine r_iload_n (pc := 52) C dX11_isForward_52 3 rfl ?_
    obtain ⟨o_a16, h⟩ := h
    obtain ⟨i17, h⟩ := h
    refine r_iald (pc := 53) C dX11_isForward_53 o_a16 i17 ?_
    refine r_topi (fun x18 ex18 => ?_)
    have h := h x18 ex18
    exact r_sub [2, 3, 4, 6, 1, 0] rfl (T_X11_isForward_54 C E ht hn h)
  · have h := h.2 c14
    refine r_iload (pc := 40) C dX11_isForward_40 1 rfl ?_
    refine r_goto (pc := 42) C (tgt := 54) dX11_isForward_42 (by decide) ?_
    exact r_sub [2, 3, 4, 6, 1, 0] rfl (T_X11_isForward_54 C E ht hn h)
def P_X11_isForward (v0 : Nat) (v1 : Int32) (v2 : Int32) (v3 : Int32) (v4 : Int32) (v5 : Int32) (Q : Int32 → HS → Prop) (S : HS) : Prop := P_X11_isForward_0 Q v0 v1 v2 v3 v4 v5 S
theorem c_X11_isForward {l : Launch} {Ee : EE} {S : HS} {v0 : Nat} {v1 : Int32} {v2 : Int32} {v3 : Int32} {v4 : Int32} {v5 : Int32} {Q : Int32 → HS → Prop} (h : P_X11_isForward v0 v1 v2 v3 v4 v5 Q S) : MI l yX11_isForward cX11_isForward 11 (some .boolean) rm_X11_isForward Ee S [.ref v0, .int v1, .int v2, .int v3, .int v4, .int v5] (fun r S => bl r ∧ Q r S) :=
  openI (by decide) (Nat.le_of_ble_eq_true rfl) (fun X C E ht hn hE hl => by subst hE; exact r_sub [0, 1, 2, 3, 4, 5] rfl (T_X11_isForward_0 C E ht hn h))
def rm_X11_less : Room := { frames := 0, cells := 0, slots := 0, locals := 0 }
def P_X11_less_0 (Q : Int32 → HS → Prop) (v0 : Int32) (v1 : Int32) (S : HS) : Prop := ((v0 ≤ v1) → (Q (0 : Int32) S)) ∧ ((¬ v0 ≤ v1) → (Q (v0 - v1) S))
set_option maxRecDepth 20000 in
set_option maxHeartbeats 4000000 in
theorem T_X11_less_0 {X : CX} {Q : Int32 → HS → Prop} (C : Cx X cX11_less RX11 2 rm_X11_less) (E : ReI X rm_X11_less Q) (ht : (xh X).sig.returnType = (some .int)) (hn : (xh X).name = yX11_less.name) {v0 : Int32} {v1 : Int32} {S : HS} (h : P_X11_less_0 Q v0 v1 S) : WS X 2 0 0 0 [(0, .int v0), (1, .int v1)] [] S := by
  refine r_iload_n (pc := 0) C dX11_less_0 0 rfl ?_
  refine r_iload_n (pc := 1) C dX11_less_1 1 rfl ?_
  refine r_icmp_le (pc := 2) C (tgt := 11) dX11_less_2 (by decide) (fun c1 => ?_) (fun c1 => ?_)
  · have h := h.1 c1
    refine r_iconst (pc := 11) C (v := (0 : Int32)) dX11_less_11 (by decide) ?_
    exact r_iret (pc := 12) C E ht dX11_less_12 (by decide) (by decide) h
  · have h := h.2 c1
    refine r_iload_n (pc := 5) C dX11_less_5 0 rfl ?_
    refine r_iload_n (pc := 6) C dX11_less_6 1 rfl ?_
    refine r_isub (pc := 7) C dX11_less_7 ?_
    refine r_goto (pc := 8) C (tgt := 12) dX11_less_8 (by decide) ?_
    exact r_iret (pc := 12) C E ht dX11_less_12 (by decide) (by decide) h
def P_X11_less (v0 : Int32) (v1 : Int32) (Q : Int32 → HS → Prop) (S : HS) : Prop := P_X11_less_0 Q v0 v1 S
theorem c_X11_less {l : Launch} {Ee : EE} {S : HS} {v0 : Int32} {v1 : Int32} {Q : Int32 → HS → Prop} (h : P_X11_less v0 v1 Q S) : MI l yX11_less cX11_less 2 (some .int) rm_X11_less Ee S [.int v0, .int v1] Q :=
  openI (by decide) (Nat.le_of_ble_eq_true rfl) (fun X C E ht hn hE hl => by subst hE; exact r_sub [0, 1] rfl (T_X11_less_0 C E ht hn h))
def rm_X11_inTime : Room := { frames := 3, cells := 0, slots := 0, locals := 76 }
def P_X11_inTime_129 (Q : Int32 → HS → Prop) (s0 : Int32) (s1 : Int32) (s2 : Int32) (S : HS) : Prop := P_X11_less s1 s2 (fun x3 S1 => Gr S S1 → (Q (s0 * x3) S1)) S
set_option maxRecDepth 20000 in
set_option maxHeartbeats 4000000 in
theorem T_X11_inTime_129 {X : CX} {Q : Int32 → HS → Prop} (C : Cx X cX11_inTime RX11 14 rm_X11_inTime) (E : ReI X rm_X11_inTime Q) (ht : (xh X).sig.returnType = (some .int)) (hn : (xh X).name = yX11_inTime.name) {s0 : Int32} {s1 : Int32} {s2 : Int32} {S : HS} (h : P_X11_inTime_129 Q s0 s1 s2 S) : WS X 14 0 0 129 [] [.int s2, .int s1, .int s0] S := by
  refine r_callSi0 (pc := 129) C (rest := [.int s0]) rfl [.int s1, .int s2] yS_X11_less g_1582 (c_X11_less h) dX11_inTime_129 rfl rfl (Nat.le_of_ble_eq_true rfl) ⟨by decide, by decide⟩ ⟨by decide, by decide⟩ ⟨rfl, rfl⟩ (fun x3 S1 h g2 => ?_)
  have h := h g2
  refine r_imul (pc := 132) C dX11_inTime_132 ?_
  exact r_iret (pc := 133) C E ht dX11_inTime_133 (by decide) (by decide) h
def P_X11_inTime_164 (Q : Int32 → HS → Prop) (v7 : Int32) (s0 : Int32) (s1 : Int32) (s2 : Int32) (S : HS) : Prop := P_X11_less s1 s2 (fun x3 S1 => Gr S S1 → (P_X11_less x3 v7 (fun x6 S4 => Gr S1 S4 → (Q (s0 * x6) S4)) S1)) S
set_option maxRecDepth 20000 in
set_option maxHeartbeats 4000000 in
theorem T_X11_inTime_164 {X : CX} {Q : Int32 → HS → Prop} (C : Cx X cX11_inTime RX11 14 rm_X11_inTime) (E : ReI X rm_X11_inTime Q) (ht : (xh X).sig.returnType = (some .int)) (hn : (xh X).name = yX11_inTime.name) {v7 : Int32} {s0 : Int32} {s1 : Int32} {s2 : Int32} {S : HS} (h : P_X11_inTime_164 Q v7 s0 s1 s2 S) : WS X 14 0 0 164 [(7, .int v7)] [.int s2, .int s1, .int s0] S := by
  refine r_callSi0 (pc := 164) C (rest := [.int s0]) rfl [.int s1, .int s2] yS_X11_less g_1582 (c_X11_less h) dX11_inTime_164 rfl rfl (Nat.le_of_ble_eq_true rfl) ⟨by decide, by decide⟩ ⟨by decide, by decide⟩ ⟨rfl, rfl⟩ (fun x3 S1 h g2 => ?_)
  have h := h g2
  refine r_iload (pc := 167) C dX11_inTime_167 0 rfl ?_
  refine r_callSi0 (pc := 169) C (rest := [.int s0]) rfl [.int x3, .int v7] yS_X11_less g_1582 (c_X11_less h) dX11_inTime_169 rfl rfl (Nat.le_of_ble_eq_true rfl) ⟨by decide, by decide⟩ ⟨by decide, by decide⟩ ⟨rfl, rfl⟩ (fun x6 S4 h g5 => ?_)
  have h := h g5
  refine r_imul (pc := 172) C dX11_inTime_172 ?_
  refine r_goto (pc := 173) C (tgt := 177) dX11_inTime_173 (by decide) ?_
  exact r_iret (pc := 177) C E ht dX11_inTime_177 (by decide) (by decide) h
def P_X11_inTime_0 (Q : Int32 → HS → Prop) (v0 : Nat) (v1 : Int32) (v2 : Int32) (v3 : Int32) (v4 : Int32) (v5 : Int32) (v6 : Int32) (v7 : Int32) (v8 : Int32) (S : HS) : Prop := ob S v0 11 ∧ (∃ a1 : Nat, fR S v0 3 = some a1 ∧ (ob S a1 10 ∧ (∃ a2 : Nat, fR S a1 7 = some a2 ∧ (ob S a2 13 ∧ (vp_in v4 (hN S a2) ∧ ∀ x4 : Int32, x4 = fI S a2 v4.toNatClampNeg → (∃ a5 : Nat, fR S v0 3 = some a5 ∧ (ob S a5 10 ∧ (P_X10_air a5 v2 v3 v4 (fun x8 S6 => Gr S S6 → (∀ x9 : Int32, x9 = v5 - x8 → (∃ a10 : Nat, fR S6 v0 3 = some a10 ∧ (ob S6 a10 10 ∧ (P_X10_across a10 v2 v3 v4 (fun x13 S11 => Gr S6 S11 → (P_X11_isForward v0 v1 v2 v3 v4 v5 (fun x16 S14 => Gr S11 S14 → bl x16 → (∃ a17 : Nat, fR S14 v0 3 = some a17 ∧ (ob S14 a17 10 ∧ (P_X10_shield a17 v1 (fun x20 S18 => Gr S14 S18 → ((v6.toInt < 0 ∨ 3 < v6.toInt → (((0 ≤ x13) → (Q (0 : Int32) S18)) ∧ ((¬ 0 ≤ x13) → (∃ a23 : Nat, fR S18 v0 3 = some a23 ∧ (ob S18 a23 10 ∧ (∃ a24 : Nat, fR S18 a23 23 = some a24 ∧ (ob S18 a24 13 ∧ (vp_in v1 (hN S18 a24) ∧ ∀ x26 : Int32, x26 = fI S18 a24 v1.toNatClampNeg → (Q ((x4 * (-x13)) * x26) S18))))))))) ∧ (v6.toInt = 0 → (∃ a27 : Nat, fR S18 v0 3 = some a27 ∧ (ob S18 a27 10 ∧ (∃ a28 : Nat, fR S18 a27 8 = some a28 ∧ (ob S18 a28 13 ∧ (vp_in v4 (hN S18 a28) ∧ ∀ x30 : Int32, x30 = fI S18 a28 v4.toNatClampNeg → (∃ a31 : Nat, fR S18 v0 3 = some a31 ∧ (ob S18 a31 10 ∧ (∃ a32 : Nat, fR S18 a31 21 = some a32 ∧ (ob S18 a32 13 ∧ (vp_in v1 (hN S18 a32) ∧ ∀ x34 : Int32, x34 = fI S18 a32 v1.toNatClampNeg → (((x16 = 0) → (P_X11_inTime_129 Q (x4 * x30) x34 x20 S18)) ∧ ((¬ x16 = 0) → (P_X11_inTime_129 Q (x4 * x30) x34 (0 : Int32) S18)))))))))))))) ∧ (v6.toInt = 1 → (((x9 ≤ 0) → (Q (0 : Int32) S18)) ∧ ((¬ x9 ≤ 0) → (∃ a37 : Nat, fR S18 v0 3 = some a37 ∧ (ob S18 a37 10 ∧ (∃ a38 : Nat, fR S18 a37 22 = some a38 ∧ (ob S18 a38 13 ∧ (vp_in v1 (hN S18 a38) ∧ ∀ x40 : Int32, x40 = fI S18 a38 v1.toNatClampNeg → (((x16 = 0) → (P_X11_inTime_164 Q v7 (x4 * x9) x40 (0 : Int32) S18)) ∧ ((¬ x16 = 0) → (P_X11_inTime_164 Q v7 (x4 * x9) x40 x20 S18))))))))))) ∧ (v6.toInt = 2 → (((0 ≤ x9) → (Q (0 : Int32) S18)) ∧ ((¬ 0 ≤ x9) → (∃ a43 : Nat, fR S18 v0 3 = some a43 ∧ (ob S18 a43 10 ∧ (∃ a44 : Nat, fR S18 a43 22 = some a44 ∧ (ob S18 a44 13 ∧ (vp_in v1 (hN S18 a44) ∧ ∀ x46 : Int32, x46 = fI S18 a44 v1.toNatClampNeg → (P_X11_less x46 v8 (fun x49 S47 => Gr S18 S47 → (Q ((x4 * (-x9)) * x49) S47)) S18))))))))) ∧ (v6.toInt = 3 → (((x13 ≤ 0) → (Q (0 : Int32) S18)) ∧ ((¬ x13 ≤ 0) → (∃ a51 : Nat, fR S18 v0 3 = some a51 ∧ (ob S18 a51 10 ∧ (∃ a52 : Nat, fR S18 a51 23 = some a52 ∧ (ob S18 a52 13 ∧ (vp_in v1 (hN S18 a52) ∧ ∀ x54 : Int32, x54 = fI S18 a52 v1.toNatClampNeg → (Q ((x4 * x13) * x54) S18))))))))))) S14)))) S11)) S6))))) S))))))))
set_option maxRecDepth 20000 in
set_option maxHeartbeats 4000000 in
theorem T_X11_inTime_0 {X : CX} {Q : Int32 → HS → Prop} (C : Cx X cX11_inTime RX11 14 rm_X11_inTime) (E : ReI X rm_X11_inTime Q) (ht : (xh X).sig.returnType = (some .int)) (hn : (xh X).name = yX11_inTime.name) {v0 : Nat} {v1 : Int32} {v2 : Int32} {v3 : Int32} {v4 : Int32} {v5 : Int32} {v6 : Int32} {v7 : Int32} {v8 : Int32} {S : HS} (h : P_X11_inTime_0 Q v0 v1 v2 v3 v4 v5 v6 v7 v8 S) : WS X 14 0 0 0 [(0, .ref v0), (1, .int v1), (2, .int v2), (3, .int v3), (4, .int v4), (5, .int v5), (6, .int v6), (7, .int v7), (8, .int v8)] [] S := by
  refine r_aload_n (pc := 0) C dX11_inTime_0 0 rfl ?_
  obtain ⟨o_v0, h⟩ := h
  obtain ⟨a1, ea1, h⟩ := h
  refine r_getr (pc := 1) C fL_X11_338 dX11_inTime_1 o_v0 ea1 ?_
  obtain ⟨o_a1, h⟩ := h
  obtain ⟨a2, ea2, h⟩ := h
  refine r_getNr (pc := 4) C fN_X11_237 dX11_inTime_4 o_a1 ea2 ?_
  refine r_iload (pc := 7) C dX11_inTime_7 4 rfl ?_
  obtain ⟨o_a2, h⟩ := h
  obtain ⟨i3, h⟩ := h
  refine r_iald (pc := 9) C dX11_inTime_9 o_a2 i3 ?_
  refine r_topi (fun x4 ex4 => ?_)
  have h := h x4 ex4
  refine r_istore (pc := 10) C dX11_inTime_10 (by decide) (lv' := [(9, .int x4), (0, .ref v0), (1, .int v1), (2, .int v2), (3, .int v3), (4, .int v4), (5, .int v5), (6, .int v6), (7, .int v7), (8, .int v8)]) rfl ?_
  refine r_iload (pc := 12) C dX11_inTime_12 6 rfl ?_
  refine r_aload_n (pc := 14) C dX11_inTime_14 1 rfl ?_
  obtain ⟨a5, ea5, h⟩ := h
  refine r_getr (pc := 15) C fL_X11_338 dX11_inTime_15 o_v0 ea5 ?_
  refine r_iload_n (pc := 18) C dX11_inTime_18 3 rfl ?_
  refine r_iload_n (pc := 19) C dX11_inTime_19 4 rfl ?_
  refine r_iload (pc := 20) C dX11_inTime_20 5 rfl ?_
  obtain ⟨o_a5, h⟩ := h
  refine r_callVi0 (pc := 22) C (rest := [.int v5]) (a := a5) o_a5 [.int v2, .int v3, .int v4] yV_X10_air g_1562 (c_X10_air h) dX11_inTime_22 rfl rfl (Nat.le_of_ble_eq_true rfl) ⟨by decide, by decide⟩ ⟨by decide, by decide⟩ ⟨rfl, rfl⟩ (fun x8 S6 h g7 => ?_)
  have h := h g7
  have o_a1 := gr_ob g7 o_a1
  have o_a2 := gr_ob g7 o_a2
  have o_a5 := gr_ob g7 o_a5
  have o_v0 := gr_ob g7 o_v0
  refine r_isub (pc := 25) C dX11_inTime_25 ?_
  refine r_topi (fun x9 ex9 => ?_)
  have h := h x9 ex9
  refine r_istore (pc := 26) C dX11_inTime_26 (by decide) (lv' := [(10, .int x9), (9, .int x4), (0, .ref v0), (1, .int v1), (2, .int v2), (3, .int v3), (4, .int v4), (5, .int v5), (6, .int v6), (7, .int v7), (8, .int v8)]) rfl ?_
  refine r_aload_n (pc := 28) C dX11_inTime_28 2 rfl ?_
  obtain ⟨a10, ea10, h⟩ := h
  refine r_getr (pc := 29) C fL_X11_338 dX11_inTime_29 o_v0 ea10 ?_
  refine r_iload_n (pc := 32) C dX11_inTime_32 4 rfl ?_
  refine r_iload_n (pc := 33) C dX11_inTime_33 5 rfl ?_
  refine r_iload (pc := 34) C dX11_inTime_34 6 rfl ?_
  obtain ⟨o_a10, h⟩ := h
  refine r_callVi0 (pc := 36) C (rest := []) (a := a10) o_a10 [.int v2, .int v3, .int v4] yV_X10_across g_1570 (c_X10_across h) dX11_inTime_36 rfl rfl (Nat.le_of_ble_eq_true rfl) ⟨by decide, by decide⟩ ⟨by decide, by decide⟩ ⟨rfl, rfl⟩ (fun x13 S11 h g12 => ?_)
  have h := h g12
  have o_a1 := gr_ob g12 o_a1
  have o_a10 := gr_ob g12 o_a10
  have o_a2 := gr_ob g12 o_a2
  have o_a5 := gr_ob g12 o_a5
  have o_v0 := gr_ob g12 o_v0
  refine r_istore (pc := 39) C dX11_inTime_39 (by decide) (lv' := [(11, .int x13), (10, .int x9), (9, .int x4), (0, .ref v0), (1, .int v1), (2, .int v2), (3, .int v3), (4, .int v4), (5, .int v5), (6, .int v6), (7, .int v7), (8, .int v8)]) rfl ?_
  refine r_aload_n (pc := 41) C dX11_inTime_41 3 rfl ?_
  refine r_iload_n (pc := 42) C dX11_inTime_42 4 rfl ?_
  refine r_iload_n (pc := 43) C dX11_inTime_43 5 rfl ?_
  refine r_iload_n (pc := 44) C dX11_inTime_44 6 rfl ?_
  refine r_iload (pc := 45) C dX11_inTime_45 7 rfl ?_
  refine r_iload (pc := 47) C dX11_inTime_47 8 rfl ?_
  refine r_callVi0 (pc := 49) C (rest := []) (a := v0) o_v0 [.int v1, .int v2, .int v3, .int v4, .int v5] yV_X11_isForward g_1574 (c_X11_isForward h) dX11_inTime_49 rfl rfl (Nat.le_of_ble_eq_true rfl) ⟨by decide, by decide⟩ ⟨by decide, by decide⟩ ⟨rfl, rfl⟩ (fun x16 S14 h g15 => ?_)
  have bx16 := h.1
  have h := h.2 g15 bx16
  have o_a1 := gr_ob g15 o_a1
  have o_a10 := gr_ob g15 o_a10
  have o_a2 := gr_ob g15 o_a2
  have o_a5 := gr_ob g15 o_a5
  have o_v0 := gr_ob g15 o_v0
  refine r_istore (pc := 52) C dX11_inTime_52 (by decide) (lv' := [(12, .int x16), (11, .int x13), (10, .int x9), (9, .int x4), (0, .ref v0), (1, .int v1), (2, .int v2), (3, .int v3), (4, .int v4), (5, .int v5), (6, .int v6), (7, .int v7), (8, .int v8)]) rfl ?_
  refine r_aload_n (pc := 54) C dX11_inTime_54 4 rfl ?_
  obtain ⟨a17, ea17, h⟩ := h
  refine r_getr (pc := 55) C fL_X11_338 dX11_inTime_55 o_v0 ea17 ?_
  refine r_iload_n (pc := 58) C dX11_inTime_58 5 rfl ?_
  obtain ⟨o_a17, h⟩ := h
  refine r_callVi0 (pc := 59) C (rest := []) (a := a17) o_a17 [.int v1] yV_X10_shield g_1578 (c_X10_shield h) dX11_inTime_59 rfl rfl (Nat.le_of_ble_eq_true rfl) ⟨by decide, by decide⟩ ⟨by decide, by decide⟩ ⟨rfl, rfl⟩ (fun x20 S18 h g19 => ?_)
  have h := h g19
  have o_a1 := gr_ob g19 o_a1
  have o_a10 := gr_ob g19 o_a10
  have o_a17 := gr_ob g19 o_a17
  have o_a2 := gr_ob g19 o_a2
  have o_a5 := gr_ob g19 o_a5
  have o_v0 := gr_ob g19 o_v0
  refine r_istore (pc := 62) C dX11_inTime_62 (by decide) (lv' := [(13, .int x20), (12, .int x16), (11, .int x13), (10, .int x9), (9, .int x4), (0, .ref v0), (1, .int v1), (2, .int v2), (3, .int v3), (4, .int v4), (5, .int v5), (6, .int v6), (7, .int v7), (8, .int v8)]) rfl ?_
  refine r_iload (pc := 64) C dX11_inTime_64 11 rfl ?_
  refine r_table (pc := 66) C (tgt := 234) dX11_inTime_66 (by decide) (fun c21 => ?_) (fun j hj hx => ?_)
  · have h := h.1 c21
    refine r_iload (pc := 234) C dX11_inTime_234 2 rfl ?_
    refine r_if_ge (pc := 236) C (tgt := 258) dX11_inTime_236 (by decide) (fun c22 => ?_) (fun c22 => ?_)
    · have h := h.1 c22
      refine r_iconst (pc := 258) C (v := (0 : Int32)) dX11_inTime_258 (by decide) ?_
      exact r_iret (pc := 259) C E ht dX11_inTime_259 (by decide) (by decide) h
    · have h := h.2 c22
      refine r_iload (pc := 239) C dX11_inTime_239 4 rfl ?_
      refine r_iload (pc := 241) C dX11_inTime_241 2 rfl ?_
      refine r_ineg (pc := 243) C dX11_inTime_243 ?_
      refine r_imul (pc := 244) C dX11_inTime_244 ?_
      refine r_aload_n (pc := 245) C dX11_inTime_245 5 rfl ?_
      obtain ⟨a23, ea23, h⟩ := h
      refine r_getr (pc := 246) C fL_X11_338 dX11_inTime_246 o_v0 ea23 ?_
      obtain ⟨o_a23, h⟩ := h
      obtain ⟨a24, ea24, h⟩ := h
      refine r_getNr (pc := 249) C fN_X11_314 dX11_inTime_249 o_a23 ea24 ?_
      refine r_iload_n (pc := 252) C dX11_inTime_252 6 rfl ?_
      obtain ⟨o_a24, h⟩ := h
      obtain ⟨i25, h⟩ := h
      refine r_iald (pc := 253) C dX11_inTime_253 o_a24 i25 ?_
      refine r_topi (fun x26 ex26 => ?_)
      have h := h x26 ex26
      refine r_imul (pc := 254) C dX11_inTime_254 ?_
      refine r_goto (pc := 255) C (tgt := 259) dX11_inTime_255 (by decide) ?_
      exact r_iret (pc := 259) C E ht dX11_inTime_259 (by decide) (by decide) h
  · match j, hj, hx with
    | 0, _, hx =>
      refine ⟨30, 96, rfl, by decide, ?_⟩
      have h := h.2.1 (by simpa using hx)
      refine r_iload (pc := 96) C dX11_inTime_96 4 rfl ?_
      refine r_aload_n (pc := 98) C dX11_inTime_98 5 rfl ?_
      obtain ⟨a27, ea27, h⟩ := h
      refine r_getr (pc := 99) C fL_X11_338 dX11_inTime_99 o_v0 ea27 ?_
      obtain ⟨o_a27, h⟩ := h
      obtain ⟨a28, ea28, h⟩ := h
      refine r_getNr (pc := 102) C fN_X11_239 dX11_inTime_102 o_a27 ea28 ?_
      refine r_iload (pc := 105) C dX11_inTime_105 9 rfl ?_
      obtain ⟨o_a28, h⟩ := h
      obtain ⟨i29, h⟩ := h
      refine r_iald (pc := 107) C dX11_inTime_107 o_a28 i29 ?_
      refine r_topi (fun x30 ex30 => ?_)
      have h := h x30 ex30
      refine r_imul (pc := 108) C dX11_inTime_108 ?_
      refine r_aload_n (pc := 109) C dX11_inTime_109 5 rfl ?_
      obtain ⟨a31, ea31, h⟩ := h
      refine r_getr (pc := 110) C fL_X11_338 dX11_inTime_110 o_v0 ea31 ?_
      obtain ⟨o_a31, h⟩ := h
      obtain ⟨a32, ea32, h⟩ := h
      refine r_getNr (pc := 113) C fN_X11_308 dX11_inTime_113 o_a31 ea32 ?_
      refine r_iload_n (pc := 116) C dX11_inTime_116 6 rfl ?_
      obtain ⟨o_a32, h⟩ := h
      obtain ⟨i33, h⟩ := h
      refine r_iald (pc := 117) C dX11_inTime_117 o_a32 i33 ?_
      refine r_topi (fun x34 ex34 => ?_)
      have h := h x34 ex34
      refine r_iload (pc := 118) C dX11_inTime_118 1 rfl ?_
      refine r_if_eq (pc := 120) C (tgt := 127) dX11_inTime_120 (by decide) (fun c35 => ?_) (fun c35 => ?_)
      · have h := h.1 c35
        refine r_iload (pc := 127) C dX11_inTime_127 0 rfl ?_
        exact r_sub [] rfl (T_X11_inTime_129 C E ht hn h)
      · have h := h.2 c35
        refine r_iconst (pc := 123) C (v := (0 : Int32)) dX11_inTime_123 (by decide) ?_
        refine r_goto (pc := 124) C (tgt := 129) dX11_inTime_124 (by decide) ?_
        exact r_sub [] rfl (T_X11_inTime_129 C E ht hn h)
    | 1, _, hx =>
      refine ⟨68, 134, rfl, by decide, ?_⟩
      have h := h.2.2.1 (by simpa using hx)
      refine r_iload (pc := 134) C dX11_inTime_134 3 rfl ?_
      refine r_if_le (pc := 136) C (tgt := 176) dX11_inTime_136 (by decide) (fun c36 => ?_) (fun c36 => ?_)
      · have h := h.1 c36
        refine r_iconst (pc := 176) C (v := (0 : Int32)) dX11_inTime_176 (by decide) ?_
        exact r_iret (pc := 177) C E ht dX11_inTime_177 (by decide) (by decide) h
      · have h := h.2 c36
        refine r_iload (pc := 139) C dX11_inTime_139 4 rfl ?_
        refine r_iload (pc := 141) C dX11_inTime_141 3 rfl ?_
        refine r_imul (pc := 143) C dX11_inTime_143 ?_
        refine r_aload_n (pc := 144) C dX11_inTime_144 5 rfl ?_
        obtain ⟨a37, ea37, h⟩ := h
        refine r_getr (pc := 145) C fL_X11_338 dX11_inTime_145 o_v0 ea37 ?_
        obtain ⟨o_a37, h⟩ := h
        obtain ⟨a38, ea38, h⟩ := h
        refine r_getNr (pc := 148) C fN_X11_311 dX11_inTime_148 o_a37 ea38 ?_
        refine r_iload_n (pc := 151) C dX11_inTime_151 6 rfl ?_
        obtain ⟨o_a38, h⟩ := h
        obtain ⟨i39, h⟩ := h
        refine r_iald (pc := 152) C dX11_inTime_152 o_a38 i39 ?_
        refine r_topi (fun x40 ex40 => ?_)
        have h := h x40 ex40
        refine r_iload (pc := 153) C dX11_inTime_153 1 rfl ?_
        refine r_if_eq (pc := 155) C (tgt := 163) dX11_inTime_155 (by decide) (fun c41 => ?_) (fun c41 => ?_)
        · have h := h.1 c41
          refine r_iconst (pc := 163) C (v := (0 : Int32)) dX11_inTime_163 (by decide) ?_
          exact r_sub [12] rfl (T_X11_inTime_164 C E ht hn h)
        · have h := h.2 c41
          refine r_iload (pc := 158) C dX11_inTime_158 0 rfl ?_
          refine r_goto (pc := 160) C (tgt := 164) dX11_inTime_160 (by decide) ?_
          exact r_sub [12] rfl (T_X11_inTime_164 C E ht hn h)
    | 2, _, hx =>
      refine ⟨112, 178, rfl, by decide, ?_⟩
      have h := h.2.2.2.1 (by simpa using hx)
      refine r_iload (pc := 178) C dX11_inTime_178 3 rfl ?_
      refine r_if_ge (pc := 180) C (tgt := 207) dX11_inTime_180 (by decide) (fun c42 => ?_) (fun c42 => ?_)
      · have h := h.1 c42
        refine r_iconst (pc := 207) C (v := (0 : Int32)) dX11_inTime_207 (by decide) ?_
        exact r_iret (pc := 208) C E ht dX11_inTime_208 (by decide) (by decide) h
      · have h := h.2 c42
        refine r_iload (pc := 183) C dX11_inTime_183 4 rfl ?_
        refine r_iload (pc := 185) C dX11_inTime_185 3 rfl ?_
        refine r_ineg (pc := 187) C dX11_inTime_187 ?_
        refine r_imul (pc := 188) C dX11_inTime_188 ?_
        refine r_aload_n (pc := 189) C dX11_inTime_189 5 rfl ?_
        obtain ⟨a43, ea43, h⟩ := h
        refine r_getr (pc := 190) C fL_X11_338 dX11_inTime_190 o_v0 ea43 ?_
        obtain ⟨o_a43, h⟩ := h
        obtain ⟨a44, ea44, h⟩ := h
        refine r_getNr (pc := 193) C fN_X11_311 dX11_inTime_193 o_a43 ea44 ?_
        refine r_iload_n (pc := 196) C dX11_inTime_196 6 rfl ?_
        obtain ⟨o_a44, h⟩ := h
        obtain ⟨i45, h⟩ := h
        refine r_iald (pc := 197) C dX11_inTime_197 o_a44 i45 ?_
        refine r_topi (fun x46 ex46 => ?_)
        have h := h x46 ex46
        refine r_iload (pc := 198) C dX11_inTime_198 13 rfl ?_
        refine r_callSi0 (pc := 200) C (rest := [.int (x4 * (-x9))]) rfl [.int x46, .int v8] yS_X11_less g_1582 (c_X11_less h) dX11_inTime_200 rfl rfl (Nat.le_of_ble_eq_true rfl) ⟨by decide, by decide⟩ ⟨by decide, by decide⟩ ⟨rfl, rfl⟩ (fun x49 S47 h g48 => ?_)
        have h := h g48
        have o_a1 := gr_ob g48 o_a1
        have o_a10 := gr_ob g48 o_a10
        have o_a17 := gr_ob g48 o_a17
        have o_a2 := gr_ob g48 o_a2
        have o_a43 := gr_ob g48 o_a43
        have o_a44 := gr_ob g48 o_a44
        have o_a5 := gr_ob g48 o_a5
        have o_v0 := gr_ob g48 o_v0
        refine r_imul (pc := 203) C dX11_inTime_203 ?_
        refine r_goto (pc := 204) C (tgt := 208) dX11_inTime_204 (by decide) ?_
        exact r_iret (pc := 208) C E ht dX11_inTime_208 (by decide) (by decide) h
    | 3, _, hx =>
      refine ⟨143, 209, rfl, by decide, ?_⟩
      have h := h.2.2.2.2 (by simpa using hx)
      refine r_iload (pc := 209) C dX11_inTime_209 2 rfl ?_
      refine r_if_le (pc := 211) C (tgt := 232) dX11_inTime_211 (by decide) (fun c50 => ?_) (fun c50 => ?_)
      · have h := h.1 c50
        refine r_iconst (pc := 232) C (v := (0 : Int32)) dX11_inTime_232 (by decide) ?_
        exact r_iret (pc := 233) C E ht dX11_inTime_233 (by decide) (by decide) h
      · have h := h.2 c50
        refine r_iload (pc := 214) C dX11_inTime_214 4 rfl ?_
        refine r_iload (pc := 216) C dX11_inTime_216 2 rfl ?_
        refine r_imul (pc := 218) C dX11_inTime_218 ?_
        refine r_aload_n (pc := 219) C dX11_inTime_219 5 rfl ?_
        obtain ⟨a51, ea51, h⟩ := h
        refine r_getr (pc := 220) C fL_X11_338 dX11_inTime_220 o_v0 ea51 ?_
        obtain ⟨o_a51, h⟩ := h
        obtain ⟨a52, ea52, h⟩ := h
        refine r_getNr (pc := 223) C fN_X11_314 dX11_inTime_223 o_a51 ea52 ?_
        refine r_iload_n (pc := 226) C dX11_inTime_226 6 rfl ?_
        obtain ⟨o_a52, h⟩ := h
        obtain ⟨i53, h⟩ := h
        refine r_iald (pc := 227) C dX11_inTime_227 o_a52 i53 ?_
        refine r_topi (fun x54 ex54 => ?_)
        have h := h x54 ex54
        refine r_imul (pc := 228) C dX11_inTime_228 ?_
        refine r_goto (pc := 229) C (tgt := 233) dX11_inTime_229 (by decide) ?_
        exact r_iret (pc := 233) C E ht dX11_inTime_233 (by decide) (by decide) h
    | j + 4, hj, _ => exact absurd hj (by omega)
def P_X11_inTime (v0 : Nat) (v1 : Int32) (v2 : Int32) (v3 : Int32) (v4 : Int32) (v5 : Int32) (v6 : Int32) (v7 : Int32) (v8 : Int32) (Q : Int32 → HS → Prop) (S : HS) : Prop := P_X11_inTime_0 Q v0 v1 v2 v3 v4 v5 v6 v7 v8 S
theorem c_X11_inTime {l : Launch} {Ee : EE} {S : HS} {v0 : Nat} {v1 : Int32} {v2 : Int32} {v3 : Int32} {v4 : Int32} {v5 : Int32} {v6 : Int32} {v7 : Int32} {v8 : Int32} {Q : Int32 → HS → Prop} (h : P_X11_inTime v0 v1 v2 v3 v4 v5 v6 v7 v8 Q S) : MI l yX11_inTime cX11_inTime 14 (some .int) rm_X11_inTime Ee S [.ref v0, .int v1, .int v2, .int v3, .int v4, .int v5, .int v6, .int v7, .int v8] Q :=
  openI (by decide) (Nat.le_of_ble_eq_true rfl) (fun X C E ht hn hE hl => by subst hE; exact r_sub [0, 1, 2, 3, 4, 5, 6, 7, 8] rfl (T_X11_inTime_0 C E ht hn h))
end
section
def rm_X11_partsOf : Room := { frames := 4, cells := 0, slots := 0, locals := 109 }
def P_X11_partsOf_0 (Q : Int64 → HS → Prop) (v0 : Nat) (v1 : Int32) (v2 : Int32) (v3 : Int32) (v4 : Int32) (v5 : Int32) (v6 : Int32) (S : HS) : Prop := ob S v0 11 ∧ (P_X11_inTime v0 v1 v2 v3 v4 v5 v6 (0 : Int32) (0 : Int32) (fun x3 S1 => Gr S S1 → (∃ a4 : Nat, fR S1 v0 3 = some a4 ∧ (ob S1 a4 10 ∧ (∃ a5 : Nat, fR S1 a4 16 = some a5 ∧ (ob S1 a5 13 ∧ (vp_in v2 (hN S1 a5) ∧ ∀ x7 : Int32, x7 = fI S1 a5 v2.toNatClampNeg → (∃ a8 : Nat, fR S1 v0 3 = some a8 ∧ (ob S1 a8 10 ∧ (∃ a9 : Nat, fR S1 a8 17 = some a9 ∧ (ob S1 a9 13 ∧ (vp_in v2 (hN S1 a9) ∧ ∀ x11 : Int32, x11 = fI S1 a9 v2.toNatClampNeg → (¬ v5 = 0 ∧ ∀ x13 : Int32, x13 = (2520 : Int32) / v5 → (Q ((x3.toInt64 * ((x7 - x11).toInt64)) * x13.toInt64) S1))))))))))))) S)
set_option maxRecDepth 20000 in
set_option maxHeartbeats 4000000 in
theorem T_X11_partsOf_0 {X : CX} {Q : Int64 → HS → Prop} (C : Cx X cX11_partsOf RX11 7 rm_X11_partsOf) (E : ReJ X rm_X11_partsOf Q) (ht : (xh X).sig.returnType = (some .long)) (hn : (xh X).name = yX11_partsOf.name) {v0 : Nat} {v1 : Int32} {v2 : Int32} {v3 : Int32} {v4 : Int32} {v5 : Int32} {v6 : Int32} {S : HS} (h : P_X11_partsOf_0 Q v0 v1 v2 v3 v4 v5 v6 S) : WS X 7 0 0 0 [(0, .ref v0), (1, .int v1), (2, .int v2), (3, .int v3), (4, .int v4), (5, .int v5), (6, .int v6)] [] S := by
  refine r_aload_n (pc := 0) C dX11_partsOf_0 0 rfl ?_
  refine r_iload_n (pc := 1) C dX11_partsOf_1 1 rfl ?_
  refine r_iload_n (pc := 2) C dX11_partsOf_2 2 rfl ?_
  refine r_iload_n (pc := 3) C dX11_partsOf_3 3 rfl ?_
  refine r_iload (pc := 4) C dX11_partsOf_4 4 rfl ?_
  refine r_iload (pc := 6) C dX11_partsOf_6 5 rfl ?_
  refine r_iload (pc := 8) C dX11_partsOf_8 6 rfl ?_
  refine r_iconst (pc := 10) C (v := (0 : Int32)) dX11_partsOf_10 (by decide) ?_
  refine r_iconst (pc := 11) C (v := (0 : Int32)) dX11_partsOf_11 (by decide) ?_
  obtain ⟨o_v0, h⟩ := h
  refine r_callVi0 (pc := 12) C (rest := []) (a := v0) o_v0 [.int v1, .int v2, .int v3, .int v4, .int v5, .int v6, .int (0 : Int32), .int (0 : Int32)] yV_X11_inTime g_1558 (c_X11_inTime h) dX11_partsOf_12 rfl rfl (Nat.le_of_ble_eq_true rfl) ⟨by decide, by decide⟩ ⟨by decide, by decide⟩ ⟨rfl, rfl⟩ (fun x3 S1 h g2 => ?_)
  have h := h g2
  have o_v0 := gr_ob g2 o_v0
  refine r_i2l (pc := 15) C dX11_partsOf_15 ?_
  refine r_aload_n (pc := 16) C dX11_partsOf_16 0 rfl ?_
  obtain ⟨a4, ea4, h⟩ := h
  refine r_getr (pc := 17) C fL_X11_338 dX11_partsOf_17 o_v0 ea4 ?_
  obtain ⟨o_a4, h⟩ := h
  obtain ⟨a5, ea5, h⟩ := h
  refine r_getNr (pc := 20) C fN_X11_279 dX11_partsOf_20 o_a4 ea5 ?_
  refine r_iload_n (pc := 23) C dX11_partsOf_23 2 rfl ?_
  obtain ⟨o_a5, h⟩ := h
  obtain ⟨i6, h⟩ := h
  refine r_iald (pc := 24) C dX11_partsOf_24 o_a5 i6 ?_
  refine r_topi (fun x7 ex7 => ?_)
  have h := h x7 ex7
  refine r_aload_n (pc := 25) C dX11_partsOf_25 0 rfl ?_
  obtain ⟨a8, ea8, h⟩ := h
  refine r_getr (pc := 26) C fL_X11_338 dX11_partsOf_26 o_v0 ea8 ?_
  obtain ⟨o_a8, h⟩ := h
  obtain ⟨a9, ea9, h⟩ := h
  refine r_getNr (pc := 29) C fN_X11_282 dX11_partsOf_29 o_a8 ea9 ?_
  refine r_iload_n (pc := 32) C dX11_partsOf_32 2 rfl ?_
  obtain ⟨o_a9, h⟩ := h
  obtain ⟨i10, h⟩ := h
  refine r_iald (pc := 33) C dX11_partsOf_33 o_a9 i10 ?_
  refine r_topi (fun x11 ex11 => ?_)
  have h := h x11 ex11
  refine r_isub (pc := 34) C dX11_partsOf_34 ?_
  refine r_i2l (pc := 35) C dX11_partsOf_35 ?_
  refine r_lmul (pc := 36) C dX11_partsOf_36 ?_
  refine r_sipush (pc := 37) C (v := (2520 : Int32)) dX11_partsOf_37 (by decide) ?_
  refine r_iload (pc := 40) C dX11_partsOf_40 5 rfl ?_
  obtain ⟨q12, h⟩ := h
  refine r_idiv (pc := 42) C dX11_partsOf_42 q12 ?_
  refine r_topi (fun x13 ex13 => ?_)
  have h := h x13 ex13
  refine r_i2l (pc := 43) C dX11_partsOf_43 ?_
  refine r_lmul (pc := 44) C dX11_partsOf_44 ?_
  exact r_lret (pc := 45) C E ht dX11_partsOf_45 (by decide) (by decide) h
def P_X11_partsOf (v0 : Nat) (v1 : Int32) (v2 : Int32) (v3 : Int32) (v4 : Int32) (v5 : Int32) (v6 : Int32) (Q : Int64 → HS → Prop) (S : HS) : Prop := P_X11_partsOf_0 Q v0 v1 v2 v3 v4 v5 v6 S
theorem c_X11_partsOf {l : Launch} {Ee : EE} {S : HS} {v0 : Nat} {v1 : Int32} {v2 : Int32} {v3 : Int32} {v4 : Int32} {v5 : Int32} {v6 : Int32} {Q : Int64 → HS → Prop} (h : P_X11_partsOf v0 v1 v2 v3 v4 v5 v6 Q S) : MJ l yX11_partsOf cX11_partsOf 7 (some .long) rm_X11_partsOf Ee S [.ref v0, .int v1, .int v2, .int v3, .int v4, .int v5, .int v6] Q :=
  openJ (by decide) (Nat.le_of_ble_eq_true rfl) (fun X C E ht hn hE hl => by subst hE; exact r_sub [0, 1, 2, 3, 4, 5, 6] rfl (T_X11_partsOf_0 C E ht hn h))
def rm_X11_wetOf : Room := { frames := 5, cells := 0, slots := 0, locals := 135 }
def B_X11_wetOf_6 (Q : Int64 → HS → Prop) (X6 : Nat → Int32 → Int32 → Int32 → Int32 → Int32 → Int64 → Int32 → HS → Prop) (v0 : Nat) (v1 : Int32) (v2 : Int32) (v3 : Int32) (v4 : Int32) (v5 : Int32) (v6 : Int64) (v8 : Int32) (S : HS) : Prop := (((5 : Int32) ≤ v8) → (Q v6 S)) ∧ ((¬ (5 : Int32) ≤ v8) → (ob S v0 11 ∧ (P_X11_partsOf v0 v1 v2 v3 v4 v5 v8 (fun x4 S2 => Gr S S2 → (∀ x5 : Int64, x5 = v6 + x4 → (∀ x6 : Int32, x6 = v8 + (1 : Int32) → (X6 v0 v1 v2 v3 v4 v5 x5 x6 S2)))) S)))
def P_X11_wetOf_6 (Q : Int64 → HS → Prop) (v0 : Nat) (v1 : Int32) (v2 : Int32) (v3 : Int32) (v4 : Int32) (v5 : Int32) (v6 : Int64) (v8 : Int32) (S : HS) : Prop := ∀ X6 : Nat → Int32 → Int32 → Int32 → Int32 → Int32 → Int64 → Int32 → HS → Prop, (∀ (v0 : Nat) (v1 : Int32) (v2 : Int32) (v3 : Int32) (v4 : Int32) (v5 : Int32) (v6 : Int64) (v8 : Int32) (S : HS), B_X11_wetOf_6 Q X6 v0 v1 v2 v3 v4 v5 v6 v8 S → X6 v0 v1 v2 v3 v4 v5 v6 v8 S) → X6 v0 v1 v2 v3 v4 v5 v6 v8 S
set_option maxRecDepth 20000 in
set_option maxHeartbeats 4000000 in
theorem TB_X11_wetOf_6 {X : CX} {Q : Int64 → HS → Prop} (C : Cx X cX11_wetOf RX11 9 rm_X11_wetOf) (E : ReJ X rm_X11_wetOf Q) (ht : (xh X).sig.returnType = (some .long)) (hn : (xh X).name = yX11_wetOf.name) {X6 : Nat → Int32 → Int32 → Int32 → Int32 → Int32 → Int64 → Int32 → HS → Prop} (hX6 : ∀ (v0 : Nat) (v1 : Int32) (v2 : Int32) (v3 : Int32) (v4 : Int32) (v5 : Int32) (v6 : Int64) (v8 : Int32) (S : HS), X6 v0 v1 v2 v3 v4 v5 v6 v8 S → WS X 9 0 0 6 [(0, .ref v0), (1, .int v1), (2, .int v2), (3, .int v3), (4, .int v4), (5, .int v5), (6, .long v6), (8, .int v8)] [] S) {v0 : Nat} {v1 : Int32} {v2 : Int32} {v3 : Int32} {v4 : Int32} {v5 : Int32} {v6 : Int64} {v8 : Int32} {S : HS} (h : B_X11_wetOf_6 Q X6 v0 v1 v2 v3 v4 v5 v6 v8 S) : WS X 9 0 0 6 [(0, .ref v0), (1, .int v1), (2, .int v2), (3, .int v3), (4, .int v4), (5, .int v5), (6, .long v6), (8, .int v8)] [] S := by
  refine r_iload (pc := 6) C dX11_wetOf_6 7 rfl ?_
  refine r_iconst (pc := 8) C (v := (5 : Int32)) dX11_wetOf_8 (by decide) ?_
  refine r_icmp_ge (pc := 9) C (tgt := 36) dX11_wetOf_9 (by decide) (fun c1 => ?_) (fun c1 => ?_)
  · have h := h.1 c1
    refine r_lload (pc := 36) C dX11_wetOf_36 6 rfl ?_
    exact r_lret (pc := 38) C E ht dX11_wetOf_38 (by decide) (by decide) h
  · have h := h.2 c1
    refine r_lload (pc := 12) C dX11_wetOf_12 6 rfl ?_
    refine r_aload_n (pc := 14) C dX11_wetOf_14 0 rfl ?_
    refine r_iload_n (pc := 15) C dX11_wetOf_15 1 rfl ?_
    refine r_iload_n (pc := 16) C dX11_wetOf_16 2 rfl ?_
    refine r_iload_n (pc := 17) C dX11_wetOf_17 3 rfl ?_
    refine r_iload (pc := 18) C dX11_wetOf_18 4 rfl ?_
    refine r_iload (pc := 20) C dX11_wetOf_20 5 rfl ?_
    refine r_iload (pc := 22) C dX11_wetOf_22 7 rfl ?_
    obtain ⟨o_v0, h⟩ := h
    refine r_callVl0 (pc := 24) C (rest := [.long v6]) (a := v0) o_v0 [.int v1, .int v2, .int v3, .int v4, .int v5, .int v8] yV_X11_partsOf g_1554 (c_X11_partsOf h) dX11_wetOf_24 rfl rfl (Nat.le_of_ble_eq_true rfl) ⟨by decide, by decide⟩ ⟨by decide, by decide⟩ ⟨rfl, rfl⟩ (fun x4 S2 h g3 => ?_)
    have h := h g3
    have o_v0 := gr_ob g3 o_v0
    refine r_ladd (pc := 27) C dX11_wetOf_27 ?_
    refine r_topl (fun x5 ex5 => ?_)
    have h := h x5 ex5
    refine r_lstore (pc := 28) C dX11_wetOf_28 (by decide) (lv' := [(6, .long x5), (0, .ref v0), (1, .int v1), (2, .int v2), (3, .int v3), (4, .int v4), (5, .int v5), (8, .int v8)]) rfl ?_
    obtain ⟨x6, ex6⟩ : ∃ z : Int32, z = v8 + (1 : Int32) := ⟨_, rfl⟩
    have h := h x6 ex6
    refine r_iinc (pc := 30) C (v := x6) (lv' := [(8, .int x6), (6, .long x5), (0, .ref v0), (1, .int v1), (2, .int v2), (3, .int v3), (4, .int v4), (5, .int v5)]) dX11_wetOf_30 7 rfl ex6.symm (by decide) rfl ?_
    refine r_goto (pc := 33) C (tgt := 6) dX11_wetOf_33 (by decide) ?_
    exact r_sub [2, 3, 4, 5, 6, 7, 1, 0] rfl (hX6 v0 v1 v2 v3 v4 v5 x5 x6 S2 h)
theorem T_X11_wetOf_6 {X : CX} {Q : Int64 → HS → Prop} (C : Cx X cX11_wetOf RX11 9 rm_X11_wetOf) (E : ReJ X rm_X11_wetOf Q) (ht : (xh X).sig.returnType = (some .long)) (hn : (xh X).name = yX11_wetOf.name) {v0 : Nat} {v1 : Int32} {v2 : Int32} {v3 : Int32} {v4 : Int32} {v5 : Int32} {v6 : Int64} {v8 : Int32} {S : HS} (h : P_X11_wetOf_6 Q v0 v1 v2 v3 v4 v5 v6 v8 S) : WS X 9 0 0 6 [(0, .ref v0), (1, .int v1), (2, .int v2), (3, .int v3), (4, .int v4), (5, .int v5), (6, .long v6), (8, .int v8)] [] S :=
  h (fun v0 v1 v2 v3 v4 v5 v6 v8 S => WS X 9 0 0 6 [(0, .ref v0), (1, .int v1), (2, .int v2), (3, .int v3), (4, .int v4), (5, .int v5), (6, .long v6), (8, .int v8)] [] S) (fun v0 v1 v2 v3 v4 v5 v6 v8 S hh => TB_X11_wetOf_6 C E ht hn (fun v0 v1 v2 v3 v4 v5 v6 v8 S z => z) hh)
def P_X11_wetOf_0 (Q : Int64 → HS → Prop) (v0 : Nat) (v1 : Int32) (v2 : Int32) (v3 : Int32) (v4 : Int32) (v5 : Int32) (S : HS) : Prop := P_X11_wetOf_6 Q v0 v1 v2 v3 v4 v5 (0 : Int64) (0 : Int32) S
set_option maxRecDepth 20000 in
set_option maxHeartbeats 4000000 in
theorem T_X11_wetOf_0 {X : CX} {Q : Int64 → HS → Prop} (C : Cx X cX11_wetOf RX11 9 rm_X11_wetOf) (E : ReJ X rm_X11_wetOf Q) (ht : (xh X).sig.returnType = (some .long)) (hn : (xh X).name = yX11_wetOf.name) {v0 : Nat} {v1 : Int32} {v2 : Int32} {v3 : Int32} {v4 : Int32} {v5 : Int32} {S : HS} (h : P_X11_wetOf_0 Q v0 v1 v2 v3 v4 v5 S) : WS X 9 0 0 0 [(0, .ref v0), (1, .int v1), (2, .int v2), (3, .int v3), (4, .int v4), (5, .int v5)] [] S := by
  refine r_lconst (pc := 0) C (v := (0 : Int64)) dX11_wetOf_0 (by decide) ?_
  refine r_lstore (pc := 1) C dX11_wetOf_1 (by decide) (lv' := [(6, .long (0 : Int64)), (0, .ref v0), (1, .int v1), (2, .int v2), (3, .int v3), (4, .int v4), (5, .int v5)]) rfl ?_
  refine r_iconst (pc := 3) C (v := (0 : Int32)) dX11_wetOf_3 (by decide) ?_
  refine r_istore (pc := 4) C dX11_wetOf_4 (by decide) (lv' := [(8, .int (0 : Int32)), (6, .long (0 : Int64)), (0, .ref v0), (1, .int v1), (2, .int v2), (3, .int v3), (4, .int v4), (5, .int v5)]) rfl ?_
  exact r_sub [2, 3, 4, 5, 6, 7, 1, 0] rfl (T_X11_wetOf_6 C E ht hn h)
def P_X11_wetOf (v0 : Nat) (v1 : Int32) (v2 : Int32) (v3 : Int32) (v4 : Int32) (v5 : Int32) (Q : Int64 → HS → Prop) (S : HS) : Prop := P_X11_wetOf_0 Q v0 v1 v2 v3 v4 v5 S
theorem c_X11_wetOf {l : Launch} {Ee : EE} {S : HS} {v0 : Nat} {v1 : Int32} {v2 : Int32} {v3 : Int32} {v4 : Int32} {v5 : Int32} {Q : Int64 → HS → Prop} (h : P_X11_wetOf v0 v1 v2 v3 v4 v5 Q S) : MJ l yX11_wetOf cX11_wetOf 9 (some .long) rm_X11_wetOf Ee S [.ref v0, .int v1, .int v2, .int v3, .int v4, .int v5] Q :=
  openJ (by decide) (Nat.le_of_ble_eq_true rfl) (fun X C E ht hn hE hl => by subst hE; exact r_sub [0, 1, 2, 3, 4, 5] rfl (T_X11_wetOf_0 C E ht hn h))
def rm_X11_bestOf : Room := { frames := 6, cells := 0, slots := 0, locals := 163 }
def P_X11_bestOf_61 (Q : Int32 → HS → Prop) (X17 : Nat → Int32 → Int32 → Int32 → Int32 → Int32 → Int32 → HS → Prop) (v0 : Nat) (v1 : Int32) (v2 : Int32) (v3 : Int32) (v4 : Int32) (v5 : Int32) (v6 : Int32) (S : HS) : Prop := ∀ x1 : Int32, x1 = v6 + (1 : Int32) → (X17 v0 v1 v2 v3 v4 v5 x1 S)
set_option maxRecDepth 20000 in
set_option maxHeartbeats 4000000 in
theorem T_X11_bestOf_61 {X : CX} {Q : Int32 → HS → Prop} (C : Cx X cX11_bestOf RX11 7 rm_X11_bestOf) (E : ReI X rm_X11_bestOf Q) (ht : (xh X).sig.returnType = (some .int)) (hn : (xh X).name = yX11_bestOf.name) {X17 : Nat → Int32 → Int32 → Int32 → Int32 → Int32 → Int32 → HS → Prop} (hX17 : ∀ (v0 : Nat) (v1 : Int32) (v2 : Int32) (v3 : Int32) (v4 : Int32) (v5 : Int32) (v6 : Int32) (S : HS), X17 v0 v1 v2 v3 v4 v5 v6 S → WS X 7 0 0 17 [(0, .ref v0), (1, .int v1), (2, .int v2), (3, .int v3), (4, .int v4), (5, .int v5), (6, .int v6)] [] S) {v0 : Nat} {v1 : Int32} {v2 : Int32} {v3 : Int32} {v4 : Int32} {v5 : Int32} {v6 : Int32} {S : HS} (h : P_X11_bestOf_61 Q X17 v0 v1 v2 v3 v4 v5 v6 S) : WS X 7 0 0 61 [(0, .ref v0), (1, .int v1), (2, .int v2), (3, .int v3), (4, .int v4), (5, .int v5), (6, .int v6)] [] S := by
  obtain ⟨x1, ex1⟩ : ∃ z : Int32, z = v6 + (1 : Int32) := ⟨_, rfl⟩
  have h := h x1 ex1
  refine r_iinc (pc := 61) C (v := x1) (lv' := [(6, .int x1), (0, .ref v0), (1, .int v1), (2, .int v2), (3, .int v3), (4, .int v4), (5, .int v5)]) dX11_bestOf_61 6 rfl ex1.symm (by decide) rfl ?_
  refine r_goto (pc := 64) C (tgt := 17) dX11_bestOf_64 (by decide) ?_
  exact r_sub [1, 2, 3, 4, 5, 6, 0] rfl (hX17 v0 v1 v2 v3 v4 v5 x1 S h)
def B_X11_bestOf_17 (Q : Int32 → HS → Prop) (X17 : Nat → Int32 → Int32 → Int32 → Int32 → Int32 → Int32 → HS → Prop) (v0 : Nat) (v1 : Int32) (v2 : Int32) (v3 : Int32) (v4 : Int32) (v5 : Int32) (v6 : Int32) (S : HS) : Prop := ob S v0 11 ∧ (∃ a1 : Nat, fR S v0 3 = some a1 ∧ (ob S a1 10 ∧ (∃ a2 : Nat, fR S a1 25 = some a2 ∧ (ob S a2 13 ∧ (vp_in v1 (hN S a2) ∧ ∀ x4 : Int32, x4 = fI S a2 v1.toNatClampNeg → (((x4 < v6) → (Q v5 S)) ∧ ((¬ x4 < v6) → (P_X11_wetOf v0 v1 v2 v3 v4 v6 (fun x8 S6 => Gr S S6 → (P_X11_wetOf v0 v1 v2 v3 v4 v5 (fun x11 S9 => Gr S6 S9 → (((0 ≤ (lg_cmp x8 x11)) → (P_X11_bestOf_61 Q X17 v0 v1 v2 v3 v4 v5 v6 S9)) ∧ ((¬ 0 ≤ (lg_cmp x8 x11)) → (P_X11_bestOf_61 Q X17 v0 v1 v2 v3 v4 v6 v6 S9)))) S6)) S))))))))
def P_X11_bestOf_17 (Q : Int32 → HS → Prop) (v0 : Nat) (v1 : Int32) (v2 : Int32) (v3 : Int32) (v4 : Int32) (v5 : Int32) (v6 : Int32) (S : HS) : Prop := ∀ X17 : Nat → Int32 → Int32 → Int32 → Int32 → Int32 → Int32 → HS → Prop, (∀ (v0 : Nat) (v1 : Int32) (v2 : Int32) (v3 : Int32) (v4 : Int32) (v5 : Int32) (v6 : Int32) (S : HS), B_X11_bestOf_17 Q X17 v0 v1 v2 v3 v4 v5 v6 S → X17 v0 v1 v2 v3 v4 v5 v6 S) → X17 v0 v1 v2 v3 v4 v5 v6 S
set_option maxRecDepth 20000 in
set_option maxHeartbeats 4000000 in
theorem TB_X11_bestOf_17 {X : CX} {Q : Int32 → HS → Prop} (C : Cx X cX11_bestOf RX11 7 rm_X11_bestOf) (E : ReI X rm_X11_bestOf Q) (ht : (xh X).sig.returnType = (some .int)) (hn : (xh X).name = yX11_bestOf.name) {X17 : Nat → Int32 → Int32 → Int32 → Int32 → Int32 → Int32 → HS → Prop} (hX17 : ∀ (v0 : Nat) (v1 : Int32) (v2 : Int32) (v3 : Int32) (v4 : Int32) (v5 : Int32) (v6 : Int32) (S : HS), X17 v0 v1 v2 v3 v4 v5 v6 S → WS X 7 0 0 17 [(0, .ref v0), (1, .int v1), (2, .int v2), (3, .int v3), (4, .int v4), (5, .int v5), (6, .int v6)] [] S) {v0 : Nat} {v1 : Int32} {v2 : Int32} {v3 : Int32} {v4 : Int32} {v5 : Int32} {v6 : Int32} {S : HS} (h : B_X11_bestOf_17 Q X17 v0 v1 v2 v3 v4 v5 v6 S) : WS X 7 0 0 17 [(0, .ref v0), (1, .int v1), (2, .int v2), (3, .int v3), (4, .int v4), (5, .int v5), (6, .int v6)] [] S := by
  refine r_iload (pc := 17) C dX11_bestOf_17 6 rfl ?_
  refine r_aload_n (pc := 19) C dX11_bestOf_19 0 rfl ?_
  obtain ⟨o_v0, h⟩ := h
  obtain ⟨a1, ea1, h⟩ := h
  refine r_getr (pc := 20) C fL_X11_338 dX11_bestOf_20 o_v0 ea1 ?_
  obtain ⟨o_a1, h⟩ := h
  obtain ⟨a2, ea2, h⟩ := h
  refine r_getNr (pc := 23) C fN_X11_320 dX11_bestOf_23 o_a1 ea2 ?_
  refine r_iload_n (pc := 26) C dX11_bestOf_26 1 rfl ?_
  obtain ⟨o_a2, h⟩ := h
  obtain ⟨i3, h⟩ := h
  refine r_iald (pc := 27) C dX11_bestOf_27 o_a2 i3 ?_
  refine r_topi (fun x4 ex4 => ?_)
  have h := h x4 ex4
  refine r_icmp_gt (pc := 28) C (tgt := 67) dX11_bestOf_28 (by decide) (fun c5 => ?_) (fun c5 => ?_)
  · have h := h.1 c5
    refine r_iload (pc := 67) C dX11_bestOf_67 5 rfl ?_
    exact r_iret (pc := 69) C E ht dX11_bestOf_69 (by decide) (by decide) h
  · have h := h.2 c5
    refine r_aload_n (pc := 31) C dX11_bestOf_31 0 rfl ?_
    refine r_iload_n (pc := 32) C dX11_bestOf_32 1 rfl ?_
    refine r_iload_n (pc := 33) C dX11_bestOf_33 2 rfl ?_
    refine r_iload_n (pc := 34) C dX11_bestOf_34 3 rfl ?_
    refine r_iload (pc := 35) C dX11_bestOf_35 4 rfl ?_
    refine r_iload (pc := 37) C dX11_bestOf_37 6 rfl ?_
    refine r_callVl0 (pc := 39) C (rest := []) (a := v0) o_v0 [.int v1, .int v2, .int v3, .int v4, .int v6] yV_X11_wetOf g_1594 (c_X11_wetOf h) dX11_bestOf_39 rfl rfl (Nat.le_of_ble_eq_true rfl) ⟨by decide, by decide⟩ ⟨by decide, by decide⟩ ⟨rfl, rfl⟩ (fun x8 S6 h g7 => ?_)
    have h := h g7
    have o_a1 := gr_ob g7 o_a1
    have o_a2 := gr_ob g7 o_a2
    have o_v0 := gr_ob g7 o_v0
    refine r_aload_n (pc := 42) C dX11_bestOf_42 0 rfl ?_
    refine r_iload_n (pc := 43) C dX11_bestOf_43 1 rfl ?_
    refine r_iload_n (pc := 44) C dX11_bestOf_44 2 rfl ?_
    refine r_iload_n (pc := 45) C dX11_bestOf_45 3 rfl ?_
    refine r_iload (pc := 46) C dX11_bestOf_46 4 rfl ?_
    refine r_iload (pc := 48) C dX11_bestOf_48 5 rfl ?_
    refine r_callVl0 (pc := 50) C (rest := [.long x8]) (a := v0) o_v0 [.int v1, .int v2, .int v3, .int v4, .int v5] yV_X11_wetOf g_1594 (c_X11_wetOf h) dX11_bestOf_50 rfl rfl (Nat.le_of_ble_eq_true rfl) ⟨by decide, by decide⟩ ⟨by decide, by decide⟩ ⟨rfl, rfl⟩ (fun x11 S9 h g10 => ?_)
    have h := h g10
    have o_a1 := gr_ob g10 o_a1
    have o_a2 := gr_ob g10 o_a2
    have o_v0 := gr_ob g10 o_v0
    refine r_lcmp (pc := 53) C dX11_bestOf_53 ?_
    refine r_if_ge (pc := 54) C (tgt := 61) dX11_bestOf_54 (by decide) (fun c12 => ?_) (fun c12 => ?_)
    · have h := h.1 c12
      exact r_sub [0, 1, 2, 3, 4, 5, 6] rfl (T_X11_bestOf_61 C E ht hn hX17 h)
    · have h := h.2 c12
      refine r_iload (pc := 57) C dX11_bestOf_57 6 rfl ?_
      refine r_istore (pc := 59) C dX11_bestOf_59 (by decide) (lv' := [(5, .int v6), (0, .ref v0), (1, .int v1), (2, .int v2), (3, .int v3), (4, .int v4), (6, .int v6)]) rfl ?_
      exact r_sub [1, 2, 3, 4, 5, 0, 6] rfl (T_X11_bestOf_61 C E ht hn hX17 h)
theorem T_X11_bestOf_17 {X : CX} {Q : Int32 → HS → Prop} (C : Cx X cX11_bestOf RX11 7 rm_X11_bestOf) (E : ReI X rm_X11_bestOf Q) (ht : (xh X).sig.returnType = (some .int)) (hn : (xh X).name = yX11_bestOf.name) {v0 : Nat} {v1 : Int32} {v2 : Int32} {v3 : Int32} {v4 : Int32} {v5 : Int32} {v6 : Int32} {S : HS} (h : P_X11_bestOf_17 Q v0 v1 v2 v3 v4 v5 v6 S) : WS X 7 0 0 17 [(0, .ref v0), (1, .int v1), (2, .int v2), (3, .int v3), (4, .int v4), (5, .int v5), (6, .int v6)] [] S :=
  h (fun v0 v1 v2 v3 v4 v5 v6 S => WS X 7 0 0 17 [(0, .ref v0), (1, .int v1), (2, .int v2), (3, .int v3), (4, .int v4), (5, .int v5), (6, .int v6)] [] S) (fun v0 v1 v2 v3 v4 v5 v6 S hh => TB_X11_bestOf_17 C E ht hn (fun v0 v1 v2 v3 v4 v5 v6 S z => z) hh)
def P_X11_bestOf_0 (Q : Int32 → HS → Prop) (v0 : Nat) (v1 : Int32) (v2 : Int32) (v3 : Int32) (v4 : Int32) (S : HS) : Prop := ob S v0 11 ∧ (∃ a1 : Nat, fR S v0 3 = some a1 ∧ (ob S a1 10 ∧ (∃ a2 : Nat, fR S a1 24 = some a2 ∧ (ob S a2 13 ∧ (vp_in v1 (hN S a2) ∧ ∀ x4 : Int32, x4 = fI S a2 v1.toNatClampNeg → (∀ x5 : Int32, x5 = x4 + (1 : Int32) → (P_X11_bestOf_17 Q v0 v1 v2 v3 v4 x4 x5 S)))))))
set_option maxRecDepth 20000 in
set_option maxHeartbeats 4000000 in
theorem T_X11_bestOf_0 {X : CX} {Q : Int32 → HS → Prop} (C : Cx X cX11_bestOf RX11 7 rm_X11_bestOf) (E : ReI X rm_X11_bestOf Q) (ht : (xh X).sig.returnType = (some .int)) (hn : (xh X).name = yX11_bestOf.name) {v0 : Nat} {v1 : Int32} {v2 : Int32} {v3 : Int32} {v4 : Int32} {S : HS} (h : P_X11_bestOf_0 Q v0 v1 v2 v3 v4 S) : WS X 7 0 0 0 [(0, .ref v0), (1, .int v1), (2, .int v2), (3, .int v3), (4, .int v4)] [] S := by
  refine r_aload_n (pc := 0) C dX11_bestOf_0 0 rfl ?_
  obtain ⟨o_v0, h⟩ := h
  obtain ⟨a1, ea1, h⟩ := h
  refine r_getr (pc := 1) C fL_X11_338 dX11_bestOf_1 o_v0 ea1 ?_
  obtain ⟨o_a1, h⟩ := h
  obtain ⟨a2, ea2, h⟩ := h
  refine r_getNr (pc := 4) C fN_X11_317 dX11_bestOf_4 o_a1 ea2 ?_
  refine r_iload_n (pc := 7) C dX11_bestOf_7 1 rfl ?_
  obtain ⟨o_a2, h⟩ := h
  obtain ⟨i3, h⟩ := h
  refine r_iald (pc := 8) C dX11_bestOf_8 o_a2 i3 ?_
  refine r_topi (fun x4 ex4 => ?_)
  have h := h x4 ex4
  refine r_istore (pc := 9) C dX11_bestOf_9 (by decide) (lv' := [(5, .int x4), (0, .ref v0), (1, .int v1), (2, .int v2), (3, .int v3), (4, .int v4)]) rfl ?_
  refine r_iload (pc := 11) C dX11_bestOf_11 0 rfl ?_
  refine r_iconst (pc := 13) C (v := (1 : Int32)) dX11_bestOf_13 (by decide) ?_
  refine r_iadd (pc := 14) C dX11_bestOf_14 ?_
  refine r_topi (fun x5 ex5 => ?_)
  have h := h x5 ex5
  refine r_istore (pc := 15) C dX11_bestOf_15 (by decide) (lv' := [(6, .int x5), (5, .int x4), (0, .ref v0), (1, .int v1), (2, .int v2), (3, .int v3), (4, .int v4)]) rfl ?_
  exact r_sub [2, 3, 4, 5, 6, 1, 0] rfl (T_X11_bestOf_17 C E ht hn h)
def P_X11_bestOf (v0 : Nat) (v1 : Int32) (v2 : Int32) (v3 : Int32) (v4 : Int32) (Q : Int32 → HS → Prop) (S : HS) : Prop := P_X11_bestOf_0 Q v0 v1 v2 v3 v4 S
theorem c_X11_bestOf {l : Launch} {Ee : EE} {S : HS} {v0 : Nat} {v1 : Int32} {v2 : Int32} {v3 : Int32} {v4 : Int32} {Q : Int32 → HS → Prop} (h : P_X11_bestOf v0 v1 v2 v3 v4 Q S) : MI l yX11_bestOf cX11_bestOf 7 (some .int) rm_X11_bestOf Ee S [.ref v0, .int v1, .int v2, .int v3, .int v4] Q :=
  openI (by decide) (Nat.le_of_ble_eq_true rfl) (fun X C E ht hn hE hl => by subst hE; exact r_sub [0, 1, 2, 3, 4] rfl (T_X11_bestOf_0 C E ht hn h))
def rm_X11_isWalker : Room := { frames := 0, cells := 0, slots := 0, locals := 0 }
def P_X11_isWalker_0 (Q : Int32 → HS → Prop) (v0 : Nat) (v1 : Int32) (S : HS) : Prop := ob S v0 11 ∧ ((fR S v0 3 = none → (Q (0 : Int32) S)) ∧ (∀ a1 : Nat, fR S v0 3 = some a1 → (((v1 < 0) → (Q (0 : Int32) S)) ∧ ((¬ v1 < 0) → (∃ a4 : Nat, fR S v0 3 = some a4 ∧ (ob S a4 10 ∧ (∀ x5 : Int32, x5 = fI S a4 4 → (((x5 ≤ v1) → (Q (0 : Int32) S)) ∧ ((¬ x5 ≤ v1) → (Q (1 : Int32) S))))))))))
set_option maxRecDepth 20000 in
set_option maxHeartbeats 4000000 in
theorem T_X11_isWalker_0 {X : CX} {Q : Int32 → HS → Prop} (C : Cx X cX11_isWalker RX11 2 rm_X11_isWalker) (E : ReI X rm_X11_isWalker (fun r S => bl r ∧ Q r S)) (ht : (xh X).sig.returnType = (some .boolean)) (hn : (xh X).name = yX11_isWalker.name) {v0 : Nat} {v1 : Int32} {S : HS} (h : P_X11_isWalker_0 Q v0 v1 S) : WS X 2 0 0 0 [(0, .ref v0), (1, .int v1)] [] S := by
  refine r_aload_n (pc := 0) C dX11_isWalker_0 0 rfl ?_
  obtain ⟨o_v0, h⟩ := h
  rcases e2 : fR S v0 3 with _ | a1
  · refine r_get0 (pc := 1) C fL_X11_338 dX11_isWalker_1 o_v0 e2 ?_
    refine r_ifnull0 (pc := 4) C (tgt := 26) dX11_isWalker_4 (by decide) ?_
    have h := h.1 e2
    refine r_iconst (pc := 26) C (v := (0 : Int32)) dX11_isWalker_26 (by decide) ?_
    exact r_zret (pc := 27) C E ht dX11_isWalker_27 (by decide) (by decide) (Or.inl rfl) h
  · refine r_getr (pc := 1) C fL_X11_338 dX11_isWalker_1 o_v0 e2 ?_
    refine r_ifnull (pc := 4) C dX11_isWalker_4 ?_
    have h := h.2 a1 e2
    refine r_iload_n (pc := 7) C dX11_isWalker_7 1 rfl ?_
    refine r_if_lt (pc := 8) C (tgt := 26) dX11_isWalker_8 (by decide) (fun c3 => ?_) (fun c3 => ?_)
    · have h := h.1 c3
      refine r_iconst (pc := 26) C (v := (0 : Int32)) dX11_isWalker_26 (by decide) ?_
      exact r_zret (pc := 27) C E ht dX11_isWalker_27 (by decide) (by decide) (Or.inl rfl) h
    · have h := h.2 c3
      refine r_iload_n (pc := 11) C dX11_isWalker_11 1 rfl ?_
      refine r_aload_n (pc := 12) C dX11_isWalker_12 0 rfl ?_
      obtain ⟨a4, ea4, h⟩ := h
      refine r_getr (pc := 13) C fL_X11_338 dX11_isWalker_13 o_v0 ea4 ?_
      obtain ⟨o_a4, h⟩ := h
      refine r_getNi (pc := 16) C fN_X11_193 dX11_isWalker_16 o_a4 ?_
      refine r_topi (fun x5 ex5 => ?_)
      have h := h x5 ex5
      refine r_icmp_ge (pc := 19) C (tgt := 26) dX11_isWalker_19 (by decide) (fun c6 => ?_) (fun c6 => ?_)
      · have h := h.1 c6
        refine r_iconst (pc := 26) C (v := (0 : Int32)) dX11_isWalker_26 (by decide) ?_
        exact r_zret (pc := 27) C E ht dX11_isWalker_27 (by decide) (by decide) (Or.inl rfl) h
      · have h := h.2 c6
        refine r_iconst (pc := 22) C (v := (1 : Int32)) dX11_isWalker_22 (by decide) ?_
        refine r_goto (pc := 23) C (tgt := 27) dX11_isWalker_23 (by decide) ?_
        exact r_zret (pc := 27) C E ht dX11_isWalker_27 (by decide) (by decide) (Or.inr rfl) h
def P_X11_isWalker (v0 : Nat) (v1 : Int32) (Q : Int32 → HS → Prop) (S : HS) : Prop := P_X11_isWalker_0 Q v0 v1 S
theorem c_X11_isWalker {l : Launch} {Ee : EE} {S : HS} {v0 : Nat} {v1 : Int32} {Q : Int32 → HS → Prop} (h : P_X11_isWalker v0 v1 Q S) : MI l yX11_isWalker cX11_isWalker 2 (some .boolean) rm_X11_isWalker Ee S [.ref v0, .int v1] (fun r S => bl r ∧ Q r S) :=
  openI (by decide) (Nat.le_of_ble_eq_true rfl) (fun X C E ht hn hE hl => by subst hE; exact r_sub [0, 1] rfl (T_X11_isWalker_0 C E ht hn h))
def rm_X11_best : Room := { frames := 7, cells := 0, slots := 0, locals := 189 }
def P_X11_best_39 (Q : Int32 → HS → Prop) (v0 : Nat) (S : HS) : Prop := ob S v0 11 ∧ (P_X11_refused v0 (1 : Int32) (fun x3 S1 => Gr S S1 → (Q x3 S1)) S)
set_option maxRecDepth 20000 in
set_option maxHeartbeats 4000000 in
theorem T_X11_best_39 {X : CX} {Q : Int32 → HS → Prop} (C : Cx X cX11_best RX11 5 rm_X11_best) (E : ReI X rm_X11_best Q) (ht : (xh X).sig.returnType = (some .int)) (hn : (xh X).name = yX11_best.name) {v0 : Nat} {S : HS} (h : P_X11_best_39 Q v0 S) : WS X 5 0 0 39 [(0, .ref v0)] [] S := by
  refine r_aload_n (pc := 39) C dX11_best_39 0 rfl ?_
  refine r_iconst (pc := 40) C (v := (1 : Int32)) dX11_best_40 (by decide) ?_
  obtain ⟨o_v0, h⟩ := h
  refine r_callVi0 (pc := 41) C (rest := []) (a := v0) o_v0 [.int (1 : Int32)] yV_X11_refused g_1250 (c_X11_refused h) dX11_best_41 rfl rfl (Nat.le_of_ble_eq_true rfl) ⟨by decide, by decide⟩ ⟨by decide, by decide⟩ ⟨rfl, rfl⟩ (fun x3 S1 h g2 => ?_)
  have h := h g2
  have o_v0 := gr_ob g2 o_v0
  exact r_iret (pc := 44) C E ht dX11_best_44 (by decide) (by decide) h
def P_X11_best_0 (Q : Int32 → HS → Prop) (v0 : Nat) (v1 : Int32) (v2 : Int32) (v3 : Int32) (v4 : Int32) (S : HS) : Prop := ob S v0 11 ∧ (∀ S1 : HS, S1 = sI S v0 0 (0 : Int32) → (P_X11_isWalker v0 v1 (fun x4 S2 => Gr S1 S2 → bl x4 → (((x4 = 0) → (P_X11_best_39 Q v0 S2)) ∧ ((¬ x4 = 0) → (P_X11_isRoad v0 v2 (fun x8 S6 => Gr S2 S6 → bl x8 → (((x8 = 0) → (P_X11_best_39 Q v0 S6)) ∧ ((¬ x8 = 0) → (P_X11_in v3 (0 : Int32) (1 : Int32) (fun x12 S10 => Gr S6 S10 → bl x12 → (((x12 = 0) → (P_X11_best_39 Q v0 S10)) ∧ ((¬ x12 = 0) → (P_X11_isHour v0 v4 (fun x16 S14 => Gr S10 S14 → bl x16 → (((¬ x16 = 0) → (P_X11_bestOf v0 v1 v2 v3 v4 (fun x20 S18 => Gr S14 S18 → (P_X11_good v0 x20 (fun x23 S21 => Gr S18 S21 → (Q x23 S21)) S18)) S14)) ∧ ((x16 = 0) → (P_X11_best_39 Q v0 S14)))) S10)))) S6)))) S2)))) S1))
set_option maxRecDepth 20000 in
set_option maxHeartbeats 4000000 in
theorem T_X11_best_0 {X : CX} {Q : Int32 → HS → Prop} (C : Cx X cX11_best RX11 5 rm_X11_best) (E : ReI X rm_X11_best Q) (ht : (xh X).sig.returnType = (some .int)) (hn : (xh X).name = yX11_best.name) {v0 : Nat} {v1 : Int32} {v2 : Int32} {v3 : Int32} {v4 : Int32} {S : HS} (h : P_X11_best_0 Q v0 v1 v2 v3 v4 S) : WS X 5 0 0 0 [(0, .ref v0), (1, .int v1), (2, .int v2), (3, .int v3), (4, .int v4)] [] S := by
  refine r_aload_n (pc := 0) C dX11_best_0 0 rfl ?_
  refine r_iconst (pc := 1) C (v := (0 : Int32)) dX11_best_1 (by decide) ?_
  obtain ⟨o_v0, h⟩ := h
  refine r_puti (pc := 2) C pfL_X11_40 dX11_best_2 o_v0 ?_
  refine r_heap (fun S1 eS1 => ?_)
  have h := h S1 eS1
  have o_v0 := ob_I eS1 o_v0
  refine r_aload_n (pc := 5) C dX11_best_5 0 rfl ?_
  refine r_iload_n (pc := 6) C dX11_best_6 1 rfl ?_
  refine r_callVi0 (pc := 7) C (rest := []) (a := v0) o_v0 [.int v1] yV_X11_isWalker g_1538 (c_X11_isWalker h) dX11_best_7 rfl rfl (Nat.le_of_ble_eq_true rfl) ⟨by decide, by decide⟩ ⟨by decide, by decide⟩ ⟨rfl, rfl⟩ (fun x4 S2 h g3 => ?_)
  have bx4 := h.1
  have h := h.2 g3 bx4
  have o_v0 := gr_ob g3 o_v0
  refine r_if_eq (pc := 10) C (tgt := 39) dX11_best_10 (by decide) (fun c5 => ?_) (fun c5 => ?_)
  · have h := h.1 c5
    exact r_sub [0] rfl (T_X11_best_39 C E ht hn h)
  · have h := h.2 c5
    refine r_aload_n (pc := 13) C dX11_best_13 0 rfl ?_
    refine r_iload_n (pc := 14) C dX11_best_14 2 rfl ?_
    refine r_callVi0 (pc := 15) C (rest := []) (a := v0) o_v0 [.int v2] yV_X11_isRoad g_1542 (c_X11_isRoad h) dX11_best_15 rfl rfl (Nat.le_of_ble_eq_true rfl) ⟨by decide, by decide⟩ ⟨by decide, by decide⟩ ⟨rfl, rfl⟩ (fun x8 S6 h g7 => ?_)
    have bx8 := h.1
    have h := h.2 g7 bx8
    have o_v0 := gr_ob g7 o_v0
    refine r_if_eq (pc := 18) C (tgt := 39) dX11_best_18 (by decide) (fun c9 => ?_) (fun c9 => ?_)
    · have h := h.1 c9
      exact r_sub [0] rfl (T_X11_best_39 C E ht hn h)
    · have h := h.2 c9
      refine r_iload_n (pc := 21) C dX11_best_21 3 rfl ?_
      refine r_iconst (pc := 22) C (v := (0 : Int32)) dX11_best_22 (by decide) ?_
      refine r_iconst (pc := 23) C (v := (1 : Int32)) dX11_best_23 (by decide) ?_
      refine r_callSi0 (pc := 24) C (rest := []) rfl [.int v3, .int (0 : Int32), .int (1 : Int32)] yS_X11_in g_1434 (c_X11_in h) dX11_best_24 rfl rfl (Nat.le_of_ble_eq_true rfl) ⟨by decide, by decide⟩ ⟨by decide, by decide⟩ ⟨rfl, rfl⟩ (fun x12 S10 h g11 => ?_)
      have bx12 := h.1
      have h := h.2 g11 bx12
      have o_v0 := gr_ob g11 o_v0
      refine r_if_eq (pc := 27) C (tgt := 39) dX11_best_27 (by decide) (fun c13 => ?_) (fun c13 => ?_)
      · have h := h.1 c13
        exact r_sub [0] rfl (T_X11_best_39 C E ht hn h)
      · have h := h.2 c13
        refine r_aload_n (pc := 30) C dX11_best_30 0 rfl ?_
        refine r_iload (pc := 31) C dX11_best_31 4 rfl ?_
        refine r_callVi0 (pc := 33) C (rest := []) (a := v0) o_v0 [.int v4] yV_X11_isHour g_1546 (c_X11_isHour h) dX11_best_33 rfl rfl (Nat.le_of_ble_eq_true rfl) ⟨by decide, by decide⟩ ⟨by decide, by decide⟩ ⟨rfl, rfl⟩ (fun x16 S14 h g15 => ?_)
        have bx16 := h.1
        have h := h.2 g15 bx16
        have o_v0 := gr_ob g15 o_v0
        refine r_if_ne (pc := 36) C (tgt := 45) dX11_best_36 (by decide) (fun c17 => ?_) (fun c17 => ?_)
        · have h := h.1 c17
          refine r_aload_n (pc := 45) C dX11_best_45 0 rfl ?_
          refine r_aload_n (pc := 46) C dX11_best_46 0 rfl ?_
          refine r_iload_n (pc := 47) C dX11_best_47 1 rfl ?_
          refine r_iload_n (pc := 48) C dX11_best_48 2 rfl ?_
          refine r_iload_n (pc := 49) C dX11_best_49 3 rfl ?_
          refine r_iload (pc := 50) C dX11_best_50 4 rfl ?_
          refine r_callVi0 (pc := 52) C (rest := [.ref v0]) (a := v0) o_v0 [.int v1, .int v2, .int v3, .int v4] yV_X11_bestOf g_1627 (c_X11_bestOf h) dX11_best_52 rfl rfl (Nat.le_of_ble_eq_true rfl) ⟨by decide, by decide⟩ ⟨by decide, by decide⟩ ⟨rfl, rfl⟩ (fun x20 S18 h g19 => ?_)
          have h := h g19
          have o_v0 := gr_ob g19 o_v0
          refine r_callVi0 (pc := 55) C (rest := []) (a := v0) o_v0 [.int x20] yV_X11_good g_1518 (c_X11_good h) dX11_best_55 rfl rfl (Nat.le_of_ble_eq_true rfl) ⟨by decide, by decide⟩ ⟨by decide, by decide⟩ ⟨rfl, rfl⟩ (fun x23 S21 h g22 => ?_)
          have h := h g22
          have o_v0 := gr_ob g22 o_v0
          exact r_iret (pc := 58) C E ht dX11_best_58 (by decide) (by decide) h
        · have h := h.2 c17
          exact r_sub [0] rfl (T_X11_best_39 C E ht hn h)
def P_X11_best (v0 : Nat) (v1 : Int32) (v2 : Int32) (v3 : Int32) (v4 : Int32) (Q : Int32 → HS → Prop) (S : HS) : Prop := P_X11_best_0 Q v0 v1 v2 v3 v4 S
theorem c_X11_best {l : Launch} {Ee : EE} {S : HS} {v0 : Nat} {v1 : Int32} {v2 : Int32} {v3 : Int32} {v4 : Int32} {Q : Int32 → HS → Prop} (h : P_X11_best v0 v1 v2 v3 v4 Q S) : MI l yX11_best cX11_best 5 (some .int) rm_X11_best Ee S [.ref v0, .int v1, .int v2, .int v3, .int v4] Q :=
  openI (by decide) (Nat.le_of_ble_eq_true rfl) (fun X C E ht hn hE hl => by subst hE; exact r_sub [0, 1, 2, 3, 4] rfl (T_X11_best_0 C E ht hn h))
def rm_X11_canWait : Room := { frames := 0, cells := 0, slots := 0, locals := 0 }
def P_X11_canWait_0 (Q : Int32 → HS → Prop) (v0 : Nat) (v1 : Int32) (S : HS) : Prop := ob S v0 11 ∧ (∃ a1 : Nat, fR S v0 3 = some a1 ∧ (ob S a1 10 ∧ (∃ a2 : Nat, fR S a1 18 = some a2 ∧ (ob S a2 15 ∧ (vp_in v1 (hN S a2) ∧ ∀ x4 : Int32, x4 = fI S a2 v1.toNatClampNeg → (((¬ x4 = 0) → (Q (1 : Int32) S)) ∧ ((x4 = 0) → (∃ a6 : Nat, fR S v0 3 = some a6 ∧ (ob S a6 10 ∧ (∃ a7 : Nat, fR S a6 12 = some a7 ∧ (ob S a7 13 ∧ (vp_in v1 (hN S a7) ∧ ∀ x9 : Int32, x9 = fI S a7 v1.toNatClampNeg → (((x9 = (-2 : Int32)) → (Q (0 : Int32) S)) ∧ ((¬ x9 = (-2 : Int32)) → (Q (1 : Int32) S)))))))))))))))
set_option maxRecDepth 20000 in
set_option maxHeartbeats 4000000 in
theorem T_X11_canWait_0 {X : CX} {Q : Int32 → HS → Prop} (C : Cx X cX11_canWait RX11 2 rm_X11_canWait) (E : ReI X rm_X11_canWait (fun r S => bl r ∧ Q r S)) (ht : (xh X).sig.returnType = (some .boolean)) (hn : (xh X).name = yX11_canWait.name) {v0 : Nat} {v1 : Int32} {S : HS} (h : P_X11_canWait_0 Q v0 v1 S) : WS X 2 0 0 0 [(0, .ref v0), (1, .int v1)] [] S := by
  refine r_aload_n (pc := 0) C dX11_canWait_0 0 rfl ?_
  obtain ⟨o_v0, h⟩ := h
  obtain ⟨a1, ea1, h⟩ := h
  refine r_getr (pc := 1) C fL_X11_338 dX11_canWait_1 o_v0 ea1 ?_
  obtain ⟨o_a1, h⟩ := h
  obtain ⟨a2, ea2, h⟩ := h
  refine r_getNr (pc := 4) C fN_X11_258 dX11_canWait_4 o_a1 ea2 ?_
  refine r_iload_n (pc := 7) C dX11_canWait_7 1 rfl ?_
  obtain ⟨o_a2, h⟩ := h
  obtain ⟨i3, h⟩ := h
  refine r_zald (pc := 8) C dX11_canWait_8 o_a2 i3 ?_
  refine r_topi (fun x4 ex4 => ?_)
  have h := h x4 ex4
  refine r_if_ne (pc := 9) C (tgt := 26) dX11_canWait_9 (by decide) (fun c5 => ?_) (fun c5 => ?_)
  · have h := h.1 c5
    refine r_iconst (pc := 26) C (v := (1 : Int32)) dX11_canWait_26 (by decide) ?_
    refine r_goto (pc := 27) C (tgt := 31) dX11_canWait_27 (by decide) ?_
    exact r_zret (pc := 31) C E ht dX11_canWait_31 (by decide) (by decide) (Or.inr rfl) h
  · have h := h.2 c5
    refine r_aload_n (pc := 12) C dX11_canWait_12 0 rfl ?_
    obtain ⟨a6, ea6, h⟩ := h
    refine r_getr (pc := 13) C fL_X11_338 dX11_canWait_13 o_v0 ea6 ?_
    obtain ⟨o_a6, h⟩ := h
    obtain ⟨a7, ea7, h⟩ := h
    refine r_getNr (pc := 16) C fN_X11_262 dX11_canWait_16 o_a6 ea7 ?_
    refine r_iload_n (pc := 19) C dX11_canWait_19 1 rfl ?_
    obtain ⟨o_a7, h⟩ := h
    obtain ⟨i8, h⟩ := h
    refine r_iald (pc := 20) C dX11_canWait_20 o_a7 i8 ?_
    refine r_topi (fun x9 ex9 => ?_)
    have h := h x9 ex9
    refine r_bipush (pc := 21) C (v := (-2 : Int32)) dX11_canWait_21 (by decide) ?_
    refine r_icmp_eq (pc := 23) C (tgt := 30) dX11_canWait_23 (by decide) (fun c10 => ?_) (fun c10 => ?_)
    · have h := h.1 c10
      refine r_iconst (pc := 30) C (v := (0 : Int32)) dX11_canWait_30 (by decide) ?_
      exact r_zret (pc := 31) C E ht dX11_canWait_31 (by decide) (by decide) (Or.inl rfl) h
    · have h := h.2 c10
      refine r_iconst (pc := 26) C (v := (1 : Int32)) dX11_canWait_26 (by decide) ?_
      refine r_goto (pc := 27) C (tgt := 31) dX11_canWait_27 (by decide) ?_
      exact r_zret (pc := 31) C E ht dX11_canWait_31 (by decide) (by decide) (Or.inr rfl) h
def P_X11_canWait (v0 : Nat) (v1 : Int32) (Q : Int32 → HS → Prop) (S : HS) : Prop := P_X11_canWait_0 Q v0 v1 S
theorem c_X11_canWait {l : Launch} {Ee : EE} {S : HS} {v0 : Nat} {v1 : Int32} {Q : Int32 → HS → Prop} (h : P_X11_canWait v0 v1 Q S) : MI l yX11_canWait cX11_canWait 2 (some .boolean) rm_X11_canWait Ee S [.ref v0, .int v1] (fun r S => bl r ∧ Q r S) :=
  openI (by decide) (Nat.le_of_ble_eq_true rfl) (fun X C E ht hn hE hl => by subst hE; exact r_sub [0, 1] rfl (T_X11_canWait_0 C E ht hn h))
def rm_X11_isPlace : Room := { frames := 0, cells := 0, slots := 0, locals := 0 }
def P_X11_isPlace_0 (Q : Int32 → HS → Prop) (v0 : Nat) (v1 : Int32) (S : HS) : Prop := ob S v0 11 ∧ ((fR S v0 3 = none → (Q (0 : Int32) S)) ∧ (∀ a1 : Nat, fR S v0 3 = some a1 → (((v1 < 0) → (Q (0 : Int32) S)) ∧ ((¬ v1 < 0) → (∃ a4 : Nat, fR S v0 3 = some a4 ∧ (ob S a4 10 ∧ (∀ x5 : Int32, x5 = fI S a4 2 → (((x5 ≤ v1) → (Q (0 : Int32) S)) ∧ ((¬ x5 ≤ v1) → (Q (1 : Int32) S))))))))))
set_option maxRecDepth 20000 in
set_option maxHeartbeats 4000000 in
theorem T_X11_isPlace_0 {X : CX} {Q : Int32 → HS → Prop} (C : Cx X cX11_isPlace RX11 2 rm_X11_isPlace) (E : ReI X rm_X11_isPlace (fun r S => bl r ∧ Q r S)) (ht : (xh X).sig.returnType = (some .boolean)) (hn : (xh X).name = yX11_isPlace.name) {v0 : Nat} {v1 : Int32} {S : HS} (h : P_X11_isPlace_0 Q v0 v1 S) : WS X 2 0 0 0 [(0, .ref v0), (1, .int v1)] [] S := by
  refine r_aload_n (pc := 0) C dX11_isPlace_0 0 rfl ?_
  obtain ⟨o_v0, h⟩ := h
  rcases e2 : fR S v0 3 with _ | a1
  · refine r_get0 (pc := 1) C fL_X11_338 dX11_isPlace_1 o_v0 e2 ?_
    refine r_ifnull0 (pc := 4) C (tgt := 26) dX11_isPlace_4 (by decide) ?_
    have h := h.1 e2
    refine r_iconst (pc := 26) C (v := (0 : Int32)) dX11_isPlace_26 (by decide) ?_
    exact r_zret (pc := 27) C E ht dX11_isPlace_27 (by decide) (by decide) (Or.inl rfl) h
  · refine r_getr (pc := 1) C fL_X11_338 dX11_isPlace_1 o_v0 e2 ?_
    refine r_ifnull (pc := 4) C dX11_isPlace_4 ?_
    have h := h.2 a1 e2
    refine r_iload_n (pc := 7) C dX11_isPlace_7 1 rfl ?_
    refine r_if_lt (pc := 8) C (tgt := 26) dX11_isPlace_8 (by decide) (fun c3 => ?_) (fun c3 => ?_)
    · have h := h.1 c3
      refine r_iconst (pc := 26) C (v := (0 : Int32)) dX11_isPlace_26 (by decide) ?_
      exact r_zret (pc := 27) C E ht dX11_isPlace_27 (by decide) (by decide) (Or.inl rfl) h
    · have h := h.2 c3
      refine r_iload_n (pc := 11) C dX11_isPlace_11 1 rfl ?_
      refine r_aload_n (pc := 12) C dX11_isPlace_12 0 rfl ?_
      obtain ⟨a4, ea4, h⟩ := h
      refine r_getr (pc := 13) C fL_X11_338 dX11_isPlace_13 o_v0 ea4 ?_
      obtain ⟨o_a4, h⟩ := h
      refine r_getNi (pc := 16) C fN_X11_190 dX11_isPlace_16 o_a4 ?_
      refine r_topi (fun x5 ex5 => ?_)
      have h := h x5 ex5
      refine r_icmp_ge (pc := 19) C (tgt := 26) dX11_isPlace_19 (by decide) (fun c6 => ?_) (fun c6 => ?_)
      · have h := h.1 c6
        refine r_iconst (pc := 26) C (v := (0 : Int32)) dX11_isPlace_26 (by decide) ?_
        exact r_zret (pc := 27) C E ht dX11_isPlace_27 (by decide) (by decide) (Or.inl rfl) h
      · have h := h.2 c6
        refine r_iconst (pc := 22) C (v := (1 : Int32)) dX11_isPlace_22 (by decide) ?_
        refine r_goto (pc := 23) C (tgt := 27) dX11_isPlace_23 (by decide) ?_
        exact r_zret (pc := 27) C E ht dX11_isPlace_27 (by decide) (by decide) (Or.inr rfl) h
def P_X11_isPlace (v0 : Nat) (v1 : Int32) (Q : Int32 → HS → Prop) (S : HS) : Prop := P_X11_isPlace_0 Q v0 v1 S
theorem c_X11_isPlace {l : Launch} {Ee : EE} {S : HS} {v0 : Nat} {v1 : Int32} {Q : Int32 → HS → Prop} (h : P_X11_isPlace v0 v1 Q S) : MI l yX11_isPlace cX11_isPlace 2 (some .boolean) rm_X11_isPlace Ee S [.ref v0, .int v1] (fun r S => bl r ∧ Q r S) :=
  openI (by decide) (Nat.le_of_ble_eq_true rfl) (fun X C E ht hn hE hl => by subst hE; exact r_sub [0, 1] rfl (T_X11_isPlace_0 C E ht hn h))
def rm_X11_day : Room := { frames := 1, cells := 0, slots := 0, locals := 22 }
def P_X11_day_21 (Q : Int32 → HS → Prop) (v0 : Nat) (S : HS) : Prop := ob S v0 11 ∧ (P_X11_refused v0 (1 : Int32) (fun x3 S1 => Gr S S1 → (Q x3 S1)) S)
set_option maxRecDepth 20000 in
set_option maxHeartbeats 4000000 in
theorem T_X11_day_21 {X : CX} {Q : Int32 → HS → Prop} (C : Cx X cX11_day RX11 7 rm_X11_day) (E : ReI X rm_X11_day Q) (ht : (xh X).sig.returnType = (some .int)) (hn : (xh X).name = yX11_day.name) {v0 : Nat} {S : HS} (h : P_X11_day_21 Q v0 S) : WS X 7 0 0 21 [(0, .ref v0)] [] S := by
  refine r_aload_n (pc := 21) C dX11_day_21 0 rfl ?_
  refine r_iconst (pc := 22) C (v := (1 : Int32)) dX11_day_22 (by decide) ?_
  obtain ⟨o_v0, h⟩ := h
  refine r_callVi0 (pc := 23) C (rest := []) (a := v0) o_v0 [.int (1 : Int32)] yV_X11_refused g_1250 (c_X11_refused h) dX11_day_23 rfl rfl (Nat.le_of_ble_eq_true rfl) ⟨by decide, by decide⟩ ⟨by decide, by decide⟩ ⟨rfl, rfl⟩ (fun x3 S1 h g2 => ?_)
  have h := h g2
  have o_v0 := gr_ob g2 o_v0
  exact r_iret (pc := 26) C E ht dX11_day_26 (by decide) (by decide) h
def P_X11_day_50 (Q : Int32 → HS → Prop) (v0 : Nat) (S : HS) : Prop := ob S v0 11 ∧ (P_X11_refused v0 (2 : Int32) (fun x3 S1 => Gr S S1 → (Q x3 S1)) S)
set_option maxRecDepth 20000 in
set_option maxHeartbeats 4000000 in
theorem T_X11_day_50 {X : CX} {Q : Int32 → HS → Prop} (C : Cx X cX11_day RX11 7 rm_X11_day) (E : ReI X rm_X11_day Q) (ht : (xh X).sig.returnType = (some .int)) (hn : (xh X).name = yX11_day.name) {v0 : Nat} {S : HS} (h : P_X11_day_50 Q v0 S) : WS X 7 0 0 50 [(0, .ref v0)] [] S := by
  refine r_aload_n (pc := 50) C dX11_day_50 0 rfl ?_
  refine r_iconst (pc := 51) C (v := (2 : Int32)) dX11_day_51 (by decide) ?_
  obtain ⟨o_v0, h⟩ := h
  refine r_callVi0 (pc := 52) C (rest := []) (a := v0) o_v0 [.int (2 : Int32)] yV_X11_refused g_1250 (c_X11_refused h) dX11_day_52 rfl rfl (Nat.le_of_ble_eq_true rfl) ⟨by decide, by decide⟩ ⟨by decide, by decide⟩ ⟨rfl, rfl⟩ (fun x3 S1 h g2 => ?_)
  have h := h g2
  have o_v0 := gr_ob g2 o_v0
  exact r_iret (pc := 55) C E ht dX11_day_55 (by decide) (by decide) h
def P_X11_day_134 (Q : Int32 → HS → Prop) (X73 : Nat → Int32 → Int32 → Int32 → Int32 → HS → Prop) (v0 : Nat) (v2 : Int32) (v3 : Int32) (v5 : Int32) (v6 : Int32) (s0 : Nat) (s1 : Int32) (s2 : Int32) (S : HS) : Prop := ob S s0 11 ∧ (∀ x1 : Int32, x1 = s1 ||| s2 → (∀ S2 : HS, S2 = sI S s0 20 x1 → (∀ x3 : Int32, x3 = v6 + (1 : Int32) → (X73 v0 v2 v3 v5 x3 S2))))
set_option maxRecDepth 20000 in
set_option maxHeartbeats 4000000 in
theorem T_X11_day_134 {X : CX} {Q : Int32 → HS → Prop} (C : Cx X cX11_day RX11 7 rm_X11_day) (E : ReI X rm_X11_day Q) (ht : (xh X).sig.returnType = (some .int)) (hn : (xh X).name = yX11_day.name) {X73 : Nat → Int32 → Int32 → Int32 → Int32 → HS → Prop} (hX73 : ∀ (v0 : Nat) (v2 : Int32) (v3 : Int32) (v5 : Int32) (v6 : Int32) (S : HS), X73 v0 v2 v3 v5 v6 S → WS X 7 0 0 73 [(0, .ref v0), (2, .int v2), (3, .int v3), (5, .int v5), (6, .int v6)] [] S) {v0 : Nat} {v2 : Int32} {v3 : Int32} {v5 : Int32} {v6 : Int32} {s0 : Nat} {s1 : Int32} {s2 : Int32} {S : HS} (h : P_X11_day_134 Q X73 v0 v2 v3 v5 v6 s0 s1 s2 S) : WS X 7 0 0 134 [(0, .ref v0), (2, .int v2), (3, .int v3), (5, .int v5), (6, .int v6)] [.int s2, .int s1, .ref s0] S := by
  refine r_ior (pc := 134) C dX11_day_134 ?_
  obtain ⟨o_s0, h⟩ := h
  refine r_topi (fun x1 ex1 => ?_)
  have h := h x1 ex1
  refine r_puti (pc := 135) C pfL_X11_475 dX11_day_135 o_s0 ?_
  refine r_heap (fun S2 eS2 => ?_)
  have h := h S2 eS2
  have o_s0 := ob_I eS2 o_s0
  obtain ⟨x3, ex3⟩ : ∃ z : Int32, z = v6 + (1 : Int32) := ⟨_, rfl⟩
  have h := h x3 ex3
  refine r_iinc (pc := 138) C (v := x3) (lv' := [(6, .int x3), (0, .ref v0), (2, .int v2), (3, .int v3), (5, .int v5)]) dX11_day_138 4 rfl ex3.symm (by decide) rfl ?_
  refine r_goto (pc := 141) C (tgt := 73) dX11_day_141 (by decide) ?_
  exact r_sub [1, 2, 3, 4, 0] rfl (hX73 v0 v2 v3 v5 x3 S2 h)
def B_X11_day_147 (Q : Int32 → HS → Prop) (X147 : Nat → Int32 → Int32 → Int32 → HS → Prop) (v0 : Nat) (v2 : Int32) (v3 : Int32) (v6 : Int32) (S : HS) : Prop := (((7 : Int32) ≤ v6) → (ob S v0 11 ∧ (∃ a2 : Nat, fR S v0 21 = some a2 ∧ (ob S a2 14 ∧ (∀ x4 : Int64, x4 = v2.toInt64 → (vp_in (0 : Int32) (hN S a2) ∧ (∀ S5 : HS, S5 = sJ S a2 (0 : Int32).toNatClampNeg x4 → (∃ a6 : Nat, fR S5 v0 21 = some a6 ∧ (ob S5 a6 14 ∧ (∀ x8 : Int64, x8 = v3.toInt64 → (vp_in (1 : Int32) (hN S5 a6) ∧ (∀ S9 : HS, S9 = sJ S5 a6 (1 : Int32).toNatClampNeg x8 → (∀ S10 : HS, S10 = sI S9 v0 24 (0 : Int32) → (∀ S11 : HS, S11 = sI S10 v0 25 (0 : Int32) → (∀ x12 : Int32, x12 = fI S11 v0 20 → (P_X11_good v0 x12 (fun x15 S13 => Gr S11 S13 → (Q x15 S13)) S11)))))))))))))))) ∧ ((¬ (7 : Int32) ≤ v6) → (ob S v0 11 ∧ (∃ a16 : Nat, fR S v0 21 = some a16 ∧ (ob S a16 14 ∧ (vp_in v6 (hN S a16) ∧ (∀ S18 : HS, S18 = sJ S a16 v6.toNatClampNeg (0 : Int64) → (∀ x19 : Int32, x19 = v6 + (1 : Int32) → (X147 v0 v2 v3 x19 S18))))))))
def P_X11_day_147 (Q : Int32 → HS → Prop) (v0 : Nat) (v2 : Int32) (v3 : Int32) (v6 : Int32) (S : HS) : Prop := ∀ X147 : Nat → Int32 → Int32 → Int32 → HS → Prop, (∀ (v0 : Nat) (v2 : Int32) (v3 : Int32) (v6 : Int32) (S : HS), B_X11_day_147 Q X147 v0 v2 v3 v6 S → X147 v0 v2 v3 v6 S) → X147 v0 v2 v3 v6 S
set_option maxRecDepth 20000 in
set_option maxHeartbeats 4000000 in
theorem TB_X11_day_147 {X : CX} {Q : Int32 → HS → Prop} (C : Cx X cX11_day RX11 7 rm_X11_day) (E : ReI X rm_X11_day Q) (ht : (xh X).sig.returnType = (some .int)) (hn : (xh X).name = yX11_day.name) {X147 : Nat → Int32 → Int32 → Int32 → HS → Prop} (hX147 : ∀ (v0 : Nat) (v2 : Int32) (v3 : Int32) (v6 : Int32) (S : HS), X147 v0 v2 v3 v6 S → WS X 7 0 0 147 [(0, .ref v0), (2, .int v2), (3, .int v3), (6, .int v6)] [] S) {v0 : Nat} {v2 : Int32} {v3 : Int32} {v6 : Int32} {S : HS} (h : B_X11_day_147 Q X147 v0 v2 v3 v6 S) : WS X 7 0 0 147 [(0, .ref v0), (2, .int v2), (3, .int v3), (6, .int v6)] [] S := by
  refine r_iload (pc := 147) C dX11_day_147 3 rfl ?_
  refine r_bipush (pc := 149) C (v := (7 : Int32)) dX11_day_149 (by decide) ?_
  refine r_icmp_ge (pc := 151) C (tgt := 168) dX11_day_151 (by decide) (fun c1 => ?_) (fun c1 => ?_)
  · have h := h.1 c1
    refine r_aload_n (pc := 168) C dX11_day_168 0 rfl ?_
    obtain ⟨o_v0, h⟩ := h
    obtain ⟨a2, ea2, h⟩ := h
    refine r_getr (pc := 169) C fL_X11_31 dX11_day_169 o_v0 ea2 ?_
    refine r_iconst (pc := 172) C (v := (0 : Int32)) dX11_day_172 (by decide) ?_
    refine r_iload_n (pc := 173) C dX11_day_173 1 rfl ?_
    refine r_i2l (pc := 174) C dX11_day_174 ?_
    obtain ⟨o_a2, h⟩ := h
    refine r_topl (fun x4 ex4 => ?_)
    have h := h x4 ex4
    obtain ⟨i3, h⟩ := h
    refine r_last (pc := 175) C dX11_day_175 o_a2 i3 ?_
    refine r_heap (fun S5 eS5 => ?_)
    have h := h S5 eS5
    have o_a2 := ob_J eS5 o_a2
    have o_v0 := ob_J eS5 o_v0
    refine r_aload_n (pc := 176) C dX11_day_176 0 rfl ?_
    obtain ⟨a6, ea6, h⟩ := h
    refine r_getr (pc := 177) C fL_X11_31 dX11_day_177 o_v0 ea6 ?_
    refine r_iconst (pc := 180) C (v := (1 : Int32)) dX11_day_180 (by decide) ?_
    refine r_iload_n (pc := 181) C dX11_day_181 2 rfl ?_
    refine r_i2l (pc := 182) C dX11_day_182 ?_
    obtain ⟨o_a6, h⟩ := h
    refine r_topl (fun x8 ex8 => ?_)
    have h := h x8 ex8
    obtain ⟨i7, h⟩ := h
    refine r_last (pc := 183) C dX11_day_183 o_a6 i7 ?_
    refine r_heap (fun S9 eS9 => ?_)
    have h := h S9 eS9
    have o_a2 := ob_J eS9 o_a2
    have o_a6 := ob_J eS9 o_a6
    have o_v0 := ob_J eS9 o_v0
    refine r_aload_n (pc := 184) C dX11_day_184 0 rfl ?_
    refine r_iconst (pc := 185) C (v := (0 : Int32)) dX11_day_185 (by decide) ?_
    refine r_puti (pc := 186) C pfL_X11_340 dX11_day_186 o_v0 ?_
    refine r_heap (fun S10 eS10 => ?_)
    have h := h S10 eS10
    have o_a2 := ob_I eS10 o_a2
    have o_a6 := ob_I eS10 o_a6
    have o_v0 := ob_I eS10 o_v0
    refine r_aload_n (pc := 189) C dX11_day_189 0 rfl ?_
    refine r_iconst (pc := 190) C (v := (0 : Int32)) dX11_day_190 (by decide) ?_
    refine r_puti (pc := 191) C pfL_X11_343 dX11_day_191 o_v0 ?_
    refine r_heap (fun S11 eS11 => ?_)
    have h := h S11 eS11
    have o_a2 := ob_I eS11 o_a2
    have o_a6 := ob_I eS11 o_a6
    have o_v0 := ob_I eS11 o_v0
    refine r_aload_n (pc := 194) C dX11_day_194 0 rfl ?_
    refine r_aload_n (pc := 195) C dX11_day_195 0 rfl ?_
    refine r_geti (pc := 196) C fL_X11_475 dX11_day_196 o_v0 ?_
    refine r_topi (fun x12 ex12 => ?_)
    have h := h x12 ex12
    refine r_callVi0 (pc := 199) C (rest := []) (a := v0) o_v0 [.int x12] yV_X11_good g_1518 (c_X11_good h) dX11_day_199 rfl rfl (Nat.le_of_ble_eq_true rfl) ⟨by decide, by decide⟩ ⟨by decide, by decide⟩ ⟨rfl, rfl⟩ (fun x15 S13 h g14 => ?_)
    have h := h g14
    have o_a2 := gr_ob g14 o_a2
    have o_a6 := gr_ob g14 o_a6
    have o_v0 := gr_ob g14 o_v0
    exact r_iret (pc := 202) C E ht dX11_day_202 (by decide) (by decide) h
  · have h := h.2 c1
    refine r_aload_n (pc := 154) C dX11_day_154 0 rfl ?_
    obtain ⟨o_v0, h⟩ := h
    obtain ⟨a16, ea16, h⟩ := h
    refine r_getr (pc := 155) C fL_X11_31 dX11_day_155 o_v0 ea16 ?_
    refine r_iload (pc := 158) C dX11_day_158 3 rfl ?_
    refine r_lconst (pc := 160) C (v := (0 : Int64)) dX11_day_160 (by decide) ?_
    obtain ⟨o_a16, h⟩ := h
    obtain ⟨i17, h⟩ := h
    refine r_last (pc := 161) C dX11_day_161 o_a16 i17 ?_
    refine r_heap (fun S18 eS18 => ?_)
    have h := h S18 eS18
    have o_a16 := ob_J eS18 o_a16
    have o_v0 := ob_J eS18 o_v0
    obtain ⟨x19, ex19⟩ : ∃ z : Int32, z = v6 + (1 : Int32) := ⟨_, rfl⟩
    have h := h x19 ex19
    refine r_iinc (pc := 162) C (v := x19) (lv' := [(6, .int x19), (0, .ref v0), (2, .int v2), (3, .int v3)]) dX11_day_162 3 rfl ex19.symm (by decide) rfl ?_
    refine r_goto (pc := 165) C (tgt := 147) dX11_day_165 (by decide) ?_
    exact r_sub [1, 2, 3, 0] rfl (hX147 v0 v2 v3 x19 S18 h)
theorem T_X11_day_147 {X : CX} {Q : Int32 → HS → Prop} (C : Cx X cX11_day RX11 7 rm_X11_day) (E : ReI X rm_X11_day Q) (ht : (xh X).sig.returnType = (some .int)) (hn : (xh X).name = yX11_day.name) {v0 : Nat} {v2 : Int32} {v3 : Int32} {v6 : Int32} {S : HS} (h : P_X11_day_147 Q v0 v2 v3 v6 S) : WS X 7 0 0 147 [(0, .ref v0), (2, .int v2), (3, .int v3), (6, .int v6)] [] S :=
  h (fun v0 v2 v3 v6 S => WS X 7 0 0 147 [(0, .ref v0), (2, .int v2), (3, .int v3), (6, .int v6)] [] S) (fun v0 v2 v3 v6 S hh => TB_X11_day_147 C E ht hn (fun v0 v2 v3 v6 S z => z) hh)
def B_X11_day_73 (Q : Int32 → HS → Prop) (X73 : Nat → Int32 → Int32 → Int32 → Int32 → HS → Prop) (v0 : Nat) (v2 : Int32) (v3 : Int32) (v5 : Int32) (v6 : Int32) (S : HS) : Prop := ob S v0 11 ∧ (∃ a1 : Nat, fR S v0 3 = some a1 ∧ (ob S a1 10 ∧ (∀ x2 : Int32, x2 = fI S a1 1 → (((x2 ≤ v6) → (P_X11_day_147 Q v0 v2 v3 (0 : Int32) S)) ∧ ((¬ x2 ≤ v6) → (∀ x4 : Int64, x4 = (((75 : Int64) * v5.toInt64) + (74 : Int64)) - (((75 : Int64) * v5.toInt64) + (74 : Int64)) / (65537 : Int64) * (65537 : Int64) → (∀ x5 : Int32, x5 = x4.toInt32 → (∀ x6 : Int32, x6 = fI S v0 20 → (∀ x7 : Int32, x7 = x5 - x5 / (100 : Int32) * (100 : Int32) → (∃ a8 : Nat, fR S v0 3 = some a8 ∧ (ob S a8 10 ∧ (∃ a9 : Nat, fR S a8 11 = some a9 ∧ (ob S a9 13 ∧ (vp_in v6 (hN S a9) ∧ ∀ x11 : Int32, x11 = fI S a9 v6.toNatClampNeg → (((x11 ≤ x7) → (P_X11_day_134 Q X73 v0 v2 v3 x5 v6 v0 x6 (0 : Int32) S)) ∧ ((¬ x11 ≤ x7) → (P_X11_day_134 Q X73 v0 v2 v3 x5 v6 v0 x6 ((1 : Int32) <<< (v6 &&& 31)) S)))))))))))))))))
def P_X11_day_73 (Q : Int32 → HS → Prop) (v0 : Nat) (v2 : Int32) (v3 : Int32) (v5 : Int32) (v6 : Int32) (S : HS) : Prop := ∀ X73 : Nat → Int32 → Int32 → Int32 → Int32 → HS → Prop, (∀ (v0 : Nat) (v2 : Int32) (v3 : Int32) (v5 : Int32) (v6 : Int32) (S : HS), B_X11_day_73 Q X73 v0 v2 v3 v5 v6 S → X73 v0 v2 v3 v5 v6 S) → X73 v0 v2 v3 v5 v6 S
set_option maxRecDepth 20000 in
set_option maxHeartbeats 4000000 in
theorem TB_X11_day_73 {X : CX} {Q : Int32 → HS → Prop} (C : Cx X cX11_day RX11 7 rm_X11_day) (E : ReI X rm_X11_day Q) (ht : (xh X).sig.returnType = (some .int)) (hn : (xh X).name = yX11_day.name) {X73 : Nat → Int32 → Int32 → Int32 → Int32 → HS → Prop} (hX73 : ∀ (v0 : Nat) (v2 : Int32) (v3 : Int32) (v5 : Int32) (v6 : Int32) (S : HS), X73 v0 v2 v3 v5 v6 S → WS X 7 0 0 73 [(0, .ref v0), (2, .int v2), (3, .int v3), (5, .int v5), (6, .int v6)] [] S) {v0 : Nat} {v2 : Int32} {v3 : Int32} {v5 : Int32} {v6 : Int32} {S : HS} (h : B_X11_day_73 Q X73 v0 v2 v3 v5 v6 S) : WS X 7 0 0 73 [(0, .ref v0), (2, .int v2), (3, .int v3), (5, .int v5), (6, .int v6)] [] S := by
  refine r_iload (pc := 73) C dX11_day_73 4 rfl ?_
  refine r_aload_n (pc := 75) C dX11_day_75 0 rfl ?_
  obtain ⟨o_v0, h⟩ := h
  obtain ⟨a1, ea1, h⟩ := h
  refine r_getr (pc := 76) C fL_X11_338 dX11_day_76 o_v0 ea1 ?_
  obtain ⟨o_a1, h⟩ := h
  refine r_getNi (pc := 79) C fN_X11_219 dX11_day_79 o_a1 ?_
  refine r_topi (fun x2 ex2 => ?_)
  have h := h x2 ex2
  refine r_icmp_ge (pc := 82) C (tgt := 144) dX11_day_82 (by decide) (fun c3 => ?_) (fun c3 => ?_)
  · have h := h.1 c3
    refine r_iconst (pc := 144) C (v := (0 : Int32)) dX11_day_144 (by decide) ?_
    refine r_istore (pc := 145) C dX11_day_145 (by decide) (lv' := [(6, .int (0 : Int32)), (0, .ref v0), (2, .int v2), (3, .int v3), (5, .int v5)]) rfl ?_
    exact r_sub [1, 2, 3, 0] rfl (T_X11_day_147 C E ht hn h)
  · have h := h.2 c3
    refine r_ldc2 (pc := 85) C (v := (75 : Int64)) dX11_day_85 g_1772 ?_
    refine r_iload (pc := 88) C dX11_day_88 3 rfl ?_
    refine r_i2l (pc := 90) C dX11_day_90 ?_
    refine r_lmul (pc := 91) C dX11_day_91 ?_
    refine r_ldc2 (pc := 92) C (v := (74 : Int64)) dX11_day_92 g_1773 ?_
    refine r_ladd (pc := 95) C dX11_day_95 ?_
    refine r_ldc2 (pc := 96) C (v := (65537 : Int64)) dX11_day_96 g_1774 ?_
    refine r_lrem (pc := 99) C dX11_day_99 (by decide) ?_
    refine r_topl (fun x4 ex4 => ?_)
    have h := h x4 ex4
    refine r_l2i (pc := 100) C dX11_day_100 ?_
    refine r_topi (fun x5 ex5 => ?_)
    have h := h x5 ex5
    refine r_istore (pc := 101) C dX11_day_101 (by decide) (lv' := [(5, .int x5), (0, .ref v0), (2, .int v2), (3, .int v3), (6, .int v6)]) rfl ?_
    refine r_aload_n (pc := 103) C dX11_day_103 1 rfl ?_
    refine r_dup (pc := 104) C dX11_day_104 rfl ?_
    refine r_geti (pc := 105) C fL_X11_475 dX11_day_105 o_v0 ?_
    refine r_topi (fun x6 ex6 => ?_)
    have h := h x6 ex6
    refine r_iload (pc := 108) C dX11_day_108 0 rfl ?_
    refine r_bipush (pc := 110) C (v := (100 : Int32)) dX11_day_110 (by decide) ?_
    refine r_irem (pc := 112) C dX11_day_112 (by decide) ?_
    refine r_topi (fun x7 ex7 => ?_)
    have h := h x7 ex7
    refine r_aload_n (pc := 113) C dX11_day_113 1 rfl ?_
    obtain ⟨a8, ea8, h⟩ := h
    refine r_getr (pc := 114) C fL_X11_338 dX11_day_114 o_v0 ea8 ?_
    obtain ⟨o_a8, h⟩ := h
    obtain ⟨a9, ea9, h⟩ := h
    refine r_getNr (pc := 117) C fN_X11_246 dX11_day_117 o_a8 ea9 ?_
    refine r_iload (pc := 120) C dX11_day_120 4 rfl ?_
    obtain ⟨o_a9, h⟩ := h
    obtain ⟨i10, h⟩ := h
    refine r_iald (pc := 122) C dX11_day_122 o_a9 i10 ?_
    refine r_topi (fun x11 ex11 => ?_)
    have h := h x11 ex11
    refine r_icmp_ge (pc := 123) C (tgt := 133) dX11_day_123 (by decide) (fun c12 => ?_) (fun c12 => ?_)
    · have h := h.1 c12
      refine r_iconst (pc := 133) C (v := (0 : Int32)) dX11_day_133 (by decide) ?_
      exact r_sub [1, 2, 3, 0, 4] rfl (T_X11_day_134 C E ht hn hX73 h)
    · have h := h.2 c12
      refine r_iconst (pc := 126) C (v := (1 : Int32)) dX11_day_126 (by decide) ?_
      refine r_iload (pc := 127) C dX11_day_127 4 rfl ?_
      refine r_ishl (pc := 129) C dX11_day_129 ?_
      refine r_goto (pc := 130) C (tgt := 134) dX11_day_130 (by decide) ?_
      exact r_sub [1, 2, 3, 0, 4] rfl (T_X11_day_134 C E ht hn hX73 h)
theorem T_X11_day_73 {X : CX} {Q : Int32 → HS → Prop} (C : Cx X cX11_day RX11 7 rm_X11_day) (E : ReI X rm_X11_day Q) (ht : (xh X).sig.returnType = (some .int)) (hn : (xh X).name = yX11_day.name) {v0 : Nat} {v2 : Int32} {v3 : Int32} {v5 : Int32} {v6 : Int32} {S : HS} (h : P_X11_day_73 Q v0 v2 v3 v5 v6 S) : WS X 7 0 0 73 [(0, .ref v0), (2, .int v2), (3, .int v3), (5, .int v5), (6, .int v6)] [] S :=
  h (fun v0 v2 v3 v5 v6 S => WS X 7 0 0 73 [(0, .ref v0), (2, .int v2), (3, .int v3), (5, .int v5), (6, .int v6)] [] S) (fun v0 v2 v3 v5 v6 S hh => TB_X11_day_73 C E ht hn (fun v0 v2 v3 v5 v6 S z => z) hh)
def P_X11_day_0 (Q : Int32 → HS → Prop) (v0 : Nat) (v1 : Int32) (v2 : Int32) (v3 : Int32) (v4 : Int32) (S : HS) : Prop := ob S v0 11 ∧ (∀ S1 : HS, S1 = sI S v0 0 (0 : Int32) → (P_X11_isWalker v0 v1 (fun x4 S2 => Gr S1 S2 → bl x4 → (((x4 = 0) → (P_X11_day_21 Q v0 S2)) ∧ ((¬ x4 = 0) → (P_X11_isPlace v0 v2 (fun x8 S6 => Gr S2 S6 → bl x8 → (((¬ x8 = 0) → (P_X11_in v3 (0 : Int32) (400 : Int32) (fun x12 S10 => Gr S6 S10 → bl x12 → (((x12 = 0) → (P_X11_day_50 Q v0 S10)) ∧ ((¬ x12 = 0) → (P_X11_in v4 (0 : Int32) (65536 : Int32) (fun x16 S14 => Gr S10 S14 → bl x16 → (((¬ x16 = 0) → (∀ S18 : HS, S18 = sI S14 v0 19 v1 → (∀ S19 : HS, S19 = sI S18 v0 20 (0 : Int32) → (P_X11_day_73 Q v0 v2 v3 v4 (0 : Int32) S19)))) ∧ ((x16 = 0) → (P_X11_day_50 Q v0 S14)))) S10)))) S6)) ∧ ((x8 = 0) → (P_X11_day_21 Q v0 S6)))) S2)))) S1))
set_option maxRecDepth 20000 in
set_option maxHeartbeats 4000000 in
theorem T_X11_day_0 {X : CX} {Q : Int32 → HS → Prop} (C : Cx X cX11_day RX11 7 rm_X11_day) (E : ReI X rm_X11_day Q) (ht : (xh X).sig.returnType = (some .int)) (hn : (xh X).name = yX11_day.name) {v0 : Nat} {v1 : Int32} {v2 : Int32} {v3 : Int32} {v4 : Int32} {S : HS} (h : P_X11_day_0 Q v0 v1 v2 v3 v4 S) : WS X 7 0 0 0 [(0, .ref v0), (1, .int v1), (2, .int v2), (3, .int v3), (4, .int v4)] [] S := by
  refine r_aload_n (pc := 0) C dX11_day_0 0 rfl ?_
  refine r_iconst (pc := 1) C (v := (0 : Int32)) dX11_day_1 (by decide) ?_
  obtain ⟨o_v0, h⟩ := h
  refine r_puti (pc := 2) C pfL_X11_40 dX11_day_2 o_v0 ?_
  refine r_heap (fun S1 eS1 => ?_)
  have h := h S1 eS1
  have o_v0 := ob_I eS1 o_v0
  refine r_aload_n (pc := 5) C dX11_day_5 0 rfl ?_
  refine r_iload_n (pc := 6) C dX11_day_6 1 rfl ?_
  refine r_callVi0 (pc := 7) C (rest := []) (a := v0) o_v0 [.int v1] yV_X11_isWalker g_1538 (c_X11_isWalker h) dX11_day_7 rfl rfl (Nat.le_of_ble_eq_true rfl) ⟨by decide, by decide⟩ ⟨by decide, by decide⟩ ⟨rfl, rfl⟩ (fun x4 S2 h g3 => ?_)
  have bx4 := h.1
  have h := h.2 g3 bx4
  have o_v0 := gr_ob g3 o_v0
  refine r_if_eq (pc := 10) C (tgt := 21) dX11_day_10 (by decide) (fun c5 => ?_) (fun c5 => ?_)
  · have h := h.1 c5
    exact r_sub [0] rfl (T_X11_day_21 C E ht hn h)
  · have h := h.2 c5
    refine r_aload_n (pc := 13) C dX11_day_13 0 rfl ?_
    refine r_iload_n (pc := 14) C dX11_day_14 2 rfl ?_
    refine r_callVi0 (pc := 15) C (rest := []) (a := v0) o_v0 [.int v2] yV_X11_isPlace g_1679 (c_X11_isPlace h) dX11_day_15 rfl rfl (Nat.le_of_ble_eq_true rfl) ⟨by decide, by decide⟩ ⟨by decide, by decide⟩ ⟨rfl, rfl⟩ (fun x8 S6 h g7 => ?_)
    have bx8 := h.1
    have h := h.2 g7 bx8
    have o_v0 := gr_ob g7 o_v0
    refine r_if_ne (pc := 18) C (tgt := 27) dX11_day_18 (by decide) (fun c9 => ?_) (fun c9 => ?_)
    · have h := h.1 c9
      refine r_iload_n (pc := 27) C dX11_day_27 3 rfl ?_
      refine r_iconst (pc := 28) C (v := (0 : Int32)) dX11_day_28 (by decide) ?_
      refine r_sipush (pc := 29) C (v := (400 : Int32)) dX11_day_29 (by decide) ?_
      refine r_callSi0 (pc := 32) C (rest := []) rfl [.int v3, .int (0 : Int32), .int (400 : Int32)] yS_X11_in g_1434 (c_X11_in h) dX11_day_32 rfl rfl (Nat.le_of_ble_eq_true rfl) ⟨by decide, by decide⟩ ⟨by decide, by decide⟩ ⟨rfl, rfl⟩ (fun x12 S10 h g11 => ?_)
      have bx12 := h.1
      have h := h.2 g11 bx12
      have o_v0 := gr_ob g11 o_v0
      refine r_if_eq (pc := 35) C (tgt := 50) dX11_day_35 (by decide) (fun c13 => ?_) (fun c13 => ?_)
      · have h := h.1 c13
        exact r_sub [0] rfl (T_X11_day_50 C E ht hn h)
      · have h := h.2 c13
        refine r_iload (pc := 38) C dX11_day_38 4 rfl ?_
        refine r_iconst (pc := 40) C (v := (0 : Int32)) dX11_day_40 (by decide) ?_
        refine r_ldcw (pc := 41) C (v := (65536 : Int32)) dX11_day_41 g_1771 ?_
        refine r_callSi0 (pc := 44) C (rest := []) rfl [.int v4, .int (0 : Int32), .int (65536 : Int32)] yS_X11_in g_1434 (c_X11_in h) dX11_day_44 rfl rfl (Nat.le_of_ble_eq_true rfl) ⟨by decide, by decide⟩ ⟨by decide, by decide⟩ ⟨rfl, rfl⟩ (fun x16 S14 h g15 => ?_)
        have bx16 := h.1
        have h := h.2 g15 bx16
        have o_v0 := gr_ob g15 o_v0
        refine r_if_ne (pc := 47) C (tgt := 56) dX11_day_47 (by decide) (fun c17 => ?_) (fun c17 => ?_)
        · have h := h.1 c17
          refine r_aload_n (pc := 56) C dX11_day_56 0 rfl ?_
          refine r_iload_n (pc := 57) C dX11_day_57 1 rfl ?_
          refine r_puti (pc := 58) C pfL_X11_28 dX11_day_58 o_v0 ?_
          refine r_heap (fun S18 eS18 => ?_)
          have h := h S18 eS18
          have o_v0 := ob_I eS18 o_v0
          refine r_aload_n (pc := 61) C dX11_day_61 0 rfl ?_
          refine r_iconst (pc := 62) C (v := (0 : Int32)) dX11_day_62 (by decide) ?_
          refine r_puti (pc := 63) C pfL_X11_475 dX11_day_63 o_v0 ?_
          refine r_heap (fun S19 eS19 => ?_)
          have h := h S19 eS19
          have o_v0 := ob_I eS19 o_v0
          refine r_iload (pc := 66) C dX11_day_66 4 rfl ?_
          refine r_istore (pc := 68) C dX11_day_68 (by decide) (lv' := [(5, .int v4), (0, .ref v0), (1, .int v1), (2, .int v2), (3, .int v3), (4, .int v4)]) rfl ?_
          refine r_iconst (pc := 70) C (v := (0 : Int32)) dX11_day_70 (by decide) ?_
          refine r_istore (pc := 71) C dX11_day_71 (by decide) (lv' := [(6, .int (0 : Int32)), (5, .int v4), (0, .ref v0), (1, .int v1), (2, .int v2), (3, .int v3), (4, .int v4)]) rfl ?_
          exact r_sub [2, 4, 5, 1, 0] rfl (T_X11_day_73 C E ht hn h)
        · have h := h.2 c17
          exact r_sub [0] rfl (T_X11_day_50 C E ht hn h)
    · have h := h.2 c9
      exact r_sub [0] rfl (T_X11_day_21 C E ht hn h)
def P_X11_day (v0 : Nat) (v1 : Int32) (v2 : Int32) (v3 : Int32) (v4 : Int32) (Q : Int32 → HS → Prop) (S : HS) : Prop := P_X11_day_0 Q v0 v1 v2 v3 v4 S
theorem c_X11_day {l : Launch} {Ee : EE} {S : HS} {v0 : Nat} {v1 : Int32} {v2 : Int32} {v3 : Int32} {v4 : Int32} {Q : Int32 → HS → Prop} (h : P_X11_day v0 v1 v2 v3 v4 Q S) : MI l yX11_day cX11_day 7 (some .int) rm_X11_day Ee S [.ref v0, .int v1, .int v2, .int v3, .int v4] Q :=
  openI (by decide) (Nat.le_of_ble_eq_true rfl) (fun X C E ht hn hE hl => by subst hE; exact r_sub [0, 1, 2, 3, 4] rfl (T_X11_day_0 C E ht hn h))
def rm_X11_wetAtBest : Room := { frames := 7, cells := 0, slots := 0, locals := 189 }
def P_X11_wetAtBest_0 (Q : Int64 → HS → Prop) (v0 : Nat) (v1 : Int32) (v2 : Int32) (v3 : Int32) (v4 : Int32) (S : HS) : Prop := ob S v0 11 ∧ (P_X11_bestOf v0 v1 v2 v3 v4 (fun x3 S1 => Gr S S1 → (P_X11_wetOf v0 v1 v2 v3 v4 x3 (fun x6 S4 => Gr S1 S4 → (Q x6 S4)) S1)) S)
set_option maxRecDepth 20000 in
set_option maxHeartbeats 4000000 in
theorem T_X11_wetAtBest_0 {X : CX} {Q : Int64 → HS → Prop} (C : Cx X cX11_wetAtBest RX11 5 rm_X11_wetAtBest) (E : ReJ X rm_X11_wetAtBest Q) (ht : (xh X).sig.returnType = (some .long)) (hn : (xh X).name = yX11_wetAtBest.name) {v0 : Nat} {v1 : Int32} {v2 : Int32} {v3 : Int32} {v4 : Int32} {S : HS} (h : P_X11_wetAtBest_0 Q v0 v1 v2 v3 v4 S) : WS X 5 0 0 0 [(0, .ref v0), (1, .int v1), (2, .int v2), (3, .int v3), (4, .int v4)] [] S := by
  refine r_aload_n (pc := 0) C dX11_wetAtBest_0 0 rfl ?_
  refine r_iload_n (pc := 1) C dX11_wetAtBest_1 1 rfl ?_
  refine r_iload_n (pc := 2) C dX11_wetAtBest_2 2 rfl ?_
  refine r_iload_n (pc := 3) C dX11_wetAtBest_3 3 rfl ?_
  refine r_iload (pc := 4) C dX11_wetAtBest_4 4 rfl ?_
  refine r_aload_n (pc := 6) C dX11_wetAtBest_6 0 rfl ?_
  refine r_iload_n (pc := 7) C dX11_wetAtBest_7 1 rfl ?_
  refine r_iload_n (pc := 8) C dX11_wetAtBest_8 2 rfl ?_
  refine r_iload_n (pc := 9) C dX11_wetAtBest_9 3 rfl ?_
  refine r_iload (pc := 10) C dX11_wetAtBest_10 4 rfl ?_
  obtain ⟨o_v0, h⟩ := h
  refine r_callVi0 (pc := 12) C (rest := [.int v4, .int v3, .int v2, .int v1, .ref v0]) (a := v0) o_v0 [.int v1, .int v2, .int v3, .int v4] yV_X11_bestOf g_1627 (c_X11_bestOf h) dX11_wetAtBest_12 rfl rfl (Nat.le_of_ble_eq_true rfl) ⟨by decide, by decide⟩ ⟨by decide, by decide⟩ ⟨rfl, rfl⟩ (fun x3 S1 h g2 => ?_)
  have h := h g2
  have o_v0 := gr_ob g2 o_v0
  refine r_callVl0 (pc := 15) C (rest := []) (a := v0) o_v0 [.int v1, .int v2, .int v3, .int v4, .int x3] yV_X11_wetOf g_1594 (c_X11_wetOf h) dX11_wetAtBest_15 rfl rfl (Nat.le_of_ble_eq_true rfl) ⟨by decide, by decide⟩ ⟨by decide, by decide⟩ ⟨rfl, rfl⟩ (fun x6 S4 h g5 => ?_)
  have h := h g5
  have o_v0 := gr_ob g5 o_v0
  exact r_lret (pc := 18) C E ht dX11_wetAtBest_18 (by decide) (by decide) h
def P_X11_wetAtBest (v0 : Nat) (v1 : Int32) (v2 : Int32) (v3 : Int32) (v4 : Int32) (Q : Int64 → HS → Prop) (S : HS) : Prop := P_X11_wetAtBest_0 Q v0 v1 v2 v3 v4 S
theorem c_X11_wetAtBest {l : Launch} {Ee : EE} {S : HS} {v0 : Nat} {v1 : Int32} {v2 : Int32} {v3 : Int32} {v4 : Int32} {Q : Int64 → HS → Prop} (h : P_X11_wetAtBest v0 v1 v2 v3 v4 Q S) : MJ l yX11_wetAtBest cX11_wetAtBest 5 (some .long) rm_X11_wetAtBest Ee S [.ref v0, .int v1, .int v2, .int v3, .int v4] Q :=
  openJ (by decide) (Nat.le_of_ble_eq_true rfl) (fun X C E ht hn hE hl => by subst hE; exact r_sub [0, 1, 2, 3, 4] rfl (T_X11_wetAtBest_0 C E ht hn h))
def rm_X11_driest : Room := { frames := 8, cells := 0, slots := 0, locals := 213 }
def P_X11_driest_30 (Q : Int32 → HS → Prop) (v0 : Nat) (S : HS) : Prop := ob S v0 11 ∧ (P_X11_refused v0 (1 : Int32) (fun x3 S1 => Gr S S1 → (Q x3 S1)) S)
set_option maxRecDepth 20000 in
set_option maxHeartbeats 4000000 in
theorem T_X11_driest_30 {X : CX} {Q : Int32 → HS → Prop} (C : Cx X cX11_driest RX11 10 rm_X11_driest) (E : ReI X rm_X11_driest Q) (ht : (xh X).sig.returnType = (some .int)) (hn : (xh X).name = yX11_driest.name) {v0 : Nat} {S : HS} (h : P_X11_driest_30 Q v0 S) : WS X 10 0 0 30 [(0, .ref v0)] [] S := by
  refine r_aload_n (pc := 30) C dX11_driest_30 0 rfl ?_
  refine r_iconst (pc := 31) C (v := (1 : Int32)) dX11_driest_31 (by decide) ?_
  obtain ⟨o_v0, h⟩ := h
  refine r_callVi0 (pc := 32) C (rest := []) (a := v0) o_v0 [.int (1 : Int32)] yV_X11_refused g_1250 (c_X11_refused h) dX11_driest_32 rfl rfl (Nat.le_of_ble_eq_true rfl) ⟨by decide, by decide⟩ ⟨by decide, by decide⟩ ⟨rfl, rfl⟩ (fun x3 S1 h g2 => ?_)
  have h := h g2
  have o_v0 := gr_ob g2 o_v0
  exact r_iret (pc := 35) C E ht dX11_driest_35 (by decide) (by decide) h
def P_X11_driest_105 (Q : Int32 → HS → Prop) (X45 : Nat → Int32 → Int32 → Int32 → Int32 → Int64 → Int32 → HS → Prop) (v0 : Nat) (v1 : Int32) (v2 : Int32) (v3 : Int32) (v4 : Int32) (v5 : Int64) (v7 : Int32) (S : HS) : Prop := ∀ x1 : Int32, x1 = v7 + (1 : Int32) → (X45 v0 v1 v2 v3 v4 v5 x1 S)
set_option maxRecDepth 20000 in
set_option maxHeartbeats 4000000 in
theorem T_X11_driest_105 {X : CX} {Q : Int32 → HS → Prop} (C : Cx X cX11_driest RX11 10 rm_X11_driest) (E : ReI X rm_X11_driest Q) (ht : (xh X).sig.returnType = (some .int)) (hn : (xh X).name = yX11_driest.name) {X45 : Nat → Int32 → Int32 → Int32 → Int32 → Int64 → Int32 → HS → Prop} (hX45 : ∀ (v0 : Nat) (v1 : Int32) (v2 : Int32) (v3 : Int32) (v4 : Int32) (v5 : Int64) (v7 : Int32) (S : HS), X45 v0 v1 v2 v3 v4 v5 v7 S → WS X 10 0 0 45 [(0, .ref v0), (1, .int v1), (2, .int v2), (3, .int v3), (4, .int v4), (5, .long v5), (7, .int v7)] [] S) {v0 : Nat} {v1 : Int32} {v2 : Int32} {v3 : Int32} {v4 : Int32} {v5 : Int64} {v7 : Int32} {S : HS} (h : P_X11_driest_105 Q X45 v0 v1 v2 v3 v4 v5 v7 S) : WS X 10 0 0 105 [(0, .ref v0), (1, .int v1), (2, .int v2), (3, .int v3), (4, .int v4), (5, .long v5), (7, .int v7)] [] S := by
  obtain ⟨x1, ex1⟩ : ∃ z : Int32, z = v7 + (1 : Int32) := ⟨_, rfl⟩
  have h := h x1 ex1
  refine r_iinc (pc := 105) C (v := x1) (lv' := [(7, .int x1), (0, .ref v0), (1, .int v1), (2, .int v2), (3, .int v3), (4, .int v4), (5, .long v5)]) dX11_driest_105 6 rfl ex1.symm (by decide) rfl ?_
  refine r_goto (pc := 108) C (tgt := 45) dX11_driest_108 (by decide) ?_
  exact r_sub [1, 2, 3, 4, 5, 6, 0] rfl (hX45 v0 v1 v2 v3 v4 v5 x1 S h)
def P_X11_driest_97 (Q : Int32 → HS → Prop) (X45 : Nat → Int32 → Int32 → Int32 → Int32 → Int64 → Int32 → HS → Prop) (v0 : Nat) (v1 : Int32) (v2 : Int32) (v3 : Int32) (v7 : Int32) (v8 : Int64) (S : HS) : Prop := P_X11_driest_105 Q X45 v0 v1 v2 v3 v7 v8 v7 S
set_option maxRecDepth 20000 in
set_option maxHeartbeats 4000000 in
theorem T_X11_driest_97 {X : CX} {Q : Int32 → HS → Prop} (C : Cx X cX11_driest RX11 10 rm_X11_driest) (E : ReI X rm_X11_driest Q) (ht : (xh X).sig.returnType = (some .int)) (hn : (xh X).name = yX11_driest.name) {X45 : Nat → Int32 → Int32 → Int32 → Int32 → Int64 → Int32 → HS → Prop} (hX45 : ∀ (v0 : Nat) (v1 : Int32) (v2 : Int32) (v3 : Int32) (v4 : Int32) (v5 : Int64) (v7 : Int32) (S : HS), X45 v0 v1 v2 v3 v4 v5 v7 S → WS X 10 0 0 45 [(0, .ref v0), (1, .int v1), (2, .int v2), (3, .int v3), (4, .int v4), (5, .long v5), (7, .int v7)] [] S) {v0 : Nat} {v1 : Int32} {v2 : Int32} {v3 : Int32} {v7 : Int32} {v8 : Int64} {S : HS} (h : P_X11_driest_97 Q X45 v0 v1 v2 v3 v7 v8 S) : WS X 10 0 0 97 [(0, .ref v0), (1, .int v1), (2, .int v2), (3, .int v3), (7, .int v7), (8, .long v8)] [] S := by
  refine r_iload (pc := 97) C dX11_driest_97 4 rfl ?_
  refine r_istore (pc := 99) C dX11_driest_99 (by decide) (lv' := [(4, .int v7), (0, .ref v0), (1, .int v1), (2, .int v2), (3, .int v3), (7, .int v7), (8, .long v8)]) rfl ?_
  refine r_lload (pc := 101) C dX11_driest_101 6 rfl ?_
  refine r_lstore (pc := 103) C dX11_driest_103 (by decide) (lv' := [(5, .long v8), (4, .int v7), (0, .ref v0), (1, .int v1), (2, .int v2), (3, .int v3), (7, .int v7), (8, .long v8)]) rfl ?_
  exact r_sub [2, 3, 4, 5, 1, 0, 6] rfl (T_X11_driest_105 C E ht hn hX45 h)
def B_X11_driest_45 (Q : Int32 → HS → Prop) (X45 : Nat → Int32 → Int32 → Int32 → Int32 → Int64 → Int32 → HS → Prop) (v0 : Nat) (v1 : Int32) (v2 : Int32) (v3 : Int32) (v4 : Int32) (v5 : Int64) (v7 : Int32) (S : HS) : Prop := ob S v0 11 ∧ (∃ a1 : Nat, fR S v0 3 = some a1 ∧ (ob S a1 10 ∧ (∀ x2 : Int32, x2 = fI S a1 1 → (((x2 ≤ v7) → (((¬ v4 = (-1 : Int32)) → (P_X11_good v0 v4 (fun x7 S5 => Gr S S5 → (Q x7 S5)) S)) ∧ ((v4 = (-1 : Int32)) → (P_X11_refused v0 (6 : Int32) (fun x10 S8 => Gr S S8 → (Q x10 S8)) S)))) ∧ ((¬ x2 ≤ v7) → (P_X11_wetAtBest v0 v1 v2 v3 v7 (fun x13 S11 => Gr S S11 → (∃ a14 : Nat, fR S11 v0 3 = some a14 ∧ (ob S11 a14 10 ∧ (∃ a15 : Nat, fR S11 a14 11 = some a15 ∧ (ob S11 a15 13 ∧ (vp_in v7 (hN S11 a15) ∧ ∀ x17 : Int32, x17 = fI S11 a15 v7.toNatClampNeg → (∀ x18 : Int64, x18 = x13 * x17.toInt64 → (((v4 = (-1 : Int32)) → (P_X11_driest_97 Q X45 v0 v1 v2 v3 v7 x18 S11)) ∧ ((¬ v4 = (-1 : Int32)) → ((((lg_cmp x18 v5) < 0) → (P_X11_driest_97 Q X45 v0 v1 v2 v3 v7 x18 S11)) ∧ ((¬ (lg_cmp x18 v5) < 0) → (P_X11_driest_105 Q X45 v0 v1 v2 v3 v4 v5 v7 S11)))))))))))) S))))))
def P_X11_driest_45 (Q : Int32 → HS → Prop) (v0 : Nat) (v1 : Int32) (v2 : Int32) (v3 : Int32) (v4 : Int32) (v5 : Int64) (v7 : Int32) (S : HS) : Prop := ∀ X45 : Nat → Int32 → Int32 → Int32 → Int32 → Int64 → Int32 → HS → Prop, (∀ (v0 : Nat) (v1 : Int32) (v2 : Int32) (v3 : Int32) (v4 : Int32) (v5 : Int64) (v7 : Int32) (S : HS), B_X11_driest_45 Q X45 v0 v1 v2 v3 v4 v5 v7 S → X45 v0 v1 v2 v3 v4 v5 v7 S) → X45 v0 v1 v2 v3 v4 v5 v7 S
set_option maxRecDepth 20000 in
set_option maxHeartbeats 4000000 in
theorem TB_X11_driest_45 {X : CX} {Q : Int32 → HS → Prop} (C : Cx X cX11_driest RX11 10 rm_X11_driest) (E : ReI X rm_X11_driest Q) (ht : (xh X).sig.returnType = (some .int)) (hn : (xh X).name = yX11_driest.name) {X45 : Nat → Int32 → Int32 → Int32 → Int32 → Int64 → Int32 → HS → Prop} (hX45 : ∀ (v0 : Nat) (v1 : Int32) (v2 : Int32) (v3 : Int32) (v4 : Int32) (v5 : Int64) (v7 : Int32) (S : HS), X45 v0 v1 v2 v3 v4 v5 v7 S → WS X 10 0 0 45 [(0, .ref v0), (1, .int v1), (2, .int v2), (3, .int v3), (4, .int v4), (5, .long v5), (7, .int v7)] [] S) {v0 : Nat} {v1 : Int32} {v2 : Int32} {v3 : Int32} {v4 : Int32} {v5 : Int64} {v7 : Int32} {S : HS} (h : B_X11_driest_45 Q X45 v0 v1 v2 v3 v4 v5 v7 S) : WS X 10 0 0 45 [(0, .ref v0), (1, .int v1), (2, .int v2), (3, .int v3), (4, .int v4), (5, .long v5), (7, .int v7)] [] S := by
  refine r_iload (pc := 45) C dX11_driest_45 6 rfl ?_
  refine r_aload_n (pc := 47) C dX11_driest_47 0 rfl ?_
  obtain ⟨o_v0, h⟩ := h
  obtain ⟨a1, ea1, h⟩ := h
  refine r_getr (pc := 48) C fL_X11_338 dX11_driest_48 o_v0 ea1 ?_
  obtain ⟨o_a1, h⟩ := h
  refine r_getNi (pc := 51) C fN_X11_219 dX11_driest_51 o_a1 ?_
  refine r_topi (fun x2 ex2 => ?_)
  have h := h x2 ex2
  refine r_icmp_ge (pc := 54) C (tgt := 111) dX11_driest_54 (by decide) (fun c3 => ?_) (fun c3 => ?_)
  · have h := h.1 c3
    refine r_iload (pc := 111) C dX11_driest_111 4 rfl ?_
    refine r_iconst (pc := 113) C (v := (-1 : Int32)) dX11_driest_113 (by decide) ?_
    refine r_icmp_ne (pc := 114) C (tgt := 126) dX11_driest_114 (by decide) (fun c4 => ?_) (fun c4 => ?_)
    · have h := h.1 c4
      refine r_aload_n (pc := 126) C dX11_driest_126 0 rfl ?_
      refine r_iload (pc := 127) C dX11_driest_127 4 rfl ?_
      refine r_callVi0 (pc := 129) C (rest := []) (a := v0) o_v0 [.int v4] yV_X11_good g_1518 (c_X11_good h) dX11_driest_129 rfl rfl (Nat.le_of_ble_eq_true rfl) ⟨by decide, by decide⟩ ⟨by decide, by decide⟩ ⟨rfl, rfl⟩ (fun x7 S5 h g6 => ?_)
      have h := h g6
      have o_a1 := gr_ob g6 o_a1
      have o_v0 := gr_ob g6 o_v0
      exact r_iret (pc := 132) C E ht dX11_driest_132 (by decide) (by decide) h
    · have h := h.2 c4
      refine r_aload_n (pc := 117) C dX11_driest_117 0 rfl ?_
      refine r_bipush (pc := 118) C (v := (6 : Int32)) dX11_driest_118 (by decide) ?_
      refine r_callVi0 (pc := 120) C (rest := []) (a := v0) o_v0 [.int (6 : Int32)] yV_X11_refused g_1250 (c_X11_refused h) dX11_driest_120 rfl rfl (Nat.le_of_ble_eq_true rfl) ⟨by decide, by decide⟩ ⟨by decide, by decide⟩ ⟨rfl, rfl⟩ (fun x10 S8 h g9 => ?_)
      have h := h g9
      have o_a1 := gr_ob g9 o_a1
      have o_v0 := gr_ob g9 o_v0
      refine r_goto (pc := 123) C (tgt := 132) dX11_driest_123 (by decide) ?_
      exact r_iret (pc := 132) C E ht dX11_driest_132 (by decide) (by decide) h
  · have h := h.2 c3
    refine r_aload_n (pc := 57) C dX11_driest_57 0 rfl ?_
    refine r_iload_n (pc := 58) C dX11_driest_58 1 rfl ?_
    refine r_iload_n (pc := 59) C dX11_driest_59 2 rfl ?_
    refine r_iload_n (pc := 60) C dX11_driest_60 3 rfl ?_
    refine r_iload (pc := 61) C dX11_driest_61 6 rfl ?_
    refine r_callVl0 (pc := 63) C (rest := []) (a := v0) o_v0 [.int v1, .int v2, .int v3, .int v7] yV_X11_wetAtBest g_1647 (c_X11_wetAtBest h) dX11_driest_63 rfl rfl (Nat.le_of_ble_eq_true rfl) ⟨by decide, by decide⟩ ⟨by decide, by decide⟩ ⟨rfl, rfl⟩ (fun x13 S11 h g12 => ?_)
    have h := h g12
    have o_a1 := gr_ob g12 o_a1
    have o_v0 := gr_ob g12 o_v0
    refine r_aload_n (pc := 66) C dX11_driest_66 0 rfl ?_
    obtain ⟨a14, ea14, h⟩ := h
    refine r_getr (pc := 67) C fL_X11_338 dX11_driest_67 o_v0 ea14 ?_
    obtain ⟨o_a14, h⟩ := h
    obtain ⟨a15, ea15, h⟩ := h
    refine r_getNr (pc := 70) C fN_X11_246 dX11_driest_70 o_a14 ea15 ?_
    refine r_iload (pc := 73) C dX11_driest_73 6 rfl ?_
    obtain ⟨o_a15, h⟩ := h
    obtain ⟨i16, h⟩ := h
    refine r_iald (pc := 75) C dX11_driest_75 o_a15 i16 ?_
    refine r_topi (fun x17 ex17 => ?_)
    have h := h x17 ex17
    refine r_i2l (pc := 76) C dX11_driest_76 ?_
    refine r_lmul (pc := 77) C dX11_driest_77 ?_
    refine r_topl (fun x18 ex18 => ?_)
    have h := h x18 ex18
    refine r_lstore (pc := 78) C dX11_driest_78 (by decide) (lv' := [(8, .long x18), (0, .ref v0), (1, .int v1), (2, .int v2), (3, .int v3), (4, .int v4), (5, .long v5), (7, .int v7)]) rfl ?_
    refine r_iload (pc := 80) C dX11_driest_80 5 rfl ?_
    refine r_iconst (pc := 82) C (v := (-1 : Int32)) dX11_driest_82 (by decide) ?_
    refine r_icmp_eq (pc := 83) C (tgt := 97) dX11_driest_83 (by decide) (fun c19 => ?_) (fun c19 => ?_)
    · have h := h.1 c19
      exact r_sub [1, 2, 3, 4, 7, 0] rfl (T_X11_driest_97 C E ht hn hX45 h)
    · have h := h.2 c19
      refine r_lload (pc := 86) C dX11_driest_86 0 rfl ?_
      refine r_lload (pc := 88) C dX11_driest_88 6 rfl ?_
      refine r_lcmp (pc := 90) C dX11_driest_90 ?_
      refine r_if_lt (pc := 91) C (tgt := 97) dX11_driest_91 (by decide) (fun c20 => ?_) (fun c20 => ?_)
      · have h := h.1 c20
        exact r_sub [1, 2, 3, 4, 7, 0] rfl (T_X11_driest_97 C E ht hn hX45 h)
      · have h := h.2 c20
        refine r_goto (pc := 94) C (tgt := 105) dX11_driest_94 (by decide) ?_
        exact r_sub [1, 2, 3, 4, 5, 6, 7] rfl (T_X11_driest_105 C E ht hn hX45 h)
theorem T_X11_driest_45 {X : CX} {Q : Int32 → HS → Prop} (C : Cx X cX11_driest RX11 10 rm_X11_driest) (E : ReI X rm_X11_driest Q) (ht : (xh X).sig.returnType = (some .int)) (hn : (xh X).name = yX11_driest.name) {v0 : Nat} {v1 : Int32} {v2 : Int32} {v3 : Int32} {v4 : Int32} {v5 : Int64} {v7 : Int32} {S : HS} (h : P_X11_driest_45 Q v0 v1 v2 v3 v4 v5 v7 S) : WS X 10 0 0 45 [(0, .ref v0), (1, .int v1), (2, .int v2), (3, .int v3), (4, .int v4), (5, .long v5), (7, .int v7)] [] S :=
  h (fun v0 v1 v2 v3 v4 v5 v7 S => WS X 10 0 0 45 [(0, .ref v0), (1, .int v1), (2, .int v2), (3, .int v3), (4, .int v4), (5, .long v5), (7, .int v7)] [] S) (fun v0 v1 v2 v3 v4 v5 v7 S hh => TB_X11_driest_45 C E ht hn (fun v0 v1 v2 v3 v4 v5 v7 S z => z) hh)
def P_X11_driest_0 (Q : Int32 → HS → Prop) (v0 : Nat) (v1 : Int32) (v2 : Int32) (v3 : Int32) (S : HS) : Prop := ob S v0 11 ∧ (∀ S1 : HS, S1 = sI S v0 0 (0 : Int32) → (P_X11_isWalker v0 v1 (fun x4 S2 => Gr S1 S2 → bl x4 → (((x4 = 0) → (P_X11_driest_30 Q v0 S2)) ∧ ((¬ x4 = 0) → (P_X11_isRoad v0 v2 (fun x8 S6 => Gr S2 S6 → bl x8 → (((x8 = 0) → (P_X11_driest_30 Q v0 S6)) ∧ ((¬ x8 = 0) → (P_X11_in v3 (0 : Int32) (1 : Int32) (fun x12 S10 => Gr S6 S10 → bl x12 → (((¬ x12 = 0) → (P_X11_driest_45 Q v0 v1 v2 v3 (-1 : Int32) (0 : Int64) (0 : Int32) S10)) ∧ ((x12 = 0) → (P_X11_driest_30 Q v0 S10)))) S6)))) S2)))) S1))
set_option maxRecDepth 20000 in
set_option maxHeartbeats 4000000 in
theorem T_X11_driest_0 {X : CX} {Q : Int32 → HS → Prop} (C : Cx X cX11_driest RX11 10 rm_X11_driest) (E : ReI X rm_X11_driest Q) (ht : (xh X).sig.returnType = (some .int)) (hn : (xh X).name = yX11_driest.name) {v0 : Nat} {v1 : Int32} {v2 : Int32} {v3 : Int32} {S : HS} (h : P_X11_driest_0 Q v0 v1 v2 v3 S) : WS X 10 0 0 0 [(0, .ref v0), (1, .int v1), (2, .int v2), (3, .int v3)] [] S := by
  refine r_aload_n (pc := 0) C dX11_driest_0 0 rfl ?_
  refine r_iconst (pc := 1) C (v := (0 : Int32)) dX11_driest_1 (by decide) ?_
  obtain ⟨o_v0, h⟩ := h
  refine r_puti (pc := 2) C pfL_X11_40 dX11_driest_2 o_v0 ?_
  refine r_heap (fun S1 eS1 => ?_)
  have h := h S1 eS1
  have o_v0 := ob_I eS1 o_v0
  refine r_aload_n (pc := 5) C dX11_driest_5 0 rfl ?_
  refine r_iload_n (pc := 6) C dX11_driest_6 1 rfl ?_
  refine r_callVi0 (pc := 7) C (rest := []) (a := v0) o_v0 [.int v1] yV_X11_isWalker g_1538 (c_X11_isWalker h) dX11_driest_7 rfl rfl (Nat.le_of_ble_eq_true rfl) ⟨by decide, by decide⟩ ⟨by decide, by decide⟩ ⟨rfl, rfl⟩ (fun x4 S2 h g3 => ?_)
  have bx4 := h.1
  have h := h.2 g3 bx4
  have o_v0 := gr_ob g3 o_v0
  refine r_if_eq (pc := 10) C (tgt := 30) dX11_driest_10 (by decide) (fun c5 => ?_) (fun c5 => ?_)
  · have h := h.1 c5
    exact r_sub [0] rfl (T_X11_driest_30 C E ht hn h)
  · have h := h.2 c5
    refine r_aload_n (pc := 13) C dX11_driest_13 0 rfl ?_
    refine r_iload_n (pc := 14) C dX11_driest_14 2 rfl ?_
    refine r_callVi0 (pc := 15) C (rest := []) (a := v0) o_v0 [.int v2] yV_X11_isRoad g_1542 (c_X11_isRoad h) dX11_driest_15 rfl rfl (Nat.le_of_ble_eq_true rfl) ⟨by decide, by decide⟩ ⟨by decide, by decide⟩ ⟨rfl, rfl⟩ (fun x8 S6 h g7 => ?_)
    have bx8 := h.1
    have h := h.2 g7 bx8
    have o_v0 := gr_ob g7 o_v0
    refine r_if_eq (pc := 18) C (tgt := 30) dX11_driest_18 (by decide) (fun c9 => ?_) (fun c9 => ?_)
    · have h := h.1 c9
      exact r_sub [0] rfl (T_X11_driest_30 C E ht hn h)
    · have h := h.2 c9
      refine r_iload_n (pc := 21) C dX11_driest_21 3 rfl ?_
      refine r_iconst (pc := 22) C (v := (0 : Int32)) dX11_driest_22 (by decide) ?_
      refine r_iconst (pc := 23) C (v := (1 : Int32)) dX11_driest_23 (by decide) ?_
      refine r_callSi0 (pc := 24) C (rest := []) rfl [.int v3, .int (0 : Int32), .int (1 : Int32)] yS_X11_in g_1434 (c_X11_in h) dX11_driest_24 rfl rfl (Nat.le_of_ble_eq_true rfl) ⟨by decide, by decide⟩ ⟨by decide, by decide⟩ ⟨rfl, rfl⟩ (fun x12 S10 h g11 => ?_)
      have bx12 := h.1
      have h := h.2 g11 bx12
      have o_v0 := gr_ob g11 o_v0
      refine r_if_ne (pc := 27) C (tgt := 36) dX11_driest_27 (by decide) (fun c13 => ?_) (fun c13 => ?_)
      · have h := h.1 c13
        refine r_iconst (pc := 36) C (v := (-1 : Int32)) dX11_driest_36 (by decide) ?_
        refine r_istore (pc := 37) C dX11_driest_37 (by decide) (lv' := [(4, .int (-1 : Int32)), (0, .ref v0), (1, .int v1), (2, .int v2), (3, .int v3)]) rfl ?_
        refine r_lconst (pc := 39) C (v := (0 : Int64)) dX11_driest_39 (by decide) ?_
        refine r_lstore (pc := 40) C dX11_driest_40 (by decide) (lv' := [(5, .long (0 : Int64)), (4, .int (-1 : Int32)), (0, .ref v0), (1, .int v1), (2, .int v2), (3, .int v3)]) rfl ?_
        refine r_iconst (pc := 42) C (v := (0 : Int32)) dX11_driest_42 (by decide) ?_
        refine r_istore (pc := 43) C dX11_driest_43 (by decide) (lv' := [(7, .int (0 : Int32)), (5, .long (0 : Int64)), (4, .int (-1 : Int32)), (0, .ref v0), (1, .int v1), (2, .int v2), (3, .int v3)]) rfl ?_
        exact r_sub [3, 4, 5, 6, 2, 1, 0] rfl (T_X11_driest_45 C E ht hn h)
      · have h := h.2 c13
        exact r_sub [0] rfl (T_X11_driest_30 C E ht hn h)
def P_X11_driest (v0 : Nat) (v1 : Int32) (v2 : Int32) (v3 : Int32) (Q : Int32 → HS → Prop) (S : HS) : Prop := P_X11_driest_0 Q v0 v1 v2 v3 S
theorem c_X11_driest {l : Launch} {Ee : EE} {S : HS} {v0 : Nat} {v1 : Int32} {v2 : Int32} {v3 : Int32} {Q : Int32 → HS → Prop} (h : P_X11_driest v0 v1 v2 v3 Q S) : MI l yX11_driest cX11_driest 10 (some .int) rm_X11_driest Ee S [.ref v0, .int v1, .int v2, .int v3] Q :=
  openI (by decide) (Nat.le_of_ble_eq_true rfl) (fun X C E ht hn hE hl => by subst hE; exact r_sub [0, 1, 2, 3] rfl (T_X11_driest_0 C E ht hn h))
def rm_X11_drips : Room := { frames := 1, cells := 0, slots := 0, locals := 21 }
def P_X11_drips_0 (Q : Int64 → HS → Prop) (v0 : Nat) (v1 : Int32) (v2 : Int32) (S : HS) : Prop := ob S v0 11 ∧ (∃ a1 : Nat, fR S v0 3 = some a1 ∧ (ob S a1 10 ∧ (∃ a2 : Nat, fR S a1 12 = some a2 ∧ (ob S a2 13 ∧ (vp_in v2 (hN S a2) ∧ ∀ x4 : Int32, x4 = fI S a2 v2.toNatClampNeg → (∃ a5 : Nat, fR S v0 3 = some a5 ∧ (ob S a5 10 ∧ (∃ a6 : Nat, fR S a5 21 = some a6 ∧ (ob S a6 13 ∧ (vp_in v1 (hN S a6) ∧ ∀ x8 : Int32, x8 = fI S a6 v1.toNatClampNeg → (∃ a9 : Nat, fR S v0 3 = some a9 ∧ (ob S a9 10 ∧ (P_X10_shield a9 v1 (fun x12 S10 => Gr S S10 → (P_X11_less x8 x12 (fun x15 S13 => Gr S10 S13 → (Q ((x4.toInt64 * x15.toInt64) * (2520 : Int64)) S13)) S10)) S)))))))))))))
set_option maxRecDepth 20000 in
set_option maxHeartbeats 4000000 in
theorem T_X11_drips_0 {X : CX} {Q : Int64 → HS → Prop} (C : Cx X cX11_drips RX11 3 rm_X11_drips) (E : ReJ X rm_X11_drips Q) (ht : (xh X).sig.returnType = (some .long)) (hn : (xh X).name = yX11_drips.name) {v0 : Nat} {v1 : Int32} {v2 : Int32} {S : HS} (h : P_X11_drips_0 Q v0 v1 v2 S) : WS X 3 0 0 0 [(0, .ref v0), (1, .int v1), (2, .int v2)] [] S := by
  refine r_aload_n (pc := 0) C dX11_drips_0 0 rfl ?_
  obtain ⟨o_v0, h⟩ := h
  obtain ⟨a1, ea1, h⟩ := h
  refine r_getr (pc := 1) C fL_X11_338 dX11_drips_1 o_v0 ea1 ?_
  obtain ⟨o_a1, h⟩ := h
  obtain ⟨a2, ea2, h⟩ := h
  refine r_getNr (pc := 4) C fN_X11_262 dX11_drips_4 o_a1 ea2 ?_
  refine r_iload_n (pc := 7) C dX11_drips_7 2 rfl ?_
  obtain ⟨o_a2, h⟩ := h
  obtain ⟨i3, h⟩ := h
  refine r_iald (pc := 8) C dX11_drips_8 o_a2 i3 ?_
  refine r_topi (fun x4 ex4 => ?_)
  have h := h x4 ex4
  refine r_i2l (pc := 9) C dX11_drips_9 ?_
  refine r_aload_n (pc := 10) C dX11_drips_10 0 rfl ?_
  obtain ⟨a5, ea5, h⟩ := h
  refine r_getr (pc := 11) C fL_X11_338 dX11_drips_11 o_v0 ea5 ?_
  obtain ⟨o_a5, h⟩ := h
  obtain ⟨a6, ea6, h⟩ := h
  refine r_getNr (pc := 14) C fN_X11_308 dX11_drips_14 o_a5 ea6 ?_
  refine r_iload_n (pc := 17) C dX11_drips_17 1 rfl ?_
  obtain ⟨o_a6, h⟩ := h
  obtain ⟨i7, h⟩ := h
  refine r_iald (pc := 18) C dX11_drips_18 o_a6 i7 ?_
  refine r_topi (fun x8 ex8 => ?_)
  have h := h x8 ex8
  refine r_aload_n (pc := 19) C dX11_drips_19 0 rfl ?_
  obtain ⟨a9, ea9, h⟩ := h
  refine r_getr (pc := 20) C fL_X11_338 dX11_drips_20 o_v0 ea9 ?_
  refine r_iload_n (pc := 23) C dX11_drips_23 1 rfl ?_
  obtain ⟨o_a9, h⟩ := h
  refine r_callVi0 (pc := 24) C (rest := [.int x8, .long x4.toInt64]) (a := a9) o_a9 [.int v1] yV_X10_shield g_1578 (c_X10_shield h) dX11_drips_24 rfl rfl (Nat.le_of_ble_eq_true rfl) ⟨by decide, by decide⟩ ⟨by decide, by decide⟩ ⟨rfl, rfl⟩ (fun x12 S10 h g11 => ?_)
  have h := h g11
  have o_a1 := gr_ob g11 o_a1
  have o_a2 := gr_ob g11 o_a2
  have o_a5 := gr_ob g11 o_a5
  have o_a6 := gr_ob g11 o_a6
  have o_a9 := gr_ob g11 o_a9
  have o_v0 := gr_ob g11 o_v0
  refine r_callSi0 (pc := 27) C (rest := [.long x4.toInt64]) rfl [.int x8, .int x12] yS_X11_less g_1582 (c_X11_less h) dX11_drips_27 rfl rfl (Nat.le_of_ble_eq_true rfl) ⟨by decide, by decide⟩ ⟨by decide, by decide⟩ ⟨rfl, rfl⟩ (fun x15 S13 h g14 => ?_)
  have h := h g14
  have o_a1 := gr_ob g14 o_a1
  have o_a2 := gr_ob g14 o_a2
  have o_a5 := gr_ob g14 o_a5
  have o_a6 := gr_ob g14 o_a6
  have o_a9 := gr_ob g14 o_a9
  have o_v0 := gr_ob g14 o_v0
  refine r_i2l (pc := 30) C dX11_drips_30 ?_
  refine r_lmul (pc := 31) C dX11_drips_31 ?_
  refine r_ldc2 (pc := 32) C (v := (2520 : Int64)) dX11_drips_32 g_1585 ?_
  refine r_lmul (pc := 35) C dX11_drips_35 ?_
  exact r_lret (pc := 36) C E ht dX11_drips_36 (by decide) (by decide) h
def P_X11_drips (v0 : Nat) (v1 : Int32) (v2 : Int32) (Q : Int64 → HS → Prop) (S : HS) : Prop := P_X11_drips_0 Q v0 v1 v2 S
theorem c_X11_drips {l : Launch} {Ee : EE} {S : HS} {v0 : Nat} {v1 : Int32} {v2 : Int32} {Q : Int64 → HS → Prop} (h : P_X11_drips v0 v1 v2 Q S) : MJ l yX11_drips cX11_drips 3 (some .long) rm_X11_drips Ee S [.ref v0, .int v1, .int v2] Q :=
  openJ (by decide) (Nat.le_of_ble_eq_true rfl) (fun X C E ht hn hE hl => by subst hE; exact r_sub [0, 1, 2] rfl (T_X11_drips_0 C E ht hn h))
def rm_X11_eatsSign : Room := { frames := 2, cells := 0, slots := 0, locals := 43 }
def P_X11_eatsSign_21 (Q : Int32 → HS → Prop) (v0 : Nat) (s0 : Int32) (S : HS) : Prop := ((s0 = 0) → (bl s0 ∧ Q s0 S)) ∧ ((¬ s0 = 0) → (ob S v0 11 ∧ (P_X11_goesOn v0 (fun S2 => Gr S S2 → (bl s0 ∧ Q s0 S2)) S)))
set_option maxRecDepth 20000 in
set_option maxHeartbeats 4000000 in
theorem T_X11_eatsSign_21 {X : CX} {Q : Int32 → HS → Prop} (C : Cx X cX11_eatsSign RX11 3 rm_X11_eatsSign) (E : ReI X rm_X11_eatsSign (fun r S => bl r ∧ Q r S)) (ht : (xh X).sig.returnType = (some .boolean)) (hn : (xh X).name = yX11_eatsSign.name) {v0 : Nat} {s0 : Int32} {S : HS} (h : P_X11_eatsSign_21 Q v0 s0 S) : WS X 3 0 0 21 [(0, .ref v0)] [.int s0] S := by
  refine r_istore_n (pc := 21) C dX11_eatsSign_21 rfl (by decide) (lv' := [(2, .int s0), (0, .ref v0)]) rfl ?_
  refine r_iload_n (pc := 22) C dX11_eatsSign_22 0 rfl ?_
  refine r_if_eq (pc := 23) C (tgt := 30) dX11_eatsSign_23 (by decide) (fun c1 => ?_) (fun c1 => ?_)
  · have h := h.1 c1
    refine r_iload_n (pc := 30) C dX11_eatsSign_30 0 rfl ?_
    exact r_zret (pc := 31) C E ht dX11_eatsSign_31 (by decide) (by decide) h.1 h.2
  · have h := h.2 c1
    refine r_aload_n (pc := 26) C dX11_eatsSign_26 1 rfl ?_
    obtain ⟨o_v0, h⟩ := h
    refine r_callVv0 (pc := 27) C (rest := []) (a := v0) o_v0 [] yV_X11_goesOn g_1380 (c_X11_goesOn h) dX11_eatsSign_27 rfl rfl (Nat.le_of_ble_eq_true rfl) ⟨by decide, by decide⟩ ⟨by decide, by decide⟩ ⟨rfl, rfl⟩ (fun S2 h g3 => ?_)
    have h := h g3
    have o_v0 := gr_ob g3 o_v0
    refine r_iload_n (pc := 30) C dX11_eatsSign_30 0 rfl ?_
    exact r_zret (pc := 31) C E ht dX11_eatsSign_31 (by decide) (by decide) h.1 h.2
def P_X11_eatsSign_20 (Q : Int32 → HS → Prop) (v0 : Nat) (S : HS) : Prop := P_X11_eatsSign_21 Q v0 (0 : Int32) S
set_option maxRecDepth 20000 in
set_option maxHeartbeats 4000000 in
theorem T_X11_eatsSign_20 {X : CX} {Q : Int32 → HS → Prop} (C : Cx X cX11_eatsSign RX11 3 rm_X11_eatsSign) (E : ReI X rm_X11_eatsSign (fun r S => bl r ∧ Q r S)) (ht : (xh X).sig.returnType = (some .boolean)) (hn : (xh X).name = yX11_eatsSign.name) {v0 : Nat} {S : HS} (h : P_X11_eatsSign_20 Q v0 S) : WS X 3 0 0 20 [(0, .ref v0)] [] S := by
  refine r_iconst (pc := 20) C (v := (0 : Int32)) dX11_eatsSign_20 (by decide) ?_
  exact r_sub [0] rfl (T_X11_eatsSign_21 C E ht hn h)
def P_X11_eatsSign_0 (Q : Int32 → HS → Prop) (v0 : Nat) (v1 : Int32) (S : HS) : Prop := ob S v0 11 ∧ (∀ x1 : Int32, x1 = fI S v0 9 → (((¬ x1 = (4 : Int32)) → (P_X11_eatsSign_20 Q v0 S)) ∧ ((x1 = (4 : Int32)) → (∀ x3 : Int32, x3 = fI S v0 11 → (((¬ x3 = v1) → (P_X11_eatsSign_20 Q v0 S)) ∧ ((x3 = v1) → (P_X11_eatsSign_21 Q v0 (1 : Int32) S)))))))
set_option maxRecDepth 20000 in
set_option maxHeartbeats 4000000 in
theorem T_X11_eatsSign_0 {X : CX} {Q : Int32 → HS → Prop} (C : Cx X cX11_eatsSign RX11 3 rm_X11_eatsSign) (E : ReI X rm_X11_eatsSign (fun r S => bl r ∧ Q r S)) (ht : (xh X).sig.returnType = (some .boolean)) (hn : (xh X).name = yX11_eatsSign.name) {v0 : Nat} {v1 : Int32} {S : HS} (h : P_X11_eatsSign_0 Q v0 v1 S) : WS X 3 0 0 0 [(0, .ref v0), (1, .int v1)] [] S := by
  refine r_aload_n (pc := 0) C dX11_eatsSign_0 0 rfl ?_
  obtain ⟨o_v0, h⟩ := h
  refine r_geti (pc := 1) C fL_X11_68 dX11_eatsSign_1 o_v0 ?_
  refine r_topi (fun x1 ex1 => ?_)
  have h := h x1 ex1
  refine r_iconst (pc := 4) C (v := (4 : Int32)) dX11_eatsSign_4 (by decide) ?_
  refine r_icmp_ne (pc := 5) C (tgt := 20) dX11_eatsSign_5 (by decide) (fun c2 => ?_) (fun c2 => ?_)
  · have h := h.1 c2
    exact r_sub [0] rfl (T_X11_eatsSign_20 C E ht hn h)
  · have h := h.2 c2
    refine r_aload_n (pc := 8) C dX11_eatsSign_8 0 rfl ?_
    refine r_geti (pc := 9) C fL_X11_80 dX11_eatsSign_9 o_v0 ?_
    refine r_topi (fun x3 ex3 => ?_)
    have h := h x3 ex3
    refine r_iload_n (pc := 12) C dX11_eatsSign_12 1 rfl ?_
    refine r_icmp_ne (pc := 13) C (tgt := 20) dX11_eatsSign_13 (by decide) (fun c4 => ?_) (fun c4 => ?_)
    · have h := h.1 c4
      exact r_sub [0] rfl (T_X11_eatsSign_20 C E ht hn h)
    · have h := h.2 c4
      refine r_iconst (pc := 16) C (v := (1 : Int32)) dX11_eatsSign_16 (by decide) ?_
      refine r_goto (pc := 17) C (tgt := 21) dX11_eatsSign_17 (by decide) ?_
      exact r_sub [0] rfl (T_X11_eatsSign_21 C E ht hn h)
def P_X11_eatsSign (v0 : Nat) (v1 : Int32) (Q : Int32 → HS → Prop) (S : HS) : Prop := P_X11_eatsSign_0 Q v0 v1 S
theorem c_X11_eatsSign {l : Launch} {Ee : EE} {S : HS} {v0 : Nat} {v1 : Int32} {Q : Int32 → HS → Prop} (h : P_X11_eatsSign v0 v1 Q S) : MI l yX11_eatsSign cX11_eatsSign 3 (some .boolean) rm_X11_eatsSign Ee S [.ref v0, .int v1] (fun r S => bl r ∧ Q r S) :=
  openI (by decide) (Nat.le_of_ble_eq_true rfl) (fun X C E ht hn hE hl => by subst hE; exact r_sub [0, 1] rfl (T_X11_eatsSign_0 C E ht hn h))
def rm_X11_wordOf : Room := { frames := 5, cells := 0, slots := 0, locals := 120 }
def B_X11_wordOf_4 (Q : Int64 → HS → Prop) (X4 : Nat → Int64 → Int32 → HS → Prop) (v0 : Nat) (v1 : Int64) (v3 : Int32) (S : HS) : Prop := v0 < 54 ∧ ∀ x1 : Int32, x1 = nI (sLen.getD v0 0) → (((x1 ≤ v3) → (Q v1 S)) ∧ ((¬ x1 ≤ v3) → (v0 < 54 ∧ vp_in v3 (sLen.getD v0 0) ∧ ∀ x3 : Int32, x3 = sch v0 v3 → (∀ x4 : Int64, x4 = ((32 : Int64) * v1) + (((x3 - (97 : Int32)) + (1 : Int32)).toInt64) → (∀ x5 : Int32, x5 = v3 + (1 : Int32) → (X4 v0 x4 x5 S))))))
def P_X11_wordOf_4 (Q : Int64 → HS → Prop) (v0 : Nat) (v1 : Int64) (v3 : Int32) (S : HS) : Prop := ∀ X4 : Nat → Int64 → Int32 → HS → Prop, (∀ (v0 : Nat) (v1 : Int64) (v3 : Int32) (S : HS), B_X11_wordOf_4 Q X4 v0 v1 v3 S → X4 v0 v1 v3 S) → X4 v0 v1 v3 S
set_option maxRecDepth 20000 in
set_option maxHeartbeats 4000000 in
theorem TB_X11_wordOf_4 {X : CX} {Q : Int64 → HS → Prop} (C : Cx X cX11_wordOf RX11 4 rm_X11_wordOf) (E : ReJ X rm_X11_wordOf Q) (ht : (xh X).sig.returnType = (some .long)) (hn : (xh X).name = yX11_wordOf.name) {X4 : Nat → Int64 → Int32 → HS → Prop} (hX4 : ∀ (v0 : Nat) (v1 : Int64) (v3 : Int32) (S : HS), X4 v0 v1 v3 S → WS X 4 0 0 4 [(0, .ref (eK (xE X) v0)), (1, .long v1), (3, .int v3)] [] S) {v0 : Nat} {v1 : Int64} {v3 : Int32} {S : HS} (h : B_X11_wordOf_4 Q X4 v0 v1 v3 S) : WS X 4 0 0 4 [(0, .ref (eK (xE X) v0)), (1, .long v1), (3, .int v3)] [] S := by
  refine r_iload_n (pc := 4) C dX11_wordOf_4 2 rfl ?_
  refine r_aload_n (pc := 5) C dX11_wordOf_5 0 rfl ?_
  obtain ⟨hw, h⟩ := h
  refine r_slen (pc := 6) C g_1411 dX11_wordOf_6 hw (by decide) (by decide) (by decide) (by decide) (Nat.le_of_ble_eq_true rfl) ?_
  refine r_topi (fun x1 ex1 => ?_)
  have h := h x1 ex1
  refine r_icmp_ge (pc := 9) C (tgt := 36) dX11_wordOf_9 (by decide) (fun c2 => ?_) (fun c2 => ?_)
  · have h := h.1 c2
    refine r_lload_n (pc := 36) C dX11_wordOf_36 1 rfl ?_
    exact r_lret (pc := 37) C E ht dX11_wordOf_37 (by decide) (by decide) h
  · have h := h.2 c2
    refine r_ldc2 (pc := 12) C (v := (32 : Int64)) dX11_wordOf_12 g_1391 ?_
    refine r_lload_n (pc := 15) C dX11_wordOf_15 1 rfl ?_
    refine r_lmul (pc := 16) C dX11_wordOf_16 ?_
    refine r_aload_n (pc := 17) C dX11_wordOf_17 0 rfl ?_
    refine r_iload_n (pc := 18) C dX11_wordOf_18 2 rfl ?_
    obtain ⟨hw, hw2, h⟩ := h
    refine r_schar (pc := 19) C g_1412 dX11_wordOf_19 hw hw2 (by decide) (by decide) (by decide) (by decide) (Nat.le_of_ble_eq_true rfl) ?_
    refine r_topi (fun x3 ex3 => ?_)
    have h := h x3 ex3
    refine r_bipush (pc := 22) C (v := (97 : Int32)) dX11_wordOf_22 (by decide) ?_
    refine r_isub (pc := 24) C dX11_wordOf_24 ?_
    refine r_iconst (pc := 25) C (v := (1 : Int32)) dX11_wordOf_25 (by decide) ?_
    refine r_iadd (pc := 26) C dX11_wordOf_26 ?_
    refine r_i2l (pc := 27) C dX11_wordOf_27 ?_
    refine r_ladd (pc := 28) C dX11_wordOf_28 ?_
    refine r_topl (fun x4 ex4 => ?_)
    have h := h x4 ex4
    refine r_lstore_n (pc := 29) C dX11_wordOf_29 rfl (by decide) (lv' := [(1, .long x4), (0, .ref (eK (xE X) v0)), (3, .int v3)]) rfl ?_
    obtain ⟨x5, ex5⟩ : ∃ z : Int32, z = v3 + (1 : Int32) := ⟨_, rfl⟩
    have h := h x5 ex5
    refine r_iinc (pc := 30) C (v := x5) (lv' := [(3, .int x5), (1, .long x4), (0, .ref (eK (xE X) v0))]) dX11_wordOf_30 2 rfl ex5.symm (by decide) rfl ?_
    refine r_goto (pc := 33) C (tgt := 4) dX11_wordOf_33 (by decide) ?_
    exact r_sub [2, 1, 0] rfl (hX4 v0 x4 x5 S h)
theorem T_X11_wordOf_4 {X : CX} {Q : Int64 → HS → Prop} (C : Cx X cX11_wordOf RX11 4 rm_X11_wordOf) (E : ReJ X rm_X11_wordOf Q) (ht : (xh X).sig.returnType = (some .long)) (hn : (xh X).name = yX11_wordOf.name) {v0 : Nat} {v1 : Int64} {v3 : Int32} {S : HS} (h : P_X11_wordOf_4 Q v0 v1 v3 S) : WS X 4 0 0 4 [(0, .ref (eK (xE X) v0)), (1, .long v1), (3, .int v3)] [] S :=
  h (fun v0 v1 v3 S => WS X 4 0 0 4 [(0, .ref (eK (xE X) v0)), (1, .long v1), (3, .int v3)] [] S) (fun v0 v1 v3 S hh => TB_X11_wordOf_4 C E ht hn (fun v0 v1 v3 S z => z) hh)
def P_X11_wordOf_0 (Q : Int64 → HS → Prop) (v0 : Nat) (S : HS) : Prop := P_X11_wordOf_4 Q v0 (0 : Int64) (0 : Int32) S
set_option maxRecDepth 20000 in
set_option maxHeartbeats 4000000 in
theorem T_X11_wordOf_0 {X : CX} {Q : Int64 → HS → Prop} (C : Cx X cX11_wordOf RX11 4 rm_X11_wordOf) (E : ReJ X rm_X11_wordOf Q) (ht : (xh X).sig.returnType = (some .long)) (hn : (xh X).name = yX11_wordOf.name) {v0 : Nat} {S : HS} (h : P_X11_wordOf_0 Q v0 S) : WS X 4 0 0 0 [(0, .ref (eK (xE X) v0))] [] S := by
  refine r_lconst (pc := 0) C (v := (0 : Int64)) dX11_wordOf_0 (by decide) ?_
  refine r_lstore_n (pc := 1) C dX11_wordOf_1 rfl (by decide) (lv' := [(1, .long (0 : Int64)), (0, .ref (eK (xE X) v0))]) rfl ?_
  refine r_iconst (pc := 2) C (v := (0 : Int32)) dX11_wordOf_2 (by decide) ?_
  refine r_istore_n (pc := 3) C dX11_wordOf_3 rfl (by decide) (lv' := [(3, .int (0 : Int32)), (1, .long (0 : Int64)), (0, .ref (eK (xE X) v0))]) rfl ?_
  exact r_sub [2, 1, 0] rfl (T_X11_wordOf_4 C E ht hn h)
def P_X11_wordOf (v0 : Nat) (Q : Int64 → HS → Prop) (S : HS) : Prop := P_X11_wordOf_0 Q v0 S
theorem c_X11_wordOf {l : Launch} {Ee : EE} {S : HS} {v0 : Nat} {Q : Int64 → HS → Prop} (h : P_X11_wordOf v0 Q S) : MJ l yX11_wordOf cX11_wordOf 4 (some .long) rm_X11_wordOf Ee S [.ref (eK Ee v0)] Q :=
  openJ (by decide) (Nat.le_of_ble_eq_true rfl) (fun X C E ht hn hE hl => by subst hE; exact r_sub [0] rfl (T_X11_wordOf_0 C E ht hn h))
def rm_X11_isWord : Room := { frames := 6, cells := 0, slots := 0, locals := 143 }
def P_X11_isWord_0 (Q : Int32 → HS → Prop) (v0 : Nat) (v1 : Nat) (S : HS) : Prop := ob S v0 11 ∧ (∀ x1 : Int32, x1 = fI S v0 9 → (((¬ x1 = (2 : Int32)) → (Q (0 : Int32) S)) ∧ ((x1 = (2 : Int32)) → (∀ x3 : Int64, x3 = fJ S v0 15 → (P_X11_wordOf v1 (fun x6 S4 => Gr S S4 → (((¬ (lg_cmp x3 x6) = 0) → (Q (0 : Int32) S4)) ∧ (((lg_cmp x3 x6) = 0) → (Q (1 : Int32) S4)))) S)))))
set_option maxRecDepth 20000 in
set_option maxHeartbeats 4000000 in
theorem T_X11_isWord_0 {X : CX} {Q : Int32 → HS → Prop} (C : Cx X cX11_isWord RX11 2 rm_X11_isWord) (E : ReI X rm_X11_isWord (fun r S => bl r ∧ Q r S)) (ht : (xh X).sig.returnType = (some .boolean)) (hn : (xh X).name = yX11_isWord.name) {v0 : Nat} {v1 : Nat} {S : HS} (h : P_X11_isWord_0 Q v0 v1 S) : WS X 2 0 0 0 [(0, .ref v0), (1, .ref (eK (xE X) v1))] [] S := by
  refine r_aload_n (pc := 0) C dX11_isWord_0 0 rfl ?_
  obtain ⟨o_v0, h⟩ := h
  refine r_geti (pc := 1) C fL_X11_68 dX11_isWord_1 o_v0 ?_
  refine r_topi (fun x1 ex1 => ?_)
  have h := h x1 ex1
  refine r_iconst (pc := 4) C (v := (2 : Int32)) dX11_isWord_4 (by decide) ?_
  refine r_icmp_ne (pc := 5) C (tgt := 24) dX11_isWord_5 (by decide) (fun c2 => ?_) (fun c2 => ?_)
  · have h := h.1 c2
    refine r_iconst (pc := 24) C (v := (0 : Int32)) dX11_isWord_24 (by decide) ?_
    exact r_zret (pc := 25) C E ht dX11_isWord_25 (by decide) (by decide) (Or.inl rfl) h
  · have h := h.2 c2
    refine r_aload_n (pc := 8) C dX11_isWord_8 0 rfl ?_
    refine r_getl (pc := 9) C fL_X11_87 dX11_isWord_9 o_v0 ?_
    refine r_topl (fun x3 ex3 => ?_)
    have h := h x3 ex3
    refine r_aload_n (pc := 12) C dX11_isWord_12 1 rfl ?_
    refine r_callSl0 (pc := 13) C (rest := [.long x3]) rfl [.ref (eK (xE X) v1)] yS_X11_wordOf g_1408 (c_X11_wordOf h) dX11_isWord_13 rfl rfl (Nat.le_of_ble_eq_true rfl) ⟨by decide, by decide⟩ ⟨by decide, by decide⟩ ⟨rfl, rfl⟩ (fun x6 S4 h g5 => ?_)
    have h := h g5
    have o_v0 := gr_ob g5 o_v0
    refine r_lcmp (pc := 16) C dX11_isWord_16 ?_
    refine r_if_ne (pc := 17) C (tgt := 24) dX11_isWord_17 (by decide) (fun c7 => ?_) (fun c7 => ?_)
    · have h := h.1 c7
      refine r_iconst (pc := 24) C (v := (0 : Int32)) dX11_isWord_24 (by decide) ?_
      exact r_zret (pc := 25) C E ht dX11_isWord_25 (by decide) (by decide) (Or.inl rfl) h
    · have h := h.2 c7
      refine r_iconst (pc := 20) C (v := (1 : Int32)) dX11_isWord_20 (by decide) ?_
      refine r_goto (pc := 21) C (tgt := 25) dX11_isWord_21 (by decide) ?_
      exact r_zret (pc := 25) C E ht dX11_isWord_25 (by decide) (by decide) (Or.inr rfl) h
def P_X11_isWord (v0 : Nat) (v1 : Nat) (Q : Int32 → HS → Prop) (S : HS) : Prop := P_X11_isWord_0 Q v0 v1 S
theorem c_X11_isWord {l : Launch} {Ee : EE} {S : HS} {v0 : Nat} {v1 : Nat} {Q : Int32 → HS → Prop} (h : P_X11_isWord v0 v1 Q S) : MI l yX11_isWord cX11_isWord 2 (some .boolean) rm_X11_isWord Ee S [.ref v0, .ref (eK Ee v1)] (fun r S => bl r ∧ Q r S) :=
  openI (by decide) (Nat.le_of_ble_eq_true rfl) (fun X C E ht hn hE hl => by subst hE; exact r_sub [0, 1] rfl (T_X11_isWord_0 C E ht hn h))
def rm_X11_eatsWord : Room := { frames := 7, cells := 0, slots := 0, locals := 164 }
def P_X11_eatsWord_0 (Q : Int32 → HS → Prop) (v0 : Nat) (v1 : Nat) (S : HS) : Prop := ob S v0 11 ∧ (P_X11_isWord v0 v1 (fun x3 S1 => Gr S S1 → bl x3 → (((x3 = 0) → (bl x3 ∧ Q x3 S1)) ∧ ((¬ x3 = 0) → (P_X11_goesOn v0 (fun S5 => Gr S1 S5 → (bl x3 ∧ Q x3 S5)) S1)))) S)
set_option maxRecDepth 20000 in
set_option maxHeartbeats 4000000 in
theorem T_X11_eatsWord_0 {X : CX} {Q : Int32 → HS → Prop} (C : Cx X cX11_eatsWord RX11 3 rm_X11_eatsWord) (E : ReI X rm_X11_eatsWord (fun r S => bl r ∧ Q r S)) (ht : (xh X).sig.returnType = (some .boolean)) (hn : (xh X).name = yX11_eatsWord.name) {v0 : Nat} {v1 : Nat} {S : HS} (h : P_X11_eatsWord_0 Q v0 v1 S) : WS X 3 0 0 0 [(0, .ref v0), (1, .ref (eK (xE X) v1))] [] S := by
  refine r_aload_n (pc := 0) C dX11_eatsWord_0 0 rfl ?_
  refine r_aload_n (pc := 1) C dX11_eatsWord_1 1 rfl ?_
  obtain ⟨o_v0, h⟩ := h
  refine r_callVi0 (pc := 2) C (rest := []) (a := v0) o_v0 [.ref (eK (xE X) v1)] yV_X11_isWord g_1404 (c_X11_isWord h) dX11_eatsWord_2 rfl rfl (Nat.le_of_ble_eq_true rfl) ⟨by decide, by decide⟩ ⟨by decide, by decide⟩ ⟨rfl, rfl⟩ (fun x3 S1 h g2 => ?_)
  have bx3 := h.1
  have h := h.2 g2 bx3
  have o_v0 := gr_ob g2 o_v0
  refine r_istore_n (pc := 5) C dX11_eatsWord_5 rfl (by decide) (lv' := [(2, .int x3), (0, .ref v0), (1, .ref (eK (xE X) v1))]) rfl ?_
  refine r_iload_n (pc := 6) C dX11_eatsWord_6 0 rfl ?_
  refine r_if_eq (pc := 7) C (tgt := 14) dX11_eatsWord_7 (by decide) (fun c4 => ?_) (fun c4 => ?_)
  · have h := h.1 c4
    refine r_iload_n (pc := 14) C dX11_eatsWord_14 0 rfl ?_
    exact r_zret (pc := 15) C E ht dX11_eatsWord_15 (by decide) (by decide) h.1 h.2
  · have h := h.2 c4
    refine r_aload_n (pc := 10) C dX11_eatsWord_10 1 rfl ?_
    refine r_callVv0 (pc := 11) C (rest := []) (a := v0) o_v0 [] yV_X11_goesOn g_1380 (c_X11_goesOn h) dX11_eatsWord_11 rfl rfl (Nat.le_of_ble_eq_true rfl) ⟨by decide, by decide⟩ ⟨by decide, by decide⟩ ⟨rfl, rfl⟩ (fun S5 h g6 => ?_)
    have h := h g6
    have o_v0 := gr_ob g6 o_v0
    refine r_iload_n (pc := 14) C dX11_eatsWord_14 0 rfl ?_
    exact r_zret (pc := 15) C E ht dX11_eatsWord_15 (by decide) (by decide) h.1 h.2
def P_X11_eatsWord (v0 : Nat) (v1 : Nat) (Q : Int32 → HS → Prop) (S : HS) : Prop := P_X11_eatsWord_0 Q v0 v1 S
theorem c_X11_eatsWord {l : Launch} {Ee : EE} {S : HS} {v0 : Nat} {v1 : Nat} {Q : Int32 → HS → Prop} (h : P_X11_eatsWord v0 v1 Q S) : MI l yX11_eatsWord cX11_eatsWord 3 (some .boolean) rm_X11_eatsWord Ee S [.ref v0, .ref (eK Ee v1)] (fun r S => bl r ∧ Q r S) :=
  openI (by decide) (Nat.le_of_ble_eq_true rfl) (fun X C E ht hn hE hl => by subst hE; exact r_sub [0, 1] rfl (T_X11_eatsWord_0 C E ht hn h))
def rm_X11_even : Room := { frames := 6, cells := 0, slots := 0, locals := 163 }
def P_X11_even_39 (Q : Int32 → HS → Prop) (v0 : Nat) (S : HS) : Prop := ob S v0 11 ∧ (P_X11_refused v0 (1 : Int32) (fun x3 S1 => Gr S S1 → (Q x3 S1)) S)
set_option maxRecDepth 20000 in
set_option maxHeartbeats 4000000 in
theorem T_X11_even_39 {X : CX} {Q : Int32 → HS → Prop} (C : Cx X cX11_even RX11 7 rm_X11_even) (E : ReI X rm_X11_even Q) (ht : (xh X).sig.returnType = (some .int)) (hn : (xh X).name = yX11_even.name) {v0 : Nat} {S : HS} (h : P_X11_even_39 Q v0 S) : WS X 7 0 0 39 [(0, .ref v0)] [] S := by
  refine r_aload_n (pc := 39) C dX11_even_39 0 rfl ?_
  refine r_iconst (pc := 40) C (v := (1 : Int32)) dX11_even_40 (by decide) ?_
  obtain ⟨o_v0, h⟩ := h
  refine r_callVi0 (pc := 41) C (rest := []) (a := v0) o_v0 [.int (1 : Int32)] yV_X11_refused g_1250 (c_X11_refused h) dX11_even_41 rfl rfl (Nat.le_of_ble_eq_true rfl) ⟨by decide, by decide⟩ ⟨by decide, by decide⟩ ⟨rfl, rfl⟩ (fun x3 S1 h g2 => ?_)
  have h := h g2
  have o_v0 := gr_ob g2 o_v0
  exact r_iret (pc := 44) C E ht dX11_even_44 (by decide) (by decide) h
def P_X11_even_111 (Q : Int32 → HS → Prop) (X59 : Nat → Int32 → Int32 → Int32 → Int32 → Int32 → Int32 → HS → Prop) (v0 : Nat) (v1 : Int32) (v2 : Int32) (v3 : Int32) (v4 : Int32) (v6 : Int32) (s0 : Int32) (S : HS) : Prop := ∀ x1 : Int32, x1 = v6 + (1 : Int32) → (X59 v0 v1 v2 v3 v4 s0 x1 S)
set_option maxRecDepth 20000 in
set_option maxHeartbeats 4000000 in
theorem T_X11_even_111 {X : CX} {Q : Int32 → HS → Prop} (C : Cx X cX11_even RX11 7 rm_X11_even) (E : ReI X rm_X11_even Q) (ht : (xh X).sig.returnType = (some .int)) (hn : (xh X).name = yX11_even.name) {X59 : Nat → Int32 → Int32 → Int32 → Int32 → Int32 → Int32 → HS → Prop} (hX59 : ∀ (v0 : Nat) (v1 : Int32) (v2 : Int32) (v3 : Int32) (v4 : Int32) (v5 : Int32) (v6 : Int32) (S : HS), X59 v0 v1 v2 v3 v4 v5 v6 S → WS X 7 0 0 59 [(0, .ref v0), (1, .int v1), (2, .int v2), (3, .int v3), (4, .int v4), (5, .int v5), (6, .int v6)] [] S) {v0 : Nat} {v1 : Int32} {v2 : Int32} {v3 : Int32} {v4 : Int32} {v6 : Int32} {s0 : Int32} {S : HS} (h : P_X11_even_111 Q X59 v0 v1 v2 v3 v4 v6 s0 S) : WS X 7 0 0 111 [(0, .ref v0), (1, .int v1), (2, .int v2), (3, .int v3), (4, .int v4), (6, .int v6)] [.int s0] S := by
  refine r_istore (pc := 111) C dX11_even_111 (by decide) (lv' := [(5, .int s0), (0, .ref v0), (1, .int v1), (2, .int v2), (3, .int v3), (4, .int v4), (6, .int v6)]) rfl ?_
  obtain ⟨x1, ex1⟩ : ∃ z : Int32, z = v6 + (1 : Int32) := ⟨_, rfl⟩
  have h := h x1 ex1
  refine r_iinc (pc := 113) C (v := x1) (lv' := [(6, .int x1), (5, .int s0), (0, .ref v0), (1, .int v1), (2, .int v2), (3, .int v3), (4, .int v4)]) dX11_even_113 6 rfl ex1.symm (by decide) rfl ?_
  refine r_goto (pc := 116) C (tgt := 59) dX11_even_116 (by decide) ?_
  exact r_sub [2, 3, 4, 5, 6, 1, 0] rfl (hX59 v0 v1 v2 v3 v4 s0 x1 S h)
def P_X11_even_110 (Q : Int32 → HS → Prop) (X59 : Nat → Int32 → Int32 → Int32 → Int32 → Int32 → Int32 → HS → Prop) (v0 : Nat) (v1 : Int32) (v2 : Int32) (v3 : Int32) (v4 : Int32) (v6 : Int32) (S : HS) : Prop := P_X11_even_111 Q X59 v0 v1 v2 v3 v4 v6 (0 : Int32) S
set_option maxRecDepth 20000 in
set_option maxHeartbeats 4000000 in
theorem T_X11_even_110 {X : CX} {Q : Int32 → HS → Prop} (C : Cx X cX11_even RX11 7 rm_X11_even) (E : ReI X rm_X11_even Q) (ht : (xh X).sig.returnType = (some .int)) (hn : (xh X).name = yX11_even.name) {X59 : Nat → Int32 → Int32 → Int32 → Int32 → Int32 → Int32 → HS → Prop} (hX59 : ∀ (v0 : Nat) (v1 : Int32) (v2 : Int32) (v3 : Int32) (v4 : Int32) (v5 : Int32) (v6 : Int32) (S : HS), X59 v0 v1 v2 v3 v4 v5 v6 S → WS X 7 0 0 59 [(0, .ref v0), (1, .int v1), (2, .int v2), (3, .int v3), (4, .int v4), (5, .int v5), (6, .int v6)] [] S) {v0 : Nat} {v1 : Int32} {v2 : Int32} {v3 : Int32} {v4 : Int32} {v6 : Int32} {S : HS} (h : P_X11_even_110 Q X59 v0 v1 v2 v3 v4 v6 S) : WS X 7 0 0 110 [(0, .ref v0), (1, .int v1), (2, .int v2), (3, .int v3), (4, .int v4), (6, .int v6)] [] S := by
  refine r_iconst (pc := 110) C (v := (0 : Int32)) dX11_even_110 (by decide) ?_
  exact r_sub [0, 1, 2, 3, 4, 5] rfl (T_X11_even_111 C E ht hn hX59 h)
def P_X11_even_130 (Q : Int32 → HS → Prop) (s0 : Nat) (s1 : Int32) (S : HS) : Prop := ob S s0 11 ∧ (P_X11_good s0 s1 (fun x3 S1 => Gr S S1 → (Q x3 S1)) S)
set_option maxRecDepth 20000 in
set_option maxHeartbeats 4000000 in
theorem T_X11_even_130 {X : CX} {Q : Int32 → HS → Prop} (C : Cx X cX11_even RX11 7 rm_X11_even) (E : ReI X rm_X11_even Q) (ht : (xh X).sig.returnType = (some .int)) (hn : (xh X).name = yX11_even.name) {s0 : Nat} {s1 : Int32} {S : HS} (h : P_X11_even_130 Q s0 s1 S) : WS X 7 0 0 130 [] [.int s1, .ref s0] S := by
  obtain ⟨o_s0, h⟩ := h
  refine r_callVi0 (pc := 130) C (rest := []) (a := s0) o_s0 [.int s1] yV_X11_good g_1518 (c_X11_good h) dX11_even_130 rfl rfl (Nat.le_of_ble_eq_true rfl) ⟨by decide, by decide⟩ ⟨by decide, by decide⟩ ⟨rfl, rfl⟩ (fun x3 S1 h g2 => ?_)
  have h := h g2
  have o_s0 := gr_ob g2 o_s0
  exact r_iret (pc := 133) C E ht dX11_even_133 (by decide) (by decide) h
def B_X11_even_59 (Q : Int32 → HS → Prop) (X59 : Nat → Int32 → Int32 → Int32 → Int32 → Int32 → Int32 → HS → Prop) (v0 : Nat) (v1 : Int32) (v2 : Int32) (v3 : Int32) (v4 : Int32) (v5 : Int32) (v6 : Int32) (S : HS) : Prop := ob S v0 11 ∧ (∃ a1 : Nat, fR S v0 3 = some a1 ∧ (ob S a1 10 ∧ (∃ a2 : Nat, fR S a1 25 = some a2 ∧ (ob S a2 13 ∧ (vp_in v1 (hN S a2) ∧ ∀ x4 : Int32, x4 = fI S a2 v1.toNatClampNeg → (((x4 ≤ v6) → (((v5 = 0) → (P_X11_even_130 Q v0 (0 : Int32) S)) ∧ ((¬ v5 = 0) → (P_X11_even_130 Q v0 (1 : Int32) S)))) ∧ ((¬ x4 ≤ v6) → (((v5 = 0) → (P_X11_even_110 Q X59 v0 v1 v2 v3 v4 v6 S)) ∧ ((¬ v5 = 0) → (P_X11_wetOf v0 v1 v2 v3 v4 v6 (fun x10 S8 => Gr S S8 → (P_X11_wetOf v0 v1 v2 v3 v4 (v6 + (1 : Int32)) (fun x13 S11 => Gr S8 S11 → (((¬ (lg_cmp x10 x13) = 0) → (P_X11_even_110 Q X59 v0 v1 v2 v3 v4 v6 S11)) ∧ (((lg_cmp x10 x13) = 0) → (P_X11_even_111 Q X59 v0 v1 v2 v3 v4 v6 (1 : Int32) S11)))) S8)) S))))))))))
def P_X11_even_59 (Q : Int32 → HS → Prop) (v0 : Nat) (v1 : Int32) (v2 : Int32) (v3 : Int32) (v4 : Int32) (v5 : Int32) (v6 : Int32) (S : HS) : Prop := ∀ X59 : Nat → Int32 → Int32 → Int32 → Int32 → Int32 → Int32 → HS → Prop, (∀ (v0 : Nat) (v1 : Int32) (v2 : Int32) (v3 : Int32) (v4 : Int32) (v5 : Int32) (v6 : Int32) (S : HS), B_X11_even_59 Q X59 v0 v1 v2 v3 v4 v5 v6 S → X59 v0 v1 v2 v3 v4 v5 v6 S) → X59 v0 v1 v2 v3 v4 v5 v6 S
set_option maxRecDepth 20000 in
set_option maxHeartbeats 4000000 in
theorem TB_X11_even_59 {X : CX} {Q : Int32 → HS → Prop} (C : Cx X cX11_even RX11 7 rm_X11_even) (E : ReI X rm_X11_even Q) (ht : (xh X).sig.returnType = (some .int)) (hn : (xh X).name = yX11_even.name) {X59 : Nat → Int32 → Int32 → Int32 → Int32 → Int32 → Int32 → HS → Prop} (hX59 : ∀ (v0 : Nat) (v1 : Int32) (v2 : Int32) (v3 : Int32) (v4 : Int32) (v5 : Int32) (v6 : Int32) (S : HS), X59 v0 v1 v2 v3 v4 v5 v6 S → WS X 7 0 0 59 [(0, .ref v0), (1, .int v1), (2, .int v2), (3, .int v3), (4, .int v4), (5, .int v5), (6, .int v6)] [] S) {v0 : Nat} {v1 : Int32} {v2 : Int32} {v3 : Int32} {v4 : Int32} {v5 : Int32} {v6 : Int32} {S : HS} (h : B_X11_even_59 Q X59 v0 v1 v2 v3 v4 v5 v6 S) : WS X 7 0 0 59 [(0, .ref v0), (1, .int v1), (2, .int v2), (3, .int v3), (4, .int v4), (5, .int v5), (6, .int v6)] [] S := by
  refine r_iload (pc := 59) C dX11_even_59 6 rfl ?_
  refine r_aload_n (pc := 61) C dX11_even_61 0 rfl ?_
  obtain ⟨o_v0, h⟩ := h
  obtain ⟨a1, ea1, h⟩ := h
  refine r_getr (pc := 62) C fL_X11_338 dX11_even_62 o_v0 ea1 ?_
  obtain ⟨o_a1, h⟩ := h
  obtain ⟨a2, ea2, h⟩ := h
  refine r_getNr (pc := 65) C fN_X11_320 dX11_even_65 o_a1 ea2 ?_
  refine r_iload_n (pc := 68) C dX11_even_68 1 rfl ?_
  obtain ⟨o_a2, h⟩ := h
  obtain ⟨i3, h⟩ := h
  refine r_iald (pc := 69) C dX11_even_69 o_a2 i3 ?_
  refine r_topi (fun x4 ex4 => ?_)
  have h := h x4 ex4
  refine r_icmp_ge (pc := 70) C (tgt := 119) dX11_even_70 (by decide) (fun c5 => ?_) (fun c5 => ?_)
  · have h := h.1 c5
    refine r_aload_n (pc := 119) C dX11_even_119 0 rfl ?_
    refine r_iload (pc := 120) C dX11_even_120 5 rfl ?_
    refine r_if_eq (pc := 122) C (tgt := 129) dX11_even_122 (by decide) (fun c6 => ?_) (fun c6 => ?_)
    · have h := h.1 c6
      refine r_iconst (pc := 129) C (v := (0 : Int32)) dX11_even_129 (by decide) ?_
      exact r_sub [] rfl (T_X11_even_130 C E ht hn h)
    · have h := h.2 c6
      refine r_iconst (pc := 125) C (v := (1 : Int32)) dX11_even_125 (by decide) ?_
      refine r_goto (pc := 126) C (tgt := 130) dX11_even_126 (by decide) ?_
      exact r_sub [] rfl (T_X11_even_130 C E ht hn h)
  · have h := h.2 c5
    refine r_iload (pc := 73) C dX11_even_73 5 rfl ?_
    refine r_if_eq (pc := 75) C (tgt := 110) dX11_even_75 (by decide) (fun c7 => ?_) (fun c7 => ?_)
    · have h := h.1 c7
      exact r_sub [0, 1, 2, 3, 4, 6] rfl (T_X11_even_110 C E ht hn hX59 h)
    · have h := h.2 c7
      refine r_aload_n (pc := 78) C dX11_even_78 0 rfl ?_
      refine r_iload_n (pc := 79) C dX11_even_79 1 rfl ?_
      refine r_iload_n (pc := 80) C dX11_even_80 2 rfl ?_
      refine r_iload_n (pc := 81) C dX11_even_81 3 rfl ?_
      refine r_iload (pc := 82) C dX11_even_82 4 rfl ?_
      refine r_iload (pc := 84) C dX11_even_84 6 rfl ?_
      refine r_callVl0 (pc := 86) C (rest := []) (a := v0) o_v0 [.int v1, .int v2, .int v3, .int v4, .int v6] yV_X11_wetOf g_1594 (c_X11_wetOf h) dX11_even_86 rfl rfl (Nat.le_of_ble_eq_true rfl) ⟨by decide, by decide⟩ ⟨by decide, by decide⟩ ⟨rfl, rfl⟩ (fun x10 S8 h g9 => ?_)
      have h := h g9
      have o_a1 := gr_ob g9 o_a1
      have o_a2 := gr_ob g9 o_a2
      have o_v0 := gr_ob g9 o_v0
      refine r_aload_n (pc := 89) C dX11_even_89 0 rfl ?_
      refine r_iload_n (pc := 90) C dX11_even_90 1 rfl ?_
      refine r_iload_n (pc := 91) C dX11_even_91 2 rfl ?_
      refine r_iload_n (pc := 92) C dX11_even_92 3 rfl ?_
      refine r_iload (pc := 93) C dX11_even_93 4 rfl ?_
      refine r_iload (pc := 95) C dX11_even_95 6 rfl ?_
      refine r_iconst (pc := 97) C (v := (1 : Int32)) dX11_even_97 (by decide) ?_
      refine r_iadd (pc := 98) C dX11_even_98 ?_
      refine r_callVl0 (pc := 99) C (rest := [.long x10]) (a := v0) o_v0 [.int v1, .int v2, .int v3, .int v4, .int (v6 + (1 : Int32))] yV_X11_wetOf g_1594 (c_X11_wetOf h) dX11_even_99 rfl rfl (Nat.le_of_ble_eq_true rfl) ⟨by decide, by decide⟩ ⟨by decide, by decide⟩ ⟨rfl, rfl⟩ (fun x13 S11 h g12 => ?_)
      have h := h g12
      have o_a1 := gr_ob g12 o_a1
      have o_a2 := gr_ob g12 o_a2
      have o_v0 := gr_ob g12 o_v0
      refine r_lcmp (pc := 102) C dX11_even_102 ?_
      refine r_if_ne (pc := 103) C (tgt := 110) dX11_even_103 (by decide) (fun c14 => ?_) (fun c14 => ?_)
      · have h := h.1 c14
        exact r_sub [0, 1, 2, 3, 4, 6] rfl (T_X11_even_110 C E ht hn hX59 h)
      · have h := h.2 c14
        refine r_iconst (pc := 106) C (v := (1 : Int32)) dX11_even_106 (by decide) ?_
        refine r_goto (pc := 107) C (tgt := 111) dX11_even_107 (by decide) ?_
        exact r_sub [0, 1, 2, 3, 4, 6] rfl (T_X11_even_111 C E ht hn hX59 h)
theorem T_X11_even_59 {X : CX} {Q : Int32 → HS → Prop} (C : Cx X cX11_even RX11 7 rm_X11_even) (E : ReI X rm_X11_even Q) (ht : (xh X).sig.returnType = (some .int)) (hn : (xh X).name = yX11_even.name) {v0 : Nat} {v1 : Int32} {v2 : Int32} {v3 : Int32} {v4 : Int32} {v5 : Int32} {v6 : Int32} {S : HS} (h : P_X11_even_59 Q v0 v1 v2 v3 v4 v5 v6 S) : WS X 7 0 0 59 [(0, .ref v0), (1, .int v1), (2, .int v2), (3, .int v3), (4, .int v4), (5, .int v5), (6, .int v6)] [] S :=
  h (fun v0 v1 v2 v3 v4 v5 v6 S => WS X 7 0 0 59 [(0, .ref v0), (1, .int v1), (2, .int v2), (3, .int v3), (4, .int v4), (5, .int v5), (6, .int v6)] [] S) (fun v0 v1 v2 v3 v4 v5 v6 S hh => TB_X11_even_59 C E ht hn (fun v0 v1 v2 v3 v4 v5 v6 S z => z) hh)
def P_X11_even_0 (Q : Int32 → HS → Prop) (v0 : Nat) (v1 : Int32) (v2 : Int32) (v3 : Int32) (v4 : Int32) (S : HS) : Prop := ob S v0 11 ∧ (∀ S1 : HS, S1 = sI S v0 0 (0 : Int32) → (P_X11_isWalker v0 v1 (fun x4 S2 => Gr S1 S2 → bl x4 → (((x4 = 0) → (P_X11_even_39 Q v0 S2)) ∧ ((¬ x4 = 0) → (P_X11_isRoad v0 v2 (fun x8 S6 => Gr S2 S6 → bl x8 → (((x8 = 0) → (P_X11_even_39 Q v0 S6)) ∧ ((¬ x8 = 0) → (P_X11_in v3 (0 : Int32) (1 : Int32) (fun x12 S10 => Gr S6 S10 → bl x12 → (((x12 = 0) → (P_X11_even_39 Q v0 S10)) ∧ ((¬ x12 = 0) → (P_X11_isHour v0 v4 (fun x16 S14 => Gr S10 S14 → bl x16 → (((¬ x16 = 0) → (∃ a18 : Nat, fR S14 v0 3 = some a18 ∧ (ob S14 a18 10 ∧ (∃ a19 : Nat, fR S14 a18 24 = some a19 ∧ (ob S14 a19 13 ∧ (vp_in v1 (hN S14 a19) ∧ ∀ x21 : Int32, x21 = fI S14 a19 v1.toNatClampNeg → (P_X11_even_59 Q v0 v1 v2 v3 v4 (1 : Int32) x21 S14))))))) ∧ ((x16 = 0) → (P_X11_even_39 Q v0 S14)))) S10)))) S6)))) S2)))) S1))
set_option maxRecDepth 20000 in
set_option maxHeartbeats 4000000 in
theorem T_X11_even_0 {X : CX} {Q : Int32 → HS → Prop} (C : Cx X cX11_even RX11 7 rm_X11_even) (E : ReI X rm_X11_even Q) (ht : (xh X).sig.returnType = (some .int)) (hn : (xh X).name = yX11_even.name) {v0 : Nat} {v1 : Int32} {v2 : Int32} {v3 : Int32} {v4 : Int32} {S : HS} (h : P_X11_even_0 Q v0 v1 v2 v3 v4 S) : WS X 7 0 0 0 [(0, .ref v0), (1, .int v1), (2, .int v2), (3, .int v3), (4, .int v4)] [] S := by
  refine r_aload_n (pc := 0) C dX11_even_0 0 rfl ?_
  refine r_iconst (pc := 1) C (v := (0 : Int32)) dX11_even_1 (by decide) ?_
  obtain ⟨o_v0, h⟩ := h
  refine r_puti (pc := 2) C pfL_X11_40 dX11_even_2 o_v0 ?_
  refine r_heap (fun S1 eS1 => ?_)
  have h := h S1 eS1
  have o_v0 := ob_I eS1 o_v0
  refine r_aload_n (pc := 5) C dX11_even_5 0 rfl ?_
  refine r_iload_n (pc := 6) C dX11_even_6 1 rfl ?_
  refine r_callVi0 (pc := 7) C (rest := []) (a := v0) o_v0 [.int v1] yV_X11_isWalker g_1538 (c_X11_isWalker h) dX11_even_7 rfl rfl (Nat.le_of_ble_eq_true rfl) ⟨by decide, by decide⟩ ⟨by decide, by decide⟩ ⟨rfl, rfl⟩ (fun x4 S2 h g3 => ?_)
  have bx4 := h.1
  have h := h.2 g3 bx4
  have o_v0 := gr_ob g3 o_v0
  refine r_if_eq (pc := 10) C (tgt := 39) dX11_even_10 (by decide) (fun c5 => ?_) (fun c5 => ?_)
  · have h := h.1 c5
    exact r_sub [0] rfl (T_X11_even_39 C E ht hn h)
  · have h := h.2 c5
    refine r_aload_n (pc := 13) C dX11_even_13 0 rfl ?_
    refine r_iload_n (pc := 14) C dX11_even_14 2 rfl ?_
    refine r_callVi0 (pc := 15) C (rest := []) (a := v0) o_v0 [.int v2] yV_X11_isRoad g_1542 (c_X11_isRoad h) dX11_even_15 rfl rfl (Nat.le_of_ble_eq_true rfl) ⟨by decide, by decide⟩ ⟨by decide, by decide⟩ ⟨rfl, rfl⟩ (fun x8 S6 h g7 => ?_)
    have bx8 := h.1
    have h := h.2 g7 bx8
    have o_v0 := gr_ob g7 o_v0
    refine r_if_eq (pc := 18) C (tgt := 39) dX11_even_18 (by decide) (fun c9 => ?_) (fun c9 => ?_)
    · have h := h.1 c9
      exact r_sub [0] rfl (T_X11_even_39 C E ht hn h)
    · have h := h.2 c9
      refine r_iload_n (pc := 21) C dX11_even_21 3 rfl ?_
      refine r_iconst (pc := 22) C (v := (0 : Int32)) dX11_even_22 (by decide) ?_
      refine r_iconst (pc := 23) C (v := (1 : Int32)) dX11_even_23 (by decide) ?_
      refine r_callSi0 (pc := 24) C (rest := []) rfl [.int v3, .int (0 : Int32), .int (1 : Int32)] yS_X11_in g_1434 (c_X11_in h) dX11_even_24 rfl rfl (Nat.le_of_ble_eq_true rfl) ⟨by decide, by decide⟩ ⟨by decide, by decide⟩ ⟨rfl, rfl⟩ (fun x12 S10 h g11 => ?_)
      have bx12 := h.1
      have h := h.2 g11 bx12
      have o_v0 := gr_ob g11 o_v0
      refine r_if_eq (pc := 27) C (tgt := 39) dX11_even_27 (by decide) (fun c13 => ?_) (fun c13 => ?_)
      · have h := h.1 c13
        exact r_sub [0] rfl (T_X11_even_39 C E ht hn h)
      · have h := h.2 c13
        refine r_aload_n (pc := 30) C dX11_even_30 0 rfl ?_
        refine r_iload (pc := 31) C dX11_even_31 4 rfl ?_
        refine r_callVi0 (pc := 33) C (rest := []) (a := v0) o_v0 [.int v4] yV_X11_isHour g_1546 (c_X11_isHour h) dX11_even_33 rfl rfl (Nat.le_of_ble_eq_true rfl) ⟨by decide, by decide⟩ ⟨by decide, by decide⟩ ⟨rfl, rfl⟩ (fun x16 S14 h g15 => ?_)
        have bx16 := h.1
        have h := h.2 g15 bx16
        have o_v0 := gr_ob g15 o_v0
        refine r_if_ne (pc := 36) C (tgt := 45) dX11_even_36 (by decide) (fun c17 => ?_) (fun c17 => ?_)
        · have h := h.1 c17
          refine r_iconst (pc := 45) C (v := (1 : Int32)) dX11_even_45 (by decide) ?_
          refine r_istore (pc := 46) C dX11_even_46 (by decide) (lv' := [(5, .int (1 : Int32)), (0, .ref v0), (1, .int v1), (2, .int v2), (3, .int v3), (4, .int v4)]) rfl ?_
          refine r_aload_n (pc := 48) C dX11_even_48 1 rfl ?_
          obtain ⟨a18, ea18, h⟩ := h
          refine r_getr (pc := 49) C fL_X11_338 dX11_even_49 o_v0 ea18 ?_
          obtain ⟨o_a18, h⟩ := h
          obtain ⟨a19, ea19, h⟩ := h
          refine r_getNr (pc := 52) C fN_X11_317 dX11_even_52 o_a18 ea19 ?_
          refine r_iload_n (pc := 55) C dX11_even_55 2 rfl ?_
          obtain ⟨o_a19, h⟩ := h
          obtain ⟨i20, h⟩ := h
          refine r_iald (pc := 56) C dX11_even_56 o_a19 i20 ?_
          refine r_topi (fun x21 ex21 => ?_)
          have h := h x21 ex21
          refine r_istore (pc := 57) C dX11_even_57 (by decide) (lv' := [(6, .int x21), (5, .int (1 : Int32)), (0, .ref v0), (1, .int v1), (2, .int v2), (3, .int v3), (4, .int v4)]) rfl ?_
          exact r_sub [2, 3, 4, 5, 6, 1, 0] rfl (T_X11_even_59 C E ht hn h)
        · have h := h.2 c17
          exact r_sub [0] rfl (T_X11_even_39 C E ht hn h)
def P_X11_even (v0 : Nat) (v1 : Int32) (v2 : Int32) (v3 : Int32) (v4 : Int32) (Q : Int32 → HS → Prop) (S : HS) : Prop := P_X11_even_0 Q v0 v1 v2 v3 v4 S
theorem c_X11_even {l : Launch} {Ee : EE} {S : HS} {v0 : Nat} {v1 : Int32} {v2 : Int32} {v3 : Int32} {v4 : Int32} {Q : Int32 → HS → Prop} (h : P_X11_even v0 v1 v2 v3 v4 Q S) : MI l yX11_even cX11_even 7 (some .int) rm_X11_even Ee S [.ref v0, .int v1, .int v2, .int v3, .int v4] Q :=
  openI (by decide) (Nat.le_of_ble_eq_true rfl) (fun X C E ht hn hE hl => by subst hE; exact r_sub [0, 1, 2, 3, 4] rfl (T_X11_even_0 C E ht hn h))
def rm_X11_isSpeed : Room := { frames := 1, cells := 0, slots := 0, locals := 22 }
def P_X11_isSpeed_0 (Q : Int32 → HS → Prop) (v0 : Nat) (v1 : Int32) (v2 : Int32) (S : HS) : Prop := ob S v0 11 ∧ (∃ a1 : Nat, fR S v0 3 = some a1 ∧ (ob S a1 10 ∧ (∃ a2 : Nat, fR S a1 24 = some a2 ∧ (ob S a2 13 ∧ (vp_in v1 (hN S a2) ∧ ∀ x4 : Int32, x4 = fI S a2 v1.toNatClampNeg → (∃ a5 : Nat, fR S v0 3 = some a5 ∧ (ob S a5 10 ∧ (∃ a6 : Nat, fR S a5 25 = some a6 ∧ (ob S a6 13 ∧ (vp_in v1 (hN S a6) ∧ ∀ x8 : Int32, x8 = fI S a6 v1.toNatClampNeg → (P_X11_in v2 x4 x8 (fun x11 S9 => Gr S S9 → bl x11 → (bl x11 ∧ Q x11 S9)) S)))))))))))
set_option maxRecDepth 20000 in
set_option maxHeartbeats 4000000 in
theorem T_X11_isSpeed_0 {X : CX} {Q : Int32 → HS → Prop} (C : Cx X cX11_isSpeed RX11 3 rm_X11_isSpeed) (E : ReI X rm_X11_isSpeed (fun r S => bl r ∧ Q r S)) (ht : (xh X).sig.returnType = (some .boolean)) (hn : (xh X).name = yX11_isSpeed.name) {v0 : Nat} {v1 : Int32} {v2 : Int32} {S : HS} (h : P_X11_isSpeed_0 Q v0 v1 v2 S) : WS X 3 0 0 0 [(0, .ref v0), (1, .int v1), (2, .int v2)] [] S := by
  refine r_iload_n (pc := 0) C dX11_isSpeed_0 2 rfl ?_
  refine r_aload_n (pc := 1) C dX11_isSpeed_1 0 rfl ?_
  obtain ⟨o_v0, h⟩ := h
  obtain ⟨a1, ea1, h⟩ := h
  refine r_getr (pc := 2) C fL_X11_338 dX11_isSpeed_2 o_v0 ea1 ?_
  obtain ⟨o_a1, h⟩ := h
  obtain ⟨a2, ea2, h⟩ := h
  refine r_getNr (pc := 5) C fN_X11_317 dX11_isSpeed_5 o_a1 ea2 ?_
  refine r_iload_n (pc := 8) C dX11_isSpeed_8 1 rfl ?_
  obtain ⟨o_a2, h⟩ := h
  obtain ⟨i3, h⟩ := h
  refine r_iald (pc := 9) C dX11_isSpeed_9 o_a2 i3 ?_
  refine r_topi (fun x4 ex4 => ?_)
  have h := h x4 ex4
  refine r_aload_n (pc := 10) C dX11_isSpeed_10 0 rfl ?_
  obtain ⟨a5, ea5, h⟩ := h
  refine r_getr (pc := 11) C fL_X11_338 dX11_isSpeed_11 o_v0 ea5 ?_
  obtain ⟨o_a5, h⟩ := h
  obtain ⟨a6, ea6, h⟩ := h
  refine r_getNr (pc := 14) C fN_X11_320 dX11_isSpeed_14 o_a5 ea6 ?_
  refine r_iload_n (pc := 17) C dX11_isSpeed_17 1 rfl ?_
  obtain ⟨o_a6, h⟩ := h
  obtain ⟨i7, h⟩ := h
  refine r_iald (pc := 18) C dX11_isSpeed_18 o_a6 i7 ?_
  refine r_topi (fun x8 ex8 => ?_)
  have h := h x8 ex8
  refine r_callSi0 (pc := 19) C (rest := []) rfl [.int v2, .int x4, .int x8] yS_X11_in g_1434 (c_X11_in h) dX11_isSpeed_19 rfl rfl (Nat.le_of_ble_eq_true rfl) ⟨by decide, by decide⟩ ⟨by decide, by decide⟩ ⟨rfl, rfl⟩ (fun x11 S9 h g10 => ?_)
  have bx11 := h.1
  have h := h.2 g10 bx11
  have o_a1 := gr_ob g10 o_a1
  have o_a2 := gr_ob g10 o_a2
  have o_a5 := gr_ob g10 o_a5
  have o_a6 := gr_ob g10 o_a6
  have o_v0 := gr_ob g10 o_v0
  exact r_zret (pc := 22) C E ht dX11_isSpeed_22 (by decide) (by decide) h.1 h.2
def P_X11_isSpeed (v0 : Nat) (v1 : Int32) (v2 : Int32) (Q : Int32 → HS → Prop) (S : HS) : Prop := P_X11_isSpeed_0 Q v0 v1 v2 S
theorem c_X11_isSpeed {l : Launch} {Ee : EE} {S : HS} {v0 : Nat} {v1 : Int32} {v2 : Int32} {Q : Int32 → HS → Prop} (h : P_X11_isSpeed v0 v1 v2 Q S) : MI l yX11_isSpeed cX11_isSpeed 3 (some .boolean) rm_X11_isSpeed Ee S [.ref v0, .int v1, .int v2] (fun r S => bl r ∧ Q r S) :=
  openI (by decide) (Nat.le_of_ble_eq_true rfl) (fun X C E ht hn hE hl => by subst hE; exact r_sub [0, 1, 2] rfl (T_X11_isSpeed_0 C E ht hn h))
end
section
def rm_X11_refuses : Room := { frames := 2, cells := 0, slots := 0, locals := 44 }
def P_X11_refuses_0 (Q : Int32 → HS → Prop) (v0 : Nat) (v1 : Int32) (v2 : Int32) (v3 : Int32) (v4 : Int32) (v5 : Int32) (S : HS) : Prop := ob S v0 11 ∧ (P_X11_isWalker v0 v1 (fun x3 S1 => Gr S S1 → bl x3 → (((x3 = 0) → (Q (1 : Int32) S1)) ∧ ((¬ x3 = 0) → (P_X11_isRoad v0 v2 (fun x7 S5 => Gr S1 S5 → bl x7 → (((x7 = 0) → (Q (1 : Int32) S5)) ∧ ((¬ x7 = 0) → (P_X11_in v3 (0 : Int32) (1 : Int32) (fun x11 S9 => Gr S5 S9 → bl x11 → (((x11 = 0) → (Q (1 : Int32) S9)) ∧ ((¬ x11 = 0) → (P_X11_isHour v0 v4 (fun x15 S13 => Gr S9 S13 → bl x15 → (((¬ x15 = 0) → (P_X11_isSpeed v0 v1 v5 (fun x19 S17 => Gr S13 S17 → bl x19 → (((x19 = 0) → (Q (2 : Int32) S17)) ∧ ((¬ x19 = 0) → (Q (0 : Int32) S17)))) S13)) ∧ ((x15 = 0) → (Q (1 : Int32) S13)))) S9)))) S5)))) S1)))) S)
set_option maxRecDepth 20000 in
set_option maxHeartbeats 4000000 in
theorem T_X11_refuses_0 {X : CX} {Q : Int32 → HS → Prop} (C : Cx X cX11_refuses RX11 6 rm_X11_refuses) (E : ReI X rm_X11_refuses Q) (ht : (xh X).sig.returnType = (some .int)) (hn : (xh X).name = yX11_refuses.name) {v0 : Nat} {v1 : Int32} {v2 : Int32} {v3 : Int32} {v4 : Int32} {v5 : Int32} {S : HS} (h : P_X11_refuses_0 Q v0 v1 v2 v3 v4 v5 S) : WS X 6 0 0 0 [(0, .ref v0), (1, .int v1), (2, .int v2), (3, .int v3), (4, .int v4), (5, .int v5)] [] S := by
  refine r_aload_n (pc := 0) C dX11_refuses_0 0 rfl ?_
  refine r_iload_n (pc := 1) C dX11_refuses_1 1 rfl ?_
  obtain ⟨o_v0, h⟩ := h
  refine r_callVi0 (pc := 2) C (rest := []) (a := v0) o_v0 [.int v1] yV_X11_isWalker g_1538 (c_X11_isWalker h) dX11_refuses_2 rfl rfl (Nat.le_of_ble_eq_true rfl) ⟨by decide, by decide⟩ ⟨by decide, by decide⟩ ⟨rfl, rfl⟩ (fun x3 S1 h g2 => ?_)
  have bx3 := h.1
  have h := h.2 g2 bx3
  have o_v0 := gr_ob g2 o_v0
  refine r_if_eq (pc := 5) C (tgt := 34) dX11_refuses_5 (by decide) (fun c4 => ?_) (fun c4 => ?_)
  · have h := h.1 c4
    refine r_iconst (pc := 34) C (v := (1 : Int32)) dX11_refuses_34 (by decide) ?_
    exact r_iret (pc := 35) C E ht dX11_refuses_35 (by decide) (by decide) h
  · have h := h.2 c4
    refine r_aload_n (pc := 8) C dX11_refuses_8 0 rfl ?_
    refine r_iload_n (pc := 9) C dX11_refuses_9 2 rfl ?_
    refine r_callVi0 (pc := 10) C (rest := []) (a := v0) o_v0 [.int v2] yV_X11_isRoad g_1542 (c_X11_isRoad h) dX11_refuses_10 rfl rfl (Nat.le_of_ble_eq_true rfl) ⟨by decide, by decide⟩ ⟨by decide, by decide⟩ ⟨rfl, rfl⟩ (fun x7 S5 h g6 => ?_)
    have bx7 := h.1
    have h := h.2 g6 bx7
    have o_v0 := gr_ob g6 o_v0
    refine r_if_eq (pc := 13) C (tgt := 34) dX11_refuses_13 (by decide) (fun c8 => ?_) (fun c8 => ?_)
    · have h := h.1 c8
      refine r_iconst (pc := 34) C (v := (1 : Int32)) dX11_refuses_34 (by decide) ?_
      exact r_iret (pc := 35) C E ht dX11_refuses_35 (by decide) (by decide) h
    · have h := h.2 c8
      refine r_iload_n (pc := 16) C dX11_refuses_16 3 rfl ?_
      refine r_iconst (pc := 17) C (v := (0 : Int32)) dX11_refuses_17 (by decide) ?_
      refine r_iconst (pc := 18) C (v := (1 : Int32)) dX11_refuses_18 (by decide) ?_
      refine r_callSi0 (pc := 19) C (rest := []) rfl [.int v3, .int (0 : Int32), .int (1 : Int32)] yS_X11_in g_1434 (c_X11_in h) dX11_refuses_19 rfl rfl (Nat.le_of_ble_eq_true rfl) ⟨by decide, by decide⟩ ⟨by decide, by decide⟩ ⟨rfl, rfl⟩ (fun x11 S9 h g10 => ?_)
      have bx11 := h.1
      have h := h.2 g10 bx11
      have o_v0 := gr_ob g10 o_v0
      refine r_if_eq (pc := 22) C (tgt := 34) dX11_refuses_22 (by decide) (fun c12 => ?_) (fun c12 => ?_)
      · have h := h.1 c12
        refine r_iconst (pc := 34) C (v := (1 : Int32)) dX11_refuses_34 (by decide) ?_
        exact r_iret (pc := 35) C E ht dX11_refuses_35 (by decide) (by decide) h
      · have h := h.2 c12
        refine r_aload_n (pc := 25) C dX11_refuses_25 0 rfl ?_
        refine r_iload (pc := 26) C dX11_refuses_26 4 rfl ?_
        refine r_callVi0 (pc := 28) C (rest := []) (a := v0) o_v0 [.int v4] yV_X11_isHour g_1546 (c_X11_isHour h) dX11_refuses_28 rfl rfl (Nat.le_of_ble_eq_true rfl) ⟨by decide, by decide⟩ ⟨by decide, by decide⟩ ⟨rfl, rfl⟩ (fun x15 S13 h g14 => ?_)
        have bx15 := h.1
        have h := h.2 g14 bx15
        have o_v0 := gr_ob g14 o_v0
        refine r_if_ne (pc := 31) C (tgt := 36) dX11_refuses_31 (by decide) (fun c16 => ?_) (fun c16 => ?_)
        · have h := h.1 c16
          refine r_aload_n (pc := 36) C dX11_refuses_36 0 rfl ?_
          refine r_iload_n (pc := 37) C dX11_refuses_37 1 rfl ?_
          refine r_iload (pc := 38) C dX11_refuses_38 5 rfl ?_
          refine r_callVi0 (pc := 40) C (rest := []) (a := v0) o_v0 [.int v1, .int v5] yV_X11_isSpeed g_1550 (c_X11_isSpeed h) dX11_refuses_40 rfl rfl (Nat.le_of_ble_eq_true rfl) ⟨by decide, by decide⟩ ⟨by decide, by decide⟩ ⟨rfl, rfl⟩ (fun x19 S17 h g18 => ?_)
          have bx19 := h.1
          have h := h.2 g18 bx19
          have o_v0 := gr_ob g18 o_v0
          refine r_if_eq (pc := 43) C (tgt := 50) dX11_refuses_43 (by decide) (fun c20 => ?_) (fun c20 => ?_)
          · have h := h.1 c20
            refine r_iconst (pc := 50) C (v := (2 : Int32)) dX11_refuses_50 (by decide) ?_
            exact r_iret (pc := 51) C E ht dX11_refuses_51 (by decide) (by decide) h
          · have h := h.2 c20
            refine r_iconst (pc := 46) C (v := (0 : Int32)) dX11_refuses_46 (by decide) ?_
            refine r_goto (pc := 47) C (tgt := 51) dX11_refuses_47 (by decide) ?_
            exact r_iret (pc := 51) C E ht dX11_refuses_51 (by decide) (by decide) h
        · have h := h.2 c16
          refine r_iconst (pc := 34) C (v := (1 : Int32)) dX11_refuses_34 (by decide) ?_
          exact r_iret (pc := 35) C E ht dX11_refuses_35 (by decide) (by decide) h
def P_X11_refuses (v0 : Nat) (v1 : Int32) (v2 : Int32) (v3 : Int32) (v4 : Int32) (v5 : Int32) (Q : Int32 → HS → Prop) (S : HS) : Prop := P_X11_refuses_0 Q v0 v1 v2 v3 v4 v5 S
theorem c_X11_refuses {l : Launch} {Ee : EE} {S : HS} {v0 : Nat} {v1 : Int32} {v2 : Int32} {v3 : Int32} {v4 : Int32} {v5 : Int32} {Q : Int32 → HS → Prop} (h : P_X11_refuses v0 v1 v2 v3 v4 v5 Q S) : MI l yX11_refuses cX11_refuses 6 (some .int) rm_X11_refuses Ee S [.ref v0, .int v1, .int v2, .int v3, .int v4, .int v5] Q :=
  openI (by decide) (Nat.le_of_ble_eq_true rfl) (fun X C E ht hn hE hl => by subst hE; exact r_sub [0, 1, 2, 3, 4, 5] rfl (T_X11_refuses_0 C E ht hn h))
def rm_X11_told : Room := { frames := 1, cells := 0, slots := 0, locals := 21 }
def B_X11_told_12 (Q : Int64 → HS → Prop) (X12 : Int64 → Int64 → Int32 → Int64 → Int64 → HS → Prop) (v1 : Int64) (v3 : Int64) (v5 : Int32) (v6 : Int64) (v8 : Int64) (S : HS) : Prop := (((lg_cmp v8 (0 : Int64)) = 0) → (((v5 = 0) → (¬ v6 = 0 ∧ ∀ x4 : Int64, x4 = v1 / v6 → (Q x4 S))) ∧ ((¬ v5 = 0) → (¬ v6 = 0 ∧ ∀ x6 : Int64, x6 = v3 / v6 → (Q x6 S))))) ∧ ((¬ (lg_cmp v8 (0 : Int64)) = 0) → (¬ v8 = 0 ∧ ∀ x8 : Int64, x8 = v6 - v6 / v8 * v8 → (X12 v1 v3 v5 v8 x8 S)))
def P_X11_told_12 (Q : Int64 → HS → Prop) (v1 : Int64) (v3 : Int64) (v5 : Int32) (v6 : Int64) (v8 : Int64) (S : HS) : Prop := ∀ X12 : Int64 → Int64 → Int32 → Int64 → Int64 → HS → Prop, (∀ (v1 : Int64) (v3 : Int64) (v5 : Int32) (v6 : Int64) (v8 : Int64) (S : HS), B_X11_told_12 Q X12 v1 v3 v5 v6 v8 S → X12 v1 v3 v5 v6 v8 S) → X12 v1 v3 v5 v6 v8 S
set_option maxRecDepth 20000 in
set_option maxHeartbeats 4000000 in
theorem TB_X11_told_12 {X : CX} {Q : Int64 → HS → Prop} (C : Cx X cX11_told RX11 12 rm_X11_told) (E : ReJ X rm_X11_told Q) (ht : (xh X).sig.returnType = (some .long)) (hn : (xh X).name = yX11_told.name) {X12 : Int64 → Int64 → Int32 → Int64 → Int64 → HS → Prop} (hX12 : ∀ (v1 : Int64) (v3 : Int64) (v5 : Int32) (v6 : Int64) (v8 : Int64) (S : HS), X12 v1 v3 v5 v6 v8 S → WS X 12 0 0 12 [(1, .long v1), (3, .long v3), (5, .int v5), (6, .long v6), (8, .long v8)] [] S) {v1 : Int64} {v3 : Int64} {v5 : Int32} {v6 : Int64} {v8 : Int64} {S : HS} (h : B_X11_told_12 Q X12 v1 v3 v5 v6 v8 S) : WS X 12 0 0 12 [(1, .long v1), (3, .long v3), (5, .int v5), (6, .long v6), (8, .long v8)] [] S := by
  refine r_lload (pc := 12) C dX11_told_12 4 rfl ?_
  refine r_lconst (pc := 14) C (v := (0 : Int64)) dX11_told_14 (by decide) ?_
  refine r_lcmp (pc := 15) C dX11_told_15 ?_
  refine r_if_eq (pc := 16) C (tgt := 37) dX11_told_16 (by decide) (fun c1 => ?_) (fun c1 => ?_)
  · have h := h.1 c1
    refine r_iload (pc := 37) C dX11_told_37 2 rfl ?_
    refine r_if_eq (pc := 39) C (tgt := 46) dX11_told_39 (by decide) (fun c2 => ?_) (fun c2 => ?_)
    · have h := h.1 c2
      refine r_lload_n (pc := 46) C dX11_told_46 0 rfl ?_
      refine r_lload (pc := 47) C dX11_told_47 3 rfl ?_
      obtain ⟨q3, h⟩ := h
      refine r_ldiv (pc := 49) C dX11_told_49 q3 ?_
      refine r_topl (fun x4 ex4 => ?_)
      have h := h x4 ex4
      exact r_lret (pc := 50) C E ht dX11_told_50 (by decide) (by decide) h
    · have h := h.2 c2
      refine r_lload_n (pc := 42) C dX11_told_42 1 rfl ?_
      refine r_goto (pc := 43) C (tgt := 47) dX11_told_43 (by decide) ?_
      refine r_lload (pc := 47) C dX11_told_47 3 rfl ?_
      obtain ⟨q5, h⟩ := h
      refine r_ldiv (pc := 49) C dX11_told_49 q5 ?_
      refine r_topl (fun x6 ex6 => ?_)
      have h := h x6 ex6
      exact r_lret (pc := 50) C E ht dX11_told_50 (by decide) (by decide) h
  · have h := h.2 c1
    refine r_lload (pc := 19) C dX11_told_19 3 rfl ?_
    refine r_lload (pc := 21) C dX11_told_21 4 rfl ?_
    obtain ⟨q7, h⟩ := h
    refine r_lrem (pc := 23) C dX11_told_23 q7 ?_
    refine r_topl (fun x8 ex8 => ?_)
    have h := h x8 ex8
    refine r_lstore (pc := 24) C dX11_told_24 (by decide) (lv' := [(10, .long x8), (1, .long v1), (3, .long v3), (5, .int v5), (6, .long v6), (8, .long v8)]) rfl ?_
    refine r_lload (pc := 26) C dX11_told_26 5 rfl ?_
    refine r_lstore (pc := 28) C dX11_told_28 (by decide) (lv' := [(6, .long v8), (10, .long x8), (1, .long v1), (3, .long v3), (5, .int v5), (8, .long v8)]) rfl ?_
    refine r_lload (pc := 30) C dX11_told_30 1 rfl ?_
    refine r_lstore (pc := 32) C dX11_told_32 (by decide) (lv' := [(8, .long x8), (6, .long v8), (10, .long x8), (1, .long v1), (3, .long v3), (5, .int v5)]) rfl ?_
    refine r_goto (pc := 34) C (tgt := 12) dX11_told_34 (by decide) ?_
    exact r_sub [3, 4, 5, 1, 0] rfl (hX12 v1 v3 v5 v8 x8 S h)
theorem T_X11_told_12 {X : CX} {Q : Int64 → HS → Prop} (C : Cx X cX11_told RX11 12 rm_X11_told) (E : ReJ X rm_X11_told Q) (ht : (xh X).sig.returnType = (some .long)) (hn : (xh X).name = yX11_told.name) {v1 : Int64} {v3 : Int64} {v5 : Int32} {v6 : Int64} {v8 : Int64} {S : HS} (h : P_X11_told_12 Q v1 v3 v5 v6 v8 S) : WS X 12 0 0 12 [(1, .long v1), (3, .long v3), (5, .int v5), (6, .long v6), (8, .long v8)] [] S :=
  h (fun v1 v3 v5 v6 v8 S => WS X 12 0 0 12 [(1, .long v1), (3, .long v3), (5, .int v5), (6, .long v6), (8, .long v8)] [] S) (fun v1 v3 v5 v6 v8 S hh => TB_X11_told_12 C E ht hn (fun v1 v3 v5 v6 v8 S z => z) hh)
def P_X11_told_0 (Q : Int64 → HS → Prop) (v0 : Nat) (v1 : Int64) (v3 : Int64) (v5 : Int32) (S : HS) : Prop := ob S v0 11 ∧ (P_X11_good v0 (0 : Int32) (fun x3 S1 => Gr S S1 → (P_X11_told_12 Q v1 v3 v5 v1 v3 S1)) S)
set_option maxRecDepth 20000 in
set_option maxHeartbeats 4000000 in
theorem T_X11_told_0 {X : CX} {Q : Int64 → HS → Prop} (C : Cx X cX11_told RX11 12 rm_X11_told) (E : ReJ X rm_X11_told Q) (ht : (xh X).sig.returnType = (some .long)) (hn : (xh X).name = yX11_told.name) {v0 : Nat} {v1 : Int64} {v3 : Int64} {v5 : Int32} {S : HS} (h : P_X11_told_0 Q v0 v1 v3 v5 S) : WS X 12 0 0 0 [(0, .ref v0), (1, .long v1), (3, .long v3), (5, .int v5)] [] S := by
  refine r_aload_n (pc := 0) C dX11_told_0 0 rfl ?_
  refine r_iconst (pc := 1) C (v := (0 : Int32)) dX11_told_1 (by decide) ?_
  obtain ⟨o_v0, h⟩ := h
  refine r_callVi0 (pc := 2) C (rest := []) (a := v0) o_v0 [.int (0 : Int32)] yV_X11_good g_1518 (c_X11_good h) dX11_told_2 rfl rfl (Nat.le_of_ble_eq_true rfl) ⟨by decide, by decide⟩ ⟨by decide, by decide⟩ ⟨rfl, rfl⟩ (fun x3 S1 h g2 => ?_)
  have h := h g2
  have o_v0 := gr_ob g2 o_v0
  refine r_pop (pc := 5) C dX11_told_5 rfl ?_
  refine r_lload_n (pc := 6) C dX11_told_6 1 rfl ?_
  refine r_lstore (pc := 7) C dX11_told_7 (by decide) (lv' := [(6, .long v1), (0, .ref v0), (1, .long v1), (3, .long v3), (5, .int v5)]) rfl ?_
  refine r_lload_n (pc := 9) C dX11_told_9 3 rfl ?_
  refine r_lstore (pc := 10) C dX11_told_10 (by decide) (lv' := [(8, .long v3), (6, .long v1), (0, .ref v0), (1, .long v1), (3, .long v3), (5, .int v5)]) rfl ?_
  exact r_sub [3, 4, 5, 1, 0] rfl (T_X11_told_12 C E ht hn h)
def P_X11_told (v0 : Nat) (v1 : Int64) (v3 : Int64) (v5 : Int32) (Q : Int64 → HS → Prop) (S : HS) : Prop := P_X11_told_0 Q v0 v1 v3 v5 S
theorem c_X11_told {l : Launch} {Ee : EE} {S : HS} {v0 : Nat} {v1 : Int64} {v3 : Int64} {v5 : Int32} {Q : Int64 → HS → Prop} (h : P_X11_told v0 v1 v3 v5 Q S) : MJ l yX11_told cX11_told 12 (some .long) rm_X11_told Ee S [.ref v0, .long v1, .long v3, .int v5] Q :=
  openJ (by decide) (Nat.le_of_ble_eq_true rfl) (fun X C E ht hn hE hl => by subst hE; exact r_sub [0, 1, 2, 3] rfl (T_X11_told_0 C E ht hn h))
def rm_X11_face : Room := { frames := 5, cells := 0, slots := 0, locals := 135 }
def P_X11_face_30 (Q : Int64 → HS → Prop) (v0 : Nat) (v1 : Int32) (v2 : Int32) (v3 : Int32) (v4 : Int32) (v5 : Int32) (v6 : Int32) (v7 : Int32) (s0 : Int32) (S : HS) : Prop := ((s0 ≤ 0) → (ob S v0 11 ∧ (P_X11_partsOf v0 v1 v2 v3 v4 v5 v6 (fun x4 S2 => Gr S S2 → (P_X11_told v0 x4 (2520 : Int64) v7 (fun x7 S5 => Gr S2 S5 → (Q x7 S5)) S2)) S))) ∧ ((¬ s0 ≤ 0) → (ob S v0 11 ∧ (P_X11_refused v0 s0 (fun x10 S8 => Gr S S8 → (Q x10.toInt64 S8)) S)))
set_option maxRecDepth 20000 in
set_option maxHeartbeats 4000000 in
theorem T_X11_face_30 {X : CX} {Q : Int64 → HS → Prop} (C : Cx X cX11_face RX11 9 rm_X11_face) (E : ReJ X rm_X11_face Q) (ht : (xh X).sig.returnType = (some .long)) (hn : (xh X).name = yX11_face.name) {v0 : Nat} {v1 : Int32} {v2 : Int32} {v3 : Int32} {v4 : Int32} {v5 : Int32} {v6 : Int32} {v7 : Int32} {s0 : Int32} {S : HS} (h : P_X11_face_30 Q v0 v1 v2 v3 v4 v5 v6 v7 s0 S) : WS X 9 0 0 30 [(0, .ref v0), (1, .int v1), (2, .int v2), (3, .int v3), (4, .int v4), (5, .int v5), (6, .int v6), (7, .int v7)] [.int s0] S := by
  refine r_istore (pc := 30) C dX11_face_30 (by decide) (lv' := [(8, .int s0), (0, .ref v0), (1, .int v1), (2, .int v2), (3, .int v3), (4, .int v4), (5, .int v5), (6, .int v6), (7, .int v7)]) rfl ?_
  refine r_iload (pc := 32) C dX11_face_32 0 rfl ?_
  refine r_if_le (pc := 34) C (tgt := 47) dX11_face_34 (by decide) (fun c1 => ?_) (fun c1 => ?_)
  · have h := h.1 c1
    refine r_aload_n (pc := 47) C dX11_face_47 1 rfl ?_
    refine r_aload_n (pc := 48) C dX11_face_48 1 rfl ?_
    refine r_iload_n (pc := 49) C dX11_face_49 2 rfl ?_
    refine r_iload_n (pc := 50) C dX11_face_50 3 rfl ?_
    refine r_iload_n (pc := 51) C dX11_face_51 4 rfl ?_
    refine r_iload (pc := 52) C dX11_face_52 5 rfl ?_
    refine r_iload (pc := 54) C dX11_face_54 6 rfl ?_
    refine r_iload (pc := 56) C dX11_face_56 7 rfl ?_
    obtain ⟨o_v0, h⟩ := h
    refine r_callVl0 (pc := 58) C (rest := [.ref v0]) (a := v0) o_v0 [.int v1, .int v2, .int v3, .int v4, .int v5, .int v6] yV_X11_partsOf g_1554 (c_X11_partsOf h) dX11_face_58 rfl rfl (Nat.le_of_ble_eq_true rfl) ⟨by decide, by decide⟩ ⟨by decide, by decide⟩ ⟨rfl, rfl⟩ (fun x4 S2 h g3 => ?_)
    have h := h g3
    have o_v0 := gr_ob g3 o_v0
    refine r_ldc2 (pc := 61) C (v := (2520 : Int64)) dX11_face_61 g_1585 ?_
    refine r_iload (pc := 64) C dX11_face_64 8 rfl ?_
    refine r_callVl0 (pc := 66) C (rest := []) (a := v0) o_v0 [.long x4, .long (2520 : Int64), .int v7] yV_X11_told g_1586 (c_X11_told h) dX11_face_66 rfl rfl (Nat.le_of_ble_eq_true rfl) ⟨by decide, by decide⟩ ⟨by decide, by decide⟩ ⟨rfl, rfl⟩ (fun x7 S5 h g6 => ?_)
    have h := h g6
    have o_v0 := gr_ob g6 o_v0
    exact r_lret (pc := 69) C E ht dX11_face_69 (by decide) (by decide) h
  · have h := h.2 c1
    refine r_aload_n (pc := 37) C dX11_face_37 1 rfl ?_
    refine r_iload (pc := 38) C dX11_face_38 0 rfl ?_
    obtain ⟨o_v0, h⟩ := h
    refine r_callVi0 (pc := 40) C (rest := []) (a := v0) o_v0 [.int s0] yV_X11_refused g_1250 (c_X11_refused h) dX11_face_40 rfl rfl (Nat.le_of_ble_eq_true rfl) ⟨by decide, by decide⟩ ⟨by decide, by decide⟩ ⟨rfl, rfl⟩ (fun x10 S8 h g9 => ?_)
    have h := h g9
    have o_v0 := gr_ob g9 o_v0
    refine r_i2l (pc := 43) C dX11_face_43 ?_
    refine r_goto (pc := 44) C (tgt := 69) dX11_face_44 (by decide) ?_
    exact r_lret (pc := 69) C E ht dX11_face_69 (by decide) (by decide) h
def P_X11_face_0 (Q : Int64 → HS → Prop) (v0 : Nat) (v1 : Int32) (v2 : Int32) (v3 : Int32) (v4 : Int32) (v5 : Int32) (v6 : Int32) (v7 : Int32) (S : HS) : Prop := ob S v0 11 ∧ (∀ S1 : HS, S1 = sI S v0 0 (0 : Int32) → (P_X11_in v6 (0 : Int32) (4 : Int32) (fun x4 S2 => Gr S1 S2 → bl x4 → (((x4 = 0) → (P_X11_face_30 Q v0 v1 v2 v3 v4 v5 v6 v7 (1 : Int32) S2)) ∧ ((¬ x4 = 0) → (P_X11_refuses v0 v1 v2 v3 v4 v5 (fun x8 S6 => Gr S2 S6 → (P_X11_face_30 Q v0 v1 v2 v3 v4 v5 v6 v7 x8 S6)) S2)))) S1))
set_option maxRecDepth 20000 in
set_option maxHeartbeats 4000000 in
theorem T_X11_face_0 {X : CX} {Q : Int64 → HS → Prop} (C : Cx X cX11_face RX11 9 rm_X11_face) (E : ReJ X rm_X11_face Q) (ht : (xh X).sig.returnType = (some .long)) (hn : (xh X).name = yX11_face.name) {v0 : Nat} {v1 : Int32} {v2 : Int32} {v3 : Int32} {v4 : Int32} {v5 : Int32} {v6 : Int32} {v7 : Int32} {S : HS} (h : P_X11_face_0 Q v0 v1 v2 v3 v4 v5 v6 v7 S) : WS X 9 0 0 0 [(0, .ref v0), (1, .int v1), (2, .int v2), (3, .int v3), (4, .int v4), (5, .int v5), (6, .int v6), (7, .int v7)] [] S := by
  refine r_aload_n (pc := 0) C dX11_face_0 0 rfl ?_
  refine r_iconst (pc := 1) C (v := (0 : Int32)) dX11_face_1 (by decide) ?_
  obtain ⟨o_v0, h⟩ := h
  refine r_puti (pc := 2) C pfL_X11_40 dX11_face_2 o_v0 ?_
  refine r_heap (fun S1 eS1 => ?_)
  have h := h S1 eS1
  have o_v0 := ob_I eS1 o_v0
  refine r_iload (pc := 5) C dX11_face_5 6 rfl ?_
  refine r_iconst (pc := 7) C (v := (0 : Int32)) dX11_face_7 (by decide) ?_
  refine r_iconst (pc := 8) C (v := (4 : Int32)) dX11_face_8 (by decide) ?_
  refine r_callSi0 (pc := 9) C (rest := []) rfl [.int v6, .int (0 : Int32), .int (4 : Int32)] yS_X11_in g_1434 (c_X11_in h) dX11_face_9 rfl rfl (Nat.le_of_ble_eq_true rfl) ⟨by decide, by decide⟩ ⟨by decide, by decide⟩ ⟨rfl, rfl⟩ (fun x4 S2 h g3 => ?_)
  have bx4 := h.1
  have h := h.2 g3 bx4
  have o_v0 := gr_ob g3 o_v0
  refine r_if_eq (pc := 12) C (tgt := 29) dX11_face_12 (by decide) (fun c5 => ?_) (fun c5 => ?_)
  · have h := h.1 c5
    refine r_iconst (pc := 29) C (v := (1 : Int32)) dX11_face_29 (by decide) ?_
    exact r_sub [0, 1, 2, 3, 4, 5, 6, 7] rfl (T_X11_face_30 C E ht hn h)
  · have h := h.2 c5
    refine r_aload_n (pc := 15) C dX11_face_15 0 rfl ?_
    refine r_iload_n (pc := 16) C dX11_face_16 1 rfl ?_
    refine r_iload_n (pc := 17) C dX11_face_17 2 rfl ?_
    refine r_iload_n (pc := 18) C dX11_face_18 3 rfl ?_
    refine r_iload (pc := 19) C dX11_face_19 4 rfl ?_
    refine r_iload (pc := 21) C dX11_face_21 5 rfl ?_
    refine r_callVi0 (pc := 23) C (rest := []) (a := v0) o_v0 [.int v1, .int v2, .int v3, .int v4, .int v5] yV_X11_refuses g_1534 (c_X11_refuses h) dX11_face_23 rfl rfl (Nat.le_of_ble_eq_true rfl) ⟨by decide, by decide⟩ ⟨by decide, by decide⟩ ⟨rfl, rfl⟩ (fun x8 S6 h g7 => ?_)
    have h := h g7
    have o_v0 := gr_ob g7 o_v0
    refine r_goto (pc := 26) C (tgt := 30) dX11_face_26 (by decide) ?_
    exact r_sub [0, 1, 2, 3, 4, 5, 6, 7] rfl (T_X11_face_30 C E ht hn h)
def P_X11_face (v0 : Nat) (v1 : Int32) (v2 : Int32) (v3 : Int32) (v4 : Int32) (v5 : Int32) (v6 : Int32) (v7 : Int32) (Q : Int64 → HS → Prop) (S : HS) : Prop := P_X11_face_0 Q v0 v1 v2 v3 v4 v5 v6 v7 S
theorem c_X11_face {l : Launch} {Ee : EE} {S : HS} {v0 : Nat} {v1 : Int32} {v2 : Int32} {v3 : Int32} {v4 : Int32} {v5 : Int32} {v6 : Int32} {v7 : Int32} {Q : Int64 → HS → Prop} (h : P_X11_face v0 v1 v2 v3 v4 v5 v6 v7 Q S) : MJ l yX11_face cX11_face 9 (some .long) rm_X11_face Ee S [.ref v0, .int v1, .int v2, .int v3, .int v4, .int v5, .int v6, .int v7] Q :=
  openJ (by decide) (Nat.le_of_ble_eq_true rfl) (fun X C E ht hn hE hl => by subst hE; exact r_sub [0, 1, 2, 3, 4, 5, 6, 7] rfl (T_X11_face_0 C E ht hn h))
def rm_X11_fault : Room := { frames := 0, cells := 0, slots := 0, locals := 0 }
def P_X11_fault_0 (Q : Int32 → HS → Prop) (v0 : Nat) (S : HS) : Prop := ob S v0 11 ∧ (∀ S1 : HS, S1 = sI S v0 0 (0 : Int32) → (∀ x2 : Int32, x2 = fI S1 v0 13 → (Q x2 S1)))
set_option maxRecDepth 20000 in
set_option maxHeartbeats 4000000 in
theorem T_X11_fault_0 {X : CX} {Q : Int32 → HS → Prop} (C : Cx X cX11_fault RX11 1 rm_X11_fault) (E : ReI X rm_X11_fault Q) (ht : (xh X).sig.returnType = (some .int)) (hn : (xh X).name = yX11_fault.name) {v0 : Nat} {S : HS} (h : P_X11_fault_0 Q v0 S) : WS X 1 0 0 0 [(0, .ref v0)] [] S := by
  refine r_aload_n (pc := 0) C dX11_fault_0 0 rfl ?_
  refine r_iconst (pc := 1) C (v := (0 : Int32)) dX11_fault_1 (by decide) ?_
  obtain ⟨o_v0, h⟩ := h
  refine r_puti (pc := 2) C pfL_X11_40 dX11_fault_2 o_v0 ?_
  refine r_heap (fun S1 eS1 => ?_)
  have h := h S1 eS1
  have o_v0 := ob_I eS1 o_v0
  refine r_aload_n (pc := 5) C dX11_fault_5 0 rfl ?_
  refine r_geti (pc := 6) C fL_X11_97 dX11_fault_6 o_v0 ?_
  refine r_topi (fun x2 ex2 => ?_)
  have h := h x2 ex2
  exact r_iret (pc := 9) C E ht dX11_fault_9 (by decide) (by decide) h
def P_X11_fault (v0 : Nat) (Q : Int32 → HS → Prop) (S : HS) : Prop := P_X11_fault_0 Q v0 S
theorem c_X11_fault {l : Launch} {Ee : EE} {S : HS} {v0 : Nat} {Q : Int32 → HS → Prop} (h : P_X11_fault v0 Q S) : MI l yX11_fault cX11_fault 1 (some .int) rm_X11_fault Ee S [.ref v0] Q :=
  openI (by decide) (Nat.le_of_ble_eq_true rfl) (fun X C E ht hn hE hl => by subst hE; exact r_sub [0] rfl (T_X11_fault_0 C E ht hn h))
def rm_X11_feed : Room := { frames := 0, cells := 0, slots := 0, locals := 0 }
def P_X11_feed_76 (Q : Int32 → HS → Prop) (X23 : Nat → Int32 → Int32 → Int32 → Int32 → Int32 → Int32 → HS → Prop) (v0 : Nat) (v1 : Int32) (v2 : Int32) (v3 : Int32) (v4 : Int32) (v5 : Int32) (v6 : Int32) (s0 : Int32) (S : HS) : Prop := ob S v0 11 ∧ (∃ a1 : Nat, fR S v0 5 = some a1 ∧ (∀ x2 : Int32, x2 = fI S v0 6 → (∀ x3 : Int32, x3 = v6 - v6 / (4 : Int32) * (4 : Int32) → (ob S a1 12 ∧ (∀ x5 : Int32, x5 = (s0 >>> (((24 : Int32) - ((8 : Int32) * x3)) &&& 31)).toInt8.toInt32 → (vp_in x2 (hN S a1) ∧ (∀ S6 : HS, S6 = sI S a1 x2.toNatClampNeg (vp_nar .byte x5) → (∀ x7 : Int32, x7 = fI S6 v0 6 → (∀ x8 : Int32, x8 = x7 + (1 : Int32) → (∀ S9 : HS, S9 = sI S6 v0 6 x8 → (∀ x10 : Int32, x10 = v6 + (1 : Int32) → (X23 v0 v1 v2 v3 v4 v5 x10 S9))))))))))))
set_option maxRecDepth 20000 in
set_option maxHeartbeats 4000000 in
theorem T_X11_feed_76 {X : CX} {Q : Int32 → HS → Prop} (C : Cx X cX11_feed RX11 8 rm_X11_feed) (E : ReI X rm_X11_feed Q) (ht : (xh X).sig.returnType = (some .int)) (hn : (xh X).name = yX11_feed.name) {X23 : Nat → Int32 → Int32 → Int32 → Int32 → Int32 → Int32 → HS → Prop} (hX23 : ∀ (v0 : Nat) (v1 : Int32) (v2 : Int32) (v3 : Int32) (v4 : Int32) (v5 : Int32) (v6 : Int32) (S : HS), X23 v0 v1 v2 v3 v4 v5 v6 S → WS X 8 0 0 23 [(0, .ref v0), (1, .int v1), (2, .int v2), (3, .int v3), (4, .int v4), (5, .int v5), (6, .int v6)] [] S) {v0 : Nat} {v1 : Int32} {v2 : Int32} {v3 : Int32} {v4 : Int32} {v5 : Int32} {v6 : Int32} {s0 : Int32} {S : HS} (h : P_X11_feed_76 Q X23 v0 v1 v2 v3 v4 v5 v6 s0 S) : WS X 8 0 0 76 [(0, .ref v0), (1, .int v1), (2, .int v2), (3, .int v3), (4, .int v4), (5, .int v5), (6, .int v6)] [.int s0] S := by
  refine r_istore (pc := 76) C dX11_feed_76 (by decide) (lv' := [(7, .int s0), (0, .ref v0), (1, .int v1), (2, .int v2), (3, .int v3), (4, .int v4), (5, .int v5), (6, .int v6)]) rfl ?_
  refine r_aload_n (pc := 78) C dX11_feed_78 1 rfl ?_
  obtain ⟨o_v0, h⟩ := h
  obtain ⟨a1, ea1, h⟩ := h
  refine r_getr (pc := 79) C fL_X11_13 dX11_feed_79 o_v0 ea1 ?_
  refine r_aload_n (pc := 82) C dX11_feed_82 1 rfl ?_
  refine r_geti (pc := 83) C fL_X11_331 dX11_feed_83 o_v0 ?_
  refine r_topi (fun x2 ex2 => ?_)
  have h := h x2 ex2
  refine r_iload (pc := 86) C dX11_feed_86 0 rfl ?_
  refine r_bipush (pc := 88) C (v := (24 : Int32)) dX11_feed_88 (by decide) ?_
  refine r_bipush (pc := 90) C (v := (8 : Int32)) dX11_feed_90 (by decide) ?_
  refine r_iload (pc := 92) C dX11_feed_92 7 rfl ?_
  refine r_iconst (pc := 94) C (v := (4 : Int32)) dX11_feed_94 (by decide) ?_
  refine r_irem (pc := 95) C dX11_feed_95 (by decide) ?_
  refine r_topi (fun x3 ex3 => ?_)
  have h := h x3 ex3
  refine r_imul (pc := 96) C dX11_feed_96 ?_
  refine r_isub (pc := 97) C dX11_feed_97 ?_
  refine r_ishr (pc := 98) C dX11_feed_98 ?_
  refine r_i2b (pc := 99) C dX11_feed_99 ?_
  obtain ⟨o_a1, h⟩ := h
  refine r_topi (fun x5 ex5 => ?_)
  have h := h x5 ex5
  obtain ⟨i4, h⟩ := h
  refine r_bast (pc := 100) C dX11_feed_100 o_a1 i4 ?_
  refine r_heap (fun S6 eS6 => ?_)
  have h := h S6 eS6
  have o_a1 := ob_I eS6 o_a1
  have o_v0 := ob_I eS6 o_v0
  refine r_aload_n (pc := 101) C dX11_feed_101 1 rfl ?_
  refine r_dup (pc := 102) C dX11_feed_102 rfl ?_
  refine r_geti (pc := 103) C fL_X11_331 dX11_feed_103 o_v0 ?_
  refine r_topi (fun x7 ex7 => ?_)
  have h := h x7 ex7
  refine r_iconst (pc := 106) C (v := (1 : Int32)) dX11_feed_106 (by decide) ?_
  refine r_iadd (pc := 107) C dX11_feed_107 ?_
  refine r_topi (fun x8 ex8 => ?_)
  have h := h x8 ex8
  refine r_puti (pc := 108) C pfL_X11_331 dX11_feed_108 o_v0 ?_
  refine r_heap (fun S9 eS9 => ?_)
  have h := h S9 eS9
  have o_a1 := ob_I eS9 o_a1
  have o_v0 := ob_I eS9 o_v0
  obtain ⟨x10, ex10⟩ : ∃ z : Int32, z = v6 + (1 : Int32) := ⟨_, rfl⟩
  have h := h x10 ex10
  refine r_iinc (pc := 111) C (v := x10) (lv' := [(6, .int x10), (7, .int s0), (0, .ref v0), (1, .int v1), (2, .int v2), (3, .int v3), (4, .int v4), (5, .int v5)]) dX11_feed_111 7 rfl ex10.symm (by decide) rfl ?_
  refine r_goto (pc := 114) C (tgt := 23) dX11_feed_114 (by decide) ?_
  exact r_sub [2, 3, 4, 5, 6, 7, 0] rfl (hX23 v0 v1 v2 v3 v4 v5 x10 S9 h)
def B_X11_feed_23 (Q : Int32 → HS → Prop) (X23 : Nat → Int32 → Int32 → Int32 → Int32 → Int32 → Int32 → HS → Prop) (v0 : Nat) (v1 : Int32) (v2 : Int32) (v3 : Int32) (v4 : Int32) (v5 : Int32) (v6 : Int32) (S : HS) : Prop := (((20 : Int32) ≤ v6) → (ob S v0 11 ∧ (∀ x2 : Int32, x2 = fI S v0 6 → (Q x2 S)))) ∧ ((¬ (20 : Int32) ≤ v6) → ((((4 : Int32) ≤ v6) → ((((8 : Int32) ≤ v6) → ((((12 : Int32) ≤ v6) → ((((16 : Int32) ≤ v6) → (P_X11_feed_76 Q X23 v0 v1 v2 v3 v4 v5 v6 v5 S)) ∧ ((¬ (16 : Int32) ≤ v6) → (P_X11_feed_76 Q X23 v0 v1 v2 v3 v4 v5 v6 v4 S)))) ∧ ((¬ (12 : Int32) ≤ v6) → (P_X11_feed_76 Q X23 v0 v1 v2 v3 v4 v5 v6 v3 S)))) ∧ ((¬ (8 : Int32) ≤ v6) → (P_X11_feed_76 Q X23 v0 v1 v2 v3 v4 v5 v6 v2 S)))) ∧ ((¬ (4 : Int32) ≤ v6) → (P_X11_feed_76 Q X23 v0 v1 v2 v3 v4 v5 v6 v1 S))))
def P_X11_feed_23 (Q : Int32 → HS → Prop) (v0 : Nat) (v1 : Int32) (v2 : Int32) (v3 : Int32) (v4 : Int32) (v5 : Int32) (v6 : Int32) (S : HS) : Prop := ∀ X23 : Nat → Int32 → Int32 → Int32 → Int32 → Int32 → Int32 → HS → Prop, (∀ (v0 : Nat) (v1 : Int32) (v2 : Int32) (v3 : Int32) (v4 : Int32) (v5 : Int32) (v6 : Int32) (S : HS), B_X11_feed_23 Q X23 v0 v1 v2 v3 v4 v5 v6 S → X23 v0 v1 v2 v3 v4 v5 v6 S) → X23 v0 v1 v2 v3 v4 v5 v6 S
set_option maxRecDepth 20000 in
set_option maxHeartbeats 4000000 in
theorem TB_X11_feed_23 {X : CX} {Q : Int32 → HS → Prop} (C : Cx X cX11_feed RX11 8 rm_X11_feed) (E : ReI X rm_X11_feed Q) (ht : (xh X).sig.returnType = (some .int)) (hn : (xh X).name = yX11_feed.name) {X23 : Nat → Int32 → Int32 → Int32 → Int32 → Int32 → Int32 → HS → Prop} (hX23 : ∀ (v0 : Nat) (v1 : Int32) (v2 : Int32) (v3 : Int32) (v4 : Int32) (v5 : Int32) (v6 : Int32) (S : HS), X23 v0 v1 v2 v3 v4 v5 v6 S → WS X 8 0 0 23 [(0, .ref v0), (1, .int v1), (2, .int v2), (3, .int v3), (4, .int v4), (5, .int v5), (6, .int v6)] [] S) {v0 : Nat} {v1 : Int32} {v2 : Int32} {v3 : Int32} {v4 : Int32} {v5 : Int32} {v6 : Int32} {S : HS} (h : B_X11_feed_23 Q X23 v0 v1 v2 v3 v4 v5 v6 S) : WS X 8 0 0 23 [(0, .ref v0), (1, .int v1), (2, .int v2), (3, .int v3), (4, .int v4), (5, .int v5), (6, .int v6)] [] S := by
  refine r_iload (pc := 23) C dX11_feed_23 6 rfl ?_
  refine r_bipush (pc := 25) C (v := (20 : Int32)) dX11_feed_25 (by decide) ?_
  refine r_icmp_ge (pc := 27) C (tgt := 117) dX11_feed_27 (by decide) (fun c1 => ?_) (fun c1 => ?_)
  · have h := h.1 c1
    refine r_aload_n (pc := 117) C dX11_feed_117 0 rfl ?_
    obtain ⟨o_v0, h⟩ := h
    refine r_geti (pc := 118) C fL_X11_331 dX11_feed_118 o_v0 ?_
    refine r_topi (fun x2 ex2 => ?_)
    have h := h x2 ex2
    exact r_iret (pc := 121) C E ht dX11_feed_121 (by decide) (by decide) h
  · have h := h.2 c1
    refine r_iload (pc := 30) C dX11_feed_30 6 rfl ?_
    refine r_iconst (pc := 32) C (v := (4 : Int32)) dX11_feed_32 (by decide) ?_
    refine r_icmp_ge (pc := 33) C (tgt := 40) dX11_feed_33 (by decide) (fun c3 => ?_) (fun c3 => ?_)
    · have h := h.1 c3
      refine r_iload (pc := 40) C dX11_feed_40 6 rfl ?_
      refine r_bipush (pc := 42) C (v := (8 : Int32)) dX11_feed_42 (by decide) ?_
      refine r_icmp_ge (pc := 44) C (tgt := 51) dX11_feed_44 (by decide) (fun c4 => ?_) (fun c4 => ?_)
      · have h := h.1 c4
        refine r_iload (pc := 51) C dX11_feed_51 6 rfl ?_
        refine r_bipush (pc := 53) C (v := (12 : Int32)) dX11_feed_53 (by decide) ?_
        refine r_icmp_ge (pc := 55) C (tgt := 62) dX11_feed_55 (by decide) (fun c5 => ?_) (fun c5 => ?_)
        · have h := h.1 c5
          refine r_iload (pc := 62) C dX11_feed_62 6 rfl ?_
          refine r_bipush (pc := 64) C (v := (16 : Int32)) dX11_feed_64 (by decide) ?_
          refine r_icmp_ge (pc := 66) C (tgt := 74) dX11_feed_66 (by decide) (fun c6 => ?_) (fun c6 => ?_)
          · have h := h.1 c6
            refine r_iload (pc := 74) C dX11_feed_74 5 rfl ?_
            exact r_sub [0, 1, 2, 3, 4, 5, 6] rfl (T_X11_feed_76 C E ht hn hX23 h)
          · have h := h.2 c6
            refine r_iload (pc := 69) C dX11_feed_69 4 rfl ?_
            refine r_goto (pc := 71) C (tgt := 76) dX11_feed_71 (by decide) ?_
            exact r_sub [0, 1, 2, 3, 4, 5, 6] rfl (T_X11_feed_76 C E ht hn hX23 h)
        · have h := h.2 c5
          refine r_iload_n (pc := 58) C dX11_feed_58 3 rfl ?_
          refine r_goto (pc := 59) C (tgt := 76) dX11_feed_59 (by decide) ?_
          exact r_sub [0, 1, 2, 3, 4, 5, 6] rfl (T_X11_feed_76 C E ht hn hX23 h)
      · have h := h.2 c4
        refine r_iload_n (pc := 47) C dX11_feed_47 2 rfl ?_
        refine r_goto (pc := 48) C (tgt := 76) dX11_feed_48 (by decide) ?_
        exact r_sub [0, 1, 2, 3, 4, 5, 6] rfl (T_X11_feed_76 C E ht hn hX23 h)
    · have h := h.2 c3
      refine r_iload_n (pc := 36) C dX11_feed_36 1 rfl ?_
      refine r_goto (pc := 37) C (tgt := 76) dX11_feed_37 (by decide) ?_
      exact r_sub [0, 1, 2, 3, 4, 5, 6] rfl (T_X11_feed_76 C E ht hn hX23 h)
theorem T_X11_feed_23 {X : CX} {Q : Int32 → HS → Prop} (C : Cx X cX11_feed RX11 8 rm_X11_feed) (E : ReI X rm_X11_feed Q) (ht : (xh X).sig.returnType = (some .int)) (hn : (xh X).name = yX11_feed.name) {v0 : Nat} {v1 : Int32} {v2 : Int32} {v3 : Int32} {v4 : Int32} {v5 : Int32} {v6 : Int32} {S : HS} (h : P_X11_feed_23 Q v0 v1 v2 v3 v4 v5 v6 S) : WS X 8 0 0 23 [(0, .ref v0), (1, .int v1), (2, .int v2), (3, .int v3), (4, .int v4), (5, .int v5), (6, .int v6)] [] S :=
  h (fun v0 v1 v2 v3 v4 v5 v6 S => WS X 8 0 0 23 [(0, .ref v0), (1, .int v1), (2, .int v2), (3, .int v3), (4, .int v4), (5, .int v5), (6, .int v6)] [] S) (fun v0 v1 v2 v3 v4 v5 v6 S hh => TB_X11_feed_23 C E ht hn (fun v0 v1 v2 v3 v4 v5 v6 S z => z) hh)
def P_X11_feed_0 (Q : Int32 → HS → Prop) (v0 : Nat) (v1 : Int32) (v2 : Int32) (v3 : Int32) (v4 : Int32) (v5 : Int32) (S : HS) : Prop := ob S v0 11 ∧ (∀ S1 : HS, S1 = sI S v0 0 (0 : Int32) → (∀ x2 : Int32, x2 = fI S1 v0 6 → ((((x2 + (20 : Int32)) ≤ (900 : Int32)) → (P_X11_feed_23 Q v0 v1 v2 v3 v4 v5 (0 : Int32) S1)) ∧ ((¬ (x2 + (20 : Int32)) ≤ (900 : Int32)) → (Q (-1 : Int32) S1)))))
set_option maxRecDepth 20000 in
set_option maxHeartbeats 4000000 in
theorem T_X11_feed_0 {X : CX} {Q : Int32 → HS → Prop} (C : Cx X cX11_feed RX11 8 rm_X11_feed) (E : ReI X rm_X11_feed Q) (ht : (xh X).sig.returnType = (some .int)) (hn : (xh X).name = yX11_feed.name) {v0 : Nat} {v1 : Int32} {v2 : Int32} {v3 : Int32} {v4 : Int32} {v5 : Int32} {S : HS} (h : P_X11_feed_0 Q v0 v1 v2 v3 v4 v5 S) : WS X 8 0 0 0 [(0, .ref v0), (1, .int v1), (2, .int v2), (3, .int v3), (4, .int v4), (5, .int v5)] [] S := by
  refine r_aload_n (pc := 0) C dX11_feed_0 0 rfl ?_
  refine r_iconst (pc := 1) C (v := (0 : Int32)) dX11_feed_1 (by decide) ?_
  obtain ⟨o_v0, h⟩ := h
  refine r_puti (pc := 2) C pfL_X11_40 dX11_feed_2 o_v0 ?_
  refine r_heap (fun S1 eS1 => ?_)
  have h := h S1 eS1
  have o_v0 := ob_I eS1 o_v0
  refine r_aload_n (pc := 5) C dX11_feed_5 0 rfl ?_
  refine r_geti (pc := 6) C fL_X11_331 dX11_feed_6 o_v0 ?_
  refine r_topi (fun x2 ex2 => ?_)
  have h := h x2 ex2
  refine r_bipush (pc := 9) C (v := (20 : Int32)) dX11_feed_9 (by decide) ?_
  refine r_iadd (pc := 11) C dX11_feed_11 ?_
  refine r_sipush (pc := 12) C (v := (900 : Int32)) dX11_feed_12 (by decide) ?_
  refine r_icmp_le (pc := 15) C (tgt := 20) dX11_feed_15 (by decide) (fun c3 => ?_) (fun c3 => ?_)
  · have h := h.1 c3
    refine r_iconst (pc := 20) C (v := (0 : Int32)) dX11_feed_20 (by decide) ?_
    refine r_istore (pc := 21) C dX11_feed_21 (by decide) (lv' := [(6, .int (0 : Int32)), (0, .ref v0), (1, .int v1), (2, .int v2), (3, .int v3), (4, .int v4), (5, .int v5)]) rfl ?_
    exact r_sub [1, 2, 3, 4, 5, 6, 0] rfl (T_X11_feed_23 C E ht hn h)
  · have h := h.2 c3
    refine r_iconst (pc := 18) C (v := (-1 : Int32)) dX11_feed_18 (by decide) ?_
    exact r_iret (pc := 19) C E ht dX11_feed_19 (by decide) (by decide) h
def P_X11_feed (v0 : Nat) (v1 : Int32) (v2 : Int32) (v3 : Int32) (v4 : Int32) (v5 : Int32) (Q : Int32 → HS → Prop) (S : HS) : Prop := P_X11_feed_0 Q v0 v1 v2 v3 v4 v5 S
theorem c_X11_feed {l : Launch} {Ee : EE} {S : HS} {v0 : Nat} {v1 : Int32} {v2 : Int32} {v3 : Int32} {v4 : Int32} {v5 : Int32} {Q : Int32 → HS → Prop} (h : P_X11_feed v0 v1 v2 v3 v4 v5 Q S) : MI l yX11_feed cX11_feed 8 (some .int) rm_X11_feed Ee S [.ref v0, .int v1, .int v2, .int v3, .int v4, .int v5] Q :=
  openI (by decide) (Nat.le_of_ble_eq_true rfl) (fun X C E ht hn hE hl => by subst hE; exact r_sub [0, 1, 2, 3, 4, 5] rfl (T_X11_feed_0 C E ht hn h))
def rm_X11_refusesTwo : Room := { frames := 3, cells := 0, slots := 0, locals := 69 }
def P_X11_refusesTwo_0 (Q : Int32 → HS → Prop) (v0 : Nat) (v1 : Int32) (v2 : Int32) (v3 : Int32) (v4 : Int32) (v5 : Int32) (v6 : Int32) (S : HS) : Prop := ((v1 = v2) → (Q (1 : Int32) S)) ∧ ((¬ v1 = v2) → (ob S v0 11 ∧ (P_X11_isWalker v0 v2 (fun x4 S2 => Gr S S2 → bl x4 → (((¬ x4 = 0) → (P_X11_refuses v0 v1 v3 v4 v5 v6 (fun x8 S6 => Gr S2 S6 → (((x8 ≤ 0) → (P_X11_isSpeed v0 v2 v6 (fun x12 S10 => Gr S6 S10 → bl x12 → (((x12 = 0) → (Q (2 : Int32) S10)) ∧ ((¬ x12 = 0) → (Q (0 : Int32) S10)))) S6)) ∧ ((¬ x8 ≤ 0) → (Q x8 S6)))) S2)) ∧ ((x4 = 0) → (Q (1 : Int32) S2)))) S)))
set_option maxRecDepth 20000 in
set_option maxHeartbeats 4000000 in
theorem T_X11_refusesTwo_0 {X : CX} {Q : Int32 → HS → Prop} (C : Cx X cX11_refusesTwo RX11 8 rm_X11_refusesTwo) (E : ReI X rm_X11_refusesTwo Q) (ht : (xh X).sig.returnType = (some .int)) (hn : (xh X).name = yX11_refusesTwo.name) {v0 : Nat} {v1 : Int32} {v2 : Int32} {v3 : Int32} {v4 : Int32} {v5 : Int32} {v6 : Int32} {S : HS} (h : P_X11_refusesTwo_0 Q v0 v1 v2 v3 v4 v5 v6 S) : WS X 8 0 0 0 [(0, .ref v0), (1, .int v1), (2, .int v2), (3, .int v3), (4, .int v4), (5, .int v5), (6, .int v6)] [] S := by
  refine r_iload_n (pc := 0) C dX11_refusesTwo_0 1 rfl ?_
  refine r_iload_n (pc := 1) C dX11_refusesTwo_1 2 rfl ?_
  refine r_icmp_eq (pc := 2) C (tgt := 13) dX11_refusesTwo_2 (by decide) (fun c1 => ?_) (fun c1 => ?_)
  · have h := h.1 c1
    refine r_iconst (pc := 13) C (v := (1 : Int32)) dX11_refusesTwo_13 (by decide) ?_
    exact r_iret (pc := 14) C E ht dX11_refusesTwo_14 (by decide) (by decide) h
  · have h := h.2 c1
    refine r_aload_n (pc := 5) C dX11_refusesTwo_5 0 rfl ?_
    refine r_iload_n (pc := 6) C dX11_refusesTwo_6 2 rfl ?_
    obtain ⟨o_v0, h⟩ := h
    refine r_callVi0 (pc := 7) C (rest := []) (a := v0) o_v0 [.int v2] yV_X11_isWalker g_1538 (c_X11_isWalker h) dX11_refusesTwo_7 rfl rfl (Nat.le_of_ble_eq_true rfl) ⟨by decide, by decide⟩ ⟨by decide, by decide⟩ ⟨rfl, rfl⟩ (fun x4 S2 h g3 => ?_)
    have bx4 := h.1
    have h := h.2 g3 bx4
    have o_v0 := gr_ob g3 o_v0
    refine r_if_ne (pc := 10) C (tgt := 15) dX11_refusesTwo_10 (by decide) (fun c5 => ?_) (fun c5 => ?_)
    · have h := h.1 c5
      refine r_aload_n (pc := 15) C dX11_refusesTwo_15 0 rfl ?_
      refine r_iload_n (pc := 16) C dX11_refusesTwo_16 1 rfl ?_
      refine r_iload_n (pc := 17) C dX11_refusesTwo_17 3 rfl ?_
      refine r_iload (pc := 18) C dX11_refusesTwo_18 4 rfl ?_
      refine r_iload (pc := 20) C dX11_refusesTwo_20 5 rfl ?_
      refine r_iload (pc := 22) C dX11_refusesTwo_22 6 rfl ?_
      refine r_callVi0 (pc := 24) C (rest := []) (a := v0) o_v0 [.int v1, .int v3, .int v4, .int v5, .int v6] yV_X11_refuses g_1534 (c_X11_refuses h) dX11_refusesTwo_24 rfl rfl (Nat.le_of_ble_eq_true rfl) ⟨by decide, by decide⟩ ⟨by decide, by decide⟩ ⟨rfl, rfl⟩ (fun x8 S6 h g7 => ?_)
      have h := h g7
      have o_v0 := gr_ob g7 o_v0
      refine r_istore (pc := 27) C dX11_refusesTwo_27 (by decide) (lv' := [(7, .int x8), (0, .ref v0), (1, .int v1), (2, .int v2), (3, .int v3), (4, .int v4), (5, .int v5), (6, .int v6)]) rfl ?_
      refine r_iload (pc := 29) C dX11_refusesTwo_29 0 rfl ?_
      refine r_if_le (pc := 31) C (tgt := 39) dX11_refusesTwo_31 (by decide) (fun c9 => ?_) (fun c9 => ?_)
      · have h := h.1 c9
        refine r_aload_n (pc := 39) C dX11_refusesTwo_39 1 rfl ?_
        refine r_iload_n (pc := 40) C dX11_refusesTwo_40 3 rfl ?_
        refine r_iload (pc := 41) C dX11_refusesTwo_41 7 rfl ?_
        refine r_callVi0 (pc := 43) C (rest := []) (a := v0) o_v0 [.int v2, .int v6] yV_X11_isSpeed g_1550 (c_X11_isSpeed h) dX11_refusesTwo_43 rfl rfl (Nat.le_of_ble_eq_true rfl) ⟨by decide, by decide⟩ ⟨by decide, by decide⟩ ⟨rfl, rfl⟩ (fun x12 S10 h g11 => ?_)
        have bx12 := h.1
        have h := h.2 g11 bx12
        have o_v0 := gr_ob g11 o_v0
        refine r_if_eq (pc := 46) C (tgt := 53) dX11_refusesTwo_46 (by decide) (fun c13 => ?_) (fun c13 => ?_)
        · have h := h.1 c13
          refine r_iconst (pc := 53) C (v := (2 : Int32)) dX11_refusesTwo_53 (by decide) ?_
          exact r_iret (pc := 54) C E ht dX11_refusesTwo_54 (by decide) (by decide) h
        · have h := h.2 c13
          refine r_iconst (pc := 49) C (v := (0 : Int32)) dX11_refusesTwo_49 (by decide) ?_
          refine r_goto (pc := 50) C (tgt := 54) dX11_refusesTwo_50 (by decide) ?_
          exact r_iret (pc := 54) C E ht dX11_refusesTwo_54 (by decide) (by decide) h
      · have h := h.2 c9
        refine r_iload (pc := 34) C dX11_refusesTwo_34 0 rfl ?_
        refine r_goto (pc := 36) C (tgt := 54) dX11_refusesTwo_36 (by decide) ?_
        exact r_iret (pc := 54) C E ht dX11_refusesTwo_54 (by decide) (by decide) h
    · have h := h.2 c5
      refine r_iconst (pc := 13) C (v := (1 : Int32)) dX11_refusesTwo_13 (by decide) ?_
      exact r_iret (pc := 14) C E ht dX11_refusesTwo_14 (by decide) (by decide) h
def P_X11_refusesTwo (v0 : Nat) (v1 : Int32) (v2 : Int32) (v3 : Int32) (v4 : Int32) (v5 : Int32) (v6 : Int32) (Q : Int32 → HS → Prop) (S : HS) : Prop := P_X11_refusesTwo_0 Q v0 v1 v2 v3 v4 v5 v6 S
theorem c_X11_refusesTwo {l : Launch} {Ee : EE} {S : HS} {v0 : Nat} {v1 : Int32} {v2 : Int32} {v3 : Int32} {v4 : Int32} {v5 : Int32} {v6 : Int32} {Q : Int32 → HS → Prop} (h : P_X11_refusesTwo v0 v1 v2 v3 v4 v5 v6 Q S) : MI l yX11_refusesTwo cX11_refusesTwo 8 (some .int) rm_X11_refusesTwo Ee S [.ref v0, .int v1, .int v2, .int v3, .int v4, .int v5, .int v6] Q :=
  openI (by decide) (Nat.le_of_ble_eq_true rfl) (fun X C E ht hn hE hl => by subst hE; exact r_sub [0, 1, 2, 3, 4, 5, 6] rfl (T_X11_refusesTwo_0 C E ht hn h))
def rm_X11_together : Room := { frames := 4, cells := 0, slots := 0, locals := 109 }
def B_X11_together_6 (Q : Int64 → HS → Prop) (X6 : Nat → Int32 → Int32 → Int32 → Int32 → Int32 → Int32 → Int64 → Int32 → HS → Prop) (v0 : Nat) (v1 : Int32) (v2 : Int32) (v3 : Int32) (v4 : Int32) (v5 : Int32) (v6 : Int32) (v7 : Int64) (v9 : Int32) (S : HS) : Prop := (((5 : Int32) ≤ v9) → (ob S v0 11 ∧ (∃ a2 : Nat, fR S v0 3 = some a2 ∧ (ob S a2 10 ∧ (∃ a3 : Nat, fR S a2 16 = some a3 ∧ (ob S a3 13 ∧ (vp_in v3 (hN S a3) ∧ ∀ x5 : Int32, x5 = fI S a3 v3.toNatClampNeg → (∃ a6 : Nat, fR S v0 3 = some a6 ∧ (ob S a6 10 ∧ (∃ a7 : Nat, fR S a6 17 = some a7 ∧ (ob S a7 13 ∧ (vp_in v3 (hN S a7) ∧ ∀ x9 : Int32, x9 = fI S a7 v3.toNatClampNeg → (¬ v6 = 0 ∧ ∀ x11 : Int32, x11 = (2520 : Int32) / v6 → (Q ((v7 * ((x5 - x9).toInt64)) * x11.toInt64) S)))))))))))))) ∧ ((¬ (5 : Int32) ≤ v9) → (ob S v0 11 ∧ (∃ a12 : Nat, fR S v0 3 = some a12 ∧ (ob S a12 10 ∧ (∃ a13 : Nat, fR S a12 22 = some a13 ∧ (ob S a13 13 ∧ (vp_in v2 (hN S a13) ∧ ∀ x15 : Int32, x15 = fI S a13 v2.toNatClampNeg → (P_X11_inTime v0 v1 v3 v4 v5 v6 v9 (0 : Int32) x15 (fun x18 S16 => Gr S S16 → (∀ x19 : Int64, x19 = v7 + x18.toInt64 → (∃ a20 : Nat, fR S16 v0 3 = some a20 ∧ (ob S16 a20 10 ∧ (∃ a21 : Nat, fR S16 a20 22 = some a21 ∧ (ob S16 a21 13 ∧ (vp_in v1 (hN S16 a21) ∧ ∀ x23 : Int32, x23 = fI S16 a21 v1.toNatClampNeg → (P_X11_inTime v0 v2 v3 v4 v5 v6 v9 x23 (0 : Int32) (fun x26 S24 => Gr S16 S24 → (∀ x27 : Int64, x27 = x19 + x26.toInt64 → (∀ x28 : Int32, x28 = v9 + (1 : Int32) → (X6 v0 v1 v2 v3 v4 v5 v6 x27 x28 S24)))) S16)))))))) S))))))))
def P_X11_together_6 (Q : Int64 → HS → Prop) (v0 : Nat) (v1 : Int32) (v2 : Int32) (v3 : Int32) (v4 : Int32) (v5 : Int32) (v6 : Int32) (v7 : Int64) (v9 : Int32) (S : HS) : Prop := ∀ X6 : Nat → Int32 → Int32 → Int32 → Int32 → Int32 → Int32 → Int64 → Int32 → HS → Prop, (∀ (v0 : Nat) (v1 : Int32) (v2 : Int32) (v3 : Int32) (v4 : Int32) (v5 : Int32) (v6 : Int32) (v7 : Int64) (v9 : Int32) (S : HS), B_X11_together_6 Q X6 v0 v1 v2 v3 v4 v5 v6 v7 v9 S → X6 v0 v1 v2 v3 v4 v5 v6 v7 v9 S) → X6 v0 v1 v2 v3 v4 v5 v6 v7 v9 S
set_option maxRecDepth 20000 in
set_option maxHeartbeats 4000000 in
theorem TB_X11_together_6 {X : CX} {Q : Int64 → HS → Prop} (C : Cx X cX11_together RX11 10 rm_X11_together) (E : ReJ X rm_X11_together Q) (ht : (xh X).sig.returnType = (some .long)) (hn : (xh X).name = yX11_together.name) {X6 : Nat → Int32 → Int32 → Int32 → Int32 → Int32 → Int32 → Int64 → Int32 → HS → Prop} (hX6 : ∀ (v0 : Nat) (v1 : Int32) (v2 : Int32) (v3 : Int32) (v4 : Int32) (v5 : Int32) (v6 : Int32) (v7 : Int64) (v9 : Int32) (S : HS), X6 v0 v1 v2 v3 v4 v5 v6 v7 v9 S → WS X 10 0 0 6 [(0, .ref v0), (1, .int v1), (2, .int v2), (3, .int v3), (4, .int v4), (5, .int v5), (6, .int v6), (7, .long v7), (9, .int v9)] [] S) {v0 : Nat} {v1 : Int32} {v2 : Int32} {v3 : Int32} {v4 : Int32} {v5 : Int32} {v6 : Int32} {v7 : Int64} {v9 : Int32} {S : HS} (h : B_X11_together_6 Q X6 v0 v1 v2 v3 v4 v5 v6 v7 v9 S) : WS X 10 0 0 6 [(0, .ref v0), (1, .int v1), (2, .int v2), (3, .int v3), (4, .int v4), (5, .int v5), (6, .int v6), (7, .long v7), (9, .int v9)] [] S := by
  refine r_iload (pc := 6) C dX11_together_6 8 rfl ?_
  refine r_iconst (pc := 8) C (v := (5 : Int32)) dX11_together_8 (by decide) ?_
  refine r_icmp_ge (pc := 9) C (tgt := 78) dX11_together_9 (by decide) (fun c1 => ?_) (fun c1 => ?_)
  · have h := h.1 c1
    refine r_lload (pc := 78) C dX11_together_78 7 rfl ?_
    refine r_aload_n (pc := 80) C dX11_together_80 0 rfl ?_
    obtain ⟨o_v0, h⟩ := h
    obtain ⟨a2, ea2, h⟩ := h
    refine r_getr (pc := 81) C fL_X11_338 dX11_together_81 o_v0 ea2 ?_
    obtain ⟨o_a2, h⟩ := h
    obtain ⟨a3, ea3, h⟩ := h
    refine r_getNr (pc := 84) C fN_X11_279 dX11_together_84 o_a2 ea3 ?_
    refine r_iload_n (pc := 87) C dX11_together_87 3 rfl ?_
    obtain ⟨o_a3, h⟩ := h
    obtain ⟨i4, h⟩ := h
    refine r_iald (pc := 88) C dX11_together_88 o_a3 i4 ?_
    refine r_topi (fun x5 ex5 => ?_)
    have h := h x5 ex5
    refine r_aload_n (pc := 89) C dX11_together_89 0 rfl ?_
    obtain ⟨a6, ea6, h⟩ := h
    refine r_getr (pc := 90) C fL_X11_338 dX11_together_90 o_v0 ea6 ?_
    obtain ⟨o_a6, h⟩ := h
    obtain ⟨a7, ea7, h⟩ := h
    refine r_getNr (pc := 93) C fN_X11_282 dX11_together_93 o_a6 ea7 ?_
    refine r_iload_n (pc := 96) C dX11_together_96 3 rfl ?_
    obtain ⟨o_a7, h⟩ := h
    obtain ⟨i8, h⟩ := h
    refine r_iald (pc := 97) C dX11_together_97 o_a7 i8 ?_
    refine r_topi (fun x9 ex9 => ?_)
    have h := h x9 ex9
    refine r_isub (pc := 98) C dX11_together_98 ?_
    refine r_i2l (pc := 99) C dX11_together_99 ?_
    refine r_lmul (pc := 100) C dX11_together_100 ?_
    refine r_sipush (pc := 101) C (v := (2520 : Int32)) dX11_together_101 (by decide) ?_
    refine r_iload (pc := 104) C dX11_together_104 6 rfl ?_
    obtain ⟨q10, h⟩ := h
    refine r_idiv (pc := 106) C dX11_together_106 q10 ?_
    refine r_topi (fun x11 ex11 => ?_)
    have h := h x11 ex11
    refine r_i2l (pc := 107) C dX11_together_107 ?_
    refine r_lmul (pc := 108) C dX11_together_108 ?_
    exact r_lret (pc := 109) C E ht dX11_together_109 (by decide) (by decide) h
  · have h := h.2 c1
    refine r_lload (pc := 12) C dX11_together_12 7 rfl ?_
    refine r_aload_n (pc := 14) C dX11_together_14 0 rfl ?_
    refine r_iload_n (pc := 15) C dX11_together_15 1 rfl ?_
    refine r_iload_n (pc := 16) C dX11_together_16 3 rfl ?_
    refine r_iload (pc := 17) C dX11_together_17 4 rfl ?_
    refine r_iload (pc := 19) C dX11_together_19 5 rfl ?_
    refine r_iload (pc := 21) C dX11_together_21 6 rfl ?_
    refine r_iload (pc := 23) C dX11_together_23 8 rfl ?_
    refine r_iconst (pc := 25) C (v := (0 : Int32)) dX11_together_25 (by decide) ?_
    refine r_aload_n (pc := 26) C dX11_together_26 0 rfl ?_
    obtain ⟨o_v0, h⟩ := h
    obtain ⟨a12, ea12, h⟩ := h
    refine r_getr (pc := 27) C fL_X11_338 dX11_together_27 o_v0 ea12 ?_
    obtain ⟨o_a12, h⟩ := h
    obtain ⟨a13, ea13, h⟩ := h
    refine r_getNr (pc := 30) C fN_X11_311 dX11_together_30 o_a12 ea13 ?_
    refine r_iload_n (pc := 33) C dX11_together_33 2 rfl ?_
    obtain ⟨o_a13, h⟩ := h
    obtain ⟨i14, h⟩ := h
    refine r_iald (pc := 34) C dX11_together_34 o_a13 i14 ?_
    refine r_topi (fun x15 ex15 => ?_)
    have h := h x15 ex15
    refine r_callVi0 (pc := 35) C (rest := [.long v7]) (a := v0) o_v0 [.int v1, .int v3, .int v4, .int v5, .int v6, .int v9, .int (0 : Int32), .int x15] yV_X11_inTime g_1558 (c_X11_inTime h) dX11_together_35 rfl rfl (Nat.le_of_ble_eq_true rfl) ⟨by decide, by decide⟩ ⟨by decide, by decide⟩ ⟨rfl, rfl⟩ (fun x18 S16 h g17 => ?_)
    have h := h g17
    have o_a12 := gr_ob g17 o_a12
    have o_a13 := gr_ob g17 o_a13
    have o_v0 := gr_ob g17 o_v0
    refine r_i2l (pc := 38) C dX11_together_38 ?_
    refine r_ladd (pc := 39) C dX11_together_39 ?_
    refine r_topl (fun x19 ex19 => ?_)
    have h := h x19 ex19
    refine r_lstore (pc := 40) C dX11_together_40 (by decide) (lv' := [(7, .long x19), (0, .ref v0), (1, .int v1), (2, .int v2), (3, .int v3), (4, .int v4), (5, .int v5), (6, .int v6), (9, .int v9)]) rfl ?_
    refine r_lload (pc := 42) C dX11_together_42 0 rfl ?_
    refine r_aload_n (pc := 44) C dX11_together_44 1 rfl ?_
    refine r_iload_n (pc := 45) C dX11_together_45 3 rfl ?_
    refine r_iload_n (pc := 46) C dX11_together_46 4 rfl ?_
    refine r_iload (pc := 47) C dX11_together_47 5 rfl ?_
    refine r_iload (pc := 49) C dX11_together_49 6 rfl ?_
    refine r_iload (pc := 51) C dX11_together_51 7 rfl ?_
    refine r_iload (pc := 53) C dX11_together_53 8 rfl ?_
    refine r_aload_n (pc := 55) C dX11_together_55 1 rfl ?_
    obtain ⟨a20, ea20, h⟩ := h
    refine r_getr (pc := 56) C fL_X11_338 dX11_together_56 o_v0 ea20 ?_
    obtain ⟨o_a20, h⟩ := h
    obtain ⟨a21, ea21, h⟩ := h
    refine r_getNr (pc := 59) C fN_X11_311 dX11_together_59 o_a20 ea21 ?_
    refine r_iload_n (pc := 62) C dX11_together_62 2 rfl ?_
    obtain ⟨o_a21, h⟩ := h
    obtain ⟨i22, h⟩ := h
    refine r_iald (pc := 63) C dX11_together_63 o_a21 i22 ?_
    refine r_topi (fun x23 ex23 => ?_)
    have h := h x23 ex23
    refine r_iconst (pc := 64) C (v := (0 : Int32)) dX11_together_64 (by decide) ?_
    refine r_callVi0 (pc := 65) C (rest := [.long x19]) (a := v0) o_v0 [.int v2, .int v3, .int v4, .int v5, .int v6, .int v9, .int x23, .int (0 : Int32)] yV_X11_inTime g_1558 (c_X11_inTime h) dX11_together_65 rfl rfl (Nat.le_of_ble_eq_true rfl) ⟨by decide, by decide⟩ ⟨by decide, by decide⟩ ⟨rfl, rfl⟩ (fun x26 S24 h g25 => ?_)
    have h := h g25
    have o_a12 := gr_ob g25 o_a12
    have o_a13 := gr_ob g25 o_a13
    have o_a20 := gr_ob g25 o_a20
    have o_a21 := gr_ob g25 o_a21
    have o_v0 := gr_ob g25 o_v0
    refine r_i2l (pc := 68) C dX11_together_68 ?_
    refine r_ladd (pc := 69) C dX11_together_69 ?_
    refine r_topl (fun x27 ex27 => ?_)
    have h := h x27 ex27
    refine r_lstore (pc := 70) C dX11_together_70 (by decide) (lv' := [(7, .long x27), (0, .ref v0), (1, .int v1), (2, .int v2), (3, .int v3), (4, .int v4), (5, .int v5), (6, .int v6), (9, .int v9)]) rfl ?_
    obtain ⟨x28, ex28⟩ : ∃ z : Int32, z = v9 + (1 : Int32) := ⟨_, rfl⟩
    have h := h x28 ex28
    refine r_iinc (pc := 72) C (v := x28) (lv' := [(9, .int x28), (7, .long x27), (0, .ref v0), (1, .int v1), (2, .int v2), (3, .int v3), (4, .int v4), (5, .int v5), (6, .int v6)]) dX11_together_72 8 rfl ex28.symm (by decide) rfl ?_
    refine r_goto (pc := 75) C (tgt := 6) dX11_together_75 (by decide) ?_
    exact r_sub [2, 3, 4, 5, 6, 7, 8, 1, 0] rfl (hX6 v0 v1 v2 v3 v4 v5 v6 x27 x28 S24 h)
theorem T_X11_together_6 {X : CX} {Q : Int64 → HS → Prop} (C : Cx X cX11_together RX11 10 rm_X11_together) (E : ReJ X rm_X11_together Q) (ht : (xh X).sig.returnType = (some .long)) (hn : (xh X).name = yX11_together.name) {v0 : Nat} {v1 : Int32} {v2 : Int32} {v3 : Int32} {v4 : Int32} {v5 : Int32} {v6 : Int32} {v7 : Int64} {v9 : Int32} {S : HS} (h : P_X11_together_6 Q v0 v1 v2 v3 v4 v5 v6 v7 v9 S) : WS X 10 0 0 6 [(0, .ref v0), (1, .int v1), (2, .int v2), (3, .int v3), (4, .int v4), (5, .int v5), (6, .int v6), (7, .long v7), (9, .int v9)] [] S :=
  h (fun v0 v1 v2 v3 v4 v5 v6 v7 v9 S => WS X 10 0 0 6 [(0, .ref v0), (1, .int v1), (2, .int v2), (3, .int v3), (4, .int v4), (5, .int v5), (6, .int v6), (7, .long v7), (9, .int v9)] [] S) (fun v0 v1 v2 v3 v4 v5 v6 v7 v9 S hh => TB_X11_together_6 C E ht hn (fun v0 v1 v2 v3 v4 v5 v6 v7 v9 S z => z) hh)
def P_X11_together_0 (Q : Int64 → HS → Prop) (v0 : Nat) (v1 : Int32) (v2 : Int32) (v3 : Int32) (v4 : Int32) (v5 : Int32) (v6 : Int32) (S : HS) : Prop := P_X11_together_6 Q v0 v1 v2 v3 v4 v5 v6 (0 : Int64) (0 : Int32) S
set_option maxRecDepth 20000 in
set_option maxHeartbeats 4000000 in
theorem T_X11_together_0 {X : CX} {Q : Int64 → HS → Prop} (C : Cx X cX11_together RX11 10 rm_X11_together) (E : ReJ X rm_X11_together Q) (ht : (xh X).sig.returnType = (some .long)) (hn : (xh X).name = yX11_together.name) {v0 : Nat} {v1 : Int32} {v2 : Int32} {v3 : Int32} {v4 : Int32} {v5 : Int32} {v6 : Int32} {S : HS} (h : P_X11_together_0 Q v0 v1 v2 v3 v4 v5 v6 S) : WS X 10 0 0 0 [(0, .ref v0), (1, .int v1), (2, .int v2), (3, .int v3), (4, .int v4), (5, .int v5), (6, .int v6)] [] S := by
  refine r_lconst (pc := 0) C (v := (0 : Int64)) dX11_together_0 (by decide) ?_
  refine r_lstore (pc := 1) C dX11_together_1 (by decide) (lv' := [(7, .long (0 : Int64)), (0, .ref v0), (1, .int v1), (2, .int v2), (3, .int v3), (4, .int v4), (5, .int v5), (6, .int v6)]) rfl ?_
  refine r_iconst (pc := 3) C (v := (0 : Int32)) dX11_together_3 (by decide) ?_
  refine r_istore (pc := 4) C dX11_together_4 (by decide) (lv' := [(9, .int (0 : Int32)), (7, .long (0 : Int64)), (0, .ref v0), (1, .int v1), (2, .int v2), (3, .int v3), (4, .int v4), (5, .int v5), (6, .int v6)]) rfl ?_
  exact r_sub [2, 3, 4, 5, 6, 7, 8, 1, 0] rfl (T_X11_together_6 C E ht hn h)
def P_X11_together (v0 : Nat) (v1 : Int32) (v2 : Int32) (v3 : Int32) (v4 : Int32) (v5 : Int32) (v6 : Int32) (Q : Int64 → HS → Prop) (S : HS) : Prop := P_X11_together_0 Q v0 v1 v2 v3 v4 v5 v6 S
theorem c_X11_together {l : Launch} {Ee : EE} {S : HS} {v0 : Nat} {v1 : Int32} {v2 : Int32} {v3 : Int32} {v4 : Int32} {v5 : Int32} {v6 : Int32} {Q : Int64 → HS → Prop} (h : P_X11_together v0 v1 v2 v3 v4 v5 v6 Q S) : MJ l yX11_together cX11_together 10 (some .long) rm_X11_together Ee S [.ref v0, .int v1, .int v2, .int v3, .int v4, .int v5, .int v6] Q :=
  openJ (by decide) (Nat.le_of_ble_eq_true rfl) (fun X C E ht hn hE hl => by subst hE; exact r_sub [0, 1, 2, 3, 4, 5, 6] rfl (T_X11_together_0 C E ht hn h))
def rm_X11_first : Room := { frames := 5, cells := 0, slots := 0, locals := 138 }
def P_X11_first_89 (Q : Int32 → HS → Prop) (s0 : Nat) (s1 : Int32) (S : HS) : Prop := ob S s0 11 ∧ (P_X11_good s0 s1 (fun x3 S1 => Gr S S1 → (Q x3 S1)) S)
set_option maxRecDepth 20000 in
set_option maxHeartbeats 4000000 in
theorem T_X11_first_89 {X : CX} {Q : Int32 → HS → Prop} (C : Cx X cX11_first RX11 12 rm_X11_first) (E : ReI X rm_X11_first Q) (ht : (xh X).sig.returnType = (some .int)) (hn : (xh X).name = yX11_first.name) {s0 : Nat} {s1 : Int32} {S : HS} (h : P_X11_first_89 Q s0 s1 S) : WS X 12 0 0 89 [] [.int s1, .ref s0] S := by
  obtain ⟨o_s0, h⟩ := h
  refine r_callVi0 (pc := 89) C (rest := []) (a := s0) o_s0 [.int s1] yV_X11_good g_1518 (c_X11_good h) dX11_first_89 rfl rfl (Nat.le_of_ble_eq_true rfl) ⟨by decide, by decide⟩ ⟨by decide, by decide⟩ ⟨rfl, rfl⟩ (fun x3 S1 h g2 => ?_)
  have h := h g2
  have o_s0 := gr_ob g2 o_s0
  exact r_iret (pc := 92) C E ht dX11_first_92 (by decide) (by decide) h
def P_X11_first_0 (Q : Int32 → HS → Prop) (v0 : Nat) (v1 : Int32) (v2 : Int32) (v3 : Int32) (v4 : Int32) (v5 : Int32) (v6 : Int32) (S : HS) : Prop := ob S v0 11 ∧ (∀ S1 : HS, S1 = sI S v0 0 (0 : Int32) → (P_X11_refusesTwo v0 v1 v2 v3 v4 v5 v6 (fun x4 S2 => Gr S1 S2 → (((x4 ≤ 0) → (P_X11_together v0 v1 v2 v3 v4 v5 v6 (fun x8 S6 => Gr S2 S6 → (P_X11_together v0 v2 v1 v3 v4 v5 v6 (fun x11 S9 => Gr S6 S9 → (((0 ≤ (lg_cmp x8 x11)) → (((0 ≤ (lg_cmp x11 x8)) → (P_X11_first_89 Q v0 (-2 : Int32) S9)) ∧ ((¬ 0 ≤ (lg_cmp x11 x8)) → (P_X11_first_89 Q v0 (1 : Int32) S9)))) ∧ ((¬ 0 ≤ (lg_cmp x8 x11)) → (P_X11_first_89 Q v0 (0 : Int32) S9)))) S6)) S2)) ∧ ((¬ x4 ≤ 0) → (P_X11_refused v0 x4 (fun x16 S14 => Gr S2 S14 → (Q x16 S14)) S2)))) S1))
set_option maxRecDepth 20000 in
set_option maxHeartbeats 4000000 in
theorem T_X11_first_0 {X : CX} {Q : Int32 → HS → Prop} (C : Cx X cX11_first RX11 12 rm_X11_first) (E : ReI X rm_X11_first Q) (ht : (xh X).sig.returnType = (some .int)) (hn : (xh X).name = yX11_first.name) {v0 : Nat} {v1 : Int32} {v2 : Int32} {v3 : Int32} {v4 : Int32} {v5 : Int32} {v6 : Int32} {S : HS} (h : P_X11_first_0 Q v0 v1 v2 v3 v4 v5 v6 S) : WS X 12 0 0 0 [(0, .ref v0), (1, .int v1), (2, .int v2), (3, .int v3), (4, .int v4), (5, .int v5), (6, .int v6)] [] S := by
  refine r_aload_n (pc := 0) C dX11_first_0 0 rfl ?_
  refine r_iconst (pc := 1) C (v := (0 : Int32)) dX11_first_1 (by decide) ?_
  obtain ⟨o_v0, h⟩ := h
  refine r_puti (pc := 2) C pfL_X11_40 dX11_first_2 o_v0 ?_
  refine r_heap (fun S1 eS1 => ?_)
  have h := h S1 eS1
  have o_v0 := ob_I eS1 o_v0
  refine r_aload_n (pc := 5) C dX11_first_5 0 rfl ?_
  refine r_iload_n (pc := 6) C dX11_first_6 1 rfl ?_
  refine r_iload_n (pc := 7) C dX11_first_7 2 rfl ?_
  refine r_iload_n (pc := 8) C dX11_first_8 3 rfl ?_
  refine r_iload (pc := 9) C dX11_first_9 4 rfl ?_
  refine r_iload (pc := 11) C dX11_first_11 5 rfl ?_
  refine r_iload (pc := 13) C dX11_first_13 6 rfl ?_
  refine r_callVi0 (pc := 15) C (rest := []) (a := v0) o_v0 [.int v1, .int v2, .int v3, .int v4, .int v5, .int v6] yV_X11_refusesTwo g_1659 (c_X11_refusesTwo h) dX11_first_15 rfl rfl (Nat.le_of_ble_eq_true rfl) ⟨by decide, by decide⟩ ⟨by decide, by decide⟩ ⟨rfl, rfl⟩ (fun x4 S2 h g3 => ?_)
  have h := h g3
  have o_v0 := gr_ob g3 o_v0
  refine r_istore (pc := 18) C dX11_first_18 (by decide) (lv' := [(7, .int x4), (0, .ref v0), (1, .int v1), (2, .int v2), (3, .int v3), (4, .int v4), (5, .int v5), (6, .int v6)]) rfl ?_
  refine r_iload (pc := 20) C dX11_first_20 0 rfl ?_
  refine r_if_le (pc := 22) C (tgt := 32) dX11_first_22 (by decide) (fun c5 => ?_) (fun c5 => ?_)
  · have h := h.1 c5
    refine r_aload_n (pc := 32) C dX11_first_32 1 rfl ?_
    refine r_iload_n (pc := 33) C dX11_first_33 2 rfl ?_
    refine r_iload_n (pc := 34) C dX11_first_34 3 rfl ?_
    refine r_iload_n (pc := 35) C dX11_first_35 4 rfl ?_
    refine r_iload (pc := 36) C dX11_first_36 5 rfl ?_
    refine r_iload (pc := 38) C dX11_first_38 6 rfl ?_
    refine r_iload (pc := 40) C dX11_first_40 7 rfl ?_
    refine r_callVl0 (pc := 42) C (rest := []) (a := v0) o_v0 [.int v1, .int v2, .int v3, .int v4, .int v5, .int v6] yV_X11_together g_1663 (c_X11_together h) dX11_first_42 rfl rfl (Nat.le_of_ble_eq_true rfl) ⟨by decide, by decide⟩ ⟨by decide, by decide⟩ ⟨rfl, rfl⟩ (fun x8 S6 h g7 => ?_)
    have h := h g7
    have o_v0 := gr_ob g7 o_v0
    refine r_lstore (pc := 45) C dX11_first_45 (by decide) (lv' := [(8, .long x8), (7, .int x4), (0, .ref v0), (1, .int v1), (2, .int v2), (3, .int v3), (4, .int v4), (5, .int v5), (6, .int v6)]) rfl ?_
    refine r_aload_n (pc := 47) C dX11_first_47 2 rfl ?_
    refine r_iload_n (pc := 48) C dX11_first_48 4 rfl ?_
    refine r_iload_n (pc := 49) C dX11_first_49 3 rfl ?_
    refine r_iload_n (pc := 50) C dX11_first_50 5 rfl ?_
    refine r_iload (pc := 51) C dX11_first_51 6 rfl ?_
    refine r_iload (pc := 53) C dX11_first_53 7 rfl ?_
    refine r_iload (pc := 55) C dX11_first_55 8 rfl ?_
    refine r_callVl0 (pc := 57) C (rest := []) (a := v0) o_v0 [.int v2, .int v1, .int v3, .int v4, .int v5, .int v6] yV_X11_together g_1663 (c_X11_together h) dX11_first_57 rfl rfl (Nat.le_of_ble_eq_true rfl) ⟨by decide, by decide⟩ ⟨by decide, by decide⟩ ⟨rfl, rfl⟩ (fun x11 S9 h g10 => ?_)
    have h := h g10
    have o_v0 := gr_ob g10 o_v0
    refine r_lstore (pc := 60) C dX11_first_60 (by decide) (lv' := [(10, .long x11), (8, .long x8), (7, .int x4), (0, .ref v0), (1, .int v1), (2, .int v2), (3, .int v3), (4, .int v4), (5, .int v5), (6, .int v6)]) rfl ?_
    refine r_aload_n (pc := 62) C dX11_first_62 3 rfl ?_
    refine r_lload (pc := 63) C dX11_first_63 1 rfl ?_
    refine r_lload (pc := 65) C dX11_first_65 0 rfl ?_
    refine r_lcmp (pc := 67) C dX11_first_67 ?_
    refine r_if_ge (pc := 68) C (tgt := 75) dX11_first_68 (by decide) (fun c12 => ?_) (fun c12 => ?_)
    · have h := h.1 c12
      refine r_lload (pc := 75) C dX11_first_75 0 rfl ?_
      refine r_lload (pc := 77) C dX11_first_77 1 rfl ?_
      refine r_lcmp (pc := 79) C dX11_first_79 ?_
      refine r_if_ge (pc := 80) C (tgt := 87) dX11_first_80 (by decide) (fun c13 => ?_) (fun c13 => ?_)
      · have h := h.1 c13
        refine r_bipush (pc := 87) C (v := (-2 : Int32)) dX11_first_87 (by decide) ?_
        exact r_sub [] rfl (T_X11_first_89 C E ht hn h)
      · have h := h.2 c13
        refine r_iconst (pc := 83) C (v := (1 : Int32)) dX11_first_83 (by decide) ?_
        refine r_goto (pc := 84) C (tgt := 89) dX11_first_84 (by decide) ?_
        exact r_sub [] rfl (T_X11_first_89 C E ht hn h)
    · have h := h.2 c12
      refine r_iconst (pc := 71) C (v := (0 : Int32)) dX11_first_71 (by decide) ?_
      refine r_goto (pc := 72) C (tgt := 89) dX11_first_72 (by decide) ?_
      exact r_sub [] rfl (T_X11_first_89 C E ht hn h)
  · have h := h.2 c5
    refine r_aload_n (pc := 25) C dX11_first_25 1 rfl ?_
    refine r_iload (pc := 26) C dX11_first_26 0 rfl ?_
    refine r_callVi0 (pc := 28) C (rest := []) (a := v0) o_v0 [.int x4] yV_X11_refused g_1250 (c_X11_refused h) dX11_first_28 rfl rfl (Nat.le_of_ble_eq_true rfl) ⟨by decide, by decide⟩ ⟨by decide, by decide⟩ ⟨rfl, rfl⟩ (fun x16 S14 h g15 => ?_)
    have h := h g15
    have o_v0 := gr_ob g15 o_v0
    exact r_iret (pc := 31) C E ht dX11_first_31 (by decide) (by decide) h
def P_X11_first (v0 : Nat) (v1 : Int32) (v2 : Int32) (v3 : Int32) (v4 : Int32) (v5 : Int32) (v6 : Int32) (Q : Int32 → HS → Prop) (S : HS) : Prop := P_X11_first_0 Q v0 v1 v2 v3 v4 v5 v6 S
theorem c_X11_first {l : Launch} {Ee : EE} {S : HS} {v0 : Nat} {v1 : Int32} {v2 : Int32} {v3 : Int32} {v4 : Int32} {v5 : Int32} {v6 : Int32} {Q : Int32 → HS → Prop} (h : P_X11_first v0 v1 v2 v3 v4 v5 v6 Q S) : MI l yX11_first cX11_first 12 (some .int) rm_X11_first Ee S [.ref v0, .int v1, .int v2, .int v3, .int v4, .int v5, .int v6] Q :=
  openI (by decide) (Nat.le_of_ble_eq_true rfl) (fun X C E ht hn hE hl => by subst hE; exact r_sub [0, 1, 2, 3, 4, 5, 6] rfl (T_X11_first_0 C E ht hn h))
def rm_X11_fitOf : Room := { frames := 5, cells := 0, slots := 0, locals := 135 }
def P_X11_fitOf_137 (Q : Int32 → HS → Prop) (X16 : Nat → Int32 → Int32 → Int32 → Int32 → Int32 → HS → Prop) (X31 : Nat → Int32 → Int32 → Int32 → Int32 → Int32 → Int32 → HS → Prop) (X40 : Nat → Int32 → Int32 → Int32 → Int32 → Int32 → Int32 → Int32 → HS → Prop) (X63 : Nat → Int32 → Int32 → Int32 → Int32 → Int32 → Int32 → Int32 → Int32 → HS → Prop) (X83 : Nat → Int32 → Int32 → Int32 → Int32 → Int32 → Int32 → Int32 → Int32 → Int32 → Int32 → HS → Prop) (v0 : Nat) (v1 : Int32) (v2 : Int32) (v3 : Int32) (v4 : Int32) (v5 : Int32) (v6 : Int32) (v7 : Int32) (v8 : Int32) (v10 : Int32) (s0 : Int32) (S : HS) : Prop := ∀ x1 : Int32, x1 = v10 + (1 : Int32) → (X83 v0 v1 v2 v3 v4 v5 v6 v7 v8 s0 x1 S)
set_option maxRecDepth 20000 in
set_option maxHeartbeats 4000000 in
theorem T_X11_fitOf_137 {X : CX} {Q : Int32 → HS → Prop} (C : Cx X cX11_fitOf RX11 11 rm_X11_fitOf) (E : ReI X rm_X11_fitOf Q) (ht : (xh X).sig.returnType = (some .int)) (hn : (xh X).name = yX11_fitOf.name) {X16 : Nat → Int32 → Int32 → Int32 → Int32 → Int32 → HS → Prop} (hX16 : ∀ (v0 : Nat) (v1 : Int32) (v2 : Int32) (v3 : Int32) (v4 : Int32) (v5 : Int32) (S : HS), X16 v0 v1 v2 v3 v4 v5 S → WS X 11 0 0 16 [(0, .ref v0), (1, .int v1), (2, .int v2), (3, .int v3), (4, .int v4), (5, .int v5)] [] S) {X31 : Nat → Int32 → Int32 → Int32 → Int32 → Int32 → Int32 → HS → Prop} (hX31 : ∀ (v0 : Nat) (v1 : Int32) (v2 : Int32) (v3 : Int32) (v4 : Int32) (v5 : Int32) (v6 : Int32) (S : HS), X31 v0 v1 v2 v3 v4 v5 v6 S → WS X 11 0 0 31 [(0, .ref v0), (1, .int v1), (2, .int v2), (3, .int v3), (4, .int v4), (5, .int v5), (6, .int v6)] [] S) {X40 : Nat → Int32 → Int32 → Int32 → Int32 → Int32 → Int32 → Int32 → HS → Prop} (hX40 : ∀ (v0 : Nat) (v1 : Int32) (v2 : Int32) (v3 : Int32) (v4 : Int32) (v5 : Int32) (v6 : Int32) (v7 : Int32) (S : HS), X40 v0 v1 v2 v3 v4 v5 v6 v7 S → WS X 11 0 0 40 [(0, .ref v0), (1, .int v1), (2, .int v2), (3, .int v3), (4, .int v4), (5, .int v5), (6, .int v6), (7, .int v7)] [] S) {X63 : Nat → Int32 → Int32 → Int32 → Int32 → Int32 → Int32 → Int32 → Int32 → HS → Prop} (hX63 : ∀ (v0 : Nat) (v1 : Int32) (v2 : Int32) (v3 : Int32) (v4 : Int32) (v5 : Int32) (v6 : Int32) (v7 : Int32) (v8 : Int32) (S : HS), X63 v0 v1 v2 v3 v4 v5 v6 v7 v8 S → WS X 11 0 0 63 [(0, .ref v0), (1, .int v1), (2, .int v2), (3, .int v3), (4, .int v4), (5, .int v5), (6, .int v6), (7, .int v7), (8, .int v8)] [] S) {X83 : Nat → Int32 → Int32 → Int32 → Int32 → Int32 → Int32 → Int32 → Int32 → Int32 → Int32 → HS → Prop} (hX83 : ∀ (v0 : Nat) (v1 : Int32) (v2 : Int32) (v3 : Int32) (v4 : Int32) (v5 : Int32) (v6 : Int32) (v7 : Int32) (v8 : Int32) (v9 : Int32) (v10 : Int32) (S : HS), X83 v0 v1 v2 v3 v4 v5 v6 v7 v8 v9 v10 S → WS X 11 0 0 83 [(0, .ref v0), (1, .int v1), (2, .int v2), (3, .int v3), (4, .int v4), (5, .int v5), (6, .int v6), (7, .int v7), (8, .int v8), (9, .int v9), (10, .int v10)] [] S) {v0 : Nat} {v1 : Int32} {v2 : Int32} {v3 : Int32} {v4 : Int32} {v5 : Int32} {v6 : Int32} {v7 : Int32} {v8 : Int32} {v10 : Int32} {s0 : Int32} {S : HS} (h : P_X11_fitOf_137 Q X16 X31 X40 X63 X83 v0 v1 v2 v3 v4 v5 v6 v7 v8 v10 s0 S) : WS X 11 0 0 137 [(0, .ref v0), (1, .int v1), (2, .int v2), (3, .int v3), (4, .int v4), (5, .int v5), (6, .int v6), (7, .int v7), (8, .int v8), (10, .int v10)] [.int s0] S := by
  refine r_istore (pc := 137) C dX11_fitOf_137 (by decide) (lv' := [(9, .int s0), (0, .ref v0), (1, .int v1), (2, .int v2), (3, .int v3), (4, .int v4), (5, .int v5), (6, .int v6), (7, .int v7), (8, .int v8), (10, .int v10)]) rfl ?_
  obtain ⟨x1, ex1⟩ : ∃ z : Int32, z = v10 + (1 : Int32) := ⟨_, rfl⟩
  have h := h x1 ex1
  refine r_iinc (pc := 139) C (v := x1) (lv' := [(10, .int x1), (9, .int s0), (0, .ref v0), (1, .int v1), (2, .int v2), (3, .int v3), (4, .int v4), (5, .int v5), (6, .int v6), (7, .int v7), (8, .int v8)]) dX11_fitOf_139 10 rfl ex1.symm (by decide) rfl ?_
  refine r_goto (pc := 142) C (tgt := 83) dX11_fitOf_142 (by decide) ?_
  exact r_sub [2, 3, 4, 5, 6, 7, 8, 9, 10, 1, 0] rfl (hX83 v0 v1 v2 v3 v4 v5 v6 v7 v8 s0 x1 S h)
def P_X11_fitOf_136 (Q : Int32 → HS → Prop) (X16 : Nat → Int32 → Int32 → Int32 → Int32 → Int32 → HS → Prop) (X31 : Nat → Int32 → Int32 → Int32 → Int32 → Int32 → Int32 → HS → Prop) (X40 : Nat → Int32 → Int32 → Int32 → Int32 → Int32 → Int32 → Int32 → HS → Prop) (X63 : Nat → Int32 → Int32 → Int32 → Int32 → Int32 → Int32 → Int32 → Int32 → HS → Prop) (X83 : Nat → Int32 → Int32 → Int32 → Int32 → Int32 → Int32 → Int32 → Int32 → Int32 → Int32 → HS → Prop) (v0 : Nat) (v1 : Int32) (v2 : Int32) (v3 : Int32) (v4 : Int32) (v5 : Int32) (v6 : Int32) (v7 : Int32) (v8 : Int32) (v10 : Int32) (S : HS) : Prop := P_X11_fitOf_137 Q X16 X31 X40 X63 X83 v0 v1 v2 v3 v4 v5 v6 v7 v8 v10 (0 : Int32) S
set_option maxRecDepth 20000 in
set_option maxHeartbeats 4000000 in
theorem T_X11_fitOf_136 {X : CX} {Q : Int32 → HS → Prop} (C : Cx X cX11_fitOf RX11 11 rm_X11_fitOf) (E : ReI X rm_X11_fitOf Q) (ht : (xh X).sig.returnType = (some .int)) (hn : (xh X).name = yX11_fitOf.name) {X16 : Nat → Int32 → Int32 → Int32 → Int32 → Int32 → HS → Prop} (hX16 : ∀ (v0 : Nat) (v1 : Int32) (v2 : Int32) (v3 : Int32) (v4 : Int32) (v5 : Int32) (S : HS), X16 v0 v1 v2 v3 v4 v5 S → WS X 11 0 0 16 [(0, .ref v0), (1, .int v1), (2, .int v2), (3, .int v3), (4, .int v4), (5, .int v5)] [] S) {X31 : Nat → Int32 → Int32 → Int32 → Int32 → Int32 → Int32 → HS → Prop} (hX31 : ∀ (v0 : Nat) (v1 : Int32) (v2 : Int32) (v3 : Int32) (v4 : Int32) (v5 : Int32) (v6 : Int32) (S : HS), X31 v0 v1 v2 v3 v4 v5 v6 S → WS X 11 0 0 31 [(0, .ref v0), (1, .int v1), (2, .int v2), (3, .int v3), (4, .int v4), (5, .int v5), (6, .int v6)] [] S) {X40 : Nat → Int32 → Int32 → Int32 → Int32 → Int32 → Int32 → Int32 → HS → Prop} (hX40 : ∀ (v0 : Nat) (v1 : Int32) (v2 : Int32) (v3 : Int32) (v4 : Int32) (v5 : Int32) (v6 : Int32) (v7 : Int32) (S : HS), X40 v0 v1 v2 v3 v4 v5 v6 v7 S → WS X 11 0 0 40 [(0, .ref v0), (1, .int v1), (2, .int v2), (3, .int v3), (4, .int v4), (5, .int v5), (6, .int v6), (7, .int v7)] [] S) {X63 : Nat → Int32 → Int32 → Int32 → Int32 → Int32 → Int32 → Int32 → Int32 → HS → Prop} (hX63 : ∀ (v0 : Nat) (v1 : Int32) (v2 : Int32) (v3 : Int32) (v4 : Int32) (v5 : Int32) (v6 : Int32) (v7 : Int32) (v8 : Int32) (S : HS), X63 v0 v1 v2 v3 v4 v5 v6 v7 v8 S → WS X 11 0 0 63 [(0, .ref v0), (1, .int v1), (2, .int v2), (3, .int v3), (4, .int v4), (5, .int v5), (6, .int v6), (7, .int v7), (8, .int v8)] [] S) {X83 : Nat → Int32 → Int32 → Int32 → Int32 → Int32 → Int32 → Int32 → Int32 → Int32 → Int32 → HS → Prop} (hX83 : ∀ (v0 : Nat) (v1 : Int32) (v2 : Int32) (v3 : Int32) (v4 : Int32) (v5 : Int32) (v6 : Int32) (v7 : Int32) (v8 : Int32) (v9 : Int32) (v10 : Int32) (S : HS), X83 v0 v1 v2 v3 v4 v5 v6 v7 v8 v9 v10 S → WS X 11 0 0 83 [(0, .ref v0), (1, .int v1), (2, .int v2), (3, .int v3), (4, .int v4), (5, .int v5), (6, .int v6), (7, .int v7), (8, .int v8), (9, .int v9), (10, .int v10)] [] S) {v0 : Nat} {v1 : Int32} {v2 : Int32} {v3 : Int32} {v4 : Int32} {v5 : Int32} {v6 : Int32} {v7 : Int32} {v8 : Int32} {v10 : Int32} {S : HS} (h : P_X11_fitOf_136 Q X16 X31 X40 X63 X83 v0 v1 v2 v3 v4 v5 v6 v7 v8 v10 S) : WS X 11 0 0 136 [(0, .ref v0), (1, .int v1), (2, .int v2), (3, .int v3), (4, .int v4), (5, .int v5), (6, .int v6), (7, .int v7), (8, .int v8), (10, .int v10)] [] S := by
  refine r_iconst (pc := 136) C (v := (0 : Int32)) dX11_fitOf_136 (by decide) ?_
  exact r_sub [0, 1, 2, 3, 4, 5, 6, 7, 8, 9] rfl (T_X11_fitOf_137 C E ht hn hX16 hX31 hX40 hX63 hX83 h)
def P_X11_fitOf_184 (Q : Int32 → HS → Prop) (X16 : Nat → Int32 → Int32 → Int32 → Int32 → Int32 → HS → Prop) (X31 : Nat → Int32 → Int32 → Int32 → Int32 → Int32 → Int32 → HS → Prop) (X40 : Nat → Int32 → Int32 → Int32 → Int32 → Int32 → Int32 → Int32 → HS → Prop) (X63 : Nat → Int32 → Int32 → Int32 → Int32 → Int32 → Int32 → Int32 → Int32 → HS → Prop) (v0 : Nat) (v1 : Int32) (v2 : Int32) (v3 : Int32) (v4 : Int32) (v5 : Int32) (v6 : Int32) (v7 : Int32) (v8 : Int32) (S : HS) : Prop := ∀ x1 : Int32, x1 = v8 + (1 : Int32) → (X63 v0 v1 v2 v3 v4 v5 v6 v7 x1 S)
set_option maxRecDepth 20000 in
set_option maxHeartbeats 4000000 in
theorem T_X11_fitOf_184 {X : CX} {Q : Int32 → HS → Prop} (C : Cx X cX11_fitOf RX11 11 rm_X11_fitOf) (E : ReI X rm_X11_fitOf Q) (ht : (xh X).sig.returnType = (some .int)) (hn : (xh X).name = yX11_fitOf.name) {X16 : Nat → Int32 → Int32 → Int32 → Int32 → Int32 → HS → Prop} (hX16 : ∀ (v0 : Nat) (v1 : Int32) (v2 : Int32) (v3 : Int32) (v4 : Int32) (v5 : Int32) (S : HS), X16 v0 v1 v2 v3 v4 v5 S → WS X 11 0 0 16 [(0, .ref v0), (1, .int v1), (2, .int v2), (3, .int v3), (4, .int v4), (5, .int v5)] [] S) {X31 : Nat → Int32 → Int32 → Int32 → Int32 → Int32 → Int32 → HS → Prop} (hX31 : ∀ (v0 : Nat) (v1 : Int32) (v2 : Int32) (v3 : Int32) (v4 : Int32) (v5 : Int32) (v6 : Int32) (S : HS), X31 v0 v1 v2 v3 v4 v5 v6 S → WS X 11 0 0 31 [(0, .ref v0), (1, .int v1), (2, .int v2), (3, .int v3), (4, .int v4), (5, .int v5), (6, .int v6)] [] S) {X40 : Nat → Int32 → Int32 → Int32 → Int32 → Int32 → Int32 → Int32 → HS → Prop} (hX40 : ∀ (v0 : Nat) (v1 : Int32) (v2 : Int32) (v3 : Int32) (v4 : Int32) (v5 : Int32) (v6 : Int32) (v7 : Int32) (S : HS), X40 v0 v1 v2 v3 v4 v5 v6 v7 S → WS X 11 0 0 40 [(0, .ref v0), (1, .int v1), (2, .int v2), (3, .int v3), (4, .int v4), (5, .int v5), (6, .int v6), (7, .int v7)] [] S) {X63 : Nat → Int32 → Int32 → Int32 → Int32 → Int32 → Int32 → Int32 → Int32 → HS → Prop} (hX63 : ∀ (v0 : Nat) (v1 : Int32) (v2 : Int32) (v3 : Int32) (v4 : Int32) (v5 : Int32) (v6 : Int32) (v7 : Int32) (v8 : Int32) (S : HS), X63 v0 v1 v2 v3 v4 v5 v6 v7 v8 S → WS X 11 0 0 63 [(0, .ref v0), (1, .int v1), (2, .int v2), (3, .int v3), (4, .int v4), (5, .int v5), (6, .int v6), (7, .int v7), (8, .int v8)] [] S) {v0 : Nat} {v1 : Int32} {v2 : Int32} {v3 : Int32} {v4 : Int32} {v5 : Int32} {v6 : Int32} {v7 : Int32} {v8 : Int32} {S : HS} (h : P_X11_fitOf_184 Q X16 X31 X40 X63 v0 v1 v2 v3 v4 v5 v6 v7 v8 S) : WS X 11 0 0 184 [(0, .ref v0), (1, .int v1), (2, .int v2), (3, .int v3), (4, .int v4), (5, .int v5), (6, .int v6), (7, .int v7), (8, .int v8)] [] S := by
  obtain ⟨x1, ex1⟩ : ∃ z : Int32, z = v8 + (1 : Int32) := ⟨_, rfl⟩
  have h := h x1 ex1
  refine r_iinc (pc := 184) C (v := x1) (lv' := [(8, .int x1), (0, .ref v0), (1, .int v1), (2, .int v2), (3, .int v3), (4, .int v4), (5, .int v5), (6, .int v6), (7, .int v7)]) dX11_fitOf_184 8 rfl ex1.symm (by decide) rfl ?_
  refine r_goto (pc := 187) C (tgt := 63) dX11_fitOf_187 (by decide) ?_
  exact r_sub [1, 2, 3, 4, 5, 6, 7, 8, 0] rfl (hX63 v0 v1 v2 v3 v4 v5 v6 v7 x1 S h)
def B_X11_fitOf_83 (Q : Int32 → HS → Prop) (X16 : Nat → Int32 → Int32 → Int32 → Int32 → Int32 → HS → Prop) (X31 : Nat → Int32 → Int32 → Int32 → Int32 → Int32 → Int32 → HS → Prop) (X40 : Nat → Int32 → Int32 → Int32 → Int32 → Int32 → Int32 → Int32 → HS → Prop) (X63 : Nat → Int32 → Int32 → Int32 → Int32 → Int32 → Int32 → Int32 → Int32 → HS → Prop) (X83 : Nat → Int32 → Int32 → Int32 → Int32 → Int32 → Int32 → Int32 → Int32 → Int32 → Int32 → HS → Prop) (v0 : Nat) (v1 : Int32) (v2 : Int32) (v3 : Int32) (v4 : Int32) (v5 : Int32) (v6 : Int32) (v7 : Int32) (v8 : Int32) (v9 : Int32) (v10 : Int32) (S : HS) : Prop := (((5 : Int32) ≤ v10) → (((¬ v9 = 0) → (((¬ v4 = v2) → (∀ x4 : Int32, x4 = v4 + (1 : Int32) → (P_X11_fitOf_184 Q X16 X31 X40 X63 v0 v1 v2 v3 x4 v5 v6 v7 v8 S))) ∧ ((v4 = v2) → (Q (((((1000 : Int32) * v5) + ((100 : Int32) * v6)) + ((10 : Int32) * v7)) + v8) S)))) ∧ ((v9 = 0) → (P_X11_fitOf_184 Q X16 X31 X40 X63 v0 v1 v2 v3 v4 v5 v6 v7 v8 S)))) ∧ ((¬ (5 : Int32) ≤ v10) → (((v9 = 0) → (P_X11_fitOf_136 Q X16 X31 X40 X63 X83 v0 v1 v2 v3 v4 v5 v6 v7 v8 v10 S)) ∧ ((¬ v9 = 0) → (ob S v0 11 ∧ (P_X11_partsOf v0 v3 v5 v6 v7 v8 v10 (fun x8 S6 => Gr S S6 → (∃ a9 : Nat, fR S6 v0 3 = some a9 ∧ (ob S6 a9 10 ∧ (∃ a10 : Nat, fR S6 a9 27 = some a10 ∧ (ob S6 a10 13 ∧ (∀ x12 : Int32, x12 = ((5 : Int32) * v1) + v10 → (vp_in x12 (hN S6 a10) ∧ ∀ x13 : Int32, x13 = fI S6 a10 x12.toNatClampNeg → (((¬ (lg_cmp x8 ((2520 : Int64) * x13.toInt64)) = 0) → (P_X11_fitOf_136 Q X16 X31 X40 X63 X83 v0 v1 v2 v3 v4 v5 v6 v7 v8 v10 S6)) ∧ (((lg_cmp x8 ((2520 : Int64) * x13.toInt64)) = 0) → (P_X11_fitOf_137 Q X16 X31 X40 X63 X83 v0 v1 v2 v3 v4 v5 v6 v7 v8 v10 (1 : Int32) S6)))))))))) S)))))
def P_X11_fitOf_83 (Q : Int32 → HS → Prop) (X16 : Nat → Int32 → Int32 → Int32 → Int32 → Int32 → HS → Prop) (X31 : Nat → Int32 → Int32 → Int32 → Int32 → Int32 → Int32 → HS → Prop) (X40 : Nat → Int32 → Int32 → Int32 → Int32 → Int32 → Int32 → Int32 → HS → Prop) (X63 : Nat → Int32 → Int32 → Int32 → Int32 → Int32 → Int32 → Int32 → Int32 → HS → Prop) (v0 : Nat) (v1 : Int32) (v2 : Int32) (v3 : Int32) (v4 : Int32) (v5 : Int32) (v6 : Int32) (v7 : Int32) (v8 : Int32) (v9 : Int32) (v10 : Int32) (S : HS) : Prop := ∀ X83 : Nat → Int32 → Int32 → Int32 → Int32 → Int32 → Int32 → Int32 → Int32 → Int32 → Int32 → HS → Prop, (∀ (v0 : Nat) (v1 : Int32) (v2 : Int32) (v3 : Int32) (v4 : Int32) (v5 : Int32) (v6 : Int32) (v7 : Int32) (v8 : Int32) (v9 : Int32) (v10 : Int32) (S : HS), B_X11_fitOf_83 Q X16 X31 X40 X63 X83 v0 v1 v2 v3 v4 v5 v6 v7 v8 v9 v10 S → X83 v0 v1 v2 v3 v4 v5 v6 v7 v8 v9 v10 S) → X83 v0 v1 v2 v3 v4 v5 v6 v7 v8 v9 v10 S
set_option maxRecDepth 20000 in
set_option maxHeartbeats 4000000 in
theorem TB_X11_fitOf_83 {X : CX} {Q : Int32 → HS → Prop} (C : Cx X cX11_fitOf RX11 11 rm_X11_fitOf) (E : ReI X rm_X11_fitOf Q) (ht : (xh X).sig.returnType = (some .int)) (hn : (xh X).name = yX11_fitOf.name) {X16 : Nat → Int32 → Int32 → Int32 → Int32 → Int32 → HS → Prop} (hX16 : ∀ (v0 : Nat) (v1 : Int32) (v2 : Int32) (v3 : Int32) (v4 : Int32) (v5 : Int32) (S : HS), X16 v0 v1 v2 v3 v4 v5 S → WS X 11 0 0 16 [(0, .ref v0), (1, .int v1), (2, .int v2), (3, .int v3), (4, .int v4), (5, .int v5)] [] S) {X31 : Nat → Int32 → Int32 → Int32 → Int32 → Int32 → Int32 → HS → Prop} (hX31 : ∀ (v0 : Nat) (v1 : Int32) (v2 : Int32) (v3 : Int32) (v4 : Int32) (v5 : Int32) (v6 : Int32) (S : HS), X31 v0 v1 v2 v3 v4 v5 v6 S → WS X 11 0 0 31 [(0, .ref v0), (1, .int v1), (2, .int v2), (3, .int v3), (4, .int v4), (5, .int v5), (6, .int v6)] [] S) {X40 : Nat → Int32 → Int32 → Int32 → Int32 → Int32 → Int32 → Int32 → HS → Prop} (hX40 : ∀ (v0 : Nat) (v1 : Int32) (v2 : Int32) (v3 : Int32) (v4 : Int32) (v5 : Int32) (v6 : Int32) (v7 : Int32) (S : HS), X40 v0 v1 v2 v3 v4 v5 v6 v7 S → WS X 11 0 0 40 [(0, .ref v0), (1, .int v1), (2, .int v2), (3, .int v3), (4, .int v4), (5, .int v5), (6, .int v6), (7, .int v7)] [] S) {X63 : Nat → Int32 → Int32 → Int32 → Int32 → Int32 → Int32 → Int32 → Int32 → HS → Prop} (hX63 : ∀ (v0 : Nat) (v1 : Int32) (v2 : Int32) (v3 : Int32) (v4 : Int32) (v5 : Int32) (v6 : Int32) (v7 : Int32) (v8 : Int32) (S : HS), X63 v0 v1 v2 v3 v4 v5 v6 v7 v8 S → WS X 11 0 0 63 [(0, .ref v0), (1, .int v1), (2, .int v2), (3, .int v3), (4, .int v4), (5, .int v5), (6, .int v6), (7, .int v7), (8, .int v8)] [] S) {X83 : Nat → Int32 → Int32 → Int32 → Int32 → Int32 → Int32 → Int32 → Int32 → Int32 → Int32 → HS → Prop} (hX83 : ∀ (v0 : Nat) (v1 : Int32) (v2 : Int32) (v3 : Int32) (v4 : Int32) (v5 : Int32) (v6 : Int32) (v7 : Int32) (v8 : Int32) (v9 : Int32) (v10 : Int32) (S : HS), X83 v0 v1 v2 v3 v4 v5 v6 v7 v8 v9 v10 S → WS X 11 0 0 83 [(0, .ref v0), (1, .int v1), (2, .int v2), (3, .int v3), (4, .int v4), (5, .int v5), (6, .int v6), (7, .int v7), (8, .int v8), (9, .int v9), (10, .int v10)] [] S) {v0 : Nat} {v1 : Int32} {v2 : Int32} {v3 : Int32} {v4 : Int32} {v5 : Int32} {v6 : Int32} {v7 : Int32} {v8 : Int32} {v9 : Int32} {v10 : Int32} {S : HS} (h : B_X11_fitOf_83 Q X16 X31 X40 X63 X83 v0 v1 v2 v3 v4 v5 v6 v7 v8 v9 v10 S) : WS X 11 0 0 83 [(0, .ref v0), (1, .int v1), (2, .int v2), (3, .int v3), (4, .int v4), (5, .int v5), (6, .int v6), (7, .int v7), (8, .int v8), (9, .int v9), (10, .int v10)] [] S := by
  refine r_iload (pc := 83) C dX11_fitOf_83 10 rfl ?_
  refine r_iconst (pc := 85) C (v := (5 : Int32)) dX11_fitOf_85 (by decide) ?_
  refine r_icmp_ge (pc := 86) C (tgt := 145) dX11_fitOf_86 (by decide) (fun c1 => ?_) (fun c1 => ?_)
  · have h := h.1 c1
    refine r_iload (pc := 145) C dX11_fitOf_145 9 rfl ?_
    refine r_if_ne (pc := 147) C (tgt := 153) dX11_fitOf_147 (by decide) (fun c2 => ?_) (fun c2 => ?_)
    · have h := h.1 c2
      refine r_iload (pc := 153) C dX11_fitOf_153 4 rfl ?_
      refine r_iload_n (pc := 155) C dX11_fitOf_155 2 rfl ?_
      refine r_icmp_ne (pc := 156) C (tgt := 181) dX11_fitOf_156 (by decide) (fun c3 => ?_) (fun c3 => ?_)
      · have h := h.1 c3
        obtain ⟨x4, ex4⟩ : ∃ z : Int32, z = v4 + (1 : Int32) := ⟨_, rfl⟩
        have h := h x4 ex4
        refine r_iinc (pc := 181) C (v := x4) (lv' := [(4, .int x4), (0, .ref v0), (1, .int v1), (2, .int v2), (3, .int v3), (5, .int v5), (6, .int v6), (7, .int v7), (8, .int v8), (9, .int v9), (10, .int v10)]) dX11_fitOf_181 4 rfl ex4.symm (by decide) rfl ?_
        exact r_sub [1, 2, 3, 4, 0, 5, 6, 7, 8] rfl (T_X11_fitOf_184 C E ht hn hX16 hX31 hX40 hX63 h)
      · have h := h.2 c3
        refine r_sipush (pc := 159) C (v := (1000 : Int32)) dX11_fitOf_159 (by decide) ?_
        refine r_iload (pc := 162) C dX11_fitOf_162 5 rfl ?_
        refine r_imul (pc := 164) C dX11_fitOf_164 ?_
        refine r_bipush (pc := 165) C (v := (100 : Int32)) dX11_fitOf_165 (by decide) ?_
        refine r_iload (pc := 167) C dX11_fitOf_167 6 rfl ?_
        refine r_imul (pc := 169) C dX11_fitOf_169 ?_
        refine r_iadd (pc := 170) C dX11_fitOf_170 ?_
        refine r_bipush (pc := 171) C (v := (10 : Int32)) dX11_fitOf_171 (by decide) ?_
        refine r_iload (pc := 173) C dX11_fitOf_173 7 rfl ?_
        refine r_imul (pc := 175) C dX11_fitOf_175 ?_
        refine r_iadd (pc := 176) C dX11_fitOf_176 ?_
        refine r_iload (pc := 177) C dX11_fitOf_177 8 rfl ?_
        refine r_iadd (pc := 179) C dX11_fitOf_179 ?_
        exact r_iret (pc := 180) C E ht dX11_fitOf_180 (by decide) (by decide) h
    · have h := h.2 c2
      refine r_goto (pc := 150) C (tgt := 184) dX11_fitOf_150 (by decide) ?_
      exact r_sub [0, 1, 2, 3, 4, 5, 6, 7, 8] rfl (T_X11_fitOf_184 C E ht hn hX16 hX31 hX40 hX63 h)
  · have h := h.2 c1
    refine r_iload (pc := 89) C dX11_fitOf_89 9 rfl ?_
    refine r_if_eq (pc := 91) C (tgt := 136) dX11_fitOf_91 (by decide) (fun c5 => ?_) (fun c5 => ?_)
    · have h := h.1 c5
      exact r_sub [0, 1, 2, 3, 4, 5, 6, 7, 8, 10] rfl (T_X11_fitOf_136 C E ht hn hX16 hX31 hX40 hX63 hX83 h)
    · have h := h.2 c5
      refine r_aload_n (pc := 94) C dX11_fitOf_94 0 rfl ?_
      refine r_iload_n (pc := 95) C dX11_fitOf_95 3 rfl ?_
      refine r_iload (pc := 96) C dX11_fitOf_96 5 rfl ?_
      refine r_iload (pc := 98) C dX11_fitOf_98 6 rfl ?_
      refine r_iload (pc := 100) C dX11_fitOf_100 7 rfl ?_
      refine r_iload (pc := 102) C dX11_fitOf_102 8 rfl ?_
      refine r_iload (pc := 104) C dX11_fitOf_104 10 rfl ?_
      obtain ⟨o_v0, h⟩ := h
      refine r_callVl0 (pc := 106) C (rest := []) (a := v0) o_v0 [.int v3, .int v5, .int v6, .int v7, .int v8, .int v10] yV_X11_partsOf g_1554 (c_X11_partsOf h) dX11_fitOf_106 rfl rfl (Nat.le_of_ble_eq_true rfl) ⟨by decide, by decide⟩ ⟨by decide, by decide⟩ ⟨rfl, rfl⟩ (fun x8 S6 h g7 => ?_)
      have h := h g7
      have o_v0 := gr_ob g7 o_v0
      refine r_ldc2 (pc := 109) C (v := (2520 : Int64)) dX11_fitOf_109 g_1585 ?_
      refine r_aload_n (pc := 112) C dX11_fitOf_112 0 rfl ?_
      obtain ⟨a9, ea9, h⟩ := h
      refine r_getr (pc := 113) C fL_X11_338 dX11_fitOf_113 o_v0 ea9 ?_
      obtain ⟨o_a9, h⟩ := h
      obtain ⟨a10, ea10, h⟩ := h
      refine r_getNr (pc := 116) C fN_X11_326 dX11_fitOf_116 o_a9 ea10 ?_
      refine r_iconst (pc := 119) C (v := (5 : Int32)) dX11_fitOf_119 (by decide) ?_
      refine r_iload_n (pc := 120) C dX11_fitOf_120 1 rfl ?_
      refine r_imul (pc := 121) C dX11_fitOf_121 ?_
      refine r_iload (pc := 122) C dX11_fitOf_122 10 rfl ?_
      refine r_iadd (pc := 124) C dX11_fitOf_124 ?_
      obtain ⟨o_a10, h⟩ := h
      refine r_topi (fun x12 ex12 => ?_)
      have h := h x12 ex12
      obtain ⟨i11, h⟩ := h
      refine r_iald (pc := 125) C dX11_fitOf_125 o_a10 i11 ?_
      refine r_topi (fun x13 ex13 => ?_)
      have h := h x13 ex13
      refine r_i2l (pc := 126) C dX11_fitOf_126 ?_
      refine r_lmul (pc := 127) C dX11_fitOf_127 ?_
      refine r_lcmp (pc := 128) C dX11_fitOf_128 ?_
      refine r_if_ne (pc := 129) C (tgt := 136) dX11_fitOf_129 (by decide) (fun c14 => ?_) (fun c14 => ?_)
      · have h := h.1 c14
        exact r_sub [0, 1, 2, 3, 4, 5, 6, 7, 8, 10] rfl (T_X11_fitOf_136 C E ht hn hX16 hX31 hX40 hX63 hX83 h)
      · have h := h.2 c14
        refine r_iconst (pc := 132) C (v := (1 : Int32)) dX11_fitOf_132 (by decide) ?_
        refine r_goto (pc := 133) C (tgt := 137) dX11_fitOf_133 (by decide) ?_
        exact r_sub [0, 1, 2, 3, 4, 5, 6, 7, 8, 10] rfl (T_X11_fitOf_137 C E ht hn hX16 hX31 hX40 hX63 hX83 h)
theorem T_X11_fitOf_83 {X : CX} {Q : Int32 → HS → Prop} (C : Cx X cX11_fitOf RX11 11 rm_X11_fitOf) (E : ReI X rm_X11_fitOf Q) (ht : (xh X).sig.returnType = (some .int)) (hn : (xh X).name = yX11_fitOf.name) {X16 : Nat → Int32 → Int32 → Int32 → Int32 → Int32 → HS → Prop} (hX16 : ∀ (v0 : Nat) (v1 : Int32) (v2 : Int32) (v3 : Int32) (v4 : Int32) (v5 : Int32) (S : HS), X16 v0 v1 v2 v3 v4 v5 S → WS X 11 0 0 16 [(0, .ref v0), (1, .int v1), (2, .int v2), (3, .int v3), (4, .int v4), (5, .int v5)] [] S) {X31 : Nat → Int32 → Int32 → Int32 → Int32 → Int32 → Int32 → HS → Prop} (hX31 : ∀ (v0 : Nat) (v1 : Int32) (v2 : Int32) (v3 : Int32) (v4 : Int32) (v5 : Int32) (v6 : Int32) (S : HS), X31 v0 v1 v2 v3 v4 v5 v6 S → WS X 11 0 0 31 [(0, .ref v0), (1, .int v1), (2, .int v2), (3, .int v3), (4, .int v4), (5, .int v5), (6, .int v6)] [] S) {X40 : Nat → Int32 → Int32 → Int32 → Int32 → Int32 → Int32 → Int32 → HS → Prop} (hX40 : ∀ (v0 : Nat) (v1 : Int32) (v2 : Int32) (v3 : Int32) (v4 : Int32) (v5 : Int32) (v6 : Int32) (v7 : Int32) (S : HS), X40 v0 v1 v2 v3 v4 v5 v6 v7 S → WS X 11 0 0 40 [(0, .ref v0), (1, .int v1), (2, .int v2), (3, .int v3), (4, .int v4), (5, .int v5), (6, .int v6), (7, .int v7)] [] S) {X63 : Nat → Int32 → Int32 → Int32 → Int32 → Int32 → Int32 → Int32 → Int32 → HS → Prop} (hX63 : ∀ (v0 : Nat) (v1 : Int32) (v2 : Int32) (v3 : Int32) (v4 : Int32) (v5 : Int32) (v6 : Int32) (v7 : Int32) (v8 : Int32) (S : HS), X63 v0 v1 v2 v3 v4 v5 v6 v7 v8 S → WS X 11 0 0 63 [(0, .ref v0), (1, .int v1), (2, .int v2), (3, .int v3), (4, .int v4), (5, .int v5), (6, .int v6), (7, .int v7), (8, .int v8)] [] S) {v0 : Nat} {v1 : Int32} {v2 : Int32} {v3 : Int32} {v4 : Int32} {v5 : Int32} {v6 : Int32} {v7 : Int32} {v8 : Int32} {v9 : Int32} {v10 : Int32} {S : HS} (h : P_X11_fitOf_83 Q X16 X31 X40 X63 v0 v1 v2 v3 v4 v5 v6 v7 v8 v9 v10 S) : WS X 11 0 0 83 [(0, .ref v0), (1, .int v1), (2, .int v2), (3, .int v3), (4, .int v4), (5, .int v5), (6, .int v6), (7, .int v7), (8, .int v8), (9, .int v9), (10, .int v10)] [] S :=
  h (fun v0 v1 v2 v3 v4 v5 v6 v7 v8 v9 v10 S => WS X 11 0 0 83 [(0, .ref v0), (1, .int v1), (2, .int v2), (3, .int v3), (4, .int v4), (5, .int v5), (6, .int v6), (7, .int v7), (8, .int v8), (9, .int v9), (10, .int v10)] [] S) (fun v0 v1 v2 v3 v4 v5 v6 v7 v8 v9 v10 S hh => TB_X11_fitOf_83 C E ht hn hX16 hX31 hX40 hX63 (fun v0 v1 v2 v3 v4 v5 v6 v7 v8 v9 v10 S z => z) hh)
def B_X11_fitOf_63 (Q : Int32 → HS → Prop) (X16 : Nat → Int32 → Int32 → Int32 → Int32 → Int32 → HS → Prop) (X31 : Nat → Int32 → Int32 → Int32 → Int32 → Int32 → Int32 → HS → Prop) (X40 : Nat → Int32 → Int32 → Int32 → Int32 → Int32 → Int32 → Int32 → HS → Prop) (X63 : Nat → Int32 → Int32 → Int32 → Int32 → Int32 → Int32 → Int32 → Int32 → HS → Prop) (v0 : Nat) (v1 : Int32) (v2 : Int32) (v3 : Int32) (v4 : Int32) (v5 : Int32) (v6 : Int32) (v7 : Int32) (v8 : Int32) (S : HS) : Prop := ob S v0 11 ∧ (∃ a1 : Nat, fR S v0 3 = some a1 ∧ (ob S a1 10 ∧ (∃ a2 : Nat, fR S a1 25 = some a2 ∧ (ob S a2 13 ∧ (vp_in v3 (hN S a2) ∧ ∀ x4 : Int32, x4 = fI S a2 v3.toNatClampNeg → (((x4 < v8) → (∀ x6 : Int32, x6 = v7 + (1 : Int32) → (X40 v0 v1 v2 v3 v4 v5 v6 x6 S))) ∧ ((¬ x4 < v8) → (P_X11_fitOf_83 Q X16 X31 X40 X63 v0 v1 v2 v3 v4 v5 v6 v7 v8 (1 : Int32) (0 : Int32) S))))))))
def P_X11_fitOf_63 (Q : Int32 → HS → Prop) (X16 : Nat → Int32 → Int32 → Int32 → Int32 → Int32 → HS → Prop) (X31 : Nat → Int32 → Int32 → Int32 → Int32 → Int32 → Int32 → HS → Prop) (X40 : Nat → Int32 → Int32 → Int32 → Int32 → Int32 → Int32 → Int32 → HS → Prop) (v0 : Nat) (v1 : Int32) (v2 : Int32) (v3 : Int32) (v4 : Int32) (v5 : Int32) (v6 : Int32) (v7 : Int32) (v8 : Int32) (S : HS) : Prop := ∀ X63 : Nat → Int32 → Int32 → Int32 → Int32 → Int32 → Int32 → Int32 → Int32 → HS → Prop, (∀ (v0 : Nat) (v1 : Int32) (v2 : Int32) (v3 : Int32) (v4 : Int32) (v5 : Int32) (v6 : Int32) (v7 : Int32) (v8 : Int32) (S : HS), B_X11_fitOf_63 Q X16 X31 X40 X63 v0 v1 v2 v3 v4 v5 v6 v7 v8 S → X63 v0 v1 v2 v3 v4 v5 v6 v7 v8 S) → X63 v0 v1 v2 v3 v4 v5 v6 v7 v8 S
set_option maxRecDepth 20000 in
set_option maxHeartbeats 4000000 in
theorem TB_X11_fitOf_63 {X : CX} {Q : Int32 → HS → Prop} (C : Cx X cX11_fitOf RX11 11 rm_X11_fitOf) (E : ReI X rm_X11_fitOf Q) (ht : (xh X).sig.returnType = (some .int)) (hn : (xh X).name = yX11_fitOf.name) {X16 : Nat → Int32 → Int32 → Int32 → Int32 → Int32 → HS → Prop} (hX16 : ∀ (v0 : Nat) (v1 : Int32) (v2 : Int32) (v3 : Int32) (v4 : Int32) (v5 : Int32) (S : HS), X16 v0 v1 v2 v3 v4 v5 S → WS X 11 0 0 16 [(0, .ref v0), (1, .int v1), (2, .int v2), (3, .int v3), (4, .int v4), (5, .int v5)] [] S) {X31 : Nat → Int32 → Int32 → Int32 → Int32 → Int32 → Int32 → HS → Prop} (hX31 : ∀ (v0 : Nat) (v1 : Int32) (v2 : Int32) (v3 : Int32) (v4 : Int32) (v5 : Int32) (v6 : Int32) (S : HS), X31 v0 v1 v2 v3 v4 v5 v6 S → WS X 11 0 0 31 [(0, .ref v0), (1, .int v1), (2, .int v2), (3, .int v3), (4, .int v4), (5, .int v5), (6, .int v6)] [] S) {X40 : Nat → Int32 → Int32 → Int32 → Int32 → Int32 → Int32 → Int32 → HS → Prop} (hX40 : ∀ (v0 : Nat) (v1 : Int32) (v2 : Int32) (v3 : Int32) (v4 : Int32) (v5 : Int32) (v6 : Int32) (v7 : Int32) (S : HS), X40 v0 v1 v2 v3 v4 v5 v6 v7 S → WS X 11 0 0 40 [(0, .ref v0), (1, .int v1), (2, .int v2), (3, .int v3), (4, .int v4), (5, .int v5), (6, .int v6), (7, .int v7)] [] S) {X63 : Nat → Int32 → Int32 → Int32 → Int32 → Int32 → Int32 → Int32 → Int32 → HS → Prop} (hX63 : ∀ (v0 : Nat) (v1 : Int32) (v2 : Int32) (v3 : Int32) (v4 : Int32) (v5 : Int32) (v6 : Int32) (v7 : Int32) (v8 : Int32) (S : HS), X63 v0 v1 v2 v3 v4 v5 v6 v7 v8 S → WS X 11 0 0 63 [(0, .ref v0), (1, .int v1), (2, .int v2), (3, .int v3), (4, .int v4), (5, .int v5), (6, .int v6), (7, .int v7), (8, .int v8)] [] S) {v0 : Nat} {v1 : Int32} {v2 : Int32} {v3 : Int32} {v4 : Int32} {v5 : Int32} {v6 : Int32} {v7 : Int32} {v8 : Int32} {S : HS} (h : B_X11_fitOf_63 Q X16 X31 X40 X63 v0 v1 v2 v3 v4 v5 v6 v7 v8 S) : WS X 11 0 0 63 [(0, .ref v0), (1, .int v1), (2, .int v2), (3, .int v3), (4, .int v4), (5, .int v5), (6, .int v6), (7, .int v7), (8, .int v8)] [] S := by
  refine r_iload (pc := 63) C dX11_fitOf_63 8 rfl ?_
  refine r_aload_n (pc := 65) C dX11_fitOf_65 0 rfl ?_
  obtain ⟨o_v0, h⟩ := h
  obtain ⟨a1, ea1, h⟩ := h
  refine r_getr (pc := 66) C fL_X11_338 dX11_fitOf_66 o_v0 ea1 ?_
  obtain ⟨o_a1, h⟩ := h
  obtain ⟨a2, ea2, h⟩ := h
  refine r_getNr (pc := 69) C fN_X11_320 dX11_fitOf_69 o_a1 ea2 ?_
  refine r_iload_n (pc := 72) C dX11_fitOf_72 3 rfl ?_
  obtain ⟨o_a2, h⟩ := h
  obtain ⟨i3, h⟩ := h
  refine r_iald (pc := 73) C dX11_fitOf_73 o_a2 i3 ?_
  refine r_topi (fun x4 ex4 => ?_)
  have h := h x4 ex4
  refine r_icmp_gt (pc := 74) C (tgt := 190) dX11_fitOf_74 (by decide) (fun c5 => ?_) (fun c5 => ?_)
  · have h := h.1 c5
    obtain ⟨x6, ex6⟩ : ∃ z : Int32, z = v7 + (1 : Int32) := ⟨_, rfl⟩
    have h := h x6 ex6
    refine r_iinc (pc := 190) C (v := x6) (lv' := [(7, .int x6), (0, .ref v0), (1, .int v1), (2, .int v2), (3, .int v3), (4, .int v4), (5, .int v5), (6, .int v6), (8, .int v8)]) dX11_fitOf_190 7 rfl ex6.symm (by decide) rfl ?_
    refine r_goto (pc := 193) C (tgt := 40) dX11_fitOf_193 (by decide) ?_
    exact r_sub [1, 2, 3, 4, 5, 6, 7, 0] rfl (hX40 v0 v1 v2 v3 v4 v5 v6 x6 S h)
  · have h := h.2 c5
    refine r_iconst (pc := 77) C (v := (1 : Int32)) dX11_fitOf_77 (by decide) ?_
    refine r_istore (pc := 78) C dX11_fitOf_78 (by decide) (lv' := [(9, .int (1 : Int32)), (0, .ref v0), (1, .int v1), (2, .int v2), (3, .int v3), (4, .int v4), (5, .int v5), (6, .int v6), (7, .int v7), (8, .int v8)]) rfl ?_
    refine r_iconst (pc := 80) C (v := (0 : Int32)) dX11_fitOf_80 (by decide) ?_
    refine r_istore (pc := 81) C dX11_fitOf_81 (by decide) (lv' := [(10, .int (0 : Int32)), (9, .int (1 : Int32)), (0, .ref v0), (1, .int v1), (2, .int v2), (3, .int v3), (4, .int v4), (5, .int v5), (6, .int v6), (7, .int v7), (8, .int v8)]) rfl ?_
    exact r_sub [2, 3, 4, 5, 6, 7, 8, 9, 10, 1, 0] rfl (T_X11_fitOf_83 C E ht hn hX16 hX31 hX40 hX63 h)
theorem T_X11_fitOf_63 {X : CX} {Q : Int32 → HS → Prop} (C : Cx X cX11_fitOf RX11 11 rm_X11_fitOf) (E : ReI X rm_X11_fitOf Q) (ht : (xh X).sig.returnType = (some .int)) (hn : (xh X).name = yX11_fitOf.name) {X16 : Nat → Int32 → Int32 → Int32 → Int32 → Int32 → HS → Prop} (hX16 : ∀ (v0 : Nat) (v1 : Int32) (v2 : Int32) (v3 : Int32) (v4 : Int32) (v5 : Int32) (S : HS), X16 v0 v1 v2 v3 v4 v5 S → WS X 11 0 0 16 [(0, .ref v0), (1, .int v1), (2, .int v2), (3, .int v3), (4, .int v4), (5, .int v5)] [] S) {X31 : Nat → Int32 → Int32 → Int32 → Int32 → Int32 → Int32 → HS → Prop} (hX31 : ∀ (v0 : Nat) (v1 : Int32) (v2 : Int32) (v3 : Int32) (v4 : Int32) (v5 : Int32) (v6 : Int32) (S : HS), X31 v0 v1 v2 v3 v4 v5 v6 S → WS X 11 0 0 31 [(0, .ref v0), (1, .int v1), (2, .int v2), (3, .int v3), (4, .int v4), (5, .int v5), (6, .int v6)] [] S) {X40 : Nat → Int32 → Int32 → Int32 → Int32 → Int32 → Int32 → Int32 → HS → Prop} (hX40 : ∀ (v0 : Nat) (v1 : Int32) (v2 : Int32) (v3 : Int32) (v4 : Int32) (v5 : Int32) (v6 : Int32) (v7 : Int32) (S : HS), X40 v0 v1 v2 v3 v4 v5 v6 v7 S → WS X 11 0 0 40 [(0, .ref v0), (1, .int v1), (2, .int v2), (3, .int v3), (4, .int v4), (5, .int v5), (6, .int v6), (7, .int v7)] [] S) {v0 : Nat} {v1 : Int32} {v2 : Int32} {v3 : Int32} {v4 : Int32} {v5 : Int32} {v6 : Int32} {v7 : Int32} {v8 : Int32} {S : HS} (h : P_X11_fitOf_63 Q X16 X31 X40 v0 v1 v2 v3 v4 v5 v6 v7 v8 S) : WS X 11 0 0 63 [(0, .ref v0), (1, .int v1), (2, .int v2), (3, .int v3), (4, .int v4), (5, .int v5), (6, .int v6), (7, .int v7), (8, .int v8)] [] S :=
  h (fun v0 v1 v2 v3 v4 v5 v6 v7 v8 S => WS X 11 0 0 63 [(0, .ref v0), (1, .int v1), (2, .int v2), (3, .int v3), (4, .int v4), (5, .int v5), (6, .int v6), (7, .int v7), (8, .int v8)] [] S) (fun v0 v1 v2 v3 v4 v5 v6 v7 v8 S hh => TB_X11_fitOf_63 C E ht hn hX16 hX31 hX40 (fun v0 v1 v2 v3 v4 v5 v6 v7 v8 S z => z) hh)
def B_X11_fitOf_40 (Q : Int32 → HS → Prop) (X16 : Nat → Int32 → Int32 → Int32 → Int32 → Int32 → HS → Prop) (X31 : Nat → Int32 → Int32 → Int32 → Int32 → Int32 → Int32 → HS → Prop) (X40 : Nat → Int32 → Int32 → Int32 → Int32 → Int32 → Int32 → Int32 → HS → Prop) (v0 : Nat) (v1 : Int32) (v2 : Int32) (v3 : Int32) (v4 : Int32) (v5 : Int32) (v6 : Int32) (v7 : Int32) (S : HS) : Prop := ob S v0 11 ∧ (∃ a1 : Nat, fR S v0 3 = some a1 ∧ (ob S a1 10 ∧ (∀ x2 : Int32, x2 = fI S a1 1 → (((x2 ≤ v7) → (∀ x4 : Int32, x4 = v6 + (1 : Int32) → (X31 v0 v1 v2 v3 v4 v5 x4 S))) ∧ ((¬ x2 ≤ v7) → (∃ a5 : Nat, fR S v0 3 = some a5 ∧ (ob S a5 10 ∧ (∃ a6 : Nat, fR S a5 24 = some a6 ∧ (ob S a6 13 ∧ (vp_in v3 (hN S a6) ∧ ∀ x8 : Int32, x8 = fI S a6 v3.toNatClampNeg → (P_X11_fitOf_63 Q X16 X31 X40 v0 v1 v2 v3 v4 v5 v6 v7 x8 S)))))))))))
def P_X11_fitOf_40 (Q : Int32 → HS → Prop) (X16 : Nat → Int32 → Int32 → Int32 → Int32 → Int32 → HS → Prop) (X31 : Nat → Int32 → Int32 → Int32 → Int32 → Int32 → Int32 → HS → Prop) (v0 : Nat) (v1 : Int32) (v2 : Int32) (v3 : Int32) (v4 : Int32) (v5 : Int32) (v6 : Int32) (v7 : Int32) (S : HS) : Prop := ∀ X40 : Nat → Int32 → Int32 → Int32 → Int32 → Int32 → Int32 → Int32 → HS → Prop, (∀ (v0 : Nat) (v1 : Int32) (v2 : Int32) (v3 : Int32) (v4 : Int32) (v5 : Int32) (v6 : Int32) (v7 : Int32) (S : HS), B_X11_fitOf_40 Q X16 X31 X40 v0 v1 v2 v3 v4 v5 v6 v7 S → X40 v0 v1 v2 v3 v4 v5 v6 v7 S) → X40 v0 v1 v2 v3 v4 v5 v6 v7 S
set_option maxRecDepth 20000 in
set_option maxHeartbeats 4000000 in
theorem TB_X11_fitOf_40 {X : CX} {Q : Int32 → HS → Prop} (C : Cx X cX11_fitOf RX11 11 rm_X11_fitOf) (E : ReI X rm_X11_fitOf Q) (ht : (xh X).sig.returnType = (some .int)) (hn : (xh X).name = yX11_fitOf.name) {X16 : Nat → Int32 → Int32 → Int32 → Int32 → Int32 → HS → Prop} (hX16 : ∀ (v0 : Nat) (v1 : Int32) (v2 : Int32) (v3 : Int32) (v4 : Int32) (v5 : Int32) (S : HS), X16 v0 v1 v2 v3 v4 v5 S → WS X 11 0 0 16 [(0, .ref v0), (1, .int v1), (2, .int v2), (3, .int v3), (4, .int v4), (5, .int v5)] [] S) {X31 : Nat → Int32 → Int32 → Int32 → Int32 → Int32 → Int32 → HS → Prop} (hX31 : ∀ (v0 : Nat) (v1 : Int32) (v2 : Int32) (v3 : Int32) (v4 : Int32) (v5 : Int32) (v6 : Int32) (S : HS), X31 v0 v1 v2 v3 v4 v5 v6 S → WS X 11 0 0 31 [(0, .ref v0), (1, .int v1), (2, .int v2), (3, .int v3), (4, .int v4), (5, .int v5), (6, .int v6)] [] S) {X40 : Nat → Int32 → Int32 → Int32 → Int32 → Int32 → Int32 → Int32 → HS → Prop} (hX40 : ∀ (v0 : Nat) (v1 : Int32) (v2 : Int32) (v3 : Int32) (v4 : Int32) (v5 : Int32) (v6 : Int32) (v7 : Int32) (S : HS), X40 v0 v1 v2 v3 v4 v5 v6 v7 S → WS X 11 0 0 40 [(0, .ref v0), (1, .int v1), (2, .int v2), (3, .int v3), (4, .int v4), (5, .int v5), (6, .int v6), (7, .int v7)] [] S) {v0 : Nat} {v1 : Int32} {v2 : Int32} {v3 : Int32} {v4 : Int32} {v5 : Int32} {v6 : Int32} {v7 : Int32} {S : HS} (h : B_X11_fitOf_40 Q X16 X31 X40 v0 v1 v2 v3 v4 v5 v6 v7 S) : WS X 11 0 0 40 [(0, .ref v0), (1, .int v1), (2, .int v2), (3, .int v3), (4, .int v4), (5, .int v5), (6, .int v6), (7, .int v7)] [] S := by
  refine r_iload (pc := 40) C dX11_fitOf_40 7 rfl ?_
  refine r_aload_n (pc := 42) C dX11_fitOf_42 0 rfl ?_
  obtain ⟨o_v0, h⟩ := h
  obtain ⟨a1, ea1, h⟩ := h
  refine r_getr (pc := 43) C fL_X11_338 dX11_fitOf_43 o_v0 ea1 ?_
  obtain ⟨o_a1, h⟩ := h
  refine r_getNi (pc := 46) C fN_X11_219 dX11_fitOf_46 o_a1 ?_
  refine r_topi (fun x2 ex2 => ?_)
  have h := h x2 ex2
  refine r_icmp_ge (pc := 49) C (tgt := 196) dX11_fitOf_49 (by decide) (fun c3 => ?_) (fun c3 => ?_)
  · have h := h.1 c3
    obtain ⟨x4, ex4⟩ : ∃ z : Int32, z = v6 + (1 : Int32) := ⟨_, rfl⟩
    have h := h x4 ex4
    refine r_iinc (pc := 196) C (v := x4) (lv' := [(6, .int x4), (0, .ref v0), (1, .int v1), (2, .int v2), (3, .int v3), (4, .int v4), (5, .int v5), (7, .int v7)]) dX11_fitOf_196 6 rfl ex4.symm (by decide) rfl ?_
    refine r_goto (pc := 199) C (tgt := 31) dX11_fitOf_199 (by decide) ?_
    exact r_sub [1, 2, 3, 4, 5, 6, 0] rfl (hX31 v0 v1 v2 v3 v4 v5 x4 S h)
  · have h := h.2 c3
    refine r_aload_n (pc := 52) C dX11_fitOf_52 0 rfl ?_
    obtain ⟨a5, ea5, h⟩ := h
    refine r_getr (pc := 53) C fL_X11_338 dX11_fitOf_53 o_v0 ea5 ?_
    obtain ⟨o_a5, h⟩ := h
    obtain ⟨a6, ea6, h⟩ := h
    refine r_getNr (pc := 56) C fN_X11_317 dX11_fitOf_56 o_a5 ea6 ?_
    refine r_iload_n (pc := 59) C dX11_fitOf_59 3 rfl ?_
    obtain ⟨o_a6, h⟩ := h
    obtain ⟨i7, h⟩ := h
    refine r_iald (pc := 60) C dX11_fitOf_60 o_a6 i7 ?_
    refine r_topi (fun x8 ex8 => ?_)
    have h := h x8 ex8
    refine r_istore (pc := 61) C dX11_fitOf_61 (by decide) (lv' := [(8, .int x8), (0, .ref v0), (1, .int v1), (2, .int v2), (3, .int v3), (4, .int v4), (5, .int v5), (6, .int v6), (7, .int v7)]) rfl ?_
    exact r_sub [1, 2, 3, 4, 5, 6, 7, 8, 0] rfl (T_X11_fitOf_63 C E ht hn hX16 hX31 hX40 h)
theorem T_X11_fitOf_40 {X : CX} {Q : Int32 → HS → Prop} (C : Cx X cX11_fitOf RX11 11 rm_X11_fitOf) (E : ReI X rm_X11_fitOf Q) (ht : (xh X).sig.returnType = (some .int)) (hn : (xh X).name = yX11_fitOf.name) {X16 : Nat → Int32 → Int32 → Int32 → Int32 → Int32 → HS → Prop} (hX16 : ∀ (v0 : Nat) (v1 : Int32) (v2 : Int32) (v3 : Int32) (v4 : Int32) (v5 : Int32) (S : HS), X16 v0 v1 v2 v3 v4 v5 S → WS X 11 0 0 16 [(0, .ref v0), (1, .int v1), (2, .int v2), (3, .int v3), (4, .int v4), (5, .int v5)] [] S) {X31 : Nat → Int32 → Int32 → Int32 → Int32 → Int32 → Int32 → HS → Prop} (hX31 : ∀ (v0 : Nat) (v1 : Int32) (v2 : Int32) (v3 : Int32) (v4 : Int32) (v5 : Int32) (v6 : Int32) (S : HS), X31 v0 v1 v2 v3 v4 v5 v6 S → WS X 11 0 0 31 [(0, .ref v0), (1, .int v1), (2, .int v2), (3, .int v3), (4, .int v4), (5, .int v5), (6, .int v6)] [] S) {v0 : Nat} {v1 : Int32} {v2 : Int32} {v3 : Int32} {v4 : Int32} {v5 : Int32} {v6 : Int32} {v7 : Int32} {S : HS} (h : P_X11_fitOf_40 Q X16 X31 v0 v1 v2 v3 v4 v5 v6 v7 S) : WS X 11 0 0 40 [(0, .ref v0), (1, .int v1), (2, .int v2), (3, .int v3), (4, .int v4), (5, .int v5), (6, .int v6), (7, .int v7)] [] S :=
  h (fun v0 v1 v2 v3 v4 v5 v6 v7 S => WS X 11 0 0 40 [(0, .ref v0), (1, .int v1), (2, .int v2), (3, .int v3), (4, .int v4), (5, .int v5), (6, .int v6), (7, .int v7)] [] S) (fun v0 v1 v2 v3 v4 v5 v6 v7 S hh => TB_X11_fitOf_40 C E ht hn hX16 hX31 (fun v0 v1 v2 v3 v4 v5 v6 v7 S z => z) hh)
def B_X11_fitOf_31 (Q : Int32 → HS → Prop) (X16 : Nat → Int32 → Int32 → Int32 → Int32 → Int32 → HS → Prop) (X31 : Nat → Int32 → Int32 → Int32 → Int32 → Int32 → Int32 → HS → Prop) (v0 : Nat) (v1 : Int32) (v2 : Int32) (v3 : Int32) (v4 : Int32) (v5 : Int32) (v6 : Int32) (S : HS) : Prop := (((2 : Int32) ≤ v6) → (∀ x2 : Int32, x2 = v5 + (1 : Int32) → (X16 v0 v1 v2 v3 v4 x2 S))) ∧ ((¬ (2 : Int32) ≤ v6) → (P_X11_fitOf_40 Q X16 X31 v0 v1 v2 v3 v4 v5 v6 (0 : Int32) S))
def P_X11_fitOf_31 (Q : Int32 → HS → Prop) (X16 : Nat → Int32 → Int32 → Int32 → Int32 → Int32 → HS → Prop) (v0 : Nat) (v1 : Int32) (v2 : Int32) (v3 : Int32) (v4 : Int32) (v5 : Int32) (v6 : Int32) (S : HS) : Prop := ∀ X31 : Nat → Int32 → Int32 → Int32 → Int32 → Int32 → Int32 → HS → Prop, (∀ (v0 : Nat) (v1 : Int32) (v2 : Int32) (v3 : Int32) (v4 : Int32) (v5 : Int32) (v6 : Int32) (S : HS), B_X11_fitOf_31 Q X16 X31 v0 v1 v2 v3 v4 v5 v6 S → X31 v0 v1 v2 v3 v4 v5 v6 S) → X31 v0 v1 v2 v3 v4 v5 v6 S
set_option maxRecDepth 20000 in
set_option maxHeartbeats 4000000 in
theorem TB_X11_fitOf_31 {X : CX} {Q : Int32 → HS → Prop} (C : Cx X cX11_fitOf RX11 11 rm_X11_fitOf) (E : ReI X rm_X11_fitOf Q) (ht : (xh X).sig.returnType = (some .int)) (hn : (xh X).name = yX11_fitOf.name) {X16 : Nat → Int32 → Int32 → Int32 → Int32 → Int32 → HS → Prop} (hX16 : ∀ (v0 : Nat) (v1 : Int32) (v2 : Int32) (v3 : Int32) (v4 : Int32) (v5 : Int32) (S : HS), X16 v0 v1 v2 v3 v4 v5 S → WS X 11 0 0 16 [(0, .ref v0), (1, .int v1), (2, .int v2), (3, .int v3), (4, .int v4), (5, .int v5)] [] S) {X31 : Nat → Int32 → Int32 → Int32 → Int32 → Int32 → Int32 → HS → Prop} (hX31 : ∀ (v0 : Nat) (v1 : Int32) (v2 : Int32) (v3 : Int32) (v4 : Int32) (v5 : Int32) (v6 : Int32) (S : HS), X31 v0 v1 v2 v3 v4 v5 v6 S → WS X 11 0 0 31 [(0, .ref v0), (1, .int v1), (2, .int v2), (3, .int v3), (4, .int v4), (5, .int v5), (6, .int v6)] [] S) {v0 : Nat} {v1 : Int32} {v2 : Int32} {v3 : Int32} {v4 : Int32} {v5 : Int32} {v6 : Int32} {S : HS} (h : B_X11_fitOf_31 Q X16 X31 v0 v1 v2 v3 v4 v5 v6 S) : WS X 11 0 0 31 [(0, .ref v0), (1, .int v1), (2, .int v2), (3, .int v3), (4, .int v4), (5, .int v5), (6, .int v6)] [] S := by
  refine r_iload (pc := 31) C dX11_fitOf_31 6 rfl ?_
  refine r_iconst (pc := 33) C (v := (2 : Int32)) dX11_fitOf_33 (by decide) ?_
  refine r_icmp_ge (pc := 34) C (tgt := 202) dX11_fitOf_34 (by decide) (fun c1 => ?_) (fun c1 => ?_)
  · have h := h.1 c1
    obtain ⟨x2, ex2⟩ : ∃ z : Int32, z = v5 + (1 : Int32) := ⟨_, rfl⟩
    have h := h x2 ex2
    refine r_iinc (pc := 202) C (v := x2) (lv' := [(5, .int x2), (0, .ref v0), (1, .int v1), (2, .int v2), (3, .int v3), (4, .int v4), (6, .int v6)]) dX11_fitOf_202 5 rfl ex2.symm (by decide) rfl ?_
    refine r_goto (pc := 205) C (tgt := 16) dX11_fitOf_205 (by decide) ?_
    exact r_sub [1, 2, 3, 4, 5, 0] rfl (hX16 v0 v1 v2 v3 v4 x2 S h)
  · have h := h.2 c1
    refine r_iconst (pc := 37) C (v := (0 : Int32)) dX11_fitOf_37 (by decide) ?_
    refine r_istore (pc := 38) C dX11_fitOf_38 (by decide) (lv' := [(7, .int (0 : Int32)), (0, .ref v0), (1, .int v1), (2, .int v2), (3, .int v3), (4, .int v4), (5, .int v5), (6, .int v6)]) rfl ?_
    exact r_sub [1, 2, 3, 4, 5, 6, 7, 0] rfl (T_X11_fitOf_40 C E ht hn hX16 hX31 h)
theorem T_X11_fitOf_31 {X : CX} {Q : Int32 → HS → Prop} (C : Cx X cX11_fitOf RX11 11 rm_X11_fitOf) (E : ReI X rm_X11_fitOf Q) (ht : (xh X).sig.returnType = (some .int)) (hn : (xh X).name = yX11_fitOf.name) {X16 : Nat → Int32 → Int32 → Int32 → Int32 → Int32 → HS → Prop} (hX16 : ∀ (v0 : Nat) (v1 : Int32) (v2 : Int32) (v3 : Int32) (v4 : Int32) (v5 : Int32) (S : HS), X16 v0 v1 v2 v3 v4 v5 S → WS X 11 0 0 16 [(0, .ref v0), (1, .int v1), (2, .int v2), (3, .int v3), (4, .int v4), (5, .int v5)] [] S) {v0 : Nat} {v1 : Int32} {v2 : Int32} {v3 : Int32} {v4 : Int32} {v5 : Int32} {v6 : Int32} {S : HS} (h : P_X11_fitOf_31 Q X16 v0 v1 v2 v3 v4 v5 v6 S) : WS X 11 0 0 31 [(0, .ref v0), (1, .int v1), (2, .int v2), (3, .int v3), (4, .int v4), (5, .int v5), (6, .int v6)] [] S :=
  h (fun v0 v1 v2 v3 v4 v5 v6 S => WS X 11 0 0 31 [(0, .ref v0), (1, .int v1), (2, .int v2), (3, .int v3), (4, .int v4), (5, .int v5), (6, .int v6)] [] S) (fun v0 v1 v2 v3 v4 v5 v6 S hh => TB_X11_fitOf_31 C E ht hn hX16 (fun v0 v1 v2 v3 v4 v5 v6 S z => z) hh)
def B_X11_fitOf_16 (Q : Int32 → HS → Prop) (X16 : Nat → Int32 → Int32 → Int32 → Int32 → Int32 → HS → Prop) (v0 : Nat) (v1 : Int32) (v2 : Int32) (v3 : Int32) (v4 : Int32) (v5 : Int32) (S : HS) : Prop := ob S v0 11 ∧ (∃ a1 : Nat, fR S v0 3 = some a1 ∧ (ob S a1 10 ∧ (∀ x2 : Int32, x2 = fI S a1 3 → (((x2 ≤ v5) → (((0 ≤ v2) → (Q (-1 : Int32) S)) ∧ ((¬ 0 ≤ v2) → (Q v4 S)))) ∧ ((¬ x2 ≤ v5) → (P_X11_fitOf_31 Q X16 v0 v1 v2 v3 v4 v5 (0 : Int32) S))))))
def P_X11_fitOf_16 (Q : Int32 → HS → Prop) (v0 : Nat) (v1 : Int32) (v2 : Int32) (v3 : Int32) (v4 : Int32) (v5 : Int32) (S : HS) : Prop := ∀ X16 : Nat → Int32 → Int32 → Int32 → Int32 → Int32 → HS → Prop, (∀ (v0 : Nat) (v1 : Int32) (v2 : Int32) (v3 : Int32) (v4 : Int32) (v5 : Int32) (S : HS), B_X11_fitOf_16 Q X16 v0 v1 v2 v3 v4 v5 S → X16 v0 v1 v2 v3 v4 v5 S) → X16 v0 v1 v2 v3 v4 v5 S
set_option maxRecDepth 20000 in
set_option maxHeartbeats 4000000 in
theorem TB_X11_fitOf_16 {X : CX} {Q : Int32 → HS → Prop} (C : Cx X cX11_fitOf RX11 11 rm_X11_fitOf) (E : ReI X rm_X11_fitOf Q) (ht : (xh X).sig.returnType = (some .int)) (hn : (xh X).name = yX11_fitOf.name) {X16 : Nat → Int32 → Int32 → Int32 → Int32 → Int32 → HS → Prop} (hX16 : ∀ (v0 : Nat) (v1 : Int32) (v2 : Int32) (v3 : Int32) (v4 : Int32) (v5 : Int32) (S : HS), X16 v0 v1 v2 v3 v4 v5 S → WS X 11 0 0 16 [(0, .ref v0), (1, .int v1), (2, .int v2), (3, .int v3), (4, .int v4), (5, .int v5)] [] S) {v0 : Nat} {v1 : Int32} {v2 : Int32} {v3 : Int32} {v4 : Int32} {v5 : Int32} {S : HS} (h : B_X11_fitOf_16 Q X16 v0 v1 v2 v3 v4 v5 S) : WS X 11 0 0 16 [(0, .ref v0), (1, .int v1), (2, .int v2), (3, .int v3), (4, .int v4), (5, .int v5)] [] S := by
  refine r_iload (pc := 16) C dX11_fitOf_16 5 rfl ?_
  refine r_aload_n (pc := 18) C dX11_fitOf_18 0 rfl ?_
  obtain ⟨o_v0, h⟩ := h
  obtain ⟨a1, ea1, h⟩ := h
  refine r_getr (pc := 19) C fL_X11_338 dX11_fitOf_19 o_v0 ea1 ?_
  obtain ⟨o_a1, h⟩ := h
  refine r_getNi (pc := 22) C fN_X11_264 dX11_fitOf_22 o_a1 ?_
  refine r_topi (fun x2 ex2 => ?_)
  have h := h x2 ex2
  refine r_icmp_ge (pc := 25) C (tgt := 208) dX11_fitOf_25 (by decide) (fun c3 => ?_) (fun c3 => ?_)
  · have h := h.1 c3
    refine r_iload_n (pc := 208) C dX11_fitOf_208 2 rfl ?_
    refine r_if_ge (pc := 209) C (tgt := 217) dX11_fitOf_209 (by decide) (fun c4 => ?_) (fun c4 => ?_)
    · have h := h.1 c4
      refine r_iconst (pc := 217) C (v := (-1 : Int32)) dX11_fitOf_217 (by decide) ?_
      exact r_iret (pc := 218) C E ht dX11_fitOf_218 (by decide) (by decide) h
    · have h := h.2 c4
      refine r_iload (pc := 212) C dX11_fitOf_212 4 rfl ?_
      refine r_goto (pc := 214) C (tgt := 218) dX11_fitOf_214 (by decide) ?_
      exact r_iret (pc := 218) C E ht dX11_fitOf_218 (by decide) (by decide) h
  · have h := h.2 c3
    refine r_iconst (pc := 28) C (v := (0 : Int32)) dX11_fitOf_28 (by decide) ?_
    refine r_istore (pc := 29) C dX11_fitOf_29 (by decide) (lv' := [(6, .int (0 : Int32)), (0, .ref v0), (1, .int v1), (2, .int v2), (3, .int v3), (4, .int v4), (5, .int v5)]) rfl ?_
    exact r_sub [1, 2, 3, 4, 5, 6, 0] rfl (T_X11_fitOf_31 C E ht hn hX16 h)
theorem T_X11_fitOf_16 {X : CX} {Q : Int32 → HS → Prop} (C : Cx X cX11_fitOf RX11 11 rm_X11_fitOf) (E : ReI X rm_X11_fitOf Q) (ht : (xh X).sig.returnType = (some .int)) (hn : (xh X).name = yX11_fitOf.name) {v0 : Nat} {v1 : Int32} {v2 : Int32} {v3 : Int32} {v4 : Int32} {v5 : Int32} {S : HS} (h : P_X11_fitOf_16 Q v0 v1 v2 v3 v4 v5 S) : WS X 11 0 0 16 [(0, .ref v0), (1, .int v1), (2, .int v2), (3, .int v3), (4, .int v4), (5, .int v5)] [] S :=
  h (fun v0 v1 v2 v3 v4 v5 S => WS X 11 0 0 16 [(0, .ref v0), (1, .int v1), (2, .int v2), (3, .int v3), (4, .int v4), (5, .int v5)] [] S) (fun v0 v1 v2 v3 v4 v5 S hh => TB_X11_fitOf_16 C E ht hn (fun v0 v1 v2 v3 v4 v5 S z => z) hh)
def P_X11_fitOf_0 (Q : Int32 → HS → Prop) (v0 : Nat) (v1 : Int32) (v2 : Int32) (S : HS) : Prop := ob S v0 11 ∧ (∃ a1 : Nat, fR S v0 3 = some a1 ∧ (ob S a1 10 ∧ (∃ a2 : Nat, fR S a1 26 = some a2 ∧ (ob S a2 13 ∧ (vp_in v1 (hN S a2) ∧ ∀ x4 : Int32, x4 = fI S a2 v1.toNatClampNeg → (P_X11_fitOf_16 Q v0 v1 v2 x4 (0 : Int32) (0 : Int32) S))))))
set_option maxRecDepth 20000 in
set_option maxHeartbeats 4000000 in
theorem T_X11_fitOf_0 {X : CX} {Q : Int32 → HS → Prop} (C : Cx X cX11_fitOf RX11 11 rm_X11_fitOf) (E : ReI X rm_X11_fitOf Q) (ht : (xh X).sig.returnType = (some .int)) (hn : (xh X).name = yX11_fitOf.name) {v0 : Nat} {v1 : Int32} {v2 : Int32} {S : HS} (h : P_X11_fitOf_0 Q v0 v1 v2 S) : WS X 11 0 0 0 [(0, .ref v0), (1, .int v1), (2, .int v2)] [] S := by
  refine r_aload_n (pc := 0) C dX11_fitOf_0 0 rfl ?_
  obtain ⟨o_v0, h⟩ := h
  obtain ⟨a1, ea1, h⟩ := h
  refine r_getr (pc := 1) C fL_X11_338 dX11_fitOf_1 o_v0 ea1 ?_
  obtain ⟨o_a1, h⟩ := h
  obtain ⟨a2, ea2, h⟩ := h
  refine r_getNr (pc := 4) C fN_X11_328 dX11_fitOf_4 o_a1 ea2 ?_
  refine r_iload_n (pc := 7) C dX11_fitOf_7 1 rfl ?_
  obtain ⟨o_a2, h⟩ := h
  obtain ⟨i3, h⟩ := h
  refine r_iald (pc := 8) C dX11_fitOf_8 o_a2 i3 ?_
  refine r_topi (fun x4 ex4 => ?_)
  have h := h x4 ex4
  refine r_istore_n (pc := 9) C dX11_fitOf_9 rfl (by decide) (lv' := [(3, .int x4), (0, .ref v0), (1, .int v1), (2, .int v2)]) rfl ?_
  refine r_iconst (pc := 10) C (v := (0 : Int32)) dX11_fitOf_10 (by decide) ?_
  refine r_istore (pc := 11) C dX11_fitOf_11 (by decide) (lv' := [(4, .int (0 : Int32)), (3, .int x4), (0, .ref v0), (1, .int v1), (2, .int v2)]) rfl ?_
  refine r_iconst (pc := 13) C (v := (0 : Int32)) dX11_fitOf_13 (by decide) ?_
  refine r_istore (pc := 14) C dX11_fitOf_14 (by decide) (lv' := [(5, .int (0 : Int32)), (4, .int (0 : Int32)), (3, .int x4), (0, .ref v0), (1, .int v1), (2, .int v2)]) rfl ?_
  exact r_sub [3, 4, 5, 2, 1, 0] rfl (T_X11_fitOf_16 C E ht hn h)
def P_X11_fitOf (v0 : Nat) (v1 : Int32) (v2 : Int32) (Q : Int32 → HS → Prop) (S : HS) : Prop := P_X11_fitOf_0 Q v0 v1 v2 S
theorem c_X11_fitOf {l : Launch} {Ee : EE} {S : HS} {v0 : Nat} {v1 : Int32} {v2 : Int32} {Q : Int32 → HS → Prop} (h : P_X11_fitOf v0 v1 v2 Q S) : MI l yX11_fitOf cX11_fitOf 11 (some .int) rm_X11_fitOf Ee S [.ref v0, .int v1, .int v2] Q :=
  openI (by decide) (Nat.le_of_ble_eq_true rfl) (fun X C E ht hn hE hl => by subst hE; exact r_sub [0, 1, 2] rfl (T_X11_fitOf_0 C E ht hn h))
def rm_X11_isSeen : Room := { frames := 0, cells := 0, slots := 0, locals := 0 }
def P_X11_isSeen_0 (Q : Int32 → HS → Prop) (v0 : Nat) (v1 : Int32) (S : HS) : Prop := ob S v0 11 ∧ ((fR S v0 3 = none → (Q (0 : Int32) S)) ∧ (∀ a1 : Nat, fR S v0 3 = some a1 → (((v1 < 0) → (Q (0 : Int32) S)) ∧ ((¬ v1 < 0) → (∃ a4 : Nat, fR S v0 3 = some a4 ∧ (ob S a4 10 ∧ (∀ x5 : Int32, x5 = fI S a4 5 → (((x5 ≤ v1) → (Q (0 : Int32) S)) ∧ ((¬ x5 ≤ v1) → (Q (1 : Int32) S))))))))))
set_option maxRecDepth 20000 in
set_option maxHeartbeats 4000000 in
theorem T_X11_isSeen_0 {X : CX} {Q : Int32 → HS → Prop} (C : Cx X cX11_isSeen RX11 2 rm_X11_isSeen) (E : ReI X rm_X11_isSeen (fun r S => bl r ∧ Q r S)) (ht : (xh X).sig.returnType = (some .boolean)) (hn : (xh X).name = yX11_isSeen.name) {v0 : Nat} {v1 : Int32} {S : HS} (h : P_X11_isSeen_0 Q v0 v1 S) : WS X 2 0 0 0 [(0, .ref v0), (1, .int v1)] [] S := by
  refine r_aload_n (pc := 0) C dX11_isSeen_0 0 rfl ?_
  obtain ⟨o_v0, h⟩ := h
  rcases e2 : fR S v0 3 with _ | a1
  · refine r_get0 (pc := 1) C fL_X11_338 dX11_isSeen_1 o_v0 e2 ?_
    refine r_ifnull0 (pc := 4) C (tgt := 26) dX11_isSeen_4 (by decide) ?_
    have h := h.1 e2
    refine r_iconst (pc := 26) C (v := (0 : Int32)) dX11_isSeen_26 (by decide) ?_
    exact r_zret (pc := 27) C E ht dX11_isSeen_27 (by decide) (by decide) (Or.inl rfl) h
  · refine r_getr (pc := 1) C fL_X11_338 dX11_isSeen_1 o_v0 e2 ?_
    refine r_ifnull (pc := 4) C dX11_isSeen_4 ?_
    have h := h.2 a1 e2
    refine r_iload_n (pc := 7) C dX11_isSeen_7 1 rfl ?_
    refine r_if_lt (pc := 8) C (tgt := 26) dX11_isSeen_8 (by decide) (fun c3 => ?_) (fun c3 => ?_)
    · have h := h.1 c3
      refine r_iconst (pc := 26) C (v := (0 : Int32)) dX11_isSeen_26 (by decide) ?_
      exact r_zret (pc := 27) C E ht dX11_isSeen_27 (by decide) (by decide) (Or.inl rfl) h
    · have h := h.2 c3
      refine r_iload_n (pc := 11) C dX11_isSeen_11 1 rfl ?_
      refine r_aload_n (pc := 12) C dX11_isSeen_12 0 rfl ?_
      obtain ⟨a4, ea4, h⟩ := h
      refine r_getr (pc := 13) C fL_X11_338 dX11_isSeen_13 o_v0 ea4 ?_
      obtain ⟨o_a4, h⟩ := h
      refine r_getNi (pc := 16) C fN_X11_323 dX11_isSeen_16 o_a4 ?_
      refine r_topi (fun x5 ex5 => ?_)
      have h := h x5 ex5
      refine r_icmp_ge (pc := 19) C (tgt := 26) dX11_isSeen_19 (by decide) (fun c6 => ?_) (fun c6 => ?_)
      · have h := h.1 c6
        refine r_iconst (pc := 26) C (v := (0 : Int32)) dX11_isSeen_26 (by decide) ?_
        exact r_zret (pc := 27) C E ht dX11_isSeen_27 (by decide) (by decide) (Or.inl rfl) h
      · have h := h.2 c6
        refine r_iconst (pc := 22) C (v := (1 : Int32)) dX11_isSeen_22 (by decide) ?_
        refine r_goto (pc := 23) C (tgt := 27) dX11_isSeen_23 (by decide) ?_
        exact r_zret (pc := 27) C E ht dX11_isSeen_27 (by decide) (by decide) (Or.inr rfl) h
def P_X11_isSeen (v0 : Nat) (v1 : Int32) (Q : Int32 → HS → Prop) (S : HS) : Prop := P_X11_isSeen_0 Q v0 v1 S
theorem c_X11_isSeen {l : Launch} {Ee : EE} {S : HS} {v0 : Nat} {v1 : Int32} {Q : Int32 → HS → Prop} (h : P_X11_isSeen v0 v1 Q S) : MI l yX11_isSeen cX11_isSeen 2 (some .boolean) rm_X11_isSeen Ee S [.ref v0, .int v1] (fun r S => bl r ∧ Q r S) :=
  openI (by decide) (Nat.le_of_ble_eq_true rfl) (fun X C E ht hn hE hl => by subst hE; exact r_sub [0, 1] rfl (T_X11_isSeen_0 C E ht hn h))
def rm_X11_fit : Room := { frames := 6, cells := 0, slots := 0, locals := 165 }
def P_X11_fit_27 (Q : Int32 → HS → Prop) (v0 : Nat) (s0 : Int32) (S : HS) : Prop := ((¬ s0 = (-1 : Int32)) → (ob S v0 11 ∧ (P_X11_good v0 s0 (fun x4 S2 => Gr S S2 → (Q x4 S2)) S))) ∧ ((s0 = (-1 : Int32)) → (ob S v0 11 ∧ (P_X11_refused v0 (1 : Int32) (fun x7 S5 => Gr S S5 → (Q x7 S5)) S)))
set_option maxRecDepth 20000 in
set_option maxHeartbeats 4000000 in
theorem T_X11_fit_27 {X : CX} {Q : Int32 → HS → Prop} (C : Cx X cX11_fit RX11 4 rm_X11_fit) (E : ReI X rm_X11_fit Q) (ht : (xh X).sig.returnType = (some .int)) (hn : (xh X).name = yX11_fit.name) {v0 : Nat} {s0 : Int32} {S : HS} (h : P_X11_fit_27 Q v0 s0 S) : WS X 4 0 0 27 [(0, .ref v0)] [.int s0] S := by
  refine r_istore_n (pc := 27) C dX11_fit_27 rfl (by decide) (lv' := [(3, .int s0), (0, .ref v0)]) rfl ?_
  refine r_iload_n (pc := 28) C dX11_fit_28 0 rfl ?_
  refine r_iconst (pc := 29) C (v := (-1 : Int32)) dX11_fit_29 (by decide) ?_
  refine r_icmp_ne (pc := 30) C (tgt := 41) dX11_fit_30 (by decide) (fun c1 => ?_) (fun c1 => ?_)
  · have h := h.1 c1
    refine r_aload_n (pc := 41) C dX11_fit_41 1 rfl ?_
    refine r_iload_n (pc := 42) C dX11_fit_42 0 rfl ?_
    obtain ⟨o_v0, h⟩ := h
    refine r_callVi0 (pc := 43) C (rest := []) (a := v0) o_v0 [.int s0] yV_X11_good g_1518 (c_X11_good h) dX11_fit_43 rfl rfl (Nat.le_of_ble_eq_true rfl) ⟨by decide, by decide⟩ ⟨by decide, by decide⟩ ⟨rfl, rfl⟩ (fun x4 S2 h g3 => ?_)
    have h := h g3
    have o_v0 := gr_ob g3 o_v0
    exact r_iret (pc := 46) C E ht dX11_fit_46 (by decide) (by decide) h
  · have h := h.2 c1
    refine r_aload_n (pc := 33) C dX11_fit_33 1 rfl ?_
    refine r_iconst (pc := 34) C (v := (1 : Int32)) dX11_fit_34 (by decide) ?_
    obtain ⟨o_v0, h⟩ := h
    refine r_callVi0 (pc := 35) C (rest := []) (a := v0) o_v0 [.int (1 : Int32)] yV_X11_refused g_1250 (c_X11_refused h) dX11_fit_35 rfl rfl (Nat.le_of_ble_eq_true rfl) ⟨by decide, by decide⟩ ⟨by decide, by decide⟩ ⟨rfl, rfl⟩ (fun x7 S5 h g6 => ?_)
    have h := h g6
    have o_v0 := gr_ob g6 o_v0
    refine r_goto (pc := 38) C (tgt := 46) dX11_fit_38 (by decide) ?_
    exact r_iret (pc := 46) C E ht dX11_fit_46 (by decide) (by decide) h
def P_X11_fit_26 (Q : Int32 → HS → Prop) (v0 : Nat) (S : HS) : Prop := P_X11_fit_27 Q v0 (-1 : Int32) S
set_option maxRecDepth 20000 in
set_option maxHeartbeats 4000000 in
theorem T_X11_fit_26 {X : CX} {Q : Int32 → HS → Prop} (C : Cx X cX11_fit RX11 4 rm_X11_fit) (E : ReI X rm_X11_fit Q) (ht : (xh X).sig.returnType = (some .int)) (hn : (xh X).name = yX11_fit.name) {v0 : Nat} {S : HS} (h : P_X11_fit_26 Q v0 S) : WS X 4 0 0 26 [(0, .ref v0)] [] S := by
  refine r_iconst (pc := 26) C (v := (-1 : Int32)) dX11_fit_26 (by decide) ?_
  exact r_sub [0] rfl (T_X11_fit_27 C E ht hn h)
def P_X11_fit_0 (Q : Int32 → HS → Prop) (v0 : Nat) (v1 : Int32) (v2 : Int32) (S : HS) : Prop := ob S v0 11 ∧ (∀ S1 : HS, S1 = sI S v0 0 (0 : Int32) → (P_X11_isSeen v0 v1 (fun x4 S2 => Gr S1 S2 → bl x4 → (((x4 = 0) → (P_X11_fit_26 Q v0 S2)) ∧ ((¬ x4 = 0) → (((v2 < 0) → (P_X11_fit_26 Q v0 S2)) ∧ ((¬ v2 < 0) → (P_X11_fitOf v0 v1 v2 (fun x9 S7 => Gr S2 S7 → (P_X11_fit_27 Q v0 x9 S7)) S2)))))) S1))
set_option maxRecDepth 20000 in
set_option maxHeartbeats 4000000 in
theorem T_X11_fit_0 {X : CX} {Q : Int32 → HS → Prop} (C : Cx X cX11_fit RX11 4 rm_X11_fit) (E : ReI X rm_X11_fit Q) (ht : (xh X).sig.returnType = (some .int)) (hn : (xh X).name = yX11_fit.name) {v0 : Nat} {v1 : Int32} {v2 : Int32} {S : HS} (h : P_X11_fit_0 Q v0 v1 v2 S) : WS X 4 0 0 0 [(0, .ref v0), (1, .int v1), (2, .int v2)] [] S := by
  refine r_aload_n (pc := 0) C dX11_fit_0 0 rfl ?_
  refine r_iconst (pc := 1) C (v := (0 : Int32)) dX11_fit_1 (by decide) ?_
  obtain ⟨o_v0, h⟩ := h
  refine r_puti (pc := 2) C pfL_X11_40 dX11_fit_2 o_v0 ?_
  refine r_heap (fun S1 eS1 => ?_)
  have h := h S1 eS1
  have o_v0 := ob_I eS1 o_v0
  refine r_aload_n (pc := 5) C dX11_fit_5 0 rfl ?_
  refine r_iload_n (pc := 6) C dX11_fit_6 1 rfl ?_
  refine r_callVi0 (pc := 7) C (rest := []) (a := v0) o_v0 [.int v1] yV_X11_isSeen g_1751 (c_X11_isSeen h) dX11_fit_7 rfl rfl (Nat.le_of_ble_eq_true rfl) ⟨by decide, by decide⟩ ⟨by decide, by decide⟩ ⟨rfl, rfl⟩ (fun x4 S2 h g3 => ?_)
  have bx4 := h.1
  have h := h.2 g3 bx4
  have o_v0 := gr_ob g3 o_v0
  refine r_if_eq (pc := 10) C (tgt := 26) dX11_fit_10 (by decide) (fun c5 => ?_) (fun c5 => ?_)
  · have h := h.1 c5
    exact r_sub [0] rfl (T_X11_fit_26 C E ht hn h)
  · have h := h.2 c5
    refine r_iload_n (pc := 13) C dX11_fit_13 2 rfl ?_
    refine r_if_lt (pc := 14) C (tgt := 26) dX11_fit_14 (by decide) (fun c6 => ?_) (fun c6 => ?_)
    · have h := h.1 c6
      exact r_sub [0] rfl (T_X11_fit_26 C E ht hn h)
    · have h := h.2 c6
      refine r_aload_n (pc := 17) C dX11_fit_17 0 rfl ?_
      refine r_iload_n (pc := 18) C dX11_fit_18 1 rfl ?_
      refine r_iload_n (pc := 19) C dX11_fit_19 2 rfl ?_
      refine r_callVi0 (pc := 20) C (rest := []) (a := v0) o_v0 [.int v1, .int v2] yV_X11_fitOf g_1755 (c_X11_fitOf h) dX11_fit_20 rfl rfl (Nat.le_of_ble_eq_true rfl) ⟨by decide, by decide⟩ ⟨by decide, by decide⟩ ⟨rfl, rfl⟩ (fun x9 S7 h g8 => ?_)
      have h := h g8
      have o_v0 := gr_ob g8 o_v0
      refine r_goto (pc := 23) C (tgt := 27) dX11_fit_23 (by decide) ?_
      exact r_sub [0] rfl (T_X11_fit_27 C E ht hn h)
def P_X11_fit (v0 : Nat) (v1 : Int32) (v2 : Int32) (Q : Int32 → HS → Prop) (S : HS) : Prop := P_X11_fit_0 Q v0 v1 v2 S
theorem c_X11_fit {l : Launch} {Ee : EE} {S : HS} {v0 : Nat} {v1 : Int32} {v2 : Int32} {Q : Int32 → HS → Prop} (h : P_X11_fit v0 v1 v2 Q S) : MI l yX11_fit cX11_fit 4 (some .int) rm_X11_fit Ee S [.ref v0, .int v1, .int v2] Q :=
  openI (by decide) (Nat.le_of_ble_eq_true rfl) (fun X C E ht hn hE hl => by subst hE; exact r_sub [0, 1, 2] rfl (T_X11_fit_0 C E ht hn h))
def rm_X11_fits : Room := { frames := 6, cells := 0, slots := 0, locals := 165 }
def P_X11_fits_0 (Q : Int32 → HS → Prop) (v0 : Nat) (v1 : Int32) (S : HS) : Prop := ob S v0 11 ∧ (∀ S1 : HS, S1 = sI S v0 0 (0 : Int32) → (P_X11_isSeen v0 v1 (fun x4 S2 => Gr S1 S2 → bl x4 → (((x4 = 0) → (P_X11_refused v0 (1 : Int32) (fun x8 S6 => Gr S2 S6 → (Q x8 S6)) S2)) ∧ ((¬ x4 = 0) → (P_X11_fitOf v0 v1 (-1 : Int32) (fun x11 S9 => Gr S2 S9 → (P_X11_good v0 x11 (fun x14 S12 => Gr S9 S12 → (Q x14 S12)) S9)) S2)))) S1))
set_option maxRecDepth 20000 in
set_option maxHeartbeats 4000000 in
theorem T_X11_fits_0 {X : CX} {Q : Int32 → HS → Prop} (C : Cx X cX11_fits RX11 2 rm_X11_fits) (E : ReI X rm_X11_fits Q) (ht : (xh X).sig.returnType = (some .int)) (hn : (xh X).name = yX11_fits.name) {v0 : Nat} {v1 : Int32} {S : HS} (h : P_X11_fits_0 Q v0 v1 S) : WS X 2 0 0 0 [(0, .ref v0), (1, .int v1)] [] S := by
  refine r_aload_n (pc := 0) C dX11_fits_0 0 rfl ?_
  refine r_iconst (pc := 1) C (v := (0 : Int32)) dX11_fits_1 (by decide) ?_
  obtain ⟨o_v0, h⟩ := h
  refine r_puti (pc := 2) C pfL_X11_40 dX11_fits_2 o_v0 ?_
  refine r_heap (fun S1 eS1 => ?_)
  have h := h S1 eS1
  have o_v0 := ob_I eS1 o_v0
  refine r_aload_n (pc := 5) C dX11_fits_5 0 rfl ?_
  refine r_iload_n (pc := 6) C dX11_fits_6 1 rfl ?_
  refine r_callVi0 (pc := 7) C (rest := []) (a := v0) o_v0 [.int v1] yV_X11_isSeen g_1751 (c_X11_isSeen h) dX11_fits_7 rfl rfl (Nat.le_of_ble_eq_true rfl) ⟨by decide, by decide⟩ ⟨by decide, by decide⟩ ⟨rfl, rfl⟩ (fun x4 S2 h g3 => ?_)
  have bx4 := h.1
  have h := h.2 g3 bx4
  have o_v0 := gr_ob g3 o_v0
  refine r_if_eq (pc := 10) C (tgt := 26) dX11_fits_10 (by decide) (fun c5 => ?_) (fun c5 => ?_)
  · have h := h.1 c5
    refine r_aload_n (pc := 26) C dX11_fits_26 0 rfl ?_
    refine r_iconst (pc := 27) C (v := (1 : Int32)) dX11_fits_27 (by decide) ?_
    refine r_callVi0 (pc := 28) C (rest := []) (a := v0) o_v0 [.int (1 : Int32)] yV_X11_refused g_1250 (c_X11_refused h) dX11_fits_28 rfl rfl (Nat.le_of_ble_eq_true rfl) ⟨by decide, by decide⟩ ⟨by decide, by decide⟩ ⟨rfl, rfl⟩ (fun x8 S6 h g7 => ?_)
    have h := h g7
    have o_v0 := gr_ob g7 o_v0
    exact r_iret (pc := 31) C E ht dX11_fits_31 (by decide) (by decide) h
  · have h := h.2 c5
    refine r_aload_n (pc := 13) C dX11_fits_13 0 rfl ?_
    refine r_aload_n (pc := 14) C dX11_fits_14 0 rfl ?_
    refine r_iload_n (pc := 15) C dX11_fits_15 1 rfl ?_
    refine r_iconst (pc := 16) C (v := (-1 : Int32)) dX11_fits_16 (by decide) ?_
    refine r_callVi0 (pc := 17) C (rest := [.ref v0]) (a := v0) o_v0 [.int v1, .int (-1 : Int32)] yV_X11_fitOf g_1755 (c_X11_fitOf h) dX11_fits_17 rfl rfl (Nat.le_of_ble_eq_true rfl) ⟨by decide, by decide⟩ ⟨by decide, by decide⟩ ⟨rfl, rfl⟩ (fun x11 S9 h g10 => ?_)
    have h := h g10
    have o_v0 := gr_ob g10 o_v0
    refine r_callVi0 (pc := 20) C (rest := []) (a := v0) o_v0 [.int x11] yV_X11_good g_1518 (c_X11_good h) dX11_fits_20 rfl rfl (Nat.le_of_ble_eq_true rfl) ⟨by decide, by decide⟩ ⟨by decide, by decide⟩ ⟨rfl, rfl⟩ (fun x14 S12 h g13 => ?_)
    have h := h g13
    have o_v0 := gr_ob g13 o_v0
    refine r_goto (pc := 23) C (tgt := 31) dX11_fits_23 (by decide) ?_
    exact r_iret (pc := 31) C E ht dX11_fits_31 (by decide) (by decide) h
def P_X11_fits (v0 : Nat) (v1 : Int32) (Q : Int32 → HS → Prop) (S : HS) : Prop := P_X11_fits_0 Q v0 v1 S
theorem c_X11_fits {l : Launch} {Ee : EE} {S : HS} {v0 : Nat} {v1 : Int32} {Q : Int32 → HS → Prop} (h : P_X11_fits v0 v1 Q S) : MI l yX11_fits cX11_fits 2 (some .int) rm_X11_fits Ee S [.ref v0, .int v1] Q :=
  openI (by decide) (Nat.le_of_ble_eq_true rfl) (fun X C E ht hn hE hl => by subst hE; exact r_sub [0, 1] rfl (T_X11_fits_0 C E ht hn h))
end
