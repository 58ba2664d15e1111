def rm_X11_lost : Room := { frames := 1, cells := 0, slots := 0, locals := 21 }
def P_X11_lost_0 (Q : Int32 → HS → Prop) (v0 : Nat) (v1 : Int32) (S : HS) : Prop := ob S v0 11 ∧ (P_X11_refused v0 v1 (fun x3 S1 => Gr S S1 → (Q (-100 : Int32) S1)) S)
set_option maxRecDepth 20000 in
set_option maxHeartbeats 4000000 in
theorem T_X11_lost_0 {X : CX} {Q : Int32 → HS → Prop} (C : Cx X cX11_lost RX11 2 rm_X11_lost) (E : ReI X rm_X11_lost Q) (ht : (xh X).sig.returnType = (some .int)) (hn : (xh X).name = yX11_lost.name) {v0 : Nat} {v1 : Int32} {S : HS} (h : P_X11_lost_0 Q v0 v1 S) : WS X 2 0 0 0 [(0, .ref v0), (1, .int v1)] [] S := by
  refine r_aload_n (pc := 0) C dX11_lost_0 0 rfl ?_
  refine r_iload_n (pc := 1) C dX11_lost_1 1 rfl ?_
  obtain ⟨o_v0, h⟩ := h
  refine r_callVi0 (pc := 2) C (rest := []) (a := v0) o_v0 [.int v1] yV_X11_refused g_1250 (c_X11_refused h) dX11_lost_2 rfl rfl (by decide) ⟨by decide, by decide⟩ ⟨by decide, by decide⟩ ⟨rfl, rfl⟩ (fun x3 S1 h g2 => ?_)
  have h := h g2
  have o_v0 := gr_ob g2 o_v0
  refine r_pop (pc := 5) C dX11_lost_5 rfl ?_
  refine r_bipush (pc := 6) C (v := (-100 : Int32)) dX11_lost_6 (by decide) ?_
  exact r_iret (pc := 8) C E ht dX11_lost_8 (by decide) (by decide) h
def P_X11_lost (v0 : Nat) (v1 : Int32) (Q : Int32 → HS → Prop) (S : HS) : Prop := P_X11_lost_0 Q v0 v1 S
theorem c_X11_lost {l : Launch} {Ee : EE} {S : HS} {v0 : Nat} {v1 : Int32} {Q : Int32 → HS → Prop} (h : P_X11_lost v0 v1 Q S) : MI l yX11_lost cX11_lost 2 (some .int) rm_X11_lost Ee S [.ref v0, .int v1] Q :=
  openI (by decide) (by decide) (fun X C E ht hn hE hl => by subst hE; exact r_sub [0, 1] rfl (T_X11_lost_0 C E ht hn h))
def rm_X11_air : Room := { frames := 2, cells := 0, slots := 0, locals := 46 }
def P_X11_air_30 (Q : Int32 → HS → Prop) (v0 : Nat) (S : HS) : Prop := ob S v0 11 ∧ (P_X11_lost v0 (1 : Int32) (fun x3 S1 => Gr S S1 → (Q x3 S1)) S)
set_option maxRecDepth 20000 in
set_option maxHeartbeats 4000000 in
theorem T_X11_air_30 {X : CX} {Q : Int32 → HS → Prop} (C : Cx X cX11_air RX11 4 rm_X11_air) (E : ReI X rm_X11_air Q) (ht : (xh X).sig.returnType = (some .int)) (hn : (xh X).name = yX11_air.name) {v0 : Nat} {S : HS} (h : P_X11_air_30 Q v0 S) : WS X 4 0 0 30 [(0, .ref v0)] [] S := by
  refine r_aload_n (pc := 30) C dX11_air_30 0 rfl ?_
  refine r_iconst (pc := 31) C (v := (1 : Int32)) dX11_air_31 (by decide) ?_
  obtain ⟨o_v0, h⟩ := h
  refine r_callVi0 (pc := 32) C (rest := []) (a := v0) o_v0 [.int (1 : Int32)] yV_X11_lost g_1615 (c_X11_lost h) dX11_air_32 rfl rfl (by decide) ⟨by decide, by decide⟩ ⟨by decide, by decide⟩ ⟨rfl, rfl⟩ (fun x3 S1 h g2 => ?_)
  have h := h g2
  have o_v0 := gr_ob g2 o_v0
  exact r_iret (pc := 35) C E ht dX11_air_35 (by decide) (by decide) h
def P_X11_air_0 (Q : Int32 → HS → Prop) (v0 : Nat) (v1 : Int32) (v2 : Int32) (v3 : Int32) (S : HS) : Prop := ob S v0 11 ∧ (P_X11_isRoad v0 v1 (fun x3 S1 => Gr (sI S v0 0 (0 : Int32)) S1 → bl x3 → (((x3 = 0) → (P_X11_air_30 Q v0 S1)) ∧ ((¬ x3 = 0) → (P_X11_in v2 (0 : Int32) (1 : Int32) (fun x7 S5 => Gr S1 S5 → bl x7 → (((x7 = 0) → (P_X11_air_30 Q v0 S5)) ∧ ((¬ x7 = 0) → (P_X11_isHour v0 v3 (fun x11 S9 => Gr S5 S9 → bl x11 → (((¬ x11 = 0) → (∃ a13 : Nat, fR S9 v0 3 = some a13 ∧ (ob S9 a13 10 ∧ (P_X10_air a13 v1 v2 v3 (fun x16 S14 => Gr S9 S14 → (P_X11_good v0 x16 (fun x19 S17 => Gr S14 S17 → (Q x19 S17)) S14)) S9)))) ∧ ((x11 = 0) → (P_X11_air_30 Q v0 S9)))) S5)))) S1)))) (sI S v0 0 (0 : Int32)))
set_option maxRecDepth 20000 in
set_option maxHeartbeats 4000000 in
theorem T_X11_air_0 {X : CX} {Q : Int32 → HS → Prop} (C : Cx X cX11_air RX11 4 rm_X11_air) (E : ReI X rm_X11_air Q) (ht : (xh X).sig.returnType = (some .int)) (hn : (xh X).name = yX11_air.name) {v0 : Nat} {v1 : Int32} {v2 : Int32} {v3 : Int32} {S : HS} (h : P_X11_air_0 Q v0 v1 v2 v3 S) : WS X 4 0 0 0 [(0, .ref v0), (1, .int v1), (2, .int v2), (3, .int v3)] [] S := by
  refine r_aload_n (pc := 0) C dX11_air_0 0 rfl ?_
  refine r_iconst (pc := 1) C (v := (0 : Int32)) dX11_air_1 (by decide) ?_
  obtain ⟨o_v0, h⟩ := h
  refine r_puti (pc := 2) C pfL_X11_40 dX11_air_2 o_v0 ?_
  refine r_aload_n (pc := 5) C dX11_air_5 0 rfl ?_
  refine r_iload_n (pc := 6) C dX11_air_6 1 rfl ?_
  refine r_callVi0 (pc := 7) C (rest := []) (a := v0) o_v0 [.int v1] yV_X11_isRoad g_1542 (c_X11_isRoad h) dX11_air_7 rfl rfl (by decide) ⟨by decide, by decide⟩ ⟨by decide, by decide⟩ ⟨rfl, rfl⟩ (fun x3 S1 h g2 => ?_)
  have bx3 := h.1
  have h := h.2 g2 bx3
  have o_v0 := gr_ob g2 o_v0
  refine r_if_eq (pc := 10) C (tgt := 30) dX11_air_10 (by decide) (fun c4 => ?_) (fun c4 => ?_)
  · have h := h.1 c4
    exact r_sub [0] rfl (T_X11_air_30 C E ht hn h)
  · have h := h.2 c4
    refine r_iload_n (pc := 13) C dX11_air_13 2 rfl ?_
    refine r_iconst (pc := 14) C (v := (0 : Int32)) dX11_air_14 (by decide) ?_
    refine r_iconst (pc := 15) C (v := (1 : Int32)) dX11_air_15 (by decide) ?_
    refine r_callSi0 (pc := 16) C (rest := []) rfl [.int v2, .int (0 : Int32), .int (1 : Int32)] yS_X11_in g_1434 (c_X11_in h) dX11_air_16 rfl rfl (by decide) ⟨by decide, by decide⟩ ⟨by decide, by decide⟩ ⟨rfl, rfl⟩ (fun x7 S5 h g6 => ?_)
    have bx7 := h.1
    have h := h.2 g6 bx7
    have o_v0 := gr_ob g6 o_v0
    refine r_if_eq (pc := 19) C (tgt := 30) dX11_air_19 (by decide) (fun c8 => ?_) (fun c8 => ?_)
    · have h := h.1 c8
      exact r_sub [0] rfl (T_X11_air_30 C E ht hn h)
    · have h := h.2 c8
      refine r_aload_n (pc := 22) C dX11_air_22 0 rfl ?_
      refine r_iload_n (pc := 23) C dX11_air_23 3 rfl ?_
      refine r_callVi0 (pc := 24) C (rest := []) (a := v0) o_v0 [.int v3] yV_X11_isHour g_1546 (c_X11_isHour h) dX11_air_24 rfl rfl (by decide) ⟨by decide, by decide⟩ ⟨by decide, by decide⟩ ⟨rfl, rfl⟩ (fun x11 S9 h g10 => ?_)
      have bx11 := h.1
      have h := h.2 g10 bx11
      have o_v0 := gr_ob g10 o_v0
      refine r_if_ne (pc := 27) C (tgt := 36) dX11_air_27 (by decide) (fun c12 => ?_) (fun c12 => ?_)
      · have h := h.1 c12
        refine r_aload_n (pc := 36) C dX11_air_36 0 rfl ?_
        refine r_aload_n (pc := 37) C dX11_air_37 0 rfl ?_
        obtain ⟨a13, ea13, h⟩ := h
        refine r_getr (pc := 38) C fL_X11_338 dX11_air_38 o_v0 ea13 ?_
        refine r_iload_n (pc := 41) C dX11_air_41 1 rfl ?_
        refine r_iload_n (pc := 42) C dX11_air_42 2 rfl ?_
        refine r_iload_n (pc := 43) C dX11_air_43 3 rfl ?_
        obtain ⟨o_a13, h⟩ := h
        refine r_callVi0 (pc := 44) C (rest := [.ref v0]) (a := a13) o_a13 [.int v1, .int v2, .int v3] yV_X10_air g_1562 (c_X10_air h) dX11_air_44 rfl rfl (by decide) ⟨by decide, by decide⟩ ⟨by decide, by decide⟩ ⟨rfl, rfl⟩ (fun x16 S14 h g15 => ?_)
        have h := h g15
        have o_a13 := gr_ob g15 o_a13
        have o_v0 := gr_ob g15 o_v0
        refine r_callVi0 (pc := 47) C (rest := []) (a := v0) o_v0 [.int x16] yV_X11_good g_1518 (c_X11_good h) dX11_air_47 rfl rfl (by decide) ⟨by decide, by decide⟩ ⟨by decide, by decide⟩ ⟨rfl, rfl⟩ (fun x19 S17 h g18 => ?_)
        have h := h g18
        have o_a13 := gr_ob g18 o_a13
        have o_v0 := gr_ob g18 o_v0
        exact r_iret (pc := 50) C E ht dX11_air_50 (by decide) (by decide) h
      · have h := h.2 c12
        exact r_sub [0] rfl (T_X11_air_30 C E ht hn h)
def P_X11_air (v0 : Nat) (v1 : Int32) (v2 : Int32) (v3 : Int32) (Q : Int32 → HS → Prop) (S : HS) : Prop := P_X11_air_0 Q v0 v1 v2 v3 S
theorem c_X11_air {l : Launch} {Ee : EE} {S : HS} {v0 : Nat} {v1 : Int32} {v2 : Int32} {v3 : Int32} {Q : Int32 → HS → Prop} (h : P_X11_air v0 v1 v2 v3 Q S) : MI l yX11_air cX11_air 4 (some .int) rm_X11_air Ee S [.ref v0, .int v1, .int v2, .int v3] Q :=
  openI (by decide) (by decide) (fun X C E ht hn hE hl => by subst hE; exact r_sub [0, 1, 2, 3] rfl (T_X11_air_0 C E ht hn h))
def rm_X11_denied : Room := { frames := 1, cells := 0, slots := 0, locals := 21 }
def P_X11_denied_0 (Q : Int32 → HS → Prop) (v0 : Nat) (v1 : Int32) (S : HS) : Prop := ob S v0 11 ∧ (P_X11_refused v0 v1 (fun x3 S1 => Gr S S1 → (Q (0 : Int32) S1)) S)
set_option maxRecDepth 20000 in
set_option maxHeartbeats 4000000 in
theorem T_X11_denied_0 {X : CX} {Q : Int32 → HS → Prop} (C : Cx X cX11_denied RX11 2 rm_X11_denied) (E : ReI X rm_X11_denied (fun r S => bl r ∧ Q r S)) (ht : (xh X).sig.returnType = (some .boolean)) (hn : (xh X).name = yX11_denied.name) {v0 : Nat} {v1 : Int32} {S : HS} (h : P_X11_denied_0 Q v0 v1 S) : WS X 2 0 0 0 [(0, .ref v0), (1, .int v1)] [] S := by
  refine r_aload_n (pc := 0) C dX11_denied_0 0 rfl ?_
  refine r_iload_n (pc := 1) C dX11_denied_1 1 rfl ?_
  obtain ⟨o_v0, h⟩ := h
  refine r_callVi0 (pc := 2) C (rest := []) (a := v0) o_v0 [.int v1] yV_X11_refused g_1250 (c_X11_refused h) dX11_denied_2 rfl rfl (by decide) ⟨by decide, by decide⟩ ⟨by decide, by decide⟩ ⟨rfl, rfl⟩ (fun x3 S1 h g2 => ?_)
  have h := h g2
  have o_v0 := gr_ob g2 o_v0
  refine r_pop (pc := 5) C dX11_denied_5 rfl ?_
  refine r_iconst (pc := 6) C (v := (0 : Int32)) dX11_denied_6 (by decide) ?_
  exact r_zret (pc := 7) C E ht dX11_denied_7 (by decide) (by decide) (Or.inl rfl) h
def P_X11_denied (v0 : Nat) (v1 : Int32) (Q : Int32 → HS → Prop) (S : HS) : Prop := P_X11_denied_0 Q v0 v1 S
theorem c_X11_denied {l : Launch} {Ee : EE} {S : HS} {v0 : Nat} {v1 : Int32} {Q : Int32 → HS → Prop} (h : P_X11_denied v0 v1 Q S) : MI l yX11_denied cX11_denied 2 (some .boolean) rm_X11_denied Ee S [.ref v0, .int v1] (fun r S => bl r ∧ Q r S) :=
  openI (by decide) (by decide) (fun X C E ht hn hE hl => by subst hE; exact r_sub [0, 1] rfl (T_X11_denied_0 C E ht hn h))
def rm_X11_granted : Room := { frames := 1, cells := 0, slots := 0, locals := 21 }
def P_X11_granted_0 (Q : Int32 → HS → Prop) (v0 : Nat) (S : HS) : Prop := ob S v0 11 ∧ (P_X11_good v0 (0 : Int32) (fun x3 S1 => Gr S S1 → (Q (1 : Int32) S1)) S)
set_option maxRecDepth 20000 in
set_option maxHeartbeats 4000000 in
theorem T_X11_granted_0 {X : CX} {Q : Int32 → HS → Prop} (C : Cx X cX11_granted RX11 1 rm_X11_granted) (E : ReI X rm_X11_granted (fun r S => bl r ∧ Q r S)) (ht : (xh X).sig.returnType = (some .boolean)) (hn : (xh X).name = yX11_granted.name) {v0 : Nat} {S : HS} (h : P_X11_granted_0 Q v0 S) : WS X 1 0 0 0 [(0, .ref v0)] [] S := by
  refine r_aload_n (pc := 0) C dX11_granted_0 0 rfl ?_
  refine r_iconst (pc := 1) C (v := (0 : Int32)) dX11_granted_1 (by decide) ?_
  obtain ⟨o_v0, h⟩ := h
  refine r_callVi0 (pc := 2) C (rest := []) (a := v0) o_v0 [.int (0 : Int32)] yV_X11_good g_1518 (c_X11_good h) dX11_granted_2 rfl rfl (by decide) ⟨by decide, by decide⟩ ⟨by decide, by decide⟩ ⟨rfl, rfl⟩ (fun x3 S1 h g2 => ?_)
  have h := h g2
  have o_v0 := gr_ob g2 o_v0
  refine r_pop (pc := 5) C dX11_granted_5 rfl ?_
  refine r_iconst (pc := 6) C (v := (1 : Int32)) dX11_granted_6 (by decide) ?_
  exact r_zret (pc := 7) C E ht dX11_granted_7 (by decide) (by decide) (Or.inr rfl) h
def P_X11_granted (v0 : Nat) (Q : Int32 → HS → Prop) (S : HS) : Prop := P_X11_granted_0 Q v0 S
theorem c_X11_granted {l : Launch} {Ee : EE} {S : HS} {v0 : Nat} {Q : Int32 → HS → Prop} (h : P_X11_granted v0 Q S) : MI l yX11_granted cX11_granted 1 (some .boolean) rm_X11_granted Ee S [.ref v0] (fun r S => bl r ∧ Q r S) :=
  openI (by decide) (by decide) (fun X C E ht hn hE hl => by subst hE; exact r_sub [0] rfl (T_X11_granted_0 C E ht hn h))
def rm_X11_isDay : Room := { frames := 0, cells := 0, slots := 0, locals := 0 }
def P_X11_isDay_0 (Q : Int32 → HS → Prop) (v0 : Nat) (S : HS) : Prop := ob S v0 11 ∧ ((fR S v0 3 = none → (Q (0 : Int32) S)) ∧ (∀ a1 : Nat, fR S v0 3 = some a1 → (∀ x3 : Int32, x3 = fI S v0 19 → (((x3 = (-2 : Int32)) → (Q (0 : Int32) S)) ∧ ((¬ x3 = (-2 : Int32)) → (Q (1 : Int32) S))))))
set_option maxRecDepth 20000 in
set_option maxHeartbeats 4000000 in
theorem T_X11_isDay_0 {X : CX} {Q : Int32 → HS → Prop} (C : Cx X cX11_isDay RX11 1 rm_X11_isDay) (E : ReI X rm_X11_isDay (fun r S => bl r ∧ Q r S)) (ht : (xh X).sig.returnType = (some .boolean)) (hn : (xh X).name = yX11_isDay.name) {v0 : Nat} {S : HS} (h : P_X11_isDay_0 Q v0 S) : WS X 1 0 0 0 [(0, .ref v0)] [] S := by
  refine r_aload_n (pc := 0) C dX11_isDay_0 0 rfl ?_
  obtain ⟨o_v0, h⟩ := h
  rcases e2 : fR S v0 3 with _ | a1
  · refine r_get0 (pc := 1) C fL_X11_338 dX11_isDay_1 o_v0 e2 ?_
    refine r_ifnull0 (pc := 4) C (tgt := 20) dX11_isDay_4 (by decide) ?_
    have h := h.1 e2
    refine r_iconst (pc := 20) C (v := (0 : Int32)) dX11_isDay_20 (by decide) ?_
    exact r_zret (pc := 21) C E ht dX11_isDay_21 (by decide) (by decide) (Or.inl rfl) h
  · refine r_getr (pc := 1) C fL_X11_338 dX11_isDay_1 o_v0 e2 ?_
    refine r_ifnull (pc := 4) C dX11_isDay_4 ?_
    have h := h.2 a1 e2
    refine r_aload_n (pc := 7) C dX11_isDay_7 0 rfl ?_
    refine r_geti (pc := 8) C fL_X11_28 dX11_isDay_8 o_v0 ?_
    refine r_topi (fun x3 ex3 => ?_)
    have h := h x3 ex3
    refine r_bipush (pc := 11) C (v := (-2 : Int32)) dX11_isDay_11 (by decide) ?_
    refine r_icmp_eq (pc := 13) C (tgt := 20) dX11_isDay_13 (by decide) (fun c4 => ?_) (fun c4 => ?_)
    · have h := h.1 c4
      refine r_iconst (pc := 20) C (v := (0 : Int32)) dX11_isDay_20 (by decide) ?_
      exact r_zret (pc := 21) C E ht dX11_isDay_21 (by decide) (by decide) (Or.inl rfl) h
    · have h := h.2 c4
      refine r_iconst (pc := 16) C (v := (1 : Int32)) dX11_isDay_16 (by decide) ?_
      refine r_goto (pc := 17) C (tgt := 21) dX11_isDay_17 (by decide) ?_
      exact r_zret (pc := 21) C E ht dX11_isDay_21 (by decide) (by decide) (Or.inr rfl) h
def P_X11_isDay (v0 : Nat) (Q : Int32 → HS → Prop) (S : HS) : Prop := P_X11_isDay_0 Q v0 S
theorem c_X11_isDay {l : Launch} {Ee : EE} {S : HS} {v0 : Nat} {Q : Int32 → HS → Prop} (h : P_X11_isDay v0 Q S) : MI l yX11_isDay cX11_isDay 1 (some .boolean) rm_X11_isDay Ee S [.ref v0] (fun r S => bl r ∧ Q r S) :=
  openI (by decide) (by decide) (fun X C E ht hn hE hl => by subst hE; exact r_sub [0] rfl (T_X11_isDay_0 C E ht hn h))
def rm_X11_back : Room := { frames := 2, cells := 0, slots := 0, locals := 42 }
def P_X11_back_24 (Q : Int32 → HS → Prop) (v0 : Nat) (S : HS) : Prop := ob S v0 11 ∧ (P_X11_denied v0 (1 : Int32) (fun x3 S1 => Gr S S1 → bl x3 → (bl x3 ∧ Q x3 S1)) S)
set_option maxRecDepth 20000 in
set_option maxHeartbeats 4000000 in
theorem T_X11_back_24 {X : CX} {Q : Int32 → HS → Prop} (C : Cx X cX11_back RX11 3 rm_X11_back) (E : ReI X rm_X11_back (fun r S => bl r ∧ Q r S)) (ht : (xh X).sig.returnType = (some .boolean)) (hn : (xh X).name = yX11_back.name) {v0 : Nat} {S : HS} (h : P_X11_back_24 Q v0 S) : WS X 3 0 0 24 [(0, .ref v0)] [] S := by
  refine r_aload_n (pc := 24) C dX11_back_24 0 rfl ?_
  refine r_iconst (pc := 25) C (v := (1 : Int32)) dX11_back_25 (by decide) ?_
  obtain ⟨o_v0, h⟩ := h
  refine r_callVi0 (pc := 26) C (rest := []) (a := v0) o_v0 [.int (1 : Int32)] yV_X11_denied g_1795 (c_X11_denied h) dX11_back_26 rfl rfl (by decide) ⟨by decide, by decide⟩ ⟨by decide, by decide⟩ ⟨rfl, rfl⟩ (fun x3 S1 h g2 => ?_)
  have bx3 := h.1
  have h := h.2 g2 bx3
  have o_v0 := gr_ob g2 o_v0
  exact r_zret (pc := 29) C E ht dX11_back_29 (by decide) (by decide) h.1 h.2
def B_X11_back_32 (Q : Int32 → HS → Prop) (X32 : Nat → Int32 → Int32 → HS → Prop) (v0 : Nat) (v1 : Int32) (v2 : Int32) (S : HS) : Prop := (((7 : Int32) ≤ v2) → (ob S v0 11 ∧ (P_X11_granted v0 (fun x4 S2 => Gr (sI S v0 24 (0 : Int32)) S2 → bl x4 → (bl x4 ∧ Q x4 S2)) (sI S v0 24 (0 : Int32))))) ∧ ((¬ (7 : Int32) ≤ v2) → (ob S v0 11 ∧ (∃ a5 : Nat, fR S v0 21 = some a5 ∧ (∃ a6 : Nat, fR S v0 23 = some a6 ∧ (ob S a6 14 ∧ (∀ x8 : Int32, x8 = ((7 : Int32) * v1) + v2 → (vp_in x8 (hN S a6) ∧ ∀ x9 : Int64, x9 = fJ S a6 x8.toNatClampNeg → (ob S a5 14 ∧ (vp_in v2 (hN S a5) ∧ (∀ x11 : Int32, x11 = v2 + (1 : Int32) → (X32 v0 v1 x11 (sJ S a5 v2.toNatClampNeg x9))))))))))))
def P_X11_back_32 (Q : Int32 → HS → Prop) (v0 : Nat) (v1 : Int32) (v2 : Int32) (S : HS) : Prop := ∀ X32 : Nat → Int32 → Int32 → HS → Prop, (∀ (v0 : Nat) (v1 : Int32) (v2 : Int32) (S : HS), B_X11_back_32 Q X32 v0 v1 v2 S → X32 v0 v1 v2 S) → X32 v0 v1 v2 S
set_option maxRecDepth 20000 in
set_option maxHeartbeats 4000000 in
theorem TB_X11_back_32 {X : CX} {Q : Int32 → HS → Prop} (C : Cx X cX11_back RX11 3 rm_X11_back) (E : ReI X rm_X11_back (fun r S => bl r ∧ Q r S)) (ht : (xh X).sig.returnType = (some .boolean)) (hn : (xh X).name = yX11_back.name) {X32 : Nat → Int32 → Int32 → HS → Prop} (hX32 : ∀ (v0 : Nat) (v1 : Int32) (v2 : Int32) (S : HS), X32 v0 v1 v2 S → WS X 3 0 0 32 [(0, .ref v0), (1, .int v1), (2, .int v2)] [] S) {v0 : Nat} {v1 : Int32} {v2 : Int32} {S : HS} (h : B_X11_back_32 Q X32 v0 v1 v2 S) : WS X 3 0 0 32 [(0, .ref v0), (1, .int v1), (2, .int v2)] [] S := by
  refine r_iload_n (pc := 32) C dX11_back_32 2 rfl ?_
  refine r_bipush (pc := 33) C (v := (7 : Int32)) dX11_back_33 (by decide) ?_
  refine r_icmp_ge (pc := 35) C (tgt := 61) dX11_back_35 (by decide) (fun c1 => ?_) (fun c1 => ?_)
  · have h := h.1 c1
    refine r_aload_n (pc := 61) C dX11_back_61 0 rfl ?_
    refine r_iconst (pc := 62) C (v := (0 : Int32)) dX11_back_62 (by decide) ?_
    obtain ⟨o_v0, h⟩ := h
    refine r_puti (pc := 63) C pfL_X11_340 dX11_back_63 o_v0 ?_
    refine r_aload_n (pc := 66) C dX11_back_66 0 rfl ?_
    refine r_callVi0 (pc := 67) C (rest := []) (a := v0) o_v0 [] yV_X11_granted g_1800 (c_X11_granted h) dX11_back_67 rfl rfl (by decide) ⟨by decide, by decide⟩ ⟨by decide, by decide⟩ ⟨rfl, rfl⟩ (fun x4 S2 h g3 => ?_)
    have bx4 := h.1
    have h := h.2 g3 bx4
    have o_v0 := gr_ob g3 o_v0
    exact r_zret (pc := 70) C E ht dX11_back_70 (by decide) (by decide) h.1 h.2
  · have h := h.2 c1
    refine r_aload_n (pc := 38) C dX11_back_38 0 rfl ?_
    obtain ⟨o_v0, h⟩ := h
    obtain ⟨a5, ea5, h⟩ := h
    refine r_getr (pc := 39) C fL_X11_31 dX11_back_39 o_v0 ea5 ?_
    refine r_iload_n (pc := 42) C dX11_back_42 2 rfl ?_
    refine r_aload_n (pc := 43) C dX11_back_43 0 rfl ?_
    obtain ⟨a6, ea6, h⟩ := h
    refine r_getr (pc := 44) C fL_X11_37 dX11_back_44 o_v0 ea6 ?_
    refine r_bipush (pc := 47) C (v := (7 : Int32)) dX11_back_47 (by decide) ?_
    refine r_iload_n (pc := 49) C dX11_back_49 1 rfl ?_
    refine r_imul (pc := 50) C dX11_back_50 ?_
    refine r_iload_n (pc := 51) C dX11_back_51 2 rfl ?_
    refine r_iadd (pc := 52) C dX11_back_52 ?_
    obtain ⟨o_a6, h⟩ := h
    refine r_topi (fun x8 ex8 => ?_)
    have h := h x8 ex8
    obtain ⟨i7, h⟩ := h
    refine r_lald (pc := 53) C dX11_back_53 o_a6 i7 ?_
    refine r_topl (fun x9 ex9 => ?_)
    have h := h x9 ex9
    obtain ⟨o_a5, h⟩ := h
    obtain ⟨i10, h⟩ := h
    refine r_last (pc := 54) C dX11_back_54 o_a5 i10 ?_
    obtain ⟨x11, ex11⟩ : ∃ z : Int32, z = v2 + (1 : Int32) := ⟨_, rfl⟩
    have h := h x11 ex11
    refine r_iinc (pc := 55) C (v := x11) (lv' := [(2, .int x11), (0, .ref v0), (1, .int v1)]) dX11_back_55 2 rfl ex11.symm (by decide) rfl ?_
    refine r_goto (pc := 58) C (tgt := 32) dX11_back_58 (by decide) ?_
    exact r_sub [1, 2, 0] rfl (hX32 v0 v1 x11 (sJ S a5 v2.toNatClampNeg x9) h)
theorem T_X11_back_32 {X : CX} {Q : Int32 → HS → Prop} (C : Cx X cX11_back RX11 3 rm_X11_back) (E : ReI X rm_X11_back (fun r S => bl r ∧ Q r S)) (ht : (xh X).sig.returnType = (some .boolean)) (hn : (xh X).name = yX11_back.name) {v0 : Nat} {v1 : Int32} {v2 : Int32} {S : HS} (h : P_X11_back_32 Q v0 v1 v2 S) : WS X 3 0 0 32 [(0, .ref v0), (1, .int v1), (2, .int v2)] [] S :=
  h (fun v0 v1 v2 S => WS X 3 0 0 32 [(0, .ref v0), (1, .int v1), (2, .int v2)] [] S) (fun v0 v1 v2 S hh => TB_X11_back_32 C E ht hn (fun v0 v1 v2 S z => z) hh)
def P_X11_back_0 (Q : Int32 → HS → Prop) (v0 : Nat) (v1 : Int32) (S : HS) : Prop := ob S v0 11 ∧ (P_X11_isDay v0 (fun x3 S1 => Gr (sI S v0 0 (0 : Int32)) S1 → bl x3 → (((x3 = 0) → (P_X11_back_24 Q v0 S1)) ∧ ((¬ x3 = 0) → (((v1 < 0) → (P_X11_back_24 Q v0 S1)) ∧ ((¬ v1 < 0) → (∀ x6 : Int32, x6 = fI S1 v0 25 → (((v1 < x6) → (P_X11_back_32 Q v0 v1 (0 : Int32) S1)) ∧ ((¬ v1 < x6) → (P_X11_back_24 Q v0 S1))))))))) (sI S v0 0 (0 : Int32)))
set_option maxRecDepth 20000 in
set_option maxHeartbeats 4000000 in
theorem T_X11_back_0 {X : CX} {Q : Int32 → HS → Prop} (C : Cx X cX11_back RX11 3 rm_X11_back) (E : ReI X rm_X11_back (fun r S => bl r ∧ Q r S)) (ht : (xh X).sig.returnType = (some .boolean)) (hn : (xh X).name = yX11_back.name) {v0 : Nat} {v1 : Int32} {S : HS} (h : P_X11_back_0 Q v0 v1 S) : WS X 3 0 0 0 [(0, .ref v0), (1, .int v1)] [] S := by
  refine r_aload_n (pc := 0) C dX11_back_0 0 rfl ?_
  refine r_iconst (pc := 1) C (v := (0 : Int32)) dX11_back_1 (by decide) ?_
  obtain ⟨o_v0, h⟩ := h
  refine r_puti (pc := 2) C pfL_X11_40 dX11_back_2 o_v0 ?_
  refine r_aload_n (pc := 5) C dX11_back_5 0 rfl ?_
  refine r_callVi0 (pc := 6) C (rest := []) (a := v0) o_v0 [] yV_X11_isDay g_1779 (c_X11_isDay h) dX11_back_6 rfl rfl (by decide) ⟨by decide, by decide⟩ ⟨by decide, by decide⟩ ⟨rfl, rfl⟩ (fun x3 S1 h g2 => ?_)
  have bx3 := h.1
  have h := h.2 g2 bx3
  have o_v0 := gr_ob g2 o_v0
  refine r_if_eq (pc := 9) C (tgt := 24) dX11_back_9 (by decide) (fun c4 => ?_) (fun c4 => ?_)
  · have h := h.1 c4
    exact r_sub [0] rfl (T_X11_back_24 C E ht hn h)
  · have h := h.2 c4
    refine r_iload_n (pc := 12) C dX11_back_12 1 rfl ?_
    refine r_if_lt (pc := 13) C (tgt := 24) dX11_back_13 (by decide) (fun c5 => ?_) (fun c5 => ?_)
    · have h := h.1 c5
      exact r_sub [0] rfl (T_X11_back_24 C E ht hn h)
    · have h := h.2 c5
      refine r_iload_n (pc := 16) C dX11_back_16 1 rfl ?_
      refine r_aload_n (pc := 17) C dX11_back_17 0 rfl ?_
      refine r_geti (pc := 18) C fL_X11_343 dX11_back_18 o_v0 ?_
      refine r_topi (fun x6 ex6 => ?_)
      have h := h x6 ex6
      refine r_icmp_lt (pc := 21) C (tgt := 30) dX11_back_21 (by decide) (fun c7 => ?_) (fun c7 => ?_)
      · have h := h.1 c7
        refine r_iconst (pc := 30) C (v := (0 : Int32)) dX11_back_30 (by decide) ?_
        refine r_istore_n (pc := 31) C dX11_back_31 rfl (by decide) (lv' := [(2, .int (0 : Int32)), (0, .ref v0), (1, .int v1)]) rfl ?_
        exact r_sub [1, 2, 0] rfl (T_X11_back_32 C E ht hn h)
      · have h := h.2 c7
        exact r_sub [0] rfl (T_X11_back_24 C E ht hn h)
def P_X11_back (v0 : Nat) (v1 : Int32) (Q : Int32 → HS → Prop) (S : HS) : Prop := P_X11_back_0 Q v0 v1 S
theorem c_X11_back {l : Launch} {Ee : EE} {S : HS} {v0 : Nat} {v1 : Int32} {Q : Int32 → HS → Prop} (h : P_X11_back v0 v1 Q S) : MI l yX11_back cX11_back 3 (some .boolean) rm_X11_back Ee S [.ref v0, .int v1] (fun r S => bl r ∧ Q r S) :=
  openI (by decide) (by decide) (fun X C E ht hn hE hl => by subst hE; exact r_sub [0, 1] rfl (T_X11_back_0 C E ht hn h))
def rm_X11_flaw : Room := { frames := 0, cells := 0, slots := 0, locals := 0 }
def P_X11_flaw_0 (Q : HS → Prop) (v0 : Nat) (v1 : Int32) (S : HS) : Prop := ob S v0 11 ∧ (∀ x1 : Int32, x1 = fI S v0 9 → (((¬ x1 = (5 : Int32)) → (∀ x3 : Int32, x3 = fI (sI S v0 13 v1) v0 10 → (Q (sI (sI (sI S v0 13 v1) v0 14 x3) v0 9 (5 : Int32))))) ∧ ((x1 = (5 : Int32)) → (Q S))))
set_option maxRecDepth 20000 in
set_option maxHeartbeats 4000000 in
theorem T_X11_flaw_0 {X : CX} {Q : HS → Prop} (C : Cx X cX11_flaw RX11 2 rm_X11_flaw) (E : ReV X rm_X11_flaw Q) (ht : (xh X).sig.returnType = none) (hn : (xh X).name = yX11_flaw.name) {v0 : Nat} {v1 : Int32} {S : HS} (h : P_X11_flaw_0 Q v0 v1 S) : WS X 2 0 0 0 [(0, .ref v0), (1, .int v1)] [] S := by
  refine r_aload_n (pc := 0) C dX11_flaw_0 0 rfl ?_
  obtain ⟨o_v0, h⟩ := h
  refine r_geti (pc := 1) C fL_X11_68 dX11_flaw_1 o_v0 ?_
  refine r_topi (fun x1 ex1 => ?_)
  have h := h x1 ex1
  refine r_iconst (pc := 4) C (v := (5 : Int32)) dX11_flaw_4 (by decide) ?_
  refine r_icmp_ne (pc := 5) C (tgt := 9) dX11_flaw_5 (by decide) (fun c2 => ?_) (fun c2 => ?_)
  · have h := h.1 c2
    refine r_aload_n (pc := 9) C dX11_flaw_9 0 rfl ?_
    refine r_iload_n (pc := 10) C dX11_flaw_10 1 rfl ?_
    refine r_puti (pc := 11) C pfL_X11_97 dX11_flaw_11 o_v0 ?_
    refine r_aload_n (pc := 14) C dX11_flaw_14 0 rfl ?_
    refine r_aload_n (pc := 15) C dX11_flaw_15 0 rfl ?_
    refine r_geti (pc := 16) C fL_X11_77 dX11_flaw_16 o_v0 ?_
    refine r_topi (fun x3 ex3 => ?_)
    have h := h x3 ex3
    refine r_puti (pc := 19) C pfL_X11_100 dX11_flaw_19 o_v0 ?_
    refine r_aload_n (pc := 22) C dX11_flaw_22 0 rfl ?_
    refine r_iconst (pc := 23) C (v := (5 : Int32)) dX11_flaw_23 (by decide) ?_
    refine r_puti (pc := 24) C pfL_X11_68 dX11_flaw_24 o_v0 ?_
    exact r_vret (pc := 27) C E ht dX11_flaw_27 (by decide) (by decide) h
  · have h := h.2 c2
    exact r_vret (pc := 8) C E ht dX11_flaw_8 (by decide) (by decide) h
def P_X11_flaw (v0 : Nat) (v1 : Int32) (Q : HS → Prop) (S : HS) : Prop := P_X11_flaw_0 Q v0 v1 S
theorem c_X11_flaw {l : Launch} {Ee : EE} {S : HS} {v0 : Nat} {v1 : Int32} {Q : HS → Prop} (h : P_X11_flaw v0 v1 Q S) : MV l yX11_flaw cX11_flaw 2 none rm_X11_flaw Ee S [.ref v0, .int v1] Q :=
  openV (by decide) (by decide) (fun X C E ht hn hE hl => by subst hE; exact r_sub [0, 1] rfl (T_X11_flaw_0 C E ht hn h))
def rm_X11_byteAt : Room := { frames := 0, cells := 0, slots := 0, locals := 0 }
def P_X11_byteAt_0 (Q : Int32 → HS → Prop) (v0 : Nat) (v1 : Int32) (S : HS) : Prop := ob S v0 11 ∧ (∀ x1 : Int32, x1 = fI S v0 7 → (((x1 ≤ v1) → (Q (-1 : Int32) S)) ∧ ((¬ x1 ≤ v1) → (∃ a3 : Nat, fR S v0 5 = some a3 ∧ (ob S a3 12 ∧ (vp_in v1 (hN S a3) ∧ ∀ x5 : Int32, x5 = fI S a3 v1.toNatClampNeg → (Q (x5 &&& (255 : Int32)) S)))))))
set_option maxRecDepth 20000 in
set_option maxHeartbeats 4000000 in
theorem T_X11_byteAt_0 {X : CX} {Q : Int32 → HS → Prop} (C : Cx X cX11_byteAt RX11 2 rm_X11_byteAt) (E : ReI X rm_X11_byteAt Q) (ht : (xh X).sig.returnType = (some .int)) (hn : (xh X).name = yX11_byteAt.name) {v0 : Nat} {v1 : Int32} {S : HS} (h : P_X11_byteAt_0 Q v0 v1 S) : WS X 2 0 0 0 [(0, .ref v0), (1, .int v1)] [] S := by
  refine r_iload_n (pc := 0) C dX11_byteAt_0 1 rfl ?_
  refine r_aload_n (pc := 1) C dX11_byteAt_1 0 rfl ?_
  obtain ⟨o_v0, h⟩ := h
  refine r_geti (pc := 2) C fL_X11_53 dX11_byteAt_2 o_v0 ?_
  refine r_topi (fun x1 ex1 => ?_)
  have h := h x1 ex1
  refine r_icmp_ge (pc := 5) C (tgt := 21) dX11_byteAt_5 (by decide) (fun c2 => ?_) (fun c2 => ?_)
  · have h := h.1 c2
    refine r_iconst (pc := 21) C (v := (-1 : Int32)) dX11_byteAt_21 (by decide) ?_
    exact r_iret (pc := 22) C E ht dX11_byteAt_22 (by decide) (by decide) h
  · have h := h.2 c2
    refine r_aload_n (pc := 8) C dX11_byteAt_8 0 rfl ?_
    obtain ⟨a3, ea3, h⟩ := h
    refine r_getr (pc := 9) C fL_X11_13 dX11_byteAt_9 o_v0 ea3 ?_
    refine r_iload_n (pc := 12) C dX11_byteAt_12 1 rfl ?_
    obtain ⟨o_a3, h⟩ := h
    obtain ⟨i4, h⟩ := h
    refine r_bald (pc := 13) C dX11_byteAt_13 o_a3 i4 ?_
    refine r_topi (fun x5 ex5 => ?_)
    have h := h x5 ex5
    refine r_sipush (pc := 14) C (v := (255 : Int32)) dX11_byteAt_14 (by decide) ?_
    refine r_iand (pc := 17) C dX11_byteAt_17 ?_
    refine r_goto (pc := 18) C (tgt := 22) dX11_byteAt_18 (by decide) ?_
    exact r_iret (pc := 22) C E ht dX11_byteAt_22 (by decide) (by decide) h
def P_X11_byteAt (v0 : Nat) (v1 : Int32) (Q : Int32 → HS → Prop) (S : HS) : Prop := P_X11_byteAt_0 Q v0 v1 S
theorem c_X11_byteAt {l : Launch} {Ee : EE} {S : HS} {v0 : Nat} {v1 : Int32} {Q : Int32 → HS → Prop} (h : P_X11_byteAt v0 v1 Q S) : MI l yX11_byteAt cX11_byteAt 2 (some .int) rm_X11_byteAt Ee S [.ref v0, .int v1] Q :=
  openI (by decide) (by decide) (fun X C E ht hn hE hl => by subst hE; exact r_sub [0, 1] rfl (T_X11_byteAt_0 C E ht hn h))
def rm_X11_isDigit : Room := { frames := 0, cells := 0, slots := 0, locals := 0 }
def P_X11_isDigit_0 (Q : Int32 → HS → Prop) (v0 : Int32) (S : HS) : Prop := ((v0 < (48 : Int32)) → (Q (0 : Int32) S)) ∧ ((¬ v0 < (48 : Int32)) → ((((57 : Int32) < v0) → (Q (0 : Int32) S)) ∧ ((¬ (57 : Int32) < v0) → (Q (1 : Int32) S))))
set_option maxRecDepth 20000 in
set_option maxHeartbeats 4000000 in
theorem T_X11_isDigit_0 {X : CX} {Q : Int32 → HS → Prop} (C : Cx X cX11_isDigit RX11 1 rm_X11_isDigit) (E : ReI X rm_X11_isDigit (fun r S => bl r ∧ Q r S)) (ht : (xh X).sig.returnType = (some .boolean)) (hn : (xh X).name = yX11_isDigit.name) {v0 : Int32} {S : HS} (h : P_X11_isDigit_0 Q v0 S) : WS X 1 0 0 0 [(0, .int v0)] [] S := by
  refine r_iload_n (pc := 0) C dX11_isDigit_0 0 rfl ?_
  refine r_bipush (pc := 1) C (v := (48 : Int32)) dX11_isDigit_1 (by decide) ?_
  refine r_icmp_lt (pc := 3) C (tgt := 16) dX11_isDigit_3 (by decide) (fun c1 => ?_) (fun c1 => ?_)
  · have h := h.1 c1
    refine r_iconst (pc := 16) C (v := (0 : Int32)) dX11_isDigit_16 (by decide) ?_
    exact r_zret (pc := 17) C E ht dX11_isDigit_17 (by decide) (by decide) (Or.inl rfl) h
  · have h := h.2 c1
    refine r_iload_n (pc := 6) C dX11_isDigit_6 0 rfl ?_
    refine r_bipush (pc := 7) C (v := (57 : Int32)) dX11_isDigit_7 (by decide) ?_
    refine r_icmp_gt (pc := 9) C (tgt := 16) dX11_isDigit_9 (by decide) (fun c2 => ?_) (fun c2 => ?_)
    · have h := h.1 c2
      refine r_iconst (pc := 16) C (v := (0 : Int32)) dX11_isDigit_16 (by decide) ?_
      exact r_zret (pc := 17) C E ht dX11_isDigit_17 (by decide) (by decide) (Or.inl rfl) h
    · have h := h.2 c2
      refine r_iconst (pc := 12) C (v := (1 : Int32)) dX11_isDigit_12 (by decide) ?_
      refine r_goto (pc := 13) C (tgt := 17) dX11_isDigit_13 (by decide) ?_
      exact r_zret (pc := 17) C E ht dX11_isDigit_17 (by decide) (by decide) (Or.inr rfl) h
def P_X11_isDigit (v0 : Int32) (Q : Int32 → HS → Prop) (S : HS) : Prop := P_X11_isDigit_0 Q v0 S
theorem c_X11_isDigit {l : Launch} {Ee : EE} {S : HS} {v0 : Int32} {Q : Int32 → HS → Prop} (h : P_X11_isDigit v0 Q S) : MI l yX11_isDigit cX11_isDigit 1 (some .boolean) rm_X11_isDigit Ee S [.int v0] (fun r S => bl r ∧ Q r S) :=
  openI (by decide) (by decide) (fun X C E ht hn hE hl => by subst hE; exact r_sub [0] rfl (T_X11_isDigit_0 C E ht hn h))
def rm_X11_isLetter : Room := { frames := 0, cells := 0, slots := 0, locals := 0 }
def P_X11_isLetter_0 (Q : Int32 → HS → Prop) (v0 : Int32) (S : HS) : Prop := ((v0 < (97 : Int32)) → (Q (0 : Int32) S)) ∧ ((¬ v0 < (97 : Int32)) → ((((122 : Int32) < v0) → (Q (0 : Int32) S)) ∧ ((¬ (122 : Int32) < v0) → (Q (1 : Int32) S))))
set_option maxRecDepth 20000 in
set_option maxHeartbeats 4000000 in
theorem T_X11_isLetter_0 {X : CX} {Q : Int32 → HS → Prop} (C : Cx X cX11_isLetter RX11 1 rm_X11_isLetter) (E : ReI X rm_X11_isLetter (fun r S => bl r ∧ Q r S)) (ht : (xh X).sig.returnType = (some .boolean)) (hn : (xh X).name = yX11_isLetter.name) {v0 : Int32} {S : HS} (h : P_X11_isLetter_0 Q v0 S) : WS X 1 0 0 0 [(0, .int v0)] [] S := by
  refine r_iload_n (pc := 0) C dX11_isLetter_0 0 rfl ?_
  refine r_bipush (pc := 1) C (v := (97 : Int32)) dX11_isLetter_1 (by decide) ?_
  refine r_icmp_lt (pc := 3) C (tgt := 16) dX11_isLetter_3 (by decide) (fun c1 => ?_) (fun c1 => ?_)
  · have h := h.1 c1
    refine r_iconst (pc := 16) C (v := (0 : Int32)) dX11_isLetter_16 (by decide) ?_
    exact r_zret (pc := 17) C E ht dX11_isLetter_17 (by decide) (by decide) (Or.inl rfl) h
  · have h := h.2 c1
    refine r_iload_n (pc := 6) C dX11_isLetter_6 0 rfl ?_
    refine r_bipush (pc := 7) C (v := (122 : Int32)) dX11_isLetter_7 (by decide) ?_
    refine r_icmp_gt (pc := 9) C (tgt := 16) dX11_isLetter_9 (by decide) (fun c2 => ?_) (fun c2 => ?_)
    · have h := h.1 c2
      refine r_iconst (pc := 16) C (v := (0 : Int32)) dX11_isLetter_16 (by decide) ?_
      exact r_zret (pc := 17) C E ht dX11_isLetter_17 (by decide) (by decide) (Or.inl rfl) h
    · have h := h.2 c2
      refine r_iconst (pc := 12) C (v := (1 : Int32)) dX11_isLetter_12 (by decide) ?_
      refine r_goto (pc := 13) C (tgt := 17) dX11_isLetter_13 (by decide) ?_
      exact r_zret (pc := 17) C E ht dX11_isLetter_17 (by decide) (by decide) (Or.inr rfl) h
def P_X11_isLetter (v0 : Int32) (Q : Int32 → HS → Prop) (S : HS) : Prop := P_X11_isLetter_0 Q v0 S
theorem c_X11_isLetter {l : Launch} {Ee : EE} {S : HS} {v0 : Int32} {Q : Int32 → HS → Prop} (h : P_X11_isLetter v0 Q S) : MI l yX11_isLetter cX11_isLetter 1 (some .boolean) rm_X11_isLetter Ee S [.int v0] (fun r S => bl r ∧ Q r S) :=
  openI (by decide) (by decide) (fun X C E ht hn hE hl => by subst hE; exact r_sub [0] rfl (T_X11_isLetter_0 C E ht hn h))
def rm_X11_goesOn : Room := { frames := 1, cells := 0, slots := 0, locals := 21 }
def P_X11_goesOn_136 (Q : HS → Prop) (X89 : Nat → Int32 → HS → Prop) (v0 : Nat) (v2 : Int32) (S : HS) : Prop := ∀ x1 : Int32, x1 = v2 + (1 : Int32) → (ob S v0 11 ∧ (∀ x2 : Int32, x2 = fI S v0 8 → (∀ x3 : Int32, x3 = x2 + (1 : Int32) → (X89 v0 x1 (sI S v0 8 x3)))))
set_option maxRecDepth 20000 in
set_option maxHeartbeats 4000000 in
theorem T_X11_goesOn_136 {X : CX} {Q : HS → Prop} (C : Cx X cX11_goesOn RX11 3 rm_X11_goesOn) (E : ReV X rm_X11_goesOn Q) (ht : (xh X).sig.returnType = none) (hn : (xh X).name = yX11_goesOn.name) {X89 : Nat → Int32 → HS → Prop} (hX89 : ∀ (v0 : Nat) (v2 : Int32) (S : HS), X89 v0 v2 S → WS X 3 0 0 89 [(0, .ref v0), (2, .int v2)] [] S) {v0 : Nat} {v2 : Int32} {S : HS} (h : P_X11_goesOn_136 Q X89 v0 v2 S) : WS X 3 0 0 136 [(0, .ref v0), (2, .int v2)] [] S := by
  obtain ⟨x1, ex1⟩ : ∃ z : Int32, z = v2 + (1 : Int32) := ⟨_, rfl⟩
  have h := h x1 ex1
  refine r_iinc (pc := 136) C (v := x1) (lv' := [(2, .int x1), (0, .ref v0)]) dX11_goesOn_136 1 rfl ex1.symm (by decide) rfl ?_
  refine r_aload_n (pc := 139) C dX11_goesOn_139 1 rfl ?_
  refine r_dup (pc := 140) C dX11_goesOn_140 rfl ?_
  obtain ⟨o_v0, h⟩ := h
  refine r_geti (pc := 141) C fL_X11_71 dX11_goesOn_141 o_v0 ?_
  refine r_topi (fun x2 ex2 => ?_)
  have h := h x2 ex2
  refine r_iconst (pc := 144) C (v := (1 : Int32)) dX11_goesOn_144 (by decide) ?_
  refine r_iadd (pc := 145) C dX11_goesOn_145 ?_
  refine r_topi (fun x3 ex3 => ?_)
  have h := h x3 ex3
  refine r_puti (pc := 146) C pfL_X11_71 dX11_goesOn_146 o_v0 ?_
  refine r_goto (pc := 149) C (tgt := 89) dX11_goesOn_149 (by decide) ?_
  exact r_sub [1, 0] rfl (hX89 v0 x1 (sI S v0 8 x3) h)
def B_X11_goesOn_89 (Q : HS → Prop) (X89 : Nat → Int32 → HS → Prop) (v0 : Nat) (v2 : Int32) (S : HS) : Prop := ob S v0 11 ∧ (∀ x1 : Int32, x1 = fI S v0 8 → (P_X11_byteAt v0 x1 (fun x4 S2 => Gr S S2 → (P_X11_isLetter x4 (fun x7 S5 => Gr S2 S5 → bl x7 → (((x7 = 0) → ((((8 : Int32) < v2) → (Q S5)) ∧ ((¬ (8 : Int32) < v2) → (Q (sI S5 v0 9 (2 : Int32)))))) ∧ ((¬ x7 = 0) → ((((8 : Int32) ≤ v2) → (P_X11_goesOn_136 Q X89 v0 v2 S5)) ∧ ((¬ (8 : Int32) ≤ v2) → (∀ x11 : Int64, x11 = fJ S5 v0 15 → (∀ x12 : Int32, x12 = fI S5 v0 8 → (P_X11_byteAt v0 x12 (fun x15 S13 => Gr S5 S13 → (∀ x16 : Int64, x16 = ((32 : Int64) * x11) + (((x15 - (97 : Int32)) + (1 : Int32)).toInt64) → (P_X11_goesOn_136 Q X89 v0 v2 (sJ S13 v0 15 x16)))) S5)))))))) S2)) S))
def P_X11_goesOn_89 (Q : HS → Prop) (v0 : Nat) (v2 : Int32) (S : HS) : Prop := ∀ X89 : Nat → Int32 → HS → Prop, (∀ (v0 : Nat) (v2 : Int32) (S : HS), B_X11_goesOn_89 Q X89 v0 v2 S → X89 v0 v2 S) → X89 v0 v2 S
set_option maxRecDepth 20000 in
set_option maxHeartbeats 4000000 in
theorem TB_X11_goesOn_89 {X : CX} {Q : HS → Prop} (C : Cx X cX11_goesOn RX11 3 rm_X11_goesOn) (E : ReV X rm_X11_goesOn Q) (ht : (xh X).sig.returnType = none) (hn : (xh X).name = yX11_goesOn.name) {X89 : Nat → Int32 → HS → Prop} (hX89 : ∀ (v0 : Nat) (v2 : Int32) (S : HS), X89 v0 v2 S → WS X 3 0 0 89 [(0, .ref v0), (2, .int v2)] [] S) {v0 : Nat} {v2 : Int32} {S : HS} (h : B_X11_goesOn_89 Q X89 v0 v2 S) : WS X 3 0 0 89 [(0, .ref v0), (2, .int v2)] [] S := by
  refine r_aload_n (pc := 89) C dX11_goesOn_89 0 rfl ?_
  refine r_aload_n (pc := 90) C dX11_goesOn_90 0 rfl ?_
  obtain ⟨o_v0, h⟩ := h
  refine r_geti (pc := 91) C fL_X11_71 dX11_goesOn_91 o_v0 ?_
  refine r_topi (fun x1 ex1 => ?_)
  have h := h x1 ex1
  refine r_callVi0 (pc := 94) C (rest := []) (a := v0) o_v0 [.int x1] yV_X11_byteAt g_1384 (c_X11_byteAt h) dX11_goesOn_94 rfl rfl (by decide) ⟨by decide, by decide⟩ ⟨by decide, by decide⟩ ⟨rfl, rfl⟩ (fun x4 S2 h g3 => ?_)
  have h := h g3
  have o_v0 := gr_ob g3 o_v0
  refine r_callSi0 (pc := 97) C (rest := []) rfl [.int x4] yS_X11_isLetter g_1388 (c_X11_isLetter h) dX11_goesOn_97 rfl rfl (by decide) ⟨by decide, by decide⟩ ⟨by decide, by decide⟩ ⟨rfl, rfl⟩ (fun x7 S5 h g6 => ?_)
  have bx7 := h.1
  have h := h.2 g6 bx7
  have o_v0 := gr_ob g6 o_v0
  refine r_if_eq (pc := 100) C (tgt := 152) dX11_goesOn_100 (by decide) (fun c8 => ?_) (fun c8 => ?_)
  · have h := h.1 c8
    refine r_iload_n (pc := 152) C dX11_goesOn_152 1 rfl ?_
    refine r_bipush (pc := 153) C (v := (8 : Int32)) dX11_goesOn_153 (by decide) ?_
    refine r_icmp_gt (pc := 155) C (tgt := 281) dX11_goesOn_155 (by decide) (fun c9 => ?_) (fun c9 => ?_)
    · have h := h.1 c9
      exact r_vret (pc := 281) C E ht dX11_goesOn_281 (by decide) (by decide) h
    · have h := h.2 c9
      refine r_aload_n (pc := 158) C dX11_goesOn_158 0 rfl ?_
      refine r_iconst (pc := 159) C (v := (2 : Int32)) dX11_goesOn_159 (by decide) ?_
      refine r_puti (pc := 160) C pfL_X11_68 dX11_goesOn_160 o_v0 ?_
      refine r_goto (pc := 163) C (tgt := 281) dX11_goesOn_163 (by decide) ?_
      exact r_vret (pc := 281) C E ht dX11_goesOn_281 (by decide) (by decide) h
  · have h := h.2 c8
    refine r_iload_n (pc := 103) C dX11_goesOn_103 1 rfl ?_
    refine r_bipush (pc := 104) C (v := (8 : Int32)) dX11_goesOn_104 (by decide) ?_
    refine r_icmp_ge (pc := 106) C (tgt := 136) dX11_goesOn_106 (by decide) (fun c10 => ?_) (fun c10 => ?_)
    · have h := h.1 c10
      exact r_sub [0, 1] rfl (T_X11_goesOn_136 C E ht hn hX89 h)
    · have h := h.2 c10
      refine r_aload_n (pc := 109) C dX11_goesOn_109 0 rfl ?_
      refine r_ldc2 (pc := 110) C (v := (32 : Int64)) dX11_goesOn_110 g_1391 ?_
      refine r_aload_n (pc := 113) C dX11_goesOn_113 0 rfl ?_
      refine r_getl (pc := 114) C fL_X11_87 dX11_goesOn_114 o_v0 ?_
      refine r_topl (fun x11 ex11 => ?_)
      have h := h x11 ex11
      refine r_lmul (pc := 117) C dX11_goesOn_117 ?_
      refine r_aload_n (pc := 118) C dX11_goesOn_118 0 rfl ?_
      refine r_aload_n (pc := 119) C dX11_goesOn_119 0 rfl ?_
      refine r_geti (pc := 120) C fL_X11_71 dX11_goesOn_120 o_v0 ?_
      refine r_topi (fun x12 ex12 => ?_)
      have h := h x12 ex12
      refine r_callVi0 (pc := 123) C (rest := [.long ((32 : Int64) * x11), .ref v0]) (a := v0) o_v0 [.int x12] yV_X11_byteAt g_1384 (c_X11_byteAt h) dX11_goesOn_123 rfl rfl (by decide) ⟨by decide, by decide⟩ ⟨by decide, by decide⟩ ⟨rfl, rfl⟩ (fun x15 S13 h g14 => ?_)
      have h := h g14
      have o_v0 := gr_ob g14 o_v0
      refine r_bipush (pc := 126) C (v := (97 : Int32)) dX11_goesOn_126 (by decide) ?_
      refine r_isub (pc := 128) C dX11_goesOn_128 ?_
      refine r_iconst (pc := 129) C (v := (1 : Int32)) dX11_goesOn_129 (by decide) ?_
      refine r_iadd (pc := 130) C dX11_goesOn_130 ?_
      refine r_i2l (pc := 131) C dX11_goesOn_131 ?_
      refine r_ladd (pc := 132) C dX11_goesOn_132 ?_
      refine r_topl (fun x16 ex16 => ?_)
      have h := h x16 ex16
      refine r_putl (pc := 133) C pfL_X11_87 dX11_goesOn_133 o_v0 ?_
      exact r_sub [0, 1] rfl (T_X11_goesOn_136 C E ht hn hX89 h)
theorem T_X11_goesOn_89 {X : CX} {Q : HS → Prop} (C : Cx X cX11_goesOn RX11 3 rm_X11_goesOn) (E : ReV X rm_X11_goesOn Q) (ht : (xh X).sig.returnType = none) (hn : (xh X).name = yX11_goesOn.name) {v0 : Nat} {v2 : Int32} {S : HS} (h : P_X11_goesOn_89 Q v0 v2 S) : WS X 3 0 0 89 [(0, .ref v0), (2, .int v2)] [] S :=
  h (fun v0 v2 S => WS X 3 0 0 89 [(0, .ref v0), (2, .int v2)] [] S) (fun v0 v2 S hh => TB_X11_goesOn_89 C E ht hn (fun v0 v2 S z => z) hh)
def P_X11_goesOn_220 (Q : HS → Prop) (X178 : Nat → Int32 → HS → Prop) (v0 : Nat) (v2 : Int32) (S : HS) : Prop := ∀ x1 : Int32, x1 = v2 + (1 : Int32) → (ob S v0 11 ∧ (∀ x2 : Int32, x2 = fI S v0 8 → (∀ x3 : Int32, x3 = x2 + (1 : Int32) → (X178 v0 x1 (sI S v0 8 x3)))))
set_option maxRecDepth 20000 in
set_option maxHeartbeats 4000000 in
theorem T_X11_goesOn_220 {X : CX} {Q : HS → Prop} (C : Cx X cX11_goesOn RX11 3 rm_X11_goesOn) (E : ReV X rm_X11_goesOn Q) (ht : (xh X).sig.returnType = none) (hn : (xh X).name = yX11_goesOn.name) {X178 : Nat → Int32 → HS → Prop} (hX178 : ∀ (v0 : Nat) (v2 : Int32) (S : HS), X178 v0 v2 S → WS X 3 0 0 178 [(0, .ref v0), (2, .int v2)] [] S) {v0 : Nat} {v2 : Int32} {S : HS} (h : P_X11_goesOn_220 Q X178 v0 v2 S) : WS X 3 0 0 220 [(0, .ref v0), (2, .int v2)] [] S := by
  obtain ⟨x1, ex1⟩ : ∃ z : Int32, z = v2 + (1 : Int32) := ⟨_, rfl⟩
  have h := h x1 ex1
  refine r_iinc (pc := 220) C (v := x1) (lv' := [(2, .int x1), (0, .ref v0)]) dX11_goesOn_220 1 rfl ex1.symm (by decide) rfl ?_
  refine r_aload_n (pc := 223) C dX11_goesOn_223 1 rfl ?_
  refine r_dup (pc := 224) C dX11_goesOn_224 rfl ?_
  obtain ⟨o_v0, h⟩ := h
  refine r_geti (pc := 225) C fL_X11_71 dX11_goesOn_225 o_v0 ?_
  refine r_topi (fun x2 ex2 => ?_)
  have h := h x2 ex2
  refine r_iconst (pc := 228) C (v := (1 : Int32)) dX11_goesOn_228 (by decide) ?_
  refine r_iadd (pc := 229) C dX11_goesOn_229 ?_
  refine r_topi (fun x3 ex3 => ?_)
  have h := h x3 ex3
  refine r_puti (pc := 230) C pfL_X11_71 dX11_goesOn_230 o_v0 ?_
  refine r_goto (pc := 233) C (tgt := 178) dX11_goesOn_233 (by decide) ?_
  exact r_sub [1, 0] rfl (hX178 v0 x1 (sI S v0 8 x3) h)
def B_X11_goesOn_178 (Q : HS → Prop) (X178 : Nat → Int32 → HS → Prop) (v0 : Nat) (v2 : Int32) (S : HS) : Prop := ob S v0 11 ∧ (∀ x1 : Int32, x1 = fI S v0 8 → (P_X11_byteAt v0 x1 (fun x4 S2 => Gr S S2 → (P_X11_isDigit x4 (fun x7 S5 => Gr S2 S5 → bl x7 → (((x7 = 0) → ((((3 : Int32) < v2) → (Q S5)) ∧ ((¬ (3 : Int32) < v2) → (Q (sI S5 v0 9 (3 : Int32)))))) ∧ ((¬ x7 = 0) → ((((3 : Int32) ≤ v2) → (P_X11_goesOn_220 Q X178 v0 v2 S5)) ∧ ((¬ (3 : Int32) ≤ v2) → (∀ x11 : Int32, x11 = fI S5 v0 12 → (∀ x12 : Int32, x12 = fI S5 v0 8 → (P_X11_byteAt v0 x12 (fun x15 S13 => Gr S5 S13 → (∀ x16 : Int32, x16 = (((10 : Int32) * x11) + x15) - (48 : Int32) → (P_X11_goesOn_220 Q X178 v0 v2 (sI S13 v0 12 x16)))) S5)))))))) S2)) S))
def P_X11_goesOn_178 (Q : HS → Prop) (v0 : Nat) (v2 : Int32) (S : HS) : Prop := ∀ X178 : Nat → Int32 → HS → Prop, (∀ (v0 : Nat) (v2 : Int32) (S : HS), B_X11_goesOn_178 Q X178 v0 v2 S → X178 v0 v2 S) → X178 v0 v2 S
set_option maxRecDepth 20000 in
set_option maxHeartbeats 4000000 in
theorem TB_X11_goesOn_178 {X : CX} {Q : HS → Prop} (C : Cx X cX11_goesOn RX11 3 rm_X11_goesOn) (E : ReV X rm_X11_goesOn Q) (ht : (xh X).sig.returnType = none) (hn : (xh X).name = yX11_goesOn.name) {X178 : Nat → Int32 → HS → Prop} (hX178 : ∀ (v0 : Nat) (v2 : Int32) (S : HS), X178 v0 v2 S → WS X 3 0 0 178 [(0, .ref v0), (2, .int v2)] [] S) {v0 : Nat} {v2 : Int32} {S : HS} (h : B_X11_goesOn_178 Q X178 v0 v2 S) : WS X 3 0 0 178 [(0, .ref v0), (2, .int v2)] [] S := by
  refine r_aload_n (pc := 178) C dX11_goesOn_178 0 rfl ?_
  refine r_aload_n (pc := 179) C dX11_goesOn_179 0 rfl ?_
  obtain ⟨o_v0, h⟩ := h
  refine r_geti (pc := 180) C fL_X11_71 dX11_goesOn_180 o_v0 ?_
  refine r_topi (fun x1 ex1 => ?_)
  have h := h x1 ex1
  refine r_callVi0 (pc := 183) C (rest := []) (a := v0) o_v0 [.int x1] yV_X11_byteAt g_1384 (c_X11_byteAt h) dX11_goesOn_183 rfl rfl (by decide) ⟨by decide, by decide⟩ ⟨by decide, by decide⟩ ⟨rfl, rfl⟩ (fun x4 S2 h g3 => ?_)
  have h := h g3
  have o_v0 := gr_ob g3 o_v0
  refine r_callSi0 (pc := 186) C (rest := []) rfl [.int x4] yS_X11_isDigit g_1392 (c_X11_isDigit h) dX11_goesOn_186 rfl rfl (by decide) ⟨by decide, by decide⟩ ⟨by decide, by decide⟩ ⟨rfl, rfl⟩ (fun x7 S5 h g6 => ?_)
  have bx7 := h.1
  have h := h.2 g6 bx7
  have o_v0 := gr_ob g6 o_v0
  refine r_if_eq (pc := 189) C (tgt := 236) dX11_goesOn_189 (by decide) (fun c8 => ?_) (fun c8 => ?_)
  · have h := h.1 c8
    refine r_iload_n (pc := 236) C dX11_goesOn_236 1 rfl ?_
    refine r_iconst (pc := 237) C (v := (3 : Int32)) dX11_goesOn_237 (by decide) ?_
    refine r_icmp_gt (pc := 238) C (tgt := 281) dX11_goesOn_238 (by decide) (fun c9 => ?_) (fun c9 => ?_)
    · have h := h.1 c9
      exact r_vret (pc := 281) C E ht dX11_goesOn_281 (by decide) (by decide) h
    · have h := h.2 c9
      refine r_aload_n (pc := 241) C dX11_goesOn_241 0 rfl ?_
      refine r_iconst (pc := 242) C (v := (3 : Int32)) dX11_goesOn_242 (by decide) ?_
      refine r_puti (pc := 243) C pfL_X11_68 dX11_goesOn_243 o_v0 ?_
      refine r_goto (pc := 246) C (tgt := 281) dX11_goesOn_246 (by decide) ?_
      exact r_vret (pc := 281) C E ht dX11_goesOn_281 (by decide) (by decide) h
  · have h := h.2 c8
    refine r_iload_n (pc := 192) C dX11_goesOn_192 1 rfl ?_
    refine r_iconst (pc := 193) C (v := (3 : Int32)) dX11_goesOn_193 (by decide) ?_
    refine r_icmp_ge (pc := 194) C (tgt := 220) dX11_goesOn_194 (by decide) (fun c10 => ?_) (fun c10 => ?_)
    · have h := h.1 c10
      exact r_sub [0, 1] rfl (T_X11_goesOn_220 C E ht hn hX178 h)
    · have h := h.2 c10
      refine r_aload_n (pc := 197) C dX11_goesOn_197 0 rfl ?_
      refine r_bipush (pc := 198) C (v := (10 : Int32)) dX11_goesOn_198 (by decide) ?_
      refine r_aload_n (pc := 200) C dX11_goesOn_200 0 rfl ?_
      refine r_geti (pc := 201) C fL_X11_94 dX11_goesOn_201 o_v0 ?_
      refine r_topi (fun x11 ex11 => ?_)
      have h := h x11 ex11
      refine r_imul (pc := 204) C dX11_goesOn_204 ?_
      refine r_aload_n (pc := 205) C dX11_goesOn_205 0 rfl ?_
      refine r_aload_n (pc := 206) C dX11_goesOn_206 0 rfl ?_
      refine r_geti (pc := 207) C fL_X11_71 dX11_goesOn_207 o_v0 ?_
      refine r_topi (fun x12 ex12 => ?_)
      have h := h x12 ex12
      refine r_callVi0 (pc := 210) C (rest := [.int ((10 : Int32) * x11), .ref v0]) (a := v0) o_v0 [.int x12] yV_X11_byteAt g_1384 (c_X11_byteAt h) dX11_goesOn_210 rfl rfl (by decide) ⟨by decide, by decide⟩ ⟨by decide, by decide⟩ ⟨rfl, rfl⟩ (fun x15 S13 h g14 => ?_)
      have h := h g14
      have o_v0 := gr_ob g14 o_v0
      refine r_iadd (pc := 213) C dX11_goesOn_213 ?_
      refine r_bipush (pc := 214) C (v := (48 : Int32)) dX11_goesOn_214 (by decide) ?_
      refine r_isub (pc := 216) C dX11_goesOn_216 ?_
      refine r_topi (fun x16 ex16 => ?_)
      have h := h x16 ex16
      refine r_puti (pc := 217) C pfL_X11_94 dX11_goesOn_217 o_v0 ?_
      exact r_sub [0, 1] rfl (T_X11_goesOn_220 C E ht hn hX178 h)
theorem T_X11_goesOn_178 {X : CX} {Q : HS → Prop} (C : Cx X cX11_goesOn RX11 3 rm_X11_goesOn) (E : ReV X rm_X11_goesOn Q) (ht : (xh X).sig.returnType = none) (hn : (xh X).name = yX11_goesOn.name) {v0 : Nat} {v2 : Int32} {S : HS} (h : P_X11_goesOn_178 Q v0 v2 S) : WS X 3 0 0 178 [(0, .ref v0), (2, .int v2)] [] S :=
  h (fun v0 v2 S => WS X 3 0 0 178 [(0, .ref v0), (2, .int v2)] [] S) (fun v0 v2 S hh => TB_X11_goesOn_178 C E ht hn (fun v0 v2 S z => z) hh)
def P_X11_goesOn_261 (Q : HS → Prop) (v0 : Nat) (v1 : Int32) (S : HS) : Prop := ob S v0 11 ∧ (∀ x1 : Int32, x1 = fI (sI (sI S v0 9 (4 : Int32)) v0 11 v1) v0 8 → (∀ x2 : Int32, x2 = x1 + (1 : Int32) → (Q (sI (sI (sI S v0 9 (4 : Int32)) v0 11 v1) v0 8 x2))))
set_option maxRecDepth 20000 in
set_option maxHeartbeats 4000000 in
theorem T_X11_goesOn_261 {X : CX} {Q : HS → Prop} (C : Cx X cX11_goesOn RX11 3 rm_X11_goesOn) (E : ReV X rm_X11_goesOn Q) (ht : (xh X).sig.returnType = none) (hn : (xh X).name = yX11_goesOn.name) {v0 : Nat} {v1 : Int32} {S : HS} (h : P_X11_goesOn_261 Q v0 v1 S) : WS X 3 0 0 261 [(0, .ref v0), (1, .int v1)] [] S := by
  refine r_aload_n (pc := 261) C dX11_goesOn_261 0 rfl ?_
  refine r_iconst (pc := 262) C (v := (4 : Int32)) dX11_goesOn_262 (by decide) ?_
  obtain ⟨o_v0, h⟩ := h
  refine r_puti (pc := 263) C pfL_X11_68 dX11_goesOn_263 o_v0 ?_
  refine r_aload_n (pc := 266) C dX11_goesOn_266 0 rfl ?_
  refine r_iload_n (pc := 267) C dX11_goesOn_267 1 rfl ?_
  refine r_puti (pc := 268) C pfL_X11_80 dX11_goesOn_268 o_v0 ?_
  refine r_aload_n (pc := 271) C dX11_goesOn_271 0 rfl ?_
  refine r_dup (pc := 272) C dX11_goesOn_272 rfl ?_
  refine r_geti (pc := 273) C fL_X11_71 dX11_goesOn_273 o_v0 ?_
  refine r_topi (fun x1 ex1 => ?_)
  have h := h x1 ex1
  refine r_iconst (pc := 276) C (v := (1 : Int32)) dX11_goesOn_276 (by decide) ?_
  refine r_iadd (pc := 277) C dX11_goesOn_277 ?_
  refine r_topi (fun x2 ex2 => ?_)
  have h := h x2 ex2
  refine r_puti (pc := 278) C pfL_X11_71 dX11_goesOn_278 o_v0 ?_
  exact r_vret (pc := 281) C E ht dX11_goesOn_281 (by decide) (by decide) h
def B_X11_goesOn_9 (Q : HS → Prop) (X9 : Nat → HS → Prop) (v0 : Nat) (S : HS) : Prop := ob S v0 11 ∧ (∀ x1 : Int32, x1 = fI S v0 8 → (P_X11_byteAt v0 x1 (fun x4 S2 => Gr S S2 → (((¬ x4 = (32 : Int32)) → (∀ x6 : Int32, x6 = fI S2 v0 8 → (∀ x7 : Int32, x7 = fI (sI (sI (sI S2 v0 10 x6) v0 9 (0 : Int32)) v0 11 (0 : Int32)) v0 8 → (P_X11_byteAt v0 x7 (fun x10 S8 => Gr (sI (sI (sI S2 v0 10 x6) v0 9 (0 : Int32)) v0 11 (0 : Int32)) S8 → (((¬ x10 = (-1 : Int32)) → (P_X11_isLetter x10 (fun x14 S12 => Gr S8 S12 → bl x14 → (((x14 = 0) → (P_X11_isDigit x10 (fun x18 S16 => Gr S12 S16 → bl x18 → (((x18 = 0) → (((x10 = (59 : Int32)) → (P_X11_goesOn_261 Q v0 x10 S16)) ∧ ((¬ x10 = (59 : Int32)) → (((¬ x10 = (44 : Int32)) → (Q S16)) ∧ ((x10 = (44 : Int32)) → (P_X11_goesOn_261 Q v0 x10 S16)))))) ∧ ((¬ x18 = 0) → (P_X11_goesOn_178 Q v0 (0 : Int32) (sI S16 v0 12 (0 : Int32)))))) S12)) ∧ ((¬ x14 = 0) → (P_X11_goesOn_89 Q v0 (0 : Int32) (sJ S12 v0 15 (0 : Int64)))))) S8)) ∧ ((x10 = (-1 : Int32)) → (Q (sI S8 v0 9 (1 : Int32)))))) (sI (sI (sI S2 v0 10 x6) v0 9 (0 : Int32)) v0 11 (0 : Int32)))))) ∧ ((x4 = (32 : Int32)) → (∀ x22 : Int32, x22 = fI S2 v0 8 → (∀ x23 : Int32, x23 = x22 + (1 : Int32) → (X9 v0 (sI S2 v0 8 x23))))))) S))
def P_X11_goesOn_9 (Q : HS → Prop) (v0 : Nat) (S : HS) : Prop := ∀ X9 : Nat → HS → Prop, (∀ (v0 : Nat) (S : HS), B_X11_goesOn_9 Q X9 v0 S → X9 v0 S) → X9 v0 S
set_option maxRecDepth 20000 in
set_option maxHeartbeats 4000000 in
theorem TB_X11_goesOn_9 {X : CX} {Q : HS → Prop} (C : Cx X cX11_goesOn RX11 3 rm_X11_goesOn) (E : ReV X rm_X11_goesOn Q) (ht : (xh X).sig.returnType = none) (hn : (xh X).name = yX11_goesOn.name) {X9 : Nat → HS → Prop} (hX9 : ∀ (v0 : Nat) (S : HS), X9 v0 S → WS X 3 0 0 9 [(0, .ref v0)] [] S) {v0 : Nat} {S : HS} (h : B_X11_goesOn_9 Q X9 v0 S) : WS X 3 0 0 9 [(0, .ref v0)] [] S := by
  refine r_aload_n (pc := 9) C dX11_goesOn_9 0 rfl ?_
  refine r_aload_n (pc := 10) C dX11_goesOn_10 0 rfl ?_
  obtain ⟨o_v0, h⟩ := h
  refine r_geti (pc := 11) C fL_X11_71 dX11_goesOn_11 o_v0 ?_
  refine r_topi (fun x1 ex1 => ?_)
  have h := h x1 ex1
  refine r_callVi0 (pc := 14) C (rest := []) (a := v0) o_v0 [.int x1] yV_X11_byteAt g_1384 (c_X11_byteAt h) dX11_goesOn_14 rfl rfl (by decide) ⟨by decide, by decide⟩ ⟨by decide, by decide⟩ ⟨rfl, rfl⟩ (fun x4 S2 h g3 => ?_)
  have h := h g3
  have o_v0 := gr_ob g3 o_v0
  refine r_bipush (pc := 17) C (v := (32 : Int32)) dX11_goesOn_17 (by decide) ?_
  refine r_icmp_ne (pc := 19) C (tgt := 35) dX11_goesOn_19 (by decide) (fun c5 => ?_) (fun c5 => ?_)
  · have h := h.1 c5
    refine r_aload_n (pc := 35) C dX11_goesOn_35 0 rfl ?_
    refine r_aload_n (pc := 36) C dX11_goesOn_36 0 rfl ?_
    refine r_geti (pc := 37) C fL_X11_71 dX11_goesOn_37 o_v0 ?_
    refine r_topi (fun x6 ex6 => ?_)
    have h := h x6 ex6
    refine r_puti (pc := 40) C pfL_X11_77 dX11_goesOn_40 o_v0 ?_
    refine r_aload_n (pc := 43) C dX11_goesOn_43 0 rfl ?_
    refine r_iconst (pc := 44) C (v := (0 : Int32)) dX11_goesOn_44 (by decide) ?_
    refine r_puti (pc := 45) C pfL_X11_68 dX11_goesOn_45 o_v0 ?_
    refine r_aload_n (pc := 48) C dX11_goesOn_48 0 rfl ?_
    refine r_iconst (pc := 49) C (v := (0 : Int32)) dX11_goesOn_49 (by decide) ?_
    refine r_puti (pc := 50) C pfL_X11_80 dX11_goesOn_50 o_v0 ?_
    refine r_aload_n (pc := 53) C dX11_goesOn_53 0 rfl ?_
    refine r_aload_n (pc := 54) C dX11_goesOn_54 0 rfl ?_
    refine r_geti (pc := 55) C fL_X11_71 dX11_goesOn_55 o_v0 ?_
    refine r_topi (fun x7 ex7 => ?_)
    have h := h x7 ex7
    refine r_callVi0 (pc := 58) C (rest := []) (a := v0) o_v0 [.int x7] yV_X11_byteAt g_1384 (c_X11_byteAt h) dX11_goesOn_58 rfl rfl (by decide) ⟨by decide, by decide⟩ ⟨by decide, by decide⟩ ⟨rfl, rfl⟩ (fun x10 S8 h g9 => ?_)
    have h := h g9
    have o_v0 := gr_ob g9 o_v0
    refine r_istore_n (pc := 61) C dX11_goesOn_61 rfl (by decide) (lv' := [(1, .int x10), (0, .ref v0)]) rfl ?_
    refine r_iconst (pc := 62) C (v := (0 : Int32)) dX11_goesOn_62 (by decide) ?_
    refine r_istore_n (pc := 63) C dX11_goesOn_63 rfl (by decide) (lv' := [(2, .int (0 : Int32)), (1, .int x10), (0, .ref v0)]) rfl ?_
    refine r_iload_n (pc := 64) C dX11_goesOn_64 1 rfl ?_
    refine r_iconst (pc := 65) C (v := (-1 : Int32)) dX11_goesOn_65 (by decide) ?_
    refine r_icmp_ne (pc := 66) C (tgt := 77) dX11_goesOn_66 (by decide) (fun c11 => ?_) (fun c11 => ?_)
    · have h := h.1 c11
      refine r_iload_n (pc := 77) C dX11_goesOn_77 1 rfl ?_
      refine r_callSi0 (pc := 78) C (rest := []) rfl [.int x10] yS_X11_isLetter g_1388 (c_X11_isLetter h) dX11_goesOn_78 rfl rfl (by decide) ⟨by decide, by decide⟩ ⟨by decide, by decide⟩ ⟨rfl, rfl⟩ (fun x14 S12 h g13 => ?_)
      have bx14 := h.1
      have h := h.2 g13 bx14
      have o_v0 := gr_ob g13 o_v0
      refine r_if_eq (pc := 81) C (tgt := 166) dX11_goesOn_81 (by decide) (fun c15 => ?_) (fun c15 => ?_)
      · have h := h.1 c15
        refine r_iload_n (pc := 166) C dX11_goesOn_166 1 rfl ?_
        refine r_callSi0 (pc := 167) C (rest := []) rfl [.int x10] yS_X11_isDigit g_1392 (c_X11_isDigit h) dX11_goesOn_167 rfl rfl (by decide) ⟨by decide, by decide⟩ ⟨by decide, by decide⟩ ⟨rfl, rfl⟩ (fun x18 S16 h g17 => ?_)
        have bx18 := h.1
        have h := h.2 g17 bx18
        have o_v0 := gr_ob g17 o_v0
        refine r_if_eq (pc := 170) C (tgt := 249) dX11_goesOn_170 (by decide) (fun c19 => ?_) (fun c19 => ?_)
        · have h := h.1 c19
          refine r_iload_n (pc := 249) C dX11_goesOn_249 1 rfl ?_
          refine r_bipush (pc := 250) C (v := (59 : Int32)) dX11_goesOn_250 (by decide) ?_
          refine r_icmp_eq (pc := 252) C (tgt := 261) dX11_goesOn_252 (by decide) (fun c20 => ?_) (fun c20 => ?_)
          · have h := h.1 c20
            exact r_sub [2, 1] rfl (T_X11_goesOn_261 C E ht hn h)
          · have h := h.2 c20
            refine r_iload_n (pc := 255) C dX11_goesOn_255 1 rfl ?_
            refine r_bipush (pc := 256) C (v := (44 : Int32)) dX11_goesOn_256 (by decide) ?_
            refine r_icmp_ne (pc := 258) C (tgt := 281) dX11_goesOn_258 (by decide) (fun c21 => ?_) (fun c21 => ?_)
            · have h := h.1 c21
              exact r_vret (pc := 281) C E ht dX11_goesOn_281 (by decide) (by decide) h
            · have h := h.2 c21
              exact r_sub [2, 1] rfl (T_X11_goesOn_261 C E ht hn h)
        · have h := h.2 c19
          refine r_aload_n (pc := 173) C dX11_goesOn_173 2 rfl ?_
          refine r_iconst (pc := 174) C (v := (0 : Int32)) dX11_goesOn_174 (by decide) ?_
          refine r_puti (pc := 175) C pfL_X11_94 dX11_goesOn_175 o_v0 ?_
          exact r_sub [2, 0] rfl (T_X11_goesOn_178 C E ht hn h)
      · have h := h.2 c15
        refine r_aload_n (pc := 84) C dX11_goesOn_84 2 rfl ?_
        refine r_lconst (pc := 85) C (v := (0 : Int64)) dX11_goesOn_85 (by decide) ?_
        refine r_putl (pc := 86) C pfL_X11_87 dX11_goesOn_86 o_v0 ?_
        exact r_sub [2, 0] rfl (T_X11_goesOn_89 C E ht hn h)
    · have h := h.2 c11
      refine r_aload_n (pc := 69) C dX11_goesOn_69 2 rfl ?_
      refine r_iconst (pc := 70) C (v := (1 : Int32)) dX11_goesOn_70 (by decide) ?_
      refine r_puti (pc := 71) C pfL_X11_68 dX11_goesOn_71 o_v0 ?_
      refine r_goto (pc := 74) C (tgt := 281) dX11_goesOn_74 (by decide) ?_
      exact r_vret (pc := 281) C E ht dX11_goesOn_281 (by decide) (by decide) h
  · have h := h.2 c5
    refine r_aload_n (pc := 22) C dX11_goesOn_22 0 rfl ?_
    refine r_dup (pc := 23) C dX11_goesOn_23 rfl ?_
    refine r_geti (pc := 24) C fL_X11_71 dX11_goesOn_24 o_v0 ?_
    refine r_topi (fun x22 ex22 => ?_)
    have h := h x22 ex22
    refine r_iconst (pc := 27) C (v := (1 : Int32)) dX11_goesOn_27 (by decide) ?_
    refine r_iadd (pc := 28) C dX11_goesOn_28 ?_
    refine r_topi (fun x23 ex23 => ?_)
    have h := h x23 ex23
    refine r_puti (pc := 29) C pfL_X11_71 dX11_goesOn_29 o_v0 ?_
    refine r_goto (pc := 32) C (tgt := 9) dX11_goesOn_32 (by decide) ?_
    exact r_sub [0] rfl (hX9 v0 (sI S2 v0 8 x23) h)
theorem T_X11_goesOn_9 {X : CX} {Q : HS → Prop} (C : Cx X cX11_goesOn RX11 3 rm_X11_goesOn) (E : ReV X rm_X11_goesOn Q) (ht : (xh X).sig.returnType = none) (hn : (xh X).name = yX11_goesOn.name) {v0 : Nat} {S : HS} (h : P_X11_goesOn_9 Q v0 S) : WS X 3 0 0 9 [(0, .ref v0)] [] S :=
  h (fun v0 S => WS X 3 0 0 9 [(0, .ref v0)] [] S) (fun v0 S hh => TB_X11_goesOn_9 C E ht hn (fun v0 S z => z) hh)
def P_X11_goesOn_0 (Q : HS → Prop) (v0 : Nat) (S : HS) : Prop := ob S v0 11 ∧ (∀ x1 : Int32, x1 = fI S v0 9 → (((¬ x1 = (5 : Int32)) → (P_X11_goesOn_9 Q v0 S)) ∧ ((x1 = (5 : Int32)) → (Q S))))
set_option maxRecDepth 20000 in
set_option maxHeartbeats 4000000 in
theorem T_X11_goesOn_0 {X : CX} {Q : HS → Prop} (C : Cx X cX11_goesOn RX11 3 rm_X11_goesOn) (E : ReV X rm_X11_goesOn Q) (ht : (xh X).sig.returnType = none) (hn : (xh X).name = yX11_goesOn.name) {v0 : Nat} {S : HS} (h : P_X11_goesOn_0 Q v0 S) : WS X 3 0 0 0 [(0, .ref v0)] [] S := by
  refine r_aload_n (pc := 0) C dX11_goesOn_0 0 rfl ?_
  obtain ⟨o_v0, h⟩ := h
  refine r_geti (pc := 1) C fL_X11_68 dX11_goesOn_1 o_v0 ?_
  refine r_topi (fun x1 ex1 => ?_)
  have h := h x1 ex1
  refine r_iconst (pc := 4) C (v := (5 : Int32)) dX11_goesOn_4 (by decide) ?_
  refine r_icmp_ne (pc := 5) C (tgt := 9) dX11_goesOn_5 (by decide) (fun c2 => ?_) (fun c2 => ?_)
  · have h := h.1 c2
    exact r_sub [0] rfl (T_X11_goesOn_9 C E ht hn h)
  · have h := h.2 c2
    exact r_vret (pc := 8) C E ht dX11_goesOn_8 (by decide) (by decide) h
def P_X11_goesOn (v0 : Nat) (Q : HS → Prop) (S : HS) : Prop := P_X11_goesOn_0 Q v0 S
theorem c_X11_goesOn {l : Launch} {Ee : EE} {S : HS} {v0 : Nat} {Q : HS → Prop} (h : P_X11_goesOn v0 Q S) : MV l yX11_goesOn cX11_goesOn 3 none rm_X11_goesOn Ee S [.ref v0] Q :=
  openV (by decide) (by decide) (fun X C E ht hn hE hl => by subst hE; exact r_sub [0] rfl (T_X11_goesOn_0 C E ht hn h))
def rm_X11_begins : Room := { frames := 2, cells := 0, slots := 0, locals := 43 }
def P_X11_begins_26 (Q : HS → Prop) (v0 : Nat) (S : HS) : Prop := ob S v0 11 ∧ (P_X11_goesOn v0 (fun S1 => Gr S S1 → (Q S1)) S)
set_option maxRecDepth 20000 in
set_option maxHeartbeats 4000000 in
theorem T_X11_begins_26 {X : CX} {Q : HS → Prop} (C : Cx X cX11_begins RX11 3 rm_X11_begins) (E : ReV X rm_X11_begins Q) (ht : (xh X).sig.returnType = none) (hn : (xh X).name = yX11_begins.name) {v0 : Nat} {S : HS} (h : P_X11_begins_26 Q v0 S) : WS X 3 0 0 26 [(0, .ref v0)] [] S := by
  refine r_aload_n (pc := 26) C dX11_begins_26 0 rfl ?_
  obtain ⟨o_v0, h⟩ := h
  refine r_callVv0 (pc := 27) C (rest := []) (a := v0) o_v0 [] yV_X11_goesOn g_1380 (c_X11_goesOn h) dX11_begins_27 rfl rfl (by decide) ⟨by decide, by decide⟩ ⟨by decide, by decide⟩ ⟨rfl, rfl⟩ (fun S1 h g2 => ?_)
  have h := h g2
  have o_v0 := gr_ob g2 o_v0
  exact r_vret (pc := 30) C E ht dX11_begins_30 (by decide) (by decide) h
def P_X11_begins_10 (Q : HS → Prop) (v0 : Nat) (S : HS) : Prop := ob S v0 11 ∧ (∃ a1 : Nat, fR S v0 4 = some a1 ∧ (ob S a1 10 ∧ (∀ x2 : Int32, x2 = fI S a1 0 → (((¬ x2 = 0) → (P_X11_begins_26 Q v0 S)) ∧ ((x2 = 0) → (P_X11_flaw v0 (6 : Int32) (fun S4 => Gr S S4 → (P_X11_begins_26 Q v0 S4)) S))))))
set_option maxRecDepth 20000 in
set_option maxHeartbeats 4000000 in
theorem T_X11_begins_10 {X : CX} {Q : HS → Prop} (C : Cx X cX11_begins RX11 3 rm_X11_begins) (E : ReV X rm_X11_begins Q) (ht : (xh X).sig.returnType = none) (hn : (xh X).name = yX11_begins.name) {v0 : Nat} {S : HS} (h : P_X11_begins_10 Q v0 S) : WS X 3 0 0 10 [(0, .ref v0)] [] S := by
  refine r_aload_n (pc := 10) C dX11_begins_10 0 rfl ?_
  obtain ⟨o_v0, h⟩ := h
  obtain ⟨a1, ea1, h⟩ := h
  refine r_getr (pc := 11) C fL_X11_147 dX11_begins_11 o_v0 ea1 ?_
  obtain ⟨o_a1, h⟩ := h
  refine r_getNi (pc := 14) C fN_X11_151 dX11_begins_14 o_a1 ?_
  refine r_topi (fun x2 ex2 => ?_)
  have h := h x2 ex2
  refine r_if_ne (pc := 17) C (tgt := 26) dX11_begins_17 (by decide) (fun c3 => ?_) (fun c3 => ?_)
  · have h := h.1 c3
    exact r_sub [0] rfl (T_X11_begins_26 C E ht hn h)
  · have h := h.2 c3
    refine r_aload_n (pc := 20) C dX11_begins_20 0 rfl ?_
    refine r_bipush (pc := 21) C (v := (6 : Int32)) dX11_begins_21 (by decide) ?_
    refine r_callVv0 (pc := 23) C (rest := []) (a := v0) o_v0 [.int (6 : Int32)] yV_X11_flaw g_1417 (c_X11_flaw h) dX11_begins_23 rfl rfl (by decide) ⟨by decide, by decide⟩ ⟨by decide, by decide⟩ ⟨rfl, rfl⟩ (fun S4 h g5 => ?_)
    have h := h g5
    have o_a1 := gr_ob g5 o_a1
    have o_v0 := gr_ob g5 o_v0
    exact r_sub [0] rfl (T_X11_begins_26 C E ht hn h)
def P_X11_begins_0 (Q : HS → Prop) (v0 : Nat) (v1 : Int32) (v2 : Int32) (S : HS) : Prop := ((¬ v1 = v2) → (P_X11_begins_10 Q v0 S)) ∧ ((v1 = v2) → (ob S v0 11 ∧ (P_X11_flaw v0 (5 : Int32) (fun S2 => Gr S S2 → (P_X11_begins_10 Q v0 S2)) S)))
set_option maxRecDepth 20000 in
set_option maxHeartbeats 4000000 in
theorem T_X11_begins_0 {X : CX} {Q : HS → Prop} (C : Cx X cX11_begins RX11 3 rm_X11_begins) (E : ReV X rm_X11_begins Q) (ht : (xh X).sig.returnType = none) (hn : (xh X).name = yX11_begins.name) {v0 : Nat} {v1 : Int32} {v2 : Int32} {S : HS} (h : P_X11_begins_0 Q v0 v1 v2 S) : WS X 3 0 0 0 [(0, .ref v0), (1, .int v1), (2, .int v2)] [] S := by
  refine r_iload_n (pc := 0) C dX11_begins_0 1 rfl ?_
  refine r_iload_n (pc := 1) C dX11_begins_1 2 rfl ?_
  refine r_icmp_ne (pc := 2) C (tgt := 10) dX11_begins_2 (by decide) (fun c1 => ?_) (fun c1 => ?_)
  · have h := h.1 c1
    exact r_sub [0] rfl (T_X11_begins_10 C E ht hn h)
  · have h := h.2 c1
    refine r_aload_n (pc := 5) C dX11_begins_5 0 rfl ?_
    refine r_iconst (pc := 6) C (v := (5 : Int32)) dX11_begins_6 (by decide) ?_
    obtain ⟨o_v0, h⟩ := h
    refine r_callVv0 (pc := 7) C (rest := []) (a := v0) o_v0 [.int (5 : Int32)] yV_X11_flaw g_1417 (c_X11_flaw h) dX11_begins_7 rfl rfl (by decide) ⟨by decide, by decide⟩ ⟨by decide, by decide⟩ ⟨rfl, rfl⟩ (fun S2 h g3 => ?_)
    have h := h g3
    have o_v0 := gr_ob g3 o_v0
    exact r_sub [0] rfl (T_X11_begins_10 C E ht hn h)
def P_X11_begins (v0 : Nat) (v1 : Int32) (v2 : Int32) (Q : HS → Prop) (S : HS) : Prop := P_X11_begins_0 Q v0 v1 v2 S
theorem c_X11_begins {l : Launch} {Ee : EE} {S : HS} {v0 : Nat} {v1 : Int32} {v2 : Int32} {Q : HS → Prop} (h : P_X11_begins v0 v1 v2 Q S) : MV l yX11_begins cX11_begins 3 none rm_X11_begins Ee S [.ref v0, .int v1, .int v2] Q :=
  openV (by decide) (by decide) (fun X C E ht hn hE hl => by subst hE; exact r_sub [0, 1, 2] rfl (T_X11_begins_0 C E ht hn h))
