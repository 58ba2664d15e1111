section
def rm_X1_countFits : Room := { frames := 5, cells := 0, slots := 0, locals := 129 }
def P_X1_countFits_29 (Q : Int32 → HS → Prop) (X5 : Nat → Nat → Int32 → Int32 → Int32 → HS → Prop) (v0 : Nat) (v1 : Nat) (v2 : Int32) (v3 : Int32) (v4 : Int32) (S : HS) : Prop := ∀ x1 : Int32, x1 = v4 + (1 : Int32) → (X5 v0 v1 v2 v3 x1 S)
set_option maxRecDepth 20000 in
set_option maxHeartbeats 4000000 in
theorem T_X1_countFits_29 {X : CX} {Q : Int32 → HS → Prop} (C : Cx X cX1_countFits RX1 5 rm_X1_countFits) (E : ReI X rm_X1_countFits Q) (ht : (xh X).sig.returnType = (some .int)) (hn : (xh X).name = yX1_countFits.name) {X5 : Nat → Nat → Int32 → Int32 → Int32 → HS → Prop} (hX5 : ∀ (v0 : Nat) (v1 : Nat) (v2 : Int32) (v3 : Int32) (v4 : Int32) (S : HS), X5 v0 v1 v2 v3 v4 S → WS X 5 0 0 5 [(0, .ref v0), (1, .ref v1), (2, .int v2), (3, .int v3), (4, .int v4)] [] S) {v0 : Nat} {v1 : Nat} {v2 : Int32} {v3 : Int32} {v4 : Int32} {S : HS} (h : P_X1_countFits_29 Q X5 v0 v1 v2 v3 v4 S) : WS X 5 0 0 29 [(0, .ref v0), (1, .ref v1), (2, .int v2), (3, .int v3), (4, .int v4)] [] S := by
  obtain ⟨x1, ex1⟩ : ∃ z : Int32, z = v4 + (1 : Int32) := ⟨_, rfl⟩
  have h := h x1 ex1
  refine r_iinc (pc := 29) C (v := x1) (lv' := [(4, .int x1), (0, .ref v0), (1, .ref v1), (2, .int v2), (3, .int v3)]) dX1_countFits_29 4 rfl ex1.symm (by decide) rfl ?_
  refine r_goto (pc := 32) C (tgt := 5) dX1_countFits_32 (by decide) ?_
  exact r_sub [1, 2, 3, 4, 0] rfl (hX5 v0 v1 v2 v3 x1 S h)
def B_X1_countFits_5 (Q : Int32 → HS → Prop) (X5 : Nat → Nat → Int32 → Int32 → Int32 → HS → Prop) (v0 : Nat) (v1 : Nat) (v2 : Int32) (v3 : Int32) (v4 : Int32) (S : HS) : Prop := P_X1_legsOf v1 (fun x3 S1 => Gr S S1 → (((x3 ≤ v4) → (Q v3 S1)) ∧ ((¬ x3 ≤ v4) → (ob S1 v0 1 ∧ (P_X1_fitCode v0 v1 v2 v4 (fun x7 S5 => Gr S1 S5 → (((x7 = (-1 : Int32)) → (P_X1_countFits_29 Q X5 v0 v1 v2 v3 v4 S5)) ∧ ((¬ x7 = (-1 : Int32)) → (∀ x9 : Int32, x9 = v3 + (1 : Int32) → (P_X1_countFits_29 Q X5 v0 v1 v2 x9 v4 S5))))) S1))))) S
def P_X1_countFits_5 (Q : Int32 → HS → Prop) (v0 : Nat) (v1 : Nat) (v2 : Int32) (v3 : Int32) (v4 : Int32) (S : HS) : Prop := ∀ X5 : Nat → Nat → Int32 → Int32 → Int32 → HS → Prop, (∀ (v0 : Nat) (v1 : Nat) (v2 : Int32) (v3 : Int32) (v4 : Int32) (S : HS), B_X1_countFits_5 Q X5 v0 v1 v2 v3 v4 S → X5 v0 v1 v2 v3 v4 S) → X5 v0 v1 v2 v3 v4 S
set_option maxRecDepth 20000 in
set_option maxHeartbeats 4000000 in
theorem TB_X1_countFits_5 {X : CX} {Q : Int32 → HS → Prop} (C : Cx X cX1_countFits RX1 5 rm_X1_countFits) (E : ReI X rm_X1_countFits Q) (ht : (xh X).sig.returnType = (some .int)) (hn : (xh X).name = yX1_countFits.name) {X5 : Nat → Nat → Int32 → Int32 → Int32 → HS → Prop} (hX5 : ∀ (v0 : Nat) (v1 : Nat) (v2 : Int32) (v3 : Int32) (v4 : Int32) (S : HS), X5 v0 v1 v2 v3 v4 S → WS X 5 0 0 5 [(0, .ref v0), (1, .ref v1), (2, .int v2), (3, .int v3), (4, .int v4)] [] S) {v0 : Nat} {v1 : Nat} {v2 : Int32} {v3 : Int32} {v4 : Int32} {S : HS} (h : B_X1_countFits_5 Q X5 v0 v1 v2 v3 v4 S) : WS X 5 0 0 5 [(0, .ref v0), (1, .ref v1), (2, .int v2), (3, .int v3), (4, .int v4)] [] S := by
  refine r_iload (pc := 5) C dX1_countFits_5 4 rfl ?_
  refine r_aload_n (pc := 7) C dX1_countFits_7 1 rfl ?_
  refine r_callSi0 (pc := 8) C (rest := [.int v4]) rfl [.ref v1] yS_X1_legsOf g_937 (c_X1_legsOf h) dX1_countFits_8 rfl rfl (Nat.le_of_ble_eq_true rfl) ⟨by decide, by decide⟩ ⟨by decide, by decide⟩ ⟨rfl, rfl⟩ (fun x3 S1 h g2 => ?_)
  have h := h g2
  refine r_icmp_ge (pc := 11) C (tgt := 35) dX1_countFits_11 (by decide) (fun c4 => ?_) (fun c4 => ?_)
  · have h := h.1 c4
    refine r_iload_n (pc := 35) C dX1_countFits_35 3 rfl ?_
    exact r_iret (pc := 36) C E ht dX1_countFits_36 (by decide) (by decide) h
  · have h := h.2 c4
    refine r_aload_n (pc := 14) C dX1_countFits_14 0 rfl ?_
    refine r_aload_n (pc := 15) C dX1_countFits_15 1 rfl ?_
    refine r_iload_n (pc := 16) C dX1_countFits_16 2 rfl ?_
    refine r_iload (pc := 17) C dX1_countFits_17 4 rfl ?_
    obtain ⟨o_v0, h⟩ := h
    refine r_callVi0 (pc := 19) C (rest := []) (a := v0) o_v0 [.ref v1, .int v2, .int v4] yV_X1_fitCode g_940 (c_X1_fitCode h) dX1_countFits_19 rfl rfl (Nat.le_of_ble_eq_true rfl) ⟨by decide, by decide⟩ ⟨by decide, by decide⟩ ⟨rfl, rfl⟩ (fun x7 S5 h g6 => ?_)
    have h := h g6
    have o_v0 := gr_ob g6 o_v0
    refine r_iconst (pc := 22) C (v := (-1 : Int32)) dX1_countFits_22 (by decide) ?_
    refine r_icmp_eq (pc := 23) C (tgt := 29) dX1_countFits_23 (by decide) (fun c8 => ?_) (fun c8 => ?_)
    · have h := h.1 c8
      exact r_sub [0, 1, 2, 3, 4] rfl (T_X1_countFits_29 C E ht hn hX5 h)
    · have h := h.2 c8
      obtain ⟨x9, ex9⟩ : ∃ z : Int32, z = v3 + (1 : Int32) := ⟨_, rfl⟩
      have h := h x9 ex9
      refine r_iinc (pc := 26) C (v := x9) (lv' := [(3, .int x9), (0, .ref v0), (1, .ref v1), (2, .int v2), (4, .int v4)]) dX1_countFits_26 3 rfl ex9.symm (by decide) rfl ?_
      exact r_sub [1, 2, 3, 0, 4] rfl (T_X1_countFits_29 C E ht hn hX5 h)
theorem T_X1_countFits_5 {X : CX} {Q : Int32 → HS → Prop} (C : Cx X cX1_countFits RX1 5 rm_X1_countFits) (E : ReI X rm_X1_countFits Q) (ht : (xh X).sig.returnType = (some .int)) (hn : (xh X).name = yX1_countFits.name) {v0 : Nat} {v1 : Nat} {v2 : Int32} {v3 : Int32} {v4 : Int32} {S : HS} (h : P_X1_countFits_5 Q v0 v1 v2 v3 v4 S) : WS X 5 0 0 5 [(0, .ref v0), (1, .ref v1), (2, .int v2), (3, .int v3), (4, .int v4)] [] S :=
  h (fun v0 v1 v2 v3 v4 S => WS X 5 0 0 5 [(0, .ref v0), (1, .ref v1), (2, .int v2), (3, .int v3), (4, .int v4)] [] S) (fun v0 v1 v2 v3 v4 S hh => TB_X1_countFits_5 C E ht hn (fun v0 v1 v2 v3 v4 S z => z) hh)
def P_X1_countFits_0 (Q : Int32 → HS → Prop) (v0 : Nat) (v1 : Nat) (v2 : Int32) (S : HS) : Prop := P_X1_countFits_5 Q v0 v1 v2 (0 : Int32) (0 : Int32) S
set_option maxRecDepth 20000 in
set_option maxHeartbeats 4000000 in
theorem T_X1_countFits_0 {X : CX} {Q : Int32 → HS → Prop} (C : Cx X cX1_countFits RX1 5 rm_X1_countFits) (E : ReI X rm_X1_countFits Q) (ht : (xh X).sig.returnType = (some .int)) (hn : (xh X).name = yX1_countFits.name) {v0 : Nat} {v1 : Nat} {v2 : Int32} {S : HS} (h : P_X1_countFits_0 Q v0 v1 v2 S) : WS X 5 0 0 0 [(0, .ref v0), (1, .ref v1), (2, .int v2)] [] S := by
  refine r_iconst (pc := 0) C (v := (0 : Int32)) dX1_countFits_0 (by decide) ?_
  refine r_istore_n (pc := 1) C dX1_countFits_1 rfl (by decide) (lv' := [(3, .int (0 : Int32)), (0, .ref v0), (1, .ref v1), (2, .int v2)]) rfl ?_
  refine r_iconst (pc := 2) C (v := (0 : Int32)) dX1_countFits_2 (by decide) ?_
  refine r_istore (pc := 3) C dX1_countFits_3 (by decide) (lv' := [(4, .int (0 : Int32)), (3, .int (0 : Int32)), (0, .ref v0), (1, .ref v1), (2, .int v2)]) rfl ?_
  exact r_sub [2, 3, 4, 1, 0] rfl (T_X1_countFits_5 C E ht hn h)
def P_X1_countFits (v0 : Nat) (v1 : Nat) (v2 : Int32) (Q : Int32 → HS → Prop) (S : HS) : Prop := P_X1_countFits_0 Q v0 v1 v2 S
theorem c_X1_countFits {l : Launch} {Ee : EE} {S : HS} {v0 : Nat} {v1 : Nat} {v2 : Int32} {Q : Int32 → HS → Prop} (h : P_X1_countFits v0 v1 v2 Q S) : MI l yX1_countFits cX1_countFits 5 (some .int) rm_X1_countFits Ee S [.ref v0, .ref v1, .int v2] Q :=
  openI (by decide) (Nat.le_of_ble_eq_true rfl) (fun X C E ht hn hE hl => by subst hE; exact r_sub [0, 1, 2] rfl (T_X1_countFits_0 C E ht hn h))
def rm_X1_findFit : Room := { frames := 5, cells := 0, slots := 0, locals := 129 }
def P_X1_findFit_48 (Q : Int32 → HS → Prop) (X6 : Nat → Nat → Int32 → Int32 → Int32 → HS → Prop) (v0 : Nat) (v1 : Nat) (v2 : Int32) (v4 : Int32) (v5 : Int32) (S : HS) : Prop := ∀ x1 : Int32, x1 = v5 + (1 : Int32) → (X6 v0 v1 v2 v4 x1 S)
set_option maxRecDepth 20000 in
set_option maxHeartbeats 4000000 in
theorem T_X1_findFit_48 {X : CX} {Q : Int32 → HS → Prop} (C : Cx X cX1_findFit RX1 7 rm_X1_findFit) (E : ReI X rm_X1_findFit Q) (ht : (xh X).sig.returnType = (some .int)) (hn : (xh X).name = yX1_findFit.name) {X6 : Nat → Nat → Int32 → Int32 → Int32 → HS → Prop} (hX6 : ∀ (v0 : Nat) (v1 : Nat) (v2 : Int32) (v4 : Int32) (v5 : Int32) (S : HS), X6 v0 v1 v2 v4 v5 S → WS X 7 0 0 6 [(0, .ref v0), (1, .ref v1), (2, .int v2), (4, .int v4), (5, .int v5)] [] S) {v0 : Nat} {v1 : Nat} {v2 : Int32} {v4 : Int32} {v5 : Int32} {S : HS} (h : P_X1_findFit_48 Q X6 v0 v1 v2 v4 v5 S) : WS X 7 0 0 48 [(0, .ref v0), (1, .ref v1), (2, .int v2), (4, .int v4), (5, .int v5)] [] S := by
  obtain ⟨x1, ex1⟩ : ∃ z : Int32, z = v5 + (1 : Int32) := ⟨_, rfl⟩
  have h := h x1 ex1
  refine r_iinc (pc := 48) C (v := x1) (lv' := [(5, .int x1), (0, .ref v0), (1, .ref v1), (2, .int v2), (4, .int v4)]) dX1_findFit_48 4 rfl ex1.symm (by decide) rfl ?_
  refine r_goto (pc := 51) C (tgt := 6) dX1_findFit_51 (by decide) ?_
  exact r_sub [1, 2, 3, 4, 0] rfl (hX6 v0 v1 v2 v4 x1 S h)
def P_X1_findFit_39 (Q : Int32 → HS → Prop) (X6 : Nat → Nat → Int32 → Int32 → Int32 → HS → Prop) (v0 : Nat) (v1 : Nat) (v2 : Int32) (v4 : Int32) (v5 : Int32) (v6 : Int32) (S : HS) : Prop := ((v6 = (-1 : Int32)) → (P_X1_findFit_48 Q X6 v0 v1 v2 v4 v5 S)) ∧ ((¬ v6 = (-1 : Int32)) → (∀ x2 : Int32, x2 = v4 + (-1 : Int32) → (P_X1_findFit_48 Q X6 v0 v1 v2 x2 v5 S)))
set_option maxRecDepth 20000 in
set_option maxHeartbeats 4000000 in
theorem T_X1_findFit_39 {X : CX} {Q : Int32 → HS → Prop} (C : Cx X cX1_findFit RX1 7 rm_X1_findFit) (E : ReI X rm_X1_findFit Q) (ht : (xh X).sig.returnType = (some .int)) (hn : (xh X).name = yX1_findFit.name) {X6 : Nat → Nat → Int32 → Int32 → Int32 → HS → Prop} (hX6 : ∀ (v0 : Nat) (v1 : Nat) (v2 : Int32) (v4 : Int32) (v5 : Int32) (S : HS), X6 v0 v1 v2 v4 v5 S → WS X 7 0 0 6 [(0, .ref v0), (1, .ref v1), (2, .int v2), (4, .int v4), (5, .int v5)] [] S) {v0 : Nat} {v1 : Nat} {v2 : Int32} {v4 : Int32} {v5 : Int32} {v6 : Int32} {S : HS} (h : P_X1_findFit_39 Q X6 v0 v1 v2 v4 v5 v6 S) : WS X 7 0 0 39 [(0, .ref v0), (1, .ref v1), (2, .int v2), (4, .int v4), (5, .int v5), (6, .int v6)] [] S := by
  refine r_iload (pc := 39) C dX1_findFit_39 5 rfl ?_
  refine r_iconst (pc := 41) C (v := (-1 : Int32)) dX1_findFit_41 (by decide) ?_
  refine r_icmp_eq (pc := 42) C (tgt := 48) dX1_findFit_42 (by decide) (fun c1 => ?_) (fun c1 => ?_)
  · have h := h.1 c1
    exact r_sub [0, 1, 2, 3, 4] rfl (T_X1_findFit_48 C E ht hn hX6 h)
  · have h := h.2 c1
    obtain ⟨x2, ex2⟩ : ∃ z : Int32, z = v4 + (-1 : Int32) := ⟨_, rfl⟩
    have h := h x2 ex2
    refine r_iinc (pc := 45) C (v := x2) (lv' := [(4, .int x2), (0, .ref v0), (1, .ref v1), (2, .int v2), (5, .int v5), (6, .int v6)]) dX1_findFit_45 3 rfl ex2.symm (by decide) rfl ?_
    exact r_sub [1, 2, 3, 0, 4] rfl (T_X1_findFit_48 C E ht hn hX6 h)
def B_X1_findFit_6 (Q : Int32 → HS → Prop) (X6 : Nat → Nat → Int32 → Int32 → Int32 → HS → Prop) (v0 : Nat) (v1 : Nat) (v2 : Int32) (v4 : Int32) (v5 : Int32) (S : HS) : Prop := P_X1_legsOf v1 (fun x3 S1 => Gr S S1 → (((x3 ≤ v5) → (Q (-1 : Int32) S1)) ∧ ((¬ x3 ≤ v5) → (ob S1 v0 1 ∧ (P_X1_fitCode v0 v1 v2 v5 (fun x7 S5 => Gr S1 S5 → (((x7 = (-1 : Int32)) → (P_X1_findFit_39 Q X6 v0 v1 v2 v4 v5 x7 S5)) ∧ ((¬ x7 = (-1 : Int32)) → (((¬ v4 = 0) → (P_X1_findFit_39 Q X6 v0 v1 v2 v4 v5 x7 S5)) ∧ ((v4 = 0) → (Q x7 S5)))))) S1))))) S
def P_X1_findFit_6 (Q : Int32 → HS → Prop) (v0 : Nat) (v1 : Nat) (v2 : Int32) (v4 : Int32) (v5 : Int32) (S : HS) : Prop := ∀ X6 : Nat → Nat → Int32 → Int32 → Int32 → HS → Prop, (∀ (v0 : Nat) (v1 : Nat) (v2 : Int32) (v4 : Int32) (v5 : Int32) (S : HS), B_X1_findFit_6 Q X6 v0 v1 v2 v4 v5 S → X6 v0 v1 v2 v4 v5 S) → X6 v0 v1 v2 v4 v5 S
set_option maxRecDepth 20000 in
set_option maxHeartbeats 4000000 in
theorem TB_X1_findFit_6 {X : CX} {Q : Int32 → HS → Prop} (C : Cx X cX1_findFit RX1 7 rm_X1_findFit) (E : ReI X rm_X1_findFit Q) (ht : (xh X).sig.returnType = (some .int)) (hn : (xh X).name = yX1_findFit.name) {X6 : Nat → Nat → Int32 → Int32 → Int32 → HS → Prop} (hX6 : ∀ (v0 : Nat) (v1 : Nat) (v2 : Int32) (v4 : Int32) (v5 : Int32) (S : HS), X6 v0 v1 v2 v4 v5 S → WS X 7 0 0 6 [(0, .ref v0), (1, .ref v1), (2, .int v2), (4, .int v4), (5, .int v5)] [] S) {v0 : Nat} {v1 : Nat} {v2 : Int32} {v4 : Int32} {v5 : Int32} {S : HS} (h : B_X1_findFit_6 Q X6 v0 v1 v2 v4 v5 S) : WS X 7 0 0 6 [(0, .ref v0), (1, .ref v1), (2, .int v2), (4, .int v4), (5, .int v5)] [] S := by
  refine r_iload (pc := 6) C dX1_findFit_6 4 rfl ?_
  refine r_aload_n (pc := 8) C dX1_findFit_8 1 rfl ?_
  refine r_callSi0 (pc := 9) C (rest := [.int v5]) rfl [.ref v1] yS_X1_legsOf g_937 (c_X1_legsOf h) dX1_findFit_9 rfl rfl (Nat.le_of_ble_eq_true rfl) ⟨by decide, by decide⟩ ⟨by decide, by decide⟩ ⟨rfl, rfl⟩ (fun x3 S1 h g2 => ?_)
  have h := h g2
  refine r_icmp_ge (pc := 12) C (tgt := 54) dX1_findFit_12 (by decide) (fun c4 => ?_) (fun c4 => ?_)
  · have h := h.1 c4
    refine r_iconst (pc := 54) C (v := (-1 : Int32)) dX1_findFit_54 (by decide) ?_
    exact r_iret (pc := 55) C E ht dX1_findFit_55 (by decide) (by decide) h
  · have h := h.2 c4
    refine r_aload_n (pc := 15) C dX1_findFit_15 0 rfl ?_
    refine r_aload_n (pc := 16) C dX1_findFit_16 1 rfl ?_
    refine r_iload_n (pc := 17) C dX1_findFit_17 2 rfl ?_
    refine r_iload (pc := 18) C dX1_findFit_18 4 rfl ?_
    obtain ⟨o_v0, h⟩ := h
    refine r_callVi0 (pc := 20) C (rest := []) (a := v0) o_v0 [.ref v1, .int v2, .int v5] yV_X1_fitCode g_940 (c_X1_fitCode h) dX1_findFit_20 rfl rfl (Nat.le_of_ble_eq_true rfl) ⟨by decide, by decide⟩ ⟨by decide, by decide⟩ ⟨rfl, rfl⟩ (fun x7 S5 h g6 => ?_)
    have h := h g6
    have o_v0 := gr_ob g6 o_v0
    refine r_istore (pc := 23) C dX1_findFit_23 (by decide) (lv' := [(6, .int x7), (0, .ref v0), (1, .ref v1), (2, .int v2), (4, .int v4), (5, .int v5)]) rfl ?_
    refine r_iload (pc := 25) C dX1_findFit_25 0 rfl ?_
    refine r_iconst (pc := 27) C (v := (-1 : Int32)) dX1_findFit_27 (by decide) ?_
    refine r_icmp_eq (pc := 28) C (tgt := 39) dX1_findFit_28 (by decide) (fun c8 => ?_) (fun c8 => ?_)
    · have h := h.1 c8
      exact r_sub [1, 2, 3, 4, 5, 0] rfl (T_X1_findFit_39 C E ht hn hX6 h)
    · have h := h.2 c8
      refine r_iload (pc := 31) C dX1_findFit_31 4 rfl ?_
      refine r_if_ne (pc := 33) C (tgt := 39) dX1_findFit_33 (by decide) (fun c9 => ?_) (fun c9 => ?_)
      · have h := h.1 c9
        exact r_sub [1, 2, 3, 4, 5, 0] rfl (T_X1_findFit_39 C E ht hn hX6 h)
      · have h := h.2 c9
        refine r_iload (pc := 36) C dX1_findFit_36 0 rfl ?_
        exact r_iret (pc := 38) C E ht dX1_findFit_38 (by decide) (by decide) h
theorem T_X1_findFit_6 {X : CX} {Q : Int32 → HS → Prop} (C : Cx X cX1_findFit RX1 7 rm_X1_findFit) (E : ReI X rm_X1_findFit Q) (ht : (xh X).sig.returnType = (some .int)) (hn : (xh X).name = yX1_findFit.name) {v0 : Nat} {v1 : Nat} {v2 : Int32} {v4 : Int32} {v5 : Int32} {S : HS} (h : P_X1_findFit_6 Q v0 v1 v2 v4 v5 S) : WS X 7 0 0 6 [(0, .ref v0), (1, .ref v1), (2, .int v2), (4, .int v4), (5, .int v5)] [] S :=
  h (fun v0 v1 v2 v4 v5 S => WS X 7 0 0 6 [(0, .ref v0), (1, .ref v1), (2, .int v2), (4, .int v4), (5, .int v5)] [] S) (fun v0 v1 v2 v4 v5 S hh => TB_X1_findFit_6 C E ht hn (fun v0 v1 v2 v4 v5 S z => z) hh)
def P_X1_findFit_0 (Q : Int32 → HS → Prop) (v0 : Nat) (v1 : Nat) (v2 : Int32) (v3 : Int32) (S : HS) : Prop := P_X1_findFit_6 Q v0 v1 v2 v3 (0 : Int32) S
set_option maxRecDepth 20000 in
set_option maxHeartbeats 4000000 in
theorem T_X1_findFit_0 {X : CX} {Q : Int32 → HS → Prop} (C : Cx X cX1_findFit RX1 7 rm_X1_findFit) (E : ReI X rm_X1_findFit Q) (ht : (xh X).sig.returnType = (some .int)) (hn : (xh X).name = yX1_findFit.name) {v0 : Nat} {v1 : Nat} {v2 : Int32} {v3 : Int32} {S : HS} (h : P_X1_findFit_0 Q v0 v1 v2 v3 S) : WS X 7 0 0 0 [(0, .ref v0), (1, .ref v1), (2, .int v2), (3, .int v3)] [] S := by
  refine r_iload_n (pc := 0) C dX1_findFit_0 3 rfl ?_
  refine r_istore (pc := 1) C dX1_findFit_1 (by decide) (lv' := [(4, .int v3), (0, .ref v0), (1, .ref v1), (2, .int v2), (3, .int v3)]) rfl ?_
  refine r_iconst (pc := 3) C (v := (0 : Int32)) dX1_findFit_3 (by decide) ?_
  refine r_istore (pc := 4) C dX1_findFit_4 (by decide) (lv' := [(5, .int (0 : Int32)), (4, .int v3), (0, .ref v0), (1, .ref v1), (2, .int v2), (3, .int v3)]) rfl ?_
  exact r_sub [2, 3, 4, 1, 0] rfl (T_X1_findFit_6 C E ht hn h)
def P_X1_findFit (v0 : Nat) (v1 : Nat) (v2 : Int32) (v3 : Int32) (Q : Int32 → HS → Prop) (S : HS) : Prop := P_X1_findFit_0 Q v0 v1 v2 v3 S
theorem c_X1_findFit {l : Launch} {Ee : EE} {S : HS} {v0 : Nat} {v1 : Nat} {v2 : Int32} {v3 : Int32} {Q : Int32 → HS → Prop} (h : P_X1_findFit v0 v1 v2 v3 Q S) : MI l yX1_findFit cX1_findFit 7 (some .int) rm_X1_findFit Ee S [.ref v0, .ref v1, .int v2, .int v3] Q :=
  openI (by decide) (Nat.le_of_ble_eq_true rfl) (fun X C E ht hn hE hl => by subst hE; exact r_sub [0, 1, 2, 3] rfl (T_X1_findFit_0 C E ht hn h))
def rm_X1_init : Room := { frames := 1, cells := 2, slots := 10, locals := 20 }
def P_X1_init_0 (Q : HS → Prop) (v0 : Nat) (S : HS) : Prop := ∀ a1 : Nat, a1 ∉ hL S → ∀ S2 : HS, S2 = nW S a1 14 5 → (ob S2 v0 1 ∧ (∀ S3 : HS, S3 = sR S2 v0 0 (some a1) → (∀ a4 : Nat, a4 ∉ hL S3 → ∀ S5 : HS, S5 = nW S3 a4 14 5 → (∀ S6 : HS, S6 = sR S5 v0 1 (some a4) → (Q S6)))))
set_option maxRecDepth 20000 in
set_option maxHeartbeats 4000000 in
theorem T_X1_init_0 {X : CX} {Q : HS → Prop} (C : Cx X cX1_init RX1 1 rm_X1_init) (E : ReV X rm_X1_init Q) (ht : (xh X).sig.returnType = none) (hn : (xh X).name = yX1_init.name) {v0 : Nat} {S : HS} (h : P_X1_init_0 Q v0 S) : WS X 1 0 0 0 [(0, .ref v0)] [] S := by
  refine r_aload_n (pc := 0) C dX1_init_0 0 rfl ?_
  refine r_objinit (pc := 1) C g_272 dX1_init_1 (by decide) (Nat.le_of_ble_eq_true rfl) ?_
  refine r_aload_n (pc := 4) C dX1_init_4 0 rfl ?_
  refine r_iconst (pc := 5) C (v := (5 : Int32)) dX1_init_5 (by decide) ?_
  refine r_newa14 (pc := 6) C (N := 5) g_266 dX1_init_6 (by decide) (by decide) (by decide) (by decide) (by decide) (fun a1 q9 => ?_)
  refine r_heap (fun S2 eS2 => ?_)
  have h := h a1 q9 S2 eS2
  have g10 := gr_of_new eS2 q9
  have o_a1 := ob_of_new eS2
  obtain ⟨o_v0, h⟩ := h
  refine r_putFr (pc := 8) C pfL_X1_9 hn dX1_init_8 o_v0 ?_
  refine r_heap (fun S3 eS3 => ?_)
  have h := h S3 eS3
  have o_a1 := ob_R eS3 o_a1
  have o_v0 := ob_R eS3 o_v0
  refine r_aload_n (pc := 11) C dX1_init_11 0 rfl ?_
  refine r_iconst (pc := 12) C (v := (5 : Int32)) dX1_init_12 (by decide) ?_
  refine r_newa14 (pc := 13) C (N := 5) g_266 dX1_init_13 (by decide) (by decide) (by decide) (by decide) (by decide) (fun a4 q7 => ?_)
  refine r_heap (fun S5 eS5 => ?_)
  have h := h a4 q7 S5 eS5
  have g8 := gr_of_new eS5 q7
  have o_a4 := ob_of_new eS5
  have o_a1 := gr_ob g8 o_a1
  have o_v0 := gr_ob g8 o_v0
  refine r_putFr (pc := 15) C pfL_X1_15 hn dX1_init_15 o_v0 ?_
  refine r_heap (fun S6 eS6 => ?_)
  have h := h S6 eS6
  have o_a1 := ob_R eS6 o_a1
  have o_a4 := ob_R eS6 o_a4
  have o_v0 := ob_R eS6 o_v0
  exact r_vret (pc := 18) C E ht dX1_init_18 (by decide) (by decide) h
def P_X1_init (v0 : Nat) (Q : HS → Prop) (S : HS) : Prop := P_X1_init_0 Q v0 S
theorem c_X1_init {l : Launch} {Ee : EE} {S : HS} {v0 : Nat} {Q : HS → Prop} (h : P_X1_init v0 Q S) : MV l yX1_init cX1_init 1 none rm_X1_init Ee S [.ref v0] Q :=
  openV (by decide) (Nat.le_of_ble_eq_true rfl) (fun X C E ht hn hE hl => by subst hE; exact r_sub [0] rfl (T_X1_init_0 C E ht hn h))
def rm_X1_leastWet : Room := { frames := 5, cells := 0, slots := 0, locals := 131 }
def P_X1_leastWet_0 (Q : Int64 → HS → Prop) (v0 : Nat) (v1 : Nat) (v2 : Nat) (v3 : Int32) (v4 : Nat) (S : HS) : Prop := ob S v0 1 ∧ (P_X1_bestSpeed v0 v1 v2 v3 v4 (fun x3 S1 => Gr S S1 → (P_X1_wetOf v0 v1 v2 v3 v4 x3 (fun x6 S4 => Gr S1 S4 → (Q x6 S4)) S1)) S)
set_option maxRecDepth 20000 in
set_option maxHeartbeats 4000000 in
theorem T_X1_leastWet_0 {X : CX} {Q : Int64 → HS → Prop} (C : Cx X cX1_leastWet RX1 5 rm_X1_leastWet) (E : ReJ X rm_X1_leastWet Q) (ht : (xh X).sig.returnType = (some .long)) (hn : (xh X).name = yX1_leastWet.name) {v0 : Nat} {v1 : Nat} {v2 : Nat} {v3 : Int32} {v4 : Nat} {S : HS} (h : P_X1_leastWet_0 Q v0 v1 v2 v3 v4 S) : WS X 5 0 0 0 [(0, .ref v0), (1, .ref v1), (2, .ref v2), (3, .int v3), (4, .ref v4)] [] S := by
  refine r_aload_n (pc := 0) C dX1_leastWet_0 0 rfl ?_
  refine r_aload_n (pc := 1) C dX1_leastWet_1 1 rfl ?_
  refine r_aload_n (pc := 2) C dX1_leastWet_2 2 rfl ?_
  refine r_iload_n (pc := 3) C dX1_leastWet_3 3 rfl ?_
  refine r_aload (pc := 4) C dX1_leastWet_4 4 rfl ?_
  refine r_aload_n (pc := 6) C dX1_leastWet_6 0 rfl ?_
  refine r_aload_n (pc := 7) C dX1_leastWet_7 1 rfl ?_
  refine r_aload_n (pc := 8) C dX1_leastWet_8 2 rfl ?_
  refine r_iload_n (pc := 9) C dX1_leastWet_9 3 rfl ?_
  refine r_aload (pc := 10) C dX1_leastWet_10 4 rfl ?_
  obtain ⟨o_v0, h⟩ := h
  refine r_callVi0 (pc := 12) C (rest := [.ref v4, .int v3, .ref v2, .ref v1, .ref v0]) (a := v0) o_v0 [.ref v1, .ref v2, .int v3, .ref v4] yV_X1_bestSpeed g_774 (c_X1_bestSpeed h) dX1_leastWet_12 rfl rfl (Nat.le_of_ble_eq_true rfl) ⟨by decide, by decide⟩ ⟨by decide, by decide⟩ ⟨rfl, rfl⟩ (fun x3 S1 h g2 => ?_)
  have h := h g2
  have o_v0 := gr_ob g2 o_v0
  refine r_callVl0 (pc := 15) C (rest := []) (a := v0) o_v0 [.ref v1, .ref v2, .int v3, .ref v4, .int x3] yV_X1_wetOf g_765 (c_X1_wetOf h) dX1_leastWet_15 rfl rfl (Nat.le_of_ble_eq_true rfl) ⟨by decide, by decide⟩ ⟨by decide, by decide⟩ ⟨rfl, rfl⟩ (fun x6 S4 h g5 => ?_)
  have h := h g5
  have o_v0 := gr_ob g5 o_v0
  exact r_lret (pc := 18) C E ht dX1_leastWet_18 (by decide) (by decide) h
def P_X1_leastWet (v0 : Nat) (v1 : Nat) (v2 : Nat) (v3 : Int32) (v4 : Nat) (Q : Int64 → HS → Prop) (S : HS) : Prop := P_X1_leastWet_0 Q v0 v1 v2 v3 v4 S
theorem c_X1_leastWet {l : Launch} {Ee : EE} {S : HS} {v0 : Nat} {v1 : Nat} {v2 : Nat} {v3 : Int32} {v4 : Nat} {Q : Int64 → HS → Prop} (h : P_X1_leastWet v0 v1 v2 v3 v4 Q S) : MJ l yX1_leastWet cX1_leastWet 5 (some .long) rm_X1_leastWet Ee S [.ref v0, .ref v1, .ref v2, .int v3, .ref v4] Q :=
  openJ (by decide) (Nat.le_of_ble_eq_true rfl) (fun X C E ht hn hE hl => by subst hE; exact r_sub [0, 1, 2, 3, 4] rfl (T_X1_leastWet_0 C E ht hn h))
def rm_X1_wetInLee : Room := { frames := 3, cells := 0, slots := 0, locals := 74 }
def P_X1_wetInLee_0 (Q : Int64 → HS → Prop) (v0 : Nat) (v1 : Nat) (v2 : Nat) (S : HS) : Prop := ob S v2 6 ∧ (∀ x1 : Int32, x1 = fI S v2 3 → (ob S v0 1 ∧ (P_X1_soak v0 v1 (0 : Int32) x1 (fun x4 S2 => Gr S S2 → (ob S2 v1 6 ∧ (∀ x5 : Int32, x5 = fI S2 v1 3 → (P_X1_soak v0 v2 x5 (0 : Int32) (fun x8 S6 => Gr S2 S6 → (Q (x4 + x8) S6)) S2)))) S)))
set_option maxRecDepth 20000 in
set_option maxHeartbeats 4000000 in
theorem T_X1_wetInLee_0 {X : CX} {Q : Int64 → HS → Prop} (C : Cx X cX1_wetInLee RX1 3 rm_X1_wetInLee) (E : ReJ X rm_X1_wetInLee Q) (ht : (xh X).sig.returnType = (some .long)) (hn : (xh X).name = yX1_wetInLee.name) {v0 : Nat} {v1 : Nat} {v2 : Nat} {S : HS} (h : P_X1_wetInLee_0 Q v0 v1 v2 S) : WS X 3 0 0 0 [(0, .ref v0), (1, .ref v1), (2, .ref v2)] [] S := by
  refine r_aload_n (pc := 0) C dX1_wetInLee_0 0 rfl ?_
  refine r_aload_n (pc := 1) C dX1_wetInLee_1 1 rfl ?_
  refine r_iconst (pc := 2) C (v := (0 : Int32)) dX1_wetInLee_2 (by decide) ?_
  refine r_aload_n (pc := 3) C dX1_wetInLee_3 2 rfl ?_
  obtain ⟨o_v2, h⟩ := h
  refine r_geti (pc := 4) C fL_X1_63 dX1_wetInLee_4 o_v2 ?_
  refine r_topi (fun x1 ex1 => ?_)
  have h := h x1 ex1
  obtain ⟨o_v0, h⟩ := h
  refine r_callVl0 (pc := 7) C (rest := []) (a := v0) o_v0 [.ref v1, .int (0 : Int32), .int x1] yV_X1_soak g_708 (c_X1_soak h) dX1_wetInLee_7 rfl rfl (Nat.le_of_ble_eq_true rfl) ⟨by decide, by decide⟩ ⟨by decide, by decide⟩ ⟨rfl, rfl⟩ (fun x4 S2 h g3 => ?_)
  have h := h g3
  have o_v0 := gr_ob g3 o_v0
  have o_v2 := gr_ob g3 o_v2
  refine r_aload_n (pc := 10) C dX1_wetInLee_10 0 rfl ?_
  refine r_aload_n (pc := 11) C dX1_wetInLee_11 2 rfl ?_
  refine r_aload_n (pc := 12) C dX1_wetInLee_12 1 rfl ?_
  obtain ⟨o_v1, h⟩ := h
  refine r_geti (pc := 13) C fL_X1_63 dX1_wetInLee_13 o_v1 ?_
  refine r_topi (fun x5 ex5 => ?_)
  have h := h x5 ex5
  refine r_iconst (pc := 16) C (v := (0 : Int32)) dX1_wetInLee_16 (by decide) ?_
  refine r_callVl0 (pc := 17) C (rest := [.long x4]) (a := v0) o_v0 [.ref v2, .int x5, .int (0 : Int32)] yV_X1_soak g_708 (c_X1_soak h) dX1_wetInLee_17 rfl rfl (Nat.le_of_ble_eq_true rfl) ⟨by decide, by decide⟩ ⟨by decide, by decide⟩ ⟨rfl, rfl⟩ (fun x8 S6 h g7 => ?_)
  have h := h g7
  have o_v0 := gr_ob g7 o_v0
  have o_v1 := gr_ob g7 o_v1
  have o_v2 := gr_ob g7 o_v2
  refine r_ladd (pc := 20) C dX1_wetInLee_20 ?_
  exact r_lret (pc := 21) C E ht dX1_wetInLee_21 (by decide) (by decide) h
def P_X1_wetInLee (v0 : Nat) (v1 : Nat) (v2 : Nat) (Q : Int64 → HS → Prop) (S : HS) : Prop := P_X1_wetInLee_0 Q v0 v1 v2 S
theorem c_X1_wetInLee {l : Launch} {Ee : EE} {S : HS} {v0 : Nat} {v1 : Nat} {v2 : Nat} {Q : Int64 → HS → Prop} (h : P_X1_wetInLee v0 v1 v2 Q S) : MJ l yX1_wetInLee cX1_wetInLee 3 (some .long) rm_X1_wetInLee Ee S [.ref v0, .ref v1, .ref v2] Q :=
  openJ (by decide) (Nat.le_of_ble_eq_true rfl) (fun X C E ht hn hE hl => by subst hE; exact r_sub [0, 1, 2] rfl (T_X1_wetInLee_0 C E ht hn h))
def rm_X1_worstSpeed : Room := { frames := 4, cells := 0, slots := 0, locals := 101 }
def P_X1_worstSpeed_55 (Q : Int32 → HS → Prop) (X17 : Nat → Nat → Nat → Int32 → Nat → Int32 → Int64 → Int32 → HS → Prop) (v0 : Nat) (v1 : Nat) (v2 : Nat) (v3 : Int32) (v4 : Nat) (v5 : Int32) (v6 : Int64) (v8 : Int32) (S : HS) : Prop := ∀ x1 : Int32, x1 = v8 + (1 : Int32) → (X17 v0 v1 v2 v3 v4 v5 v6 x1 S)
set_option maxRecDepth 20000 in
set_option maxHeartbeats 4000000 in
theorem T_X1_worstSpeed_55 {X : CX} {Q : Int32 → HS → Prop} (C : Cx X cX1_worstSpeed RX1 11 rm_X1_worstSpeed) (E : ReI X rm_X1_worstSpeed Q) (ht : (xh X).sig.returnType = (some .int)) (hn : (xh X).name = yX1_worstSpeed.name) {X17 : Nat → Nat → Nat → Int32 → Nat → Int32 → Int64 → Int32 → HS → Prop} (hX17 : ∀ (v0 : Nat) (v1 : Nat) (v2 : Nat) (v3 : Int32) (v4 : Nat) (v5 : Int32) (v6 : Int64) (v8 : Int32) (S : HS), X17 v0 v1 v2 v3 v4 v5 v6 v8 S → WS X 11 0 0 17 [(0, .ref v0), (1, .ref v1), (2, .ref v2), (3, .int v3), (4, .ref v4), (5, .int v5), (6, .long v6), (8, .int v8)] [] S) {v0 : Nat} {v1 : Nat} {v2 : Nat} {v3 : Int32} {v4 : Nat} {v5 : Int32} {v6 : Int64} {v8 : Int32} {S : HS} (h : P_X1_worstSpeed_55 Q X17 v0 v1 v2 v3 v4 v5 v6 v8 S) : WS X 11 0 0 55 [(0, .ref v0), (1, .ref v1), (2, .ref v2), (3, .int v3), (4, .ref v4), (5, .int v5), (6, .long v6), (8, .int v8)] [] S := by
  obtain ⟨x1, ex1⟩ : ∃ z : Int32, z = v8 + (1 : Int32) := ⟨_, rfl⟩
  have h := h x1 ex1
  refine r_iinc (pc := 55) C (v := x1) (lv' := [(8, .int x1), (0, .ref v0), (1, .ref v1), (2, .ref v2), (3, .int v3), (4, .ref v4), (5, .int v5), (6, .long v6)]) dX1_worstSpeed_55 7 rfl ex1.symm (by decide) rfl ?_
  refine r_goto (pc := 58) C (tgt := 17) dX1_worstSpeed_58 (by decide) ?_
  exact r_sub [1, 2, 3, 4, 5, 6, 7, 0] rfl (hX17 v0 v1 v2 v3 v4 v5 v6 x1 S h)
def B_X1_worstSpeed_17 (Q : Int32 → HS → Prop) (X17 : Nat → Nat → Nat → Int32 → Nat → Int32 → Int64 → Int32 → HS → Prop) (v0 : Nat) (v1 : Nat) (v2 : Nat) (v3 : Int32) (v4 : Nat) (v5 : Int32) (v6 : Int64) (v8 : Int32) (S : HS) : Prop := ob S v1 6 ∧ (∀ x1 : Int32, x1 = fI S v1 6 → (((x1 < v8) → (Q v5 S)) ∧ ((¬ x1 < v8) → (ob S v0 1 ∧ (P_X1_wetOf v0 v1 v2 v3 v4 v8 (fun x5 S3 => Gr S S3 → ((((lg_cmp x5 v6) ≤ 0) → (P_X1_worstSpeed_55 Q X17 v0 v1 v2 v3 v4 v5 v6 v8 S3)) ∧ ((¬ (lg_cmp x5 v6) ≤ 0) → (P_X1_worstSpeed_55 Q X17 v0 v1 v2 v3 v4 v8 x5 v8 S3)))) S)))))
def P_X1_worstSpeed_17 (Q : Int32 → HS → Prop) (v0 : Nat) (v1 : Nat) (v2 : Nat) (v3 : Int32) (v4 : Nat) (v5 : Int32) (v6 : Int64) (v8 : Int32) (S : HS) : Prop := ∀ X17 : Nat → Nat → Nat → Int32 → Nat → Int32 → Int64 → Int32 → HS → Prop, (∀ (v0 : Nat) (v1 : Nat) (v2 : Nat) (v3 : Int32) (v4 : Nat) (v5 : Int32) (v6 : Int64) (v8 : Int32) (S : HS), B_X1_worstSpeed_17 Q X17 v0 v1 v2 v3 v4 v5 v6 v8 S → X17 v0 v1 v2 v3 v4 v5 v6 v8 S) → X17 v0 v1 v2 v3 v4 v5 v6 v8 S
set_option maxRecDepth 20000 in
set_option maxHeartbeats 4000000 in
theorem TB_X1_worstSpeed_17 {X : CX} {Q : Int32 → HS → Prop} (C : Cx X cX1_worstSpeed RX1 11 rm_X1_worstSpeed) (E : ReI X rm_X1_worstSpeed Q) (ht : (xh X).sig.returnType = (some .int)) (hn : (xh X).name = yX1_worstSpeed.name) {X17 : Nat → Nat → Nat → Int32 → Nat → Int32 → Int64 → Int32 → HS → Prop} (hX17 : ∀ (v0 : Nat) (v1 : Nat) (v2 : Nat) (v3 : Int32) (v4 : Nat) (v5 : Int32) (v6 : Int64) (v8 : Int32) (S : HS), X17 v0 v1 v2 v3 v4 v5 v6 v8 S → WS X 11 0 0 17 [(0, .ref v0), (1, .ref v1), (2, .ref v2), (3, .int v3), (4, .ref v4), (5, .int v5), (6, .long v6), (8, .int v8)] [] S) {v0 : Nat} {v1 : Nat} {v2 : Nat} {v3 : Int32} {v4 : Nat} {v5 : Int32} {v6 : Int64} {v8 : Int32} {S : HS} (h : B_X1_worstSpeed_17 Q X17 v0 v1 v2 v3 v4 v5 v6 v8 S) : WS X 11 0 0 17 [(0, .ref v0), (1, .ref v1), (2, .ref v2), (3, .int v3), (4, .ref v4), (5, .int v5), (6, .long v6), (8, .int v8)] [] S := by
  refine r_iload (pc := 17) C dX1_worstSpeed_17 7 rfl ?_
  refine r_aload_n (pc := 19) C dX1_worstSpeed_19 1 rfl ?_
  obtain ⟨o_v1, h⟩ := h
  refine r_geti (pc := 20) C fL_X1_86 dX1_worstSpeed_20 o_v1 ?_
  refine r_topi (fun x1 ex1 => ?_)
  have h := h x1 ex1
  refine r_icmp_gt (pc := 23) C (tgt := 61) dX1_worstSpeed_23 (by decide) (fun c2 => ?_) (fun c2 => ?_)
  · have h := h.1 c2
    refine r_iload (pc := 61) C dX1_worstSpeed_61 5 rfl ?_
    exact r_iret (pc := 63) C E ht dX1_worstSpeed_63 (by decide) (by decide) h
  · have h := h.2 c2
    refine r_aload_n (pc := 26) C dX1_worstSpeed_26 0 rfl ?_
    refine r_aload_n (pc := 27) C dX1_worstSpeed_27 1 rfl ?_
    refine r_aload_n (pc := 28) C dX1_worstSpeed_28 2 rfl ?_
    refine r_iload_n (pc := 29) C dX1_worstSpeed_29 3 rfl ?_
    refine r_aload (pc := 30) C dX1_worstSpeed_30 4 rfl ?_
    refine r_iload (pc := 32) C dX1_worstSpeed_32 7 rfl ?_
    obtain ⟨o_v0, h⟩ := h
    refine r_callVl0 (pc := 34) C (rest := []) (a := v0) o_v0 [.ref v1, .ref v2, .int v3, .ref v4, .int v8] yV_X1_wetOf g_765 (c_X1_wetOf h) dX1_worstSpeed_34 rfl rfl (Nat.le_of_ble_eq_true rfl) ⟨by decide, by decide⟩ ⟨by decide, by decide⟩ ⟨rfl, rfl⟩ (fun x5 S3 h g4 => ?_)
    have h := h g4
    have o_v0 := gr_ob g4 o_v0
    have o_v1 := gr_ob g4 o_v1
    refine r_lstore (pc := 37) C dX1_worstSpeed_37 (by decide) (lv' := [(9, .long x5), (0, .ref v0), (1, .ref v1), (2, .ref v2), (3, .int v3), (4, .ref v4), (5, .int v5), (6, .long v6), (8, .int v8)]) rfl ?_
    refine r_lload (pc := 39) C dX1_worstSpeed_39 0 rfl ?_
    refine r_lload (pc := 41) C dX1_worstSpeed_41 7 rfl ?_
    refine r_lcmp (pc := 43) C dX1_worstSpeed_43 ?_
    refine r_if_le (pc := 44) C (tgt := 55) dX1_worstSpeed_44 (by decide) (fun c6 => ?_) (fun c6 => ?_)
    · have h := h.1 c6
      exact r_sub [1, 2, 3, 4, 5, 6, 7, 8] rfl (T_X1_worstSpeed_55 C E ht hn hX17 h)
    · have h := h.2 c6
      refine r_lload (pc := 47) C dX1_worstSpeed_47 0 rfl ?_
      refine r_lstore (pc := 49) C dX1_worstSpeed_49 (by decide) (lv' := [(6, .long x5), (9, .long x5), (0, .ref v0), (1, .ref v1), (2, .ref v2), (3, .int v3), (4, .ref v4), (5, .int v5), (8, .int v8)]) rfl ?_
      refine r_iload (pc := 51) C dX1_worstSpeed_51 8 rfl ?_
      refine r_istore (pc := 53) C dX1_worstSpeed_53 (by decide) (lv' := [(5, .int v8), (6, .long x5), (9, .long x5), (0, .ref v0), (1, .ref v1), (2, .ref v2), (3, .int v3), (4, .ref v4), (8, .int v8)]) rfl ?_
      exact r_sub [3, 4, 5, 6, 7, 0, 1, 8] rfl (T_X1_worstSpeed_55 C E ht hn hX17 h)
theorem T_X1_worstSpeed_17 {X : CX} {Q : Int32 → HS → Prop} (C : Cx X cX1_worstSpeed RX1 11 rm_X1_worstSpeed) (E : ReI X rm_X1_worstSpeed Q) (ht : (xh X).sig.returnType = (some .int)) (hn : (xh X).name = yX1_worstSpeed.name) {v0 : Nat} {v1 : Nat} {v2 : Nat} {v3 : Int32} {v4 : Nat} {v5 : Int32} {v6 : Int64} {v8 : Int32} {S : HS} (h : P_X1_worstSpeed_17 Q v0 v1 v2 v3 v4 v5 v6 v8 S) : WS X 11 0 0 17 [(0, .ref v0), (1, .ref v1), (2, .ref v2), (3, .int v3), (4, .ref v4), (5, .int v5), (6, .long v6), (8, .int v8)] [] S :=
  h (fun v0 v1 v2 v3 v4 v5 v6 v8 S => WS X 11 0 0 17 [(0, .ref v0), (1, .ref v1), (2, .ref v2), (3, .int v3), (4, .ref v4), (5, .int v5), (6, .long v6), (8, .int v8)] [] S) (fun v0 v1 v2 v3 v4 v5 v6 v8 S hh => TB_X1_worstSpeed_17 C E ht hn (fun v0 v1 v2 v3 v4 v5 v6 v8 S z => z) hh)
def P_X1_worstSpeed_0 (Q : Int32 → HS → Prop) (v0 : Nat) (v1 : Nat) (v2 : Nat) (v3 : Int32) (v4 : Nat) (S : HS) : Prop := ob S v1 6 ∧ (∀ x1 : Int32, x1 = fI S v1 5 → (∀ x2 : Int32, x2 = fI S v1 5 → (P_X1_worstSpeed_17 Q v0 v1 v2 v3 v4 x1 (-1 : Int64) x2 S)))
set_option maxRecDepth 20000 in
set_option maxHeartbeats 4000000 in
theorem T_X1_worstSpeed_0 {X : CX} {Q : Int32 → HS → Prop} (C : Cx X cX1_worstSpeed RX1 11 rm_X1_worstSpeed) (E : ReI X rm_X1_worstSpeed Q) (ht : (xh X).sig.returnType = (some .int)) (hn : (xh X).name = yX1_worstSpeed.name) {v0 : Nat} {v1 : Nat} {v2 : Nat} {v3 : Int32} {v4 : Nat} {S : HS} (h : P_X1_worstSpeed_0 Q v0 v1 v2 v3 v4 S) : WS X 11 0 0 0 [(0, .ref v0), (1, .ref v1), (2, .ref v2), (3, .int v3), (4, .ref v4)] [] S := by
  refine r_aload_n (pc := 0) C dX1_worstSpeed_0 1 rfl ?_
  obtain ⟨o_v1, h⟩ := h
  refine r_geti (pc := 1) C fL_X1_81 dX1_worstSpeed_1 o_v1 ?_
  refine r_topi (fun x1 ex1 => ?_)
  have h := h x1 ex1
  refine r_istore (pc := 4) C dX1_worstSpeed_4 (by decide) (lv' := [(5, .int x1), (0, .ref v0), (1, .ref v1), (2, .ref v2), (3, .int v3), (4, .ref v4)]) rfl ?_
  refine r_ldc2 (pc := 6) C (v := (-1 : Int64)) dX1_worstSpeed_6 g_783 ?_
  refine r_lstore (pc := 9) C dX1_worstSpeed_9 (by decide) (lv' := [(6, .long (-1 : Int64)), (5, .int x1), (0, .ref v0), (1, .ref v1), (2, .ref v2), (3, .int v3), (4, .ref v4)]) rfl ?_
  refine r_aload_n (pc := 11) C dX1_worstSpeed_11 3 rfl ?_
  refine r_geti (pc := 12) C fL_X1_81 dX1_worstSpeed_12 o_v1 ?_
  refine r_topi (fun x2 ex2 => ?_)
  have h := h x2 ex2
  refine r_istore (pc := 15) C dX1_worstSpeed_15 (by decide) (lv' := [(8, .int x2), (6, .long (-1 : Int64)), (5, .int x1), (0, .ref v0), (1, .ref v1), (2, .ref v2), (3, .int v3), (4, .ref v4)]) rfl ?_
  exact r_sub [3, 4, 5, 6, 7, 2, 1, 0] rfl (T_X1_worstSpeed_17 C E ht hn h)
def P_X1_worstSpeed (v0 : Nat) (v1 : Nat) (v2 : Nat) (v3 : Int32) (v4 : Nat) (Q : Int32 → HS → Prop) (S : HS) : Prop := P_X1_worstSpeed_0 Q v0 v1 v2 v3 v4 S
theorem c_X1_worstSpeed {l : Launch} {Ee : EE} {S : HS} {v0 : Nat} {v1 : Nat} {v2 : Nat} {v3 : Int32} {v4 : Nat} {Q : Int32 → HS → Prop} (h : P_X1_worstSpeed v0 v1 v2 v3 v4 Q S) : MI l yX1_worstSpeed cX1_worstSpeed 11 (some .int) rm_X1_worstSpeed Ee S [.ref v0, .ref v1, .ref v2, .int v3, .ref v4] Q :=
  openI (by decide) (Nat.le_of_ble_eq_true rfl) (fun X C E ht hn hE hl => by subst hE; exact r_sub [0, 1, 2, 3, 4] rfl (T_X1_worstSpeed_0 C E ht hn h))
def rm_X2_addFaces : Room := { frames := 0, cells := 0, slots := 0, locals := 0 }
def B_X2_addFaces_2 (Q : HS → Prop) (X2 : Nat → Nat → Int32 → HS → Prop) (v0 : Nat) (v1 : Nat) (v2 : Int32) (S : HS) : Prop := (((5 : Int32) ≤ v2) → (Q S)) ∧ ((¬ (5 : Int32) ≤ v2) → (ob S v1 14 ∧ ((((nI (hN S v1)) ≤ v2) → (Q S)) ∧ ((¬ (nI (hN S v1)) ≤ v2) → (ob S v0 2 ∧ (∃ a3 : Nat, fR S v0 2 = some a3 ∧ (ob S a3 14 ∧ (vp_in v2 (hN S a3) ∧ ∀ x5 : Int64, x5 = fJ S a3 v2.toNatClampNeg → (vp_in v2 (hN S v1) ∧ ∀ x7 : Int64, x7 = fJ S v1 v2.toNatClampNeg → (∀ x9 : Int64, x9 = x5 + x7 → (vp_in v2 (hN S a3) ∧ (∀ S10 : HS, S10 = sJ S a3 v2.toNatClampNeg x9 → (∀ x11 : Int32, x11 = v2 + (1 : Int32) → (X2 v0 v1 x11 S10))))))))))))))
def P_X2_addFaces_2 (Q : HS → Prop) (v0 : Nat) (v1 : Nat) (v2 : Int32) (S : HS) : Prop := ∀ X2 : Nat → Nat → Int32 → HS → Prop, (∀ (v0 : Nat) (v1 : Nat) (v2 : Int32) (S : HS), B_X2_addFaces_2 Q X2 v0 v1 v2 S → X2 v0 v1 v2 S) → X2 v0 v1 v2 S
set_option maxRecDepth 20000 in
set_option maxHeartbeats 4000000 in
theorem TB_X2_addFaces_2 {X : CX} {Q : HS → Prop} (C : Cx X cX2_addFaces RX2 3 rm_X2_addFaces) (E : ReV X rm_X2_addFaces Q) (ht : (xh X).sig.returnType = none) (hn : (xh X).name = yX2_addFaces.name) {X2 : Nat → Nat → Int32 → HS → Prop} (hX2 : ∀ (v0 : Nat) (v1 : Nat) (v2 : Int32) (S : HS), X2 v0 v1 v2 S → WS X 3 0 0 2 [(0, .ref v0), (1, .ref v1), (2, .int v2)] [] S) {v0 : Nat} {v1 : Nat} {v2 : Int32} {S : HS} (h : B_X2_addFaces_2 Q X2 v0 v1 v2 S) : WS X 3 0 0 2 [(0, .ref v0), (1, .ref v1), (2, .int v2)] [] S := by
  refine r_iload_n (pc := 2) C dX2_addFaces_2 2 rfl ?_
  refine r_iconst (pc := 3) C (v := (5 : Int32)) dX2_addFaces_3 (by decide) ?_
  refine r_icmp_ge (pc := 4) C (tgt := 31) dX2_addFaces_4 (by decide) (fun c1 => ?_) (fun c1 => ?_)
  · have h := h.1 c1
    exact r_vret (pc := 31) C E ht dX2_addFaces_31 (by decide) (by decide) h
  · have h := h.2 c1
    refine r_iload_n (pc := 7) C dX2_addFaces_7 2 rfl ?_
    refine r_aload_n (pc := 8) C dX2_addFaces_8 1 rfl ?_
    obtain ⟨o_v1, h⟩ := h
    refine r_alen14 (pc := 9) C dX2_addFaces_9 o_v1 ?_
    refine r_icmp_ge (pc := 10) C (tgt := 31) dX2_addFaces_10 (by decide) (fun c2 => ?_) (fun c2 => ?_)
    · have h := h.1 c2
      exact r_vret (pc := 31) C E ht dX2_addFaces_31 (by decide) (by decide) h
    · have h := h.2 c2
      refine r_aload_n (pc := 13) C dX2_addFaces_13 0 rfl ?_
      obtain ⟨o_v0, h⟩ := h
      obtain ⟨a3, ea3, h⟩ := h
      refine r_getr (pc := 14) C fL_X2_9 dX2_addFaces_14 o_v0 ea3 ?_
      refine r_iload_n (pc := 17) C dX2_addFaces_17 2 rfl ?_
      refine r_dup2 (pc := 18) C dX2_addFaces_18 rfl rfl ?_
      obtain ⟨o_a3, h⟩ := h
      obtain ⟨i4, h⟩ := h
      refine r_lald (pc := 19) C dX2_addFaces_19 o_a3 i4 ?_
      refine r_topl (fun x5 ex5 => ?_)
      have h := h x5 ex5
      refine r_aload_n (pc := 20) C dX2_addFaces_20 1 rfl ?_
      refine r_iload_n (pc := 21) C dX2_addFaces_21 2 rfl ?_
      obtain ⟨i6, h⟩ := h
      refine r_lald (pc := 22) C dX2_addFaces_22 o_v1 i6 ?_
      refine r_topl (fun x7 ex7 => ?_)
      have h := h x7 ex7
      refine r_ladd (pc := 23) C dX2_addFaces_23 ?_
      refine r_topl (fun x9 ex9 => ?_)
      have h := h x9 ex9
      obtain ⟨i8, h⟩ := h
      refine r_last (pc := 24) C dX2_addFaces_24 o_a3 i8 ?_
      refine r_heap (fun S10 eS10 => ?_)
      have h := h S10 eS10
      have o_a3 := ob_J eS10 o_a3
      have o_v0 := ob_J eS10 o_v0
      have o_v1 := ob_J eS10 o_v1
      obtain ⟨x11, ex11⟩ : ∃ z : Int32, z = v2 + (1 : Int32) := ⟨_, rfl⟩
      have h := h x11 ex11
      refine r_iinc (pc := 25) C (v := x11) (lv' := [(2, .int x11), (0, .ref v0), (1, .ref v1)]) dX2_addFaces_25 2 rfl ex11.symm (by decide) rfl ?_
      refine r_goto (pc := 28) C (tgt := 2) dX2_addFaces_28 (by decide) ?_
      exact r_sub [1, 2, 0] rfl (hX2 v0 v1 x11 S10 h)
theorem T_X2_addFaces_2 {X : CX} {Q : HS → Prop} (C : Cx X cX2_addFaces RX2 3 rm_X2_addFaces) (E : ReV X rm_X2_addFaces Q) (ht : (xh X).sig.returnType = none) (hn : (xh X).name = yX2_addFaces.name) {v0 : Nat} {v1 : Nat} {v2 : Int32} {S : HS} (h : P_X2_addFaces_2 Q v0 v1 v2 S) : WS X 3 0 0 2 [(0, .ref v0), (1, .ref v1), (2, .int v2)] [] S :=
  h (fun v0 v1 v2 S => WS X 3 0 0 2 [(0, .ref v0), (1, .ref v1), (2, .int v2)] [] S) (fun v0 v1 v2 S hh => TB_X2_addFaces_2 C E ht hn (fun v0 v1 v2 S z => z) hh)
def P_X2_addFaces_0 (Q : HS → Prop) (v0 : Nat) (v1 : Nat) (S : HS) : Prop := P_X2_addFaces_2 Q v0 v1 (0 : Int32) S
set_option maxRecDepth 20000 in
set_option maxHeartbeats 4000000 in
theorem T_X2_addFaces_0 {X : CX} {Q : HS → Prop} (C : Cx X cX2_addFaces RX2 3 rm_X2_addFaces) (E : ReV X rm_X2_addFaces Q) (ht : (xh X).sig.returnType = none) (hn : (xh X).name = yX2_addFaces.name) {v0 : Nat} {v1 : Nat} {S : HS} (h : P_X2_addFaces_0 Q v0 v1 S) : WS X 3 0 0 0 [(0, .ref v0), (1, .ref v1)] [] S := by
  refine r_iconst (pc := 0) C (v := (0 : Int32)) dX2_addFaces_0 (by decide) ?_
  refine r_istore_n (pc := 1) C dX2_addFaces_1 rfl (by decide) (lv' := [(2, .int (0 : Int32)), (0, .ref v0), (1, .ref v1)]) rfl ?_
  exact r_sub [1, 2, 0] rfl (T_X2_addFaces_2 C E ht hn h)
def P_X2_addFaces (v0 : Nat) (v1 : Nat) (Q : HS → Prop) (S : HS) : Prop := P_X2_addFaces_0 Q v0 v1 S
theorem c_X2_addFaces {l : Launch} {Ee : EE} {S : HS} {v0 : Nat} {v1 : Nat} {Q : HS → Prop} (h : P_X2_addFaces v0 v1 Q S) : MV l yX2_addFaces cX2_addFaces 3 none rm_X2_addFaces Ee S [.ref v0, .ref v1] Q :=
  openV (by decide) (Nat.le_of_ble_eq_true rfl) (fun X C E ht hn hE hl => by subst hE; exact r_sub [0, 1] rfl (T_X2_addFaces_0 C E ht hn h))
def rm_X2_allGot : Room := { frames := 0, cells := 0, slots := 0, locals := 0 }
def B_X2_allGot_4 (Q : Int64 → HS → Prop) (X4 : Nat → Int64 → Int32 → HS → Prop) (v0 : Nat) (v1 : Int64) (v3 : Int32) (S : HS) : Prop := (((5 : Int32) ≤ v3) → (Q v1 S)) ∧ ((¬ (5 : Int32) ≤ v3) → (ob S v0 2 ∧ (∃ a2 : Nat, fR S v0 2 = some a2 ∧ (ob S a2 14 ∧ (vp_in v3 (hN S a2) ∧ ∀ x4 : Int64, x4 = fJ S a2 v3.toNatClampNeg → (∀ x5 : Int64, x5 = v1 + x4 → (∀ x6 : Int32, x6 = v3 + (1 : Int32) → (X4 v0 x5 x6 S))))))))
def P_X2_allGot_4 (Q : Int64 → HS → Prop) (v0 : Nat) (v1 : Int64) (v3 : Int32) (S : HS) : Prop := ∀ X4 : Nat → Int64 → Int32 → HS → Prop, (∀ (v0 : Nat) (v1 : Int64) (v3 : Int32) (S : HS), B_X2_allGot_4 Q X4 v0 v1 v3 S → X4 v0 v1 v3 S) → X4 v0 v1 v3 S
set_option maxRecDepth 20000 in
set_option maxHeartbeats 4000000 in
theorem TB_X2_allGot_4 {X : CX} {Q : Int64 → HS → Prop} (C : Cx X cX2_allGot RX2 4 rm_X2_allGot) (E : ReJ X rm_X2_allGot Q) (ht : (xh X).sig.returnType = (some .long)) (hn : (xh X).name = yX2_allGot.name) {X4 : Nat → Int64 → Int32 → HS → Prop} (hX4 : ∀ (v0 : Nat) (v1 : Int64) (v3 : Int32) (S : HS), X4 v0 v1 v3 S → WS X 4 0 0 4 [(0, .ref v0), (1, .long v1), (3, .int v3)] [] S) {v0 : Nat} {v1 : Int64} {v3 : Int32} {S : HS} (h : B_X2_allGot_4 Q X4 v0 v1 v3 S) : WS X 4 0 0 4 [(0, .ref v0), (1, .long v1), (3, .int v3)] [] S := by
  refine r_iload_n (pc := 4) C dX2_allGot_4 2 rfl ?_
  refine r_iconst (pc := 5) C (v := (5 : Int32)) dX2_allGot_5 (by decide) ?_
  refine r_icmp_ge (pc := 6) C (tgt := 24) dX2_allGot_6 (by decide) (fun c1 => ?_) (fun c1 => ?_)
  · have h := h.1 c1
    refine r_lload_n (pc := 24) C dX2_allGot_24 1 rfl ?_
    exact r_lret (pc := 25) C E ht dX2_allGot_25 (by decide) (by decide) h
  · have h := h.2 c1
    refine r_lload_n (pc := 9) C dX2_allGot_9 1 rfl ?_
    refine r_aload_n (pc := 10) C dX2_allGot_10 0 rfl ?_
    obtain ⟨o_v0, h⟩ := h
    obtain ⟨a2, ea2, h⟩ := h
    refine r_getr (pc := 11) C fL_X2_9 dX2_allGot_11 o_v0 ea2 ?_
    refine r_iload_n (pc := 14) C dX2_allGot_14 2 rfl ?_
    obtain ⟨o_a2, h⟩ := h
    obtain ⟨i3, h⟩ := h
    refine r_lald (pc := 15) C dX2_allGot_15 o_a2 i3 ?_
    refine r_topl (fun x4 ex4 => ?_)
    have h := h x4 ex4
    refine r_ladd (pc := 16) C dX2_allGot_16 ?_
    refine r_topl (fun x5 ex5 => ?_)
    have h := h x5 ex5
    refine r_lstore_n (pc := 17) C dX2_allGot_17 rfl (by decide) (lv' := [(1, .long x5), (0, .ref v0), (3, .int v3)]) rfl ?_
    obtain ⟨x6, ex6⟩ : ∃ z : Int32, z = v3 + (1 : Int32) := ⟨_, rfl⟩
    have h := h x6 ex6
    refine r_iinc (pc := 18) C (v := x6) (lv' := [(3, .int x6), (1, .long x5), (0, .ref v0)]) dX2_allGot_18 2 rfl ex6.symm (by decide) rfl ?_
    refine r_goto (pc := 21) C (tgt := 4) dX2_allGot_21 (by decide) ?_
    exact r_sub [2, 1, 0] rfl (hX4 v0 x5 x6 S h)
theorem T_X2_allGot_4 {X : CX} {Q : Int64 → HS → Prop} (C : Cx X cX2_allGot RX2 4 rm_X2_allGot) (E : ReJ X rm_X2_allGot Q) (ht : (xh X).sig.returnType = (some .long)) (hn : (xh X).name = yX2_allGot.name) {v0 : Nat} {v1 : Int64} {v3 : Int32} {S : HS} (h : P_X2_allGot_4 Q v0 v1 v3 S) : WS X 4 0 0 4 [(0, .ref v0), (1, .long v1), (3, .int v3)] [] S :=
  h (fun v0 v1 v3 S => WS X 4 0 0 4 [(0, .ref v0), (1, .long v1), (3, .int v3)] [] S) (fun v0 v1 v3 S hh => TB_X2_allGot_4 C E ht hn (fun v0 v1 v3 S z => z) hh)
def P_X2_allGot_0 (Q : Int64 → HS → Prop) (v0 : Nat) (S : HS) : Prop := P_X2_allGot_4 Q v0 (0 : Int64) (0 : Int32) S
set_option maxRecDepth 20000 in
set_option maxHeartbeats 4000000 in
theorem T_X2_allGot_0 {X : CX} {Q : Int64 → HS → Prop} (C : Cx X cX2_allGot RX2 4 rm_X2_allGot) (E : ReJ X rm_X2_allGot Q) (ht : (xh X).sig.returnType = (some .long)) (hn : (xh X).name = yX2_allGot.name) {v0 : Nat} {S : HS} (h : P_X2_allGot_0 Q v0 S) : WS X 4 0 0 0 [(0, .ref v0)] [] S := by
  refine r_lconst (pc := 0) C (v := (0 : Int64)) dX2_allGot_0 (by decide) ?_
  refine r_lstore_n (pc := 1) C dX2_allGot_1 rfl (by decide) (lv' := [(1, .long (0 : Int64)), (0, .ref v0)]) rfl ?_
  refine r_iconst (pc := 2) C (v := (0 : Int32)) dX2_allGot_2 (by decide) ?_
  refine r_istore_n (pc := 3) C dX2_allGot_3 rfl (by decide) (lv' := [(3, .int (0 : Int32)), (1, .long (0 : Int64)), (0, .ref v0)]) rfl ?_
  exact r_sub [2, 1, 0] rfl (T_X2_allGot_4 C E ht hn h)
def P_X2_allGot (v0 : Nat) (Q : Int64 → HS → Prop) (S : HS) : Prop := P_X2_allGot_0 Q v0 S
theorem c_X2_allGot {l : Launch} {Ee : EE} {S : HS} {v0 : Nat} {Q : Int64 → HS → Prop} (h : P_X2_allGot v0 Q S) : MJ l yX2_allGot cX2_allGot 4 (some .long) rm_X2_allGot Ee S [.ref v0] Q :=
  openJ (by decide) (Nat.le_of_ble_eq_true rfl) (fun X C E ht hn hE hl => by subst hE; exact r_sub [0] rfl (T_X2_allGot_0 C E ht hn h))
def rm_X3_init : Room := { frames := 1, cells := 0, slots := 0, locals := 20 }
def P_X3_init_0 (Q : HS → Prop) (v0 : Nat) (S : HS) : Prop := Q S
set_option maxRecDepth 20000 in
set_option maxHeartbeats 4000000 in
theorem T_X3_init_0 {X : CX} {Q : HS → Prop} (C : Cx X cX3_init RX3 1 rm_X3_init) (E : ReV X rm_X3_init Q) (ht : (xh X).sig.returnType = none) (hn : (xh X).name = yX3_init.name) {v0 : Nat} {S : HS} (h : P_X3_init_0 Q v0 S) : WS X 1 0 0 0 [(0, .ref v0)] [] S := by
  refine r_aload_n (pc := 0) C dX3_init_0 0 rfl ?_
  refine r_objinit (pc := 1) C g_46 dX3_init_1 (by decide) (Nat.le_of_ble_eq_true rfl) ?_
  exact r_vret (pc := 4) C E ht dX3_init_4 (by decide) (by decide) h
def P_X3_init (v0 : Nat) (Q : HS → Prop) (S : HS) : Prop := P_X3_init_0 Q v0 S
theorem c_X3_init {l : Launch} {Ee : EE} {S : HS} {v0 : Nat} {Q : HS → Prop} (h : P_X3_init v0 Q S) : MV l yX3_init cX3_init 1 none rm_X3_init Ee S [.ref v0] Q :=
  openV (by decide) (Nat.le_of_ble_eq_true rfl) (fun X C E ht hn hE hl => by subst hE; exact r_sub [0] rfl (T_X3_init_0 C E ht hn h))
def rm_X4_fail : Room := { frames := 0, cells := 0, slots := 0, locals := 0 }
def P_X4_fail_0 (Q : Int32 → HS → Prop) (v0 : Nat) (v1 : Int32) (S : HS) : Prop := ob S v0 4 ∧ (∀ S1 : HS, S1 = sI S v0 0 v1 → (∀ x2 : Int32, x2 = fI S1 v0 7 → (∀ S3 : HS, S3 = sI S1 v0 1 x2 → (Q (0 : Int32) S3))))
set_option maxRecDepth 20000 in
set_option maxHeartbeats 4000000 in
theorem T_X4_fail_0 {X : CX} {Q : Int32 → HS → Prop} (C : Cx X cX4_fail RX4 2 rm_X4_fail) (E : ReI X rm_X4_fail (fun r S => bl r ∧ Q r S)) (ht : (xh X).sig.returnType = (some .boolean)) (hn : (xh X).name = yX4_fail.name) {v0 : Nat} {v1 : Int32} {S : HS} (h : P_X4_fail_0 Q v0 v1 S) : WS X 2 0 0 0 [(0, .ref v0), (1, .int v1)] [] S := by
  refine r_aload_n (pc := 0) C dX4_fail_0 0 rfl ?_
  refine r_iload_n (pc := 1) C dX4_fail_1 1 rfl ?_
  obtain ⟨o_v0, h⟩ := h
  refine r_puti (pc := 2) C pfL_X4_110 dX4_fail_2 o_v0 ?_
  refine r_heap (fun S1 eS1 => ?_)
  have h := h S1 eS1
  have o_v0 := ob_I eS1 o_v0
  refine r_aload_n (pc := 5) C dX4_fail_5 0 rfl ?_
  refine r_aload_n (pc := 6) C dX4_fail_6 0 rfl ?_
  refine r_geti (pc := 7) C fL_X4_125 dX4_fail_7 o_v0 ?_
  refine r_topi (fun x2 ex2 => ?_)
  have h := h x2 ex2
  refine r_puti (pc := 10) C pfL_X4_113 dX4_fail_10 o_v0 ?_
  refine r_heap (fun S3 eS3 => ?_)
  have h := h S3 eS3
  have o_v0 := ob_I eS3 o_v0
  refine r_iconst (pc := 13) C (v := (0 : Int32)) dX4_fail_13 (by decide) ?_
  exact r_zret (pc := 14) C E ht dX4_fail_14 (by decide) (by decide) (Or.inl rfl) h
def P_X4_fail (v0 : Nat) (v1 : Int32) (Q : Int32 → HS → Prop) (S : HS) : Prop := P_X4_fail_0 Q v0 v1 S
theorem c_X4_fail {l : Launch} {Ee : EE} {S : HS} {v0 : Nat} {v1 : Int32} {Q : Int32 → HS → Prop} (h : P_X4_fail v0 v1 Q S) : MI l yX4_fail cX4_fail 2 (some .boolean) rm_X4_fail Ee S [.ref v0, .int v1] (fun r S => bl r ∧ Q r S) :=
  openI (by decide) (Nat.le_of_ble_eq_true rfl) (fun X C E ht hn hE hl => by subst hE; exact r_sub [0, 1] rfl (T_X4_fail_0 C E ht hn h))
def rm_X4_sortAt : Room := { frames := 0, cells := 0, slots := 0, locals := 0 }
def P_X4_sortAt_58 (Q : Int32 → HS → Prop) (v2 : Int32) (S : HS) : Prop := (v2.toInt = 32 → (Q (5 : Int32) S)) ∧ (v2.toInt = 44 → (Q (4 : Int32) S)) ∧ (v2.toInt = 59 → (Q (3 : Int32) S)) ∧ (¬ v2.toInt = 32 ∧ ¬ v2.toInt = 44 ∧ ¬ v2.toInt = 59 → (Q (6 : Int32) S))
set_option maxRecDepth 20000 in
set_option maxHeartbeats 4000000 in
theorem T_X4_sortAt_58 {X : CX} {Q : Int32 → HS → Prop} (C : Cx X cX4_sortAt RX4 3 rm_X4_sortAt) (E : ReI X rm_X4_sortAt Q) (ht : (xh X).sig.returnType = (some .int)) (hn : (xh X).name = yX4_sortAt.name) {v2 : Int32} {S : HS} (h : P_X4_sortAt_58 Q v2 S) : WS X 3 0 0 58 [(2, .int v2)] [] S := by
  refine r_iload_n (pc := 58) C dX4_sortAt_58 0 rfl ?_
  by_cases w0 : v2.toInt = 32
  · refine r_lookup (pc := 59) C (tgt := 92) (off := 33) dX4_sortAt_59 rfl (by rw [w0]; rfl) (by decide) ?_
    have h := h.1 w0
    refine r_iconst (pc := 92) C (v := (5 : Int32)) dX4_sortAt_92 (by decide) ?_
    exact r_iret (pc := 93) C E ht dX4_sortAt_93 (by decide) (by decide) h
  by_cases w1 : v2.toInt = 44
  · refine r_lookup (pc := 59) C (tgt := 96) (off := 37) dX4_sortAt_59 rfl (by rw [w1]; rfl) (by decide) ?_
    have h := h.2.1 w1
    refine r_iconst (pc := 96) C (v := (4 : Int32)) dX4_sortAt_96 (by decide) ?_
    exact r_iret (pc := 97) C E ht dX4_sortAt_97 (by decide) (by decide) h
  by_cases w2 : v2.toInt = 59
  · refine r_lookup (pc := 59) C (tgt := 94) (off := 35) dX4_sortAt_59 rfl (by rw [w2]; rfl) (by decide) ?_
    have h := h.2.2.1 w2
    refine r_iconst (pc := 94) C (v := (3 : Int32)) dX4_sortAt_94 (by decide) ?_
    exact r_iret (pc := 95) C E ht dX4_sortAt_95 (by decide) (by decide) h
  refine r_lookup (pc := 59) C (tgt := 98) (off := 39) dX4_sortAt_59 rfl (by simp [Op.lookupswitch.offset]; rw [if_neg (fun q => w0 (Eq.symm q)), if_neg (fun q => w1 (Eq.symm q)), if_neg (fun q => w2 (Eq.symm q))]) (by decide) ?_
  have h := h.2.2.2 ⟨w0, w1, w2⟩
  refine r_bipush (pc := 98) C (v := (6 : Int32)) dX4_sortAt_98 (by decide) ?_
  exact r_iret (pc := 100) C E ht dX4_sortAt_100 (by decide) (by decide) h
def P_X4_sortAt_44 (Q : Int32 → HS → Prop) (v2 : Int32) (S : HS) : Prop := ((v2 < (48 : Int32)) → (P_X4_sortAt_58 Q v2 S)) ∧ ((¬ v2 < (48 : Int32)) → ((((57 : Int32) < v2) → (P_X4_sortAt_58 Q v2 S)) ∧ ((¬ (57 : Int32) < v2) → (Q (2 : Int32) S))))
set_option maxRecDepth 20000 in
set_option maxHeartbeats 4000000 in
theorem T_X4_sortAt_44 {X : CX} {Q : Int32 → HS → Prop} (C : Cx X cX4_sortAt RX4 3 rm_X4_sortAt) (E : ReI X rm_X4_sortAt Q) (ht : (xh X).sig.returnType = (some .int)) (hn : (xh X).name = yX4_sortAt.name) {v2 : Int32} {S : HS} (h : P_X4_sortAt_44 Q v2 S) : WS X 3 0 0 44 [(2, .int v2)] [] S := by
  refine r_iload_n (pc := 44) C dX4_sortAt_44 0 rfl ?_
  refine r_bipush (pc := 45) C (v := (48 : Int32)) dX4_sortAt_45 (by decide) ?_
  refine r_icmp_lt (pc := 47) C (tgt := 58) dX4_sortAt_47 (by decide) (fun c1 => ?_) (fun c1 => ?_)
  · have h := h.1 c1
    exact r_sub [0] rfl (T_X4_sortAt_58 C E ht hn h)
  · have h := h.2 c1
    refine r_iload_n (pc := 50) C dX4_sortAt_50 0 rfl ?_
    refine r_bipush (pc := 51) C (v := (57 : Int32)) dX4_sortAt_51 (by decide) ?_
    refine r_icmp_gt (pc := 53) C (tgt := 58) dX4_sortAt_53 (by decide) (fun c2 => ?_) (fun c2 => ?_)
    · have h := h.1 c2
      exact r_sub [0] rfl (T_X4_sortAt_58 C E ht hn h)
    · have h := h.2 c2
      refine r_iconst (pc := 56) C (v := (2 : Int32)) dX4_sortAt_56 (by decide) ?_
      exact r_iret (pc := 57) C E ht dX4_sortAt_57 (by decide) (by decide) h
def P_X4_sortAt_0 (Q : Int32 → HS → Prop) (v0 : Nat) (v1 : Int32) (S : HS) : Prop := ((v1 < 0) → (Q (0 : Int32) S)) ∧ ((¬ v1 < 0) → (ob S v0 4 ∧ (∀ x2 : Int32, x2 = fI S v0 3 → (((x2 ≤ v1) → (Q (0 : Int32) S)) ∧ ((¬ x2 ≤ v1) → (∃ a4 : Nat, fR S v0 2 = some a4 ∧ (ob S a4 12 ∧ (((v1 < (nI (hN S a4))) → (∃ a6 : Nat, fR S v0 2 = some a6 ∧ (ob S a6 12 ∧ (vp_in v1 (hN S a6) ∧ ∀ x8 : Int32, x8 = fI S a6 v1.toNatClampNeg → (((x8 < (97 : Int32)) → (P_X4_sortAt_44 Q x8 S)) ∧ ((¬ x8 < (97 : Int32)) → ((((122 : Int32) < x8) → (P_X4_sortAt_44 Q x8 S)) ∧ ((¬ (122 : Int32) < x8) → (Q (1 : Int32) S))))))))) ∧ ((¬ v1 < (nI (hN S a4))) → (Q (0 : Int32) S))))))))))
set_option maxRecDepth 20000 in
set_option maxHeartbeats 4000000 in
theorem T_X4_sortAt_0 {X : CX} {Q : Int32 → HS → Prop} (C : Cx X cX4_sortAt RX4 3 rm_X4_sortAt) (E : ReI X rm_X4_sortAt Q) (ht : (xh X).sig.returnType = (some .int)) (hn : (xh X).name = yX4_sortAt.name) {v0 : Nat} {v1 : Int32} {S : HS} (h : P_X4_sortAt_0 Q v0 v1 S) : WS X 3 0 0 0 [(0, .ref v0), (1, .int v1)] [] S := by
  refine r_iload_n (pc := 0) C dX4_sortAt_0 1 rfl ?_
  refine r_if_lt (pc := 1) C (tgt := 21) dX4_sortAt_1 (by decide) (fun c1 => ?_) (fun c1 => ?_)
  · have h := h.1 c1
    refine r_iconst (pc := 21) C (v := (0 : Int32)) dX4_sortAt_21 (by decide) ?_
    exact r_iret (pc := 22) C E ht dX4_sortAt_22 (by decide) (by decide) h
  · have h := h.2 c1
    refine r_iload_n (pc := 4) C dX4_sortAt_4 1 rfl ?_
    refine r_aload_n (pc := 5) C dX4_sortAt_5 0 rfl ?_
    obtain ⟨o_v0, h⟩ := h
    refine r_geti (pc := 6) C fL_X4_104 dX4_sortAt_6 o_v0 ?_
    refine r_topi (fun x2 ex2 => ?_)
    have h := h x2 ex2
    refine r_icmp_ge (pc := 9) C (tgt := 21) dX4_sortAt_9 (by decide) (fun c3 => ?_) (fun c3 => ?_)
    · have h := h.1 c3
      refine r_iconst (pc := 21) C (v := (0 : Int32)) dX4_sortAt_21 (by decide) ?_
      exact r_iret (pc := 22) C E ht dX4_sortAt_22 (by decide) (by decide) h
    · have h := h.2 c3
      refine r_iload_n (pc := 12) C dX4_sortAt_12 1 rfl ?_
      refine r_aload_n (pc := 13) C dX4_sortAt_13 0 rfl ?_
      obtain ⟨a4, ea4, h⟩ := h
      refine r_getr (pc := 14) C fL_X4_9 dX4_sortAt_14 o_v0 ea4 ?_
      obtain ⟨o_a4, h⟩ := h
      refine r_alen12 (pc := 17) C dX4_sortAt_17 o_a4 ?_
      refine r_icmp_lt (pc := 18) C (tgt := 23) dX4_sortAt_18 (by decide) (fun c5 => ?_) (fun c5 => ?_)
      · have h := h.1 c5
        refine r_aload_n (pc := 23) C dX4_sortAt_23 0 rfl ?_
        obtain ⟨a6, ea6, h⟩ := h
        refine r_getr (pc := 24) C fL_X4_9 dX4_sortAt_24 o_v0 ea6 ?_
        refine r_iload_n (pc := 27) C dX4_sortAt_27 1 rfl ?_
        obtain ⟨o_a6, h⟩ := h
        obtain ⟨i7, h⟩ := h
        refine r_bald (pc := 28) C dX4_sortAt_28 o_a6 i7 ?_
        refine r_topi (fun x8 ex8 => ?_)
        have h := h x8 ex8
        refine r_istore_n (pc := 29) C dX4_sortAt_29 rfl (by decide) (lv' := [(2, .int x8), (0, .ref v0), (1, .int v1)]) rfl ?_
        refine r_iload_n (pc := 30) C dX4_sortAt_30 0 rfl ?_
        refine r_bipush (pc := 31) C (v := (97 : Int32)) dX4_sortAt_31 (by decide) ?_
        refine r_icmp_lt (pc := 33) C (tgt := 44) dX4_sortAt_33 (by decide) (fun c9 => ?_) (fun c9 => ?_)
        · have h := h.1 c9
          exact r_sub [0] rfl (T_X4_sortAt_44 C E ht hn h)
        · have h := h.2 c9
          refine r_iload_n (pc := 36) C dX4_sortAt_36 0 rfl ?_
          refine r_bipush (pc := 37) C (v := (122 : Int32)) dX4_sortAt_37 (by decide) ?_
          refine r_icmp_gt (pc := 39) C (tgt := 44) dX4_sortAt_39 (by decide) (fun c10 => ?_) (fun c10 => ?_)
          · have h := h.1 c10
            exact r_sub [0] rfl (T_X4_sortAt_44 C E ht hn h)
          · have h := h.2 c10
            refine r_iconst (pc := 42) C (v := (1 : Int32)) dX4_sortAt_42 (by decide) ?_
            exact r_iret (pc := 43) C E ht dX4_sortAt_43 (by decide) (by decide) h
      · have h := h.2 c5
        refine r_iconst (pc := 21) C (v := (0 : Int32)) dX4_sortAt_21 (by decide) ?_
        exact r_iret (pc := 22) C E ht dX4_sortAt_22 (by decide) (by decide) h
def P_X4_sortAt (v0 : Nat) (v1 : Int32) (Q : Int32 → HS → Prop) (S : HS) : Prop := P_X4_sortAt_0 Q v0 v1 S
theorem c_X4_sortAt {l : Launch} {Ee : EE} {S : HS} {v0 : Nat} {v1 : Int32} {Q : Int32 → HS → Prop} (h : P_X4_sortAt v0 v1 Q S) : MI l yX4_sortAt cX4_sortAt 3 (some .int) rm_X4_sortAt Ee S [.ref v0, .int v1] Q :=
  openI (by decide) (Nat.le_of_ble_eq_true rfl) (fun X C E ht hn hE hl => by subst hE; exact r_sub [0, 1] rfl (T_X4_sortAt_0 C E ht hn h))
def rm_X4_next : Room := { frames := 1, cells := 0, slots := 0, locals := 22 }
def P_X4_next_201 (Q : HS → Prop) (X118 : Nat → Int32 → Int32 → Int32 → Int32 → HS → Prop) (v0 : Nat) (v1 : Int32) (v2 : Int32) (v3 : Int32) (v4 : Int32) (S : HS) : Prop := ob S v0 4 ∧ (∀ x1 : Int32, x1 = fI S v0 4 → (∀ x2 : Int32, x2 = x1 + (1 : Int32) → (∀ S3 : HS, S3 = sI S v0 4 x2 → (∀ x4 : Int32, x4 = v4 + (1 : Int32) → (X118 v0 v1 v2 v3 x4 S3)))))
set_option maxRecDepth 20000 in
set_option maxHeartbeats 4000000 in
theorem T_X4_next_201 {X : CX} {Q : HS → Prop} (C : Cx X cX4_next RX4 5 rm_X4_next) (E : ReV X rm_X4_next Q) (ht : (xh X).sig.returnType = none) (hn : (xh X).name = yX4_next.name) {X118 : Nat → Int32 → Int32 → Int32 → Int32 → HS → Prop} (hX118 : ∀ (v0 : Nat) (v1 : Int32) (v2 : Int32) (v3 : Int32) (v4 : Int32) (S : HS), X118 v0 v1 v2 v3 v4 S → WS X 5 0 0 118 [(0, .ref v0), (1, .int v1), (2, .int v2), (3, .int v3), (4, .int v4)] [] S) {v0 : Nat} {v1 : Int32} {v2 : Int32} {v3 : Int32} {v4 : Int32} {S : HS} (h : P_X4_next_201 Q X118 v0 v1 v2 v3 v4 S) : WS X 5 0 0 201 [(0, .ref v0), (1, .int v1), (2, .int v2), (3, .int v3), (4, .int v4)] [] S := by
  refine r_aload_n (pc := 201) C dX4_next_201 0 rfl ?_
  refine r_dup (pc := 202) C dX4_next_202 rfl ?_
  obtain ⟨o_v0, h⟩ := h
  refine r_geti (pc := 203) C fL_X4_107 dX4_next_203 o_v0 ?_
  refine r_topi (fun x1 ex1 => ?_)
  have h := h x1 ex1
  refine r_iconst (pc := 206) C (v := (1 : Int32)) dX4_next_206 (by decide) ?_
  refine r_iadd (pc := 207) C dX4_next_207 ?_
  refine r_topi (fun x2 ex2 => ?_)
  have h := h x2 ex2
  refine r_puti (pc := 208) C pfL_X4_107 dX4_next_208 o_v0 ?_
  refine r_heap (fun S3 eS3 => ?_)
  have h := h S3 eS3
  have o_v0 := ob_I eS3 o_v0
  obtain ⟨x4, ex4⟩ : ∃ z : Int32, z = v4 + (1 : Int32) := ⟨_, rfl⟩
  have h := h x4 ex4
  refine r_iinc (pc := 211) C (v := x4) (lv' := [(4, .int x4), (0, .ref v0), (1, .int v1), (2, .int v2), (3, .int v3)]) dX4_next_211 4 rfl ex4.symm (by decide) rfl ?_
  refine r_goto (pc := 214) C (tgt := 118) dX4_next_214 (by decide) ?_
  exact r_sub [1, 2, 3, 4, 0] rfl (hX118 v0 v1 v2 v3 x4 S3 h)
def P_X4_next_195 (Q : HS → Prop) (X118 : Nat → Int32 → Int32 → Int32 → Int32 → HS → Prop) (v0 : Nat) (v1 : Int32) (v2 : Int32) (v3 : Int32) (v4 : Int32) (s0 : Nat) (s1 : Int64) (s2 : Int32) (s3 : Int32) (S : HS) : Prop := ob S s0 4 ∧ (∀ x1 : Int64, x1 = s1 + ((s2 &&& s3).toInt64) → (∀ S2 : HS, S2 = sJ S s0 8 x1 → (P_X4_next_201 Q X118 v0 v1 v2 v3 v4 S2)))
set_option maxRecDepth 20000 in
set_option maxHeartbeats 4000000 in
theorem T_X4_next_195 {X : CX} {Q : HS → Prop} (C : Cx X cX4_next RX4 5 rm_X4_next) (E : ReV X rm_X4_next Q) (ht : (xh X).sig.returnType = none) (hn : (xh X).name = yX4_next.name) {X118 : Nat → Int32 → Int32 → Int32 → Int32 → HS → Prop} (hX118 : ∀ (v0 : Nat) (v1 : Int32) (v2 : Int32) (v3 : Int32) (v4 : Int32) (S : HS), X118 v0 v1 v2 v3 v4 S → WS X 5 0 0 118 [(0, .ref v0), (1, .int v1), (2, .int v2), (3, .int v3), (4, .int v4)] [] S) {v0 : Nat} {v1 : Int32} {v2 : Int32} {v3 : Int32} {v4 : Int32} {s0 : Nat} {s1 : Int64} {s2 : Int32} {s3 : Int32} {S : HS} (h : P_X4_next_195 Q X118 v0 v1 v2 v3 v4 s0 s1 s2 s3 S) : WS X 5 0 0 195 [(0, .ref v0), (1, .int v1), (2, .int v2), (3, .int v3), (4, .int v4)] [.int s3, .int s2, .long s1, .ref s0] S := by
  refine r_iand (pc := 195) C dX4_next_195 ?_
  refine r_i2l (pc := 196) C dX4_next_196 ?_
  refine r_ladd (pc := 197) C dX4_next_197 ?_
  obtain ⟨o_s0, h⟩ := h
  refine r_topl (fun x1 ex1 => ?_)
  have h := h x1 ex1
  refine r_putl (pc := 198) C pfL_X4_132 dX4_next_198 o_s0 ?_
  refine r_heap (fun S2 eS2 => ?_)
  have h := h S2 eS2
  have o_s0 := ob_J eS2 o_s0
  exact r_sub [0, 1, 2, 3, 4] rfl (T_X4_next_201 C E ht hn hX118 h)
def P_X4_next_240 (Q : HS → Prop) (v0 : Nat) (v1 : Int32) (S : HS) : Prop := ((¬ v1 = 0) → (Q S)) ∧ ((v1 = 0) → (ob S v0 4 ∧ (∀ x2 : Int32, x2 = fI S v0 6 → (((x2 = 0) → (Q S)) ∧ ((¬ x2 = 0) → (∀ x4 : Int32, x4 = fI S v0 4 → (∀ x5 : Int32, x5 = x4 + (1 : Int32) → (∀ S6 : HS, S6 = sI S v0 4 x5 → (Q S6)))))))))
set_option maxRecDepth 20000 in
set_option maxHeartbeats 4000000 in
theorem T_X4_next_240 {X : CX} {Q : HS → Prop} (C : Cx X cX4_next RX4 5 rm_X4_next) (E : ReV X rm_X4_next Q) (ht : (xh X).sig.returnType = none) (hn : (xh X).name = yX4_next.name) {v0 : Nat} {v1 : Int32} {S : HS} (h : P_X4_next_240 Q v0 v1 S) : WS X 5 0 0 240 [(0, .ref v0), (1, .int v1)] [] S := by
  refine r_iload_n (pc := 240) C dX4_next_240 1 rfl ?_
  refine r_if_ne (pc := 241) C (tgt := 261) dX4_next_241 (by decide) (fun c1 => ?_) (fun c1 => ?_)
  · have h := h.1 c1
    exact r_vret (pc := 261) C E ht dX4_next_261 (by decide) (by decide) h
  · have h := h.2 c1
    refine r_aload_n (pc := 244) C dX4_next_244 0 rfl ?_
    obtain ⟨o_v0, h⟩ := h
    refine r_geti (pc := 245) C fL_X4_92 dX4_next_245 o_v0 ?_
    refine r_topi (fun x2 ex2 => ?_)
    have h := h x2 ex2
    refine r_if_eq (pc := 248) C (tgt := 261) dX4_next_248 (by decide) (fun c3 => ?_) (fun c3 => ?_)
    · have h := h.1 c3
      exact r_vret (pc := 261) C E ht dX4_next_261 (by decide) (by decide) h
    · have h := h.2 c3
      refine r_aload_n (pc := 251) C dX4_next_251 0 rfl ?_
      refine r_dup (pc := 252) C dX4_next_252 rfl ?_
      refine r_geti (pc := 253) C fL_X4_107 dX4_next_253 o_v0 ?_
      refine r_topi (fun x4 ex4 => ?_)
      have h := h x4 ex4
      refine r_iconst (pc := 256) C (v := (1 : Int32)) dX4_next_256 (by decide) ?_
      refine r_iadd (pc := 257) C dX4_next_257 ?_
      refine r_topi (fun x5 ex5 => ?_)
      have h := h x5 ex5
      refine r_puti (pc := 258) C pfL_X4_107 dX4_next_258 o_v0 ?_
      refine r_heap (fun S6 eS6 => ?_)
      have h := h S6 eS6
      have o_v0 := ob_I eS6 o_v0
      exact r_vret (pc := 261) C E ht dX4_next_261 (by decide) (by decide) h
def P_X4_next_217 (Q : HS → Prop) (v0 : Nat) (v1 : Int32) (v2 : Int32) (S : HS) : Prop := ((v1 = 0) → (P_X4_next_240 Q v0 v1 S)) ∧ ((¬ v1 = 0) → (ob S v0 4 ∧ (∀ x2 : Int32, x2 = fI S v0 4 → (∀ x3 : Int32, x3 = fI S v0 7 → ((((x2 - x3) ≤ v2) → (P_X4_next_240 Q v0 v1 S)) ∧ ((¬ (x2 - x3) ≤ v2) → (∀ S5 : HS, S5 = sI S v0 6 (6 : Int32) → (P_X4_next_240 Q v0 v1 S5))))))))
set_option maxRecDepth 20000 in
set_option maxHeartbeats 4000000 in
theorem T_X4_next_217 {X : CX} {Q : HS → Prop} (C : Cx X cX4_next RX4 5 rm_X4_next) (E : ReV X rm_X4_next Q) (ht : (xh X).sig.returnType = none) (hn : (xh X).name = yX4_next.name) {v0 : Nat} {v1 : Int32} {v2 : Int32} {S : HS} (h : P_X4_next_217 Q v0 v1 v2 S) : WS X 5 0 0 217 [(0, .ref v0), (1, .int v1), (2, .int v2)] [] S := by
  refine r_iload_n (pc := 217) C dX4_next_217 1 rfl ?_
  refine r_if_eq (pc := 218) C (tgt := 240) dX4_next_218 (by decide) (fun c1 => ?_) (fun c1 => ?_)
  · have h := h.1 c1
    exact r_sub [0, 1] rfl (T_X4_next_240 C E ht hn h)
  · have h := h.2 c1
    refine r_aload_n (pc := 221) C dX4_next_221 0 rfl ?_
    obtain ⟨o_v0, h⟩ := h
    refine r_geti (pc := 222) C fL_X4_107 dX4_next_222 o_v0 ?_
    refine r_topi (fun x2 ex2 => ?_)
    have h := h x2 ex2
    refine r_aload_n (pc := 225) C dX4_next_225 0 rfl ?_
    refine r_geti (pc := 226) C fL_X4_125 dX4_next_226 o_v0 ?_
    refine r_topi (fun x3 ex3 => ?_)
    have h := h x3 ex3
    refine r_isub (pc := 229) C dX4_next_229 ?_
    refine r_iload_n (pc := 230) C dX4_next_230 2 rfl ?_
    refine r_icmp_le (pc := 231) C (tgt := 240) dX4_next_231 (by decide) (fun c4 => ?_) (fun c4 => ?_)
    · have h := h.1 c4
      exact r_sub [0, 1] rfl (T_X4_next_240 C E ht hn h)
    · have h := h.2 c4
      refine r_aload_n (pc := 234) C dX4_next_234 0 rfl ?_
      refine r_bipush (pc := 235) C (v := (6 : Int32)) dX4_next_235 (by decide) ?_
      refine r_puti (pc := 237) C pfL_X4_92 dX4_next_237 o_v0 ?_
      refine r_heap (fun S5 eS5 => ?_)
      have h := h S5 eS5
      have o_v0 := ob_I eS5 o_v0
      exact r_sub [0, 1] rfl (T_X4_next_240 C E ht hn h)
def B_X4_next_118 (Q : HS → Prop) (X118 : Nat → Int32 → Int32 → Int32 → Int32 → HS → Prop) (v0 : Nat) (v1 : Int32) (v2 : Int32) (v3 : Int32) (v4 : Int32) (S : HS) : Prop := ((v1 = 0) → (P_X4_next_217 Q v0 v1 v2 S)) ∧ ((¬ v1 = 0) → ((((900 : Int32) ≤ v4) → (P_X4_next_217 Q v0 v1 v2 S)) ∧ ((¬ (900 : Int32) ≤ v4) → (ob S v0 4 ∧ (∀ x3 : Int32, x3 = fI S v0 4 → (P_X4_sortAt v0 x3 (fun x6 S4 => Gr S S4 → (∀ x7 : Int32, x7 = fI S4 v0 6 → (((¬ x6 = x7) → (P_X4_next_217 Q v0 v1 v2 S4)) ∧ ((x6 = x7) → (((v2 ≤ v4) → (P_X4_next_201 Q X118 v0 v1 v2 v3 v4 S4)) ∧ ((¬ v2 ≤ v4) → (∀ x10 : Int32, x10 = fI S4 v0 4 → (∃ a11 : Nat, fR S4 v0 2 = some a11 ∧ (ob S4 a11 12 ∧ ((((nI (hN S4 a11)) ≤ x10) → (P_X4_next_201 Q X118 v0 v1 v2 v3 v4 S4)) ∧ ((¬ (nI (hN S4 a11)) ≤ x10) → (∀ x13 : Int64, x13 = fJ S4 v0 8 → (∃ a14 : Nat, fR S4 v0 2 = some a14 ∧ (∀ x15 : Int32, x15 = fI S4 v0 4 → (ob S4 a14 12 ∧ (vp_in x15 (hN S4 a14) ∧ ∀ x17 : Int32, x17 = fI S4 a14 x15.toNatClampNeg → (∀ x18 : Int32, x18 = fI S4 v0 6 → (((¬ x18 = (1 : Int32)) → (P_X4_next_195 Q X118 v0 v1 v2 v3 v4 v0 (x13 * v3.toInt64) x17 (15 : Int32) S4)) ∧ ((x18 = (1 : Int32)) → (P_X4_next_195 Q X118 v0 v1 v2 v3 v4 v0 (x13 * v3.toInt64) x17 (31 : Int32) S4)))))))))))))))))))) S))))))
def P_X4_next_118 (Q : HS → Prop) (v0 : Nat) (v1 : Int32) (v2 : Int32) (v3 : Int32) (v4 : Int32) (S : HS) : Prop := ∀ X118 : Nat → Int32 → Int32 → Int32 → Int32 → HS → Prop, (∀ (v0 : Nat) (v1 : Int32) (v2 : Int32) (v3 : Int32) (v4 : Int32) (S : HS), B_X4_next_118 Q X118 v0 v1 v2 v3 v4 S → X118 v0 v1 v2 v3 v4 S) → X118 v0 v1 v2 v3 v4 S
set_option maxRecDepth 20000 in
set_option maxHeartbeats 4000000 in
theorem TB_X4_next_118 {X : CX} {Q : HS → Prop} (C : Cx X cX4_next RX4 5 rm_X4_next) (E : ReV X rm_X4_next Q) (ht : (xh X).sig.returnType = none) (hn : (xh X).name = yX4_next.name) {X118 : Nat → Int32 → Int32 → Int32 → Int32 → HS → Prop} (hX118 : ∀ (v0 : Nat) (v1 : Int32) (v2 : Int32) (v3 : Int32) (v4 : Int32) (S : HS), X118 v0 v1 v2 v3 v4 S → WS X 5 0 0 118 [(0, .ref v0), (1, .int v1), (2, .int v2), (3, .int v3), (4, .int v4)] [] S) {v0 : Nat} {v1 : Int32} {v2 : Int32} {v3 : Int32} {v4 : Int32} {S : HS} (h : B_X4_next_118 Q X118 v0 v1 v2 v3 v4 S) : WS X 5 0 0 118 [(0, .ref v0), (1, .int v1), (2, .int v2), (3, .int v3), (4, .int v4)] [] S := by
  refine r_iload_n (pc := 118) C dX4_next_118 1 rfl ?_
  refine r_if_eq (pc := 119) C (tgt := 217) dX4_next_119 (by decide) (fun c1 => ?_) (fun c1 => ?_)
  · have h := h.1 c1
    exact r_sub [0, 1, 2] rfl (T_X4_next_217 C E ht hn h)
  · have h := h.2 c1
    refine r_iload (pc := 122) C dX4_next_122 4 rfl ?_
    refine r_sipush (pc := 124) C (v := (900 : Int32)) dX4_next_124 (by decide) ?_
    refine r_icmp_ge (pc := 127) C (tgt := 217) dX4_next_127 (by decide) (fun c2 => ?_) (fun c2 => ?_)
    · have h := h.1 c2
      exact r_sub [0, 1, 2] rfl (T_X4_next_217 C E ht hn h)
    · have h := h.2 c2
      refine r_aload_n (pc := 130) C dX4_next_130 0 rfl ?_
      refine r_aload_n (pc := 131) C dX4_next_131 0 rfl ?_
      obtain ⟨o_v0, h⟩ := h
      refine r_geti (pc := 132) C fL_X4_107 dX4_next_132 o_v0 ?_
      refine r_topi (fun x3 ex3 => ?_)
      have h := h x3 ex3
      refine r_callVi0 (pc := 135) C (rest := []) (a := v0) o_v0 [.int x3] yV_X4_sortAt g_453 (c_X4_sortAt h) dX4_next_135 rfl rfl (Nat.le_of_ble_eq_true rfl) ⟨by decide, by decide⟩ ⟨by decide, by decide⟩ ⟨rfl, rfl⟩ (fun x6 S4 h g5 => ?_)
      have h := h g5
      have o_v0 := gr_ob g5 o_v0
      refine r_aload_n (pc := 138) C dX4_next_138 0 rfl ?_
      refine r_geti (pc := 139) C fL_X4_92 dX4_next_139 o_v0 ?_
      refine r_topi (fun x7 ex7 => ?_)
      have h := h x7 ex7
      refine r_icmp_ne (pc := 142) C (tgt := 217) dX4_next_142 (by decide) (fun c8 => ?_) (fun c8 => ?_)
      · have h := h.1 c8
        exact r_sub [0, 1, 2] rfl (T_X4_next_217 C E ht hn h)
      · have h := h.2 c8
        refine r_iload (pc := 145) C dX4_next_145 4 rfl ?_
        refine r_iload_n (pc := 147) C dX4_next_147 2 rfl ?_
        refine r_icmp_ge (pc := 148) C (tgt := 201) dX4_next_148 (by decide) (fun c9 => ?_) (fun c9 => ?_)
        · have h := h.1 c9
          exact r_sub [0, 1, 2, 3, 4] rfl (T_X4_next_201 C E ht hn hX118 h)
        · have h := h.2 c9
          refine r_aload_n (pc := 151) C dX4_next_151 0 rfl ?_
          refine r_geti (pc := 152) C fL_X4_107 dX4_next_152 o_v0 ?_
          refine r_topi (fun x10 ex10 => ?_)
          have h := h x10 ex10
          refine r_aload_n (pc := 155) C dX4_next_155 0 rfl ?_
          obtain ⟨a11, ea11, h⟩ := h
          refine r_getr (pc := 156) C fL_X4_9 dX4_next_156 o_v0 ea11 ?_
          obtain ⟨o_a11, h⟩ := h
          refine r_alen12 (pc := 159) C dX4_next_159 o_a11 ?_
          refine r_icmp_ge (pc := 160) C (tgt := 201) dX4_next_160 (by decide) (fun c12 => ?_) (fun c12 => ?_)
          · have h := h.1 c12
            exact r_sub [0, 1, 2, 3, 4] rfl (T_X4_next_201 C E ht hn hX118 h)
          · have h := h.2 c12
            refine r_aload_n (pc := 163) C dX4_next_163 0 rfl ?_
            refine r_aload_n (pc := 164) C dX4_next_164 0 rfl ?_
            refine r_getl (pc := 165) C fL_X4_132 dX4_next_165 o_v0 ?_
            refine r_topl (fun x13 ex13 => ?_)
            have h := h x13 ex13
            refine r_iload_n (pc := 168) C dX4_next_168 3 rfl ?_
            refine r_i2l (pc := 169) C dX4_next_169 ?_
            refine r_lmul (pc := 170) C dX4_next_170 ?_
            refine r_aload_n (pc := 171) C dX4_next_171 0 rfl ?_
            obtain ⟨a14, ea14, h⟩ := h
            refine r_getr (pc := 172) C fL_X4_9 dX4_next_172 o_v0 ea14 ?_
            refine r_aload_n (pc := 175) C dX4_next_175 0 rfl ?_
            refine r_geti (pc := 176) C fL_X4_107 dX4_next_176 o_v0 ?_
            refine r_topi (fun x15 ex15 => ?_)
            have h := h x15 ex15
            obtain ⟨o_a14, h⟩ := h
            obtain ⟨i16, h⟩ := h
            refine r_bald (pc := 179) C dX4_next_179 o_a14 i16 ?_
            refine r_topi (fun x17 ex17 => ?_)
            have h := h x17 ex17
            refine r_aload_n (pc := 180) C dX4_next_180 0 rfl ?_
            refine r_geti (pc := 181) C fL_X4_92 dX4_next_181 o_v0 ?_
            refine r_topi (fun x18 ex18 => ?_)
            have h := h x18 ex18
            refine r_iconst (pc := 184) C (v := (1 : Int32)) dX4_next_184 (by decide) ?_
            refine r_icmp_ne (pc := 185) C (tgt := 193) dX4_next_185 (by decide) (fun c19 => ?_) (fun c19 => ?_)
            · have h := h.1 c19
              refine r_bipush (pc := 193) C (v := (15 : Int32)) dX4_next_193 (by decide) ?_
              exact r_sub [0, 1, 2, 3, 4] rfl (T_X4_next_195 C E ht hn hX118 h)
            · have h := h.2 c19
              refine r_bipush (pc := 188) C (v := (31 : Int32)) dX4_next_188 (by decide) ?_
              refine r_goto (pc := 190) C (tgt := 195) dX4_next_190 (by decide) ?_
              exact r_sub [0, 1, 2, 3, 4] rfl (T_X4_next_195 C E ht hn hX118 h)
theorem T_X4_next_118 {X : CX} {Q : HS → Prop} (C : Cx X cX4_next RX4 5 rm_X4_next) (E : ReV X rm_X4_next Q) (ht : (xh X).sig.returnType = none) (hn : (xh X).name = yX4_next.name) {v0 : Nat} {v1 : Int32} {v2 : Int32} {v3 : Int32} {v4 : Int32} {S : HS} (h : P_X4_next_118 Q v0 v1 v2 v3 v4 S) : WS X 5 0 0 118 [(0, .ref v0), (1, .int v1), (2, .int v2), (3, .int v3), (4, .int v4)] [] S :=
  h (fun v0 v1 v2 v3 v4 S => WS X 5 0 0 118 [(0, .ref v0), (1, .int v1), (2, .int v2), (3, .int v3), (4, .int v4)] [] S) (fun v0 v1 v2 v3 v4 S hh => TB_X4_next_118 C E ht hn (fun v0 v1 v2 v3 v4 S z => z) hh)
def P_X4_next_114 (Q : HS → Prop) (v0 : Nat) (v1 : Int32) (v2 : Int32) (s0 : Int32) (S : HS) : Prop := P_X4_next_118 Q v0 v1 v2 s0 (0 : Int32) S
set_option maxRecDepth 20000 in
set_option maxHeartbeats 4000000 in
theorem T_X4_next_114 {X : CX} {Q : HS → Prop} (C : Cx X cX4_next RX4 5 rm_X4_next) (E : ReV X rm_X4_next Q) (ht : (xh X).sig.returnType = none) (hn : (xh X).name = yX4_next.name) {v0 : Nat} {v1 : Int32} {v2 : Int32} {s0 : Int32} {S : HS} (h : P_X4_next_114 Q v0 v1 v2 s0 S) : WS X 5 0 0 114 [(0, .ref v0), (1, .int v1), (2, .int v2)] [.int s0] S := by
  refine r_istore_n (pc := 114) C dX4_next_114 rfl (by decide) (lv' := [(3, .int s0), (0, .ref v0), (1, .int v1), (2, .int v2)]) rfl ?_
  refine r_iconst (pc := 115) C (v := (0 : Int32)) dX4_next_115 (by decide) ?_
  refine r_istore (pc := 116) C dX4_next_116 (by decide) (lv' := [(4, .int (0 : Int32)), (3, .int s0), (0, .ref v0), (1, .int v1), (2, .int v2)]) rfl ?_
  exact r_sub [2, 3, 4, 1, 0] rfl (T_X4_next_118 C E ht hn h)
def P_X4_next_98 (Q : HS → Prop) (v0 : Nat) (v1 : Int32) (s0 : Int32) (S : HS) : Prop := ob S v0 4 ∧ (∀ x1 : Int32, x1 = fI S v0 6 → (((¬ x1 = (1 : Int32)) → (P_X4_next_114 Q v0 v1 s0 (10 : Int32) S)) ∧ ((x1 = (1 : Int32)) → (P_X4_next_114 Q v0 v1 s0 (32 : Int32) S))))
set_option maxRecDepth 20000 in
set_option maxHeartbeats 4000000 in
theorem T_X4_next_98 {X : CX} {Q : HS → Prop} (C : Cx X cX4_next RX4 5 rm_X4_next) (E : ReV X rm_X4_next Q) (ht : (xh X).sig.returnType = none) (hn : (xh X).name = yX4_next.name) {v0 : Nat} {v1 : Int32} {s0 : Int32} {S : HS} (h : P_X4_next_98 Q v0 v1 s0 S) : WS X 5 0 0 98 [(0, .ref v0), (1, .int v1)] [.int s0] S := by
  refine r_istore_n (pc := 98) C dX4_next_98 rfl (by decide) (lv' := [(2, .int s0), (0, .ref v0), (1, .int v1)]) rfl ?_
  refine r_aload_n (pc := 99) C dX4_next_99 1 rfl ?_
  obtain ⟨o_v0, h⟩ := h
  refine r_geti (pc := 100) C fL_X4_92 dX4_next_100 o_v0 ?_
  refine r_topi (fun x1 ex1 => ?_)
  have h := h x1 ex1
  refine r_iconst (pc := 103) C (v := (1 : Int32)) dX4_next_103 (by decide) ?_
  refine r_icmp_ne (pc := 104) C (tgt := 112) dX4_next_104 (by decide) (fun c2 => ?_) (fun c2 => ?_)
  · have h := h.1 c2
    refine r_bipush (pc := 112) C (v := (10 : Int32)) dX4_next_112 (by decide) ?_
    exact r_sub [1, 2, 0] rfl (T_X4_next_114 C E ht hn h)
  · have h := h.2 c2
    refine r_bipush (pc := 107) C (v := (32 : Int32)) dX4_next_107 (by decide) ?_
    refine r_goto (pc := 109) C (tgt := 114) dX4_next_109 (by decide) ?_
    exact r_sub [1, 2, 0] rfl (T_X4_next_114 C E ht hn h)
def P_X4_next_83 (Q : HS → Prop) (v0 : Nat) (s0 : Int32) (S : HS) : Prop := ob S v0 4 ∧ (∀ x1 : Int32, x1 = fI S v0 6 → (((¬ x1 = (1 : Int32)) → (P_X4_next_98 Q v0 s0 (3 : Int32) S)) ∧ ((x1 = (1 : Int32)) → (P_X4_next_98 Q v0 s0 (8 : Int32) S))))
set_option maxRecDepth 20000 in
set_option maxHeartbeats 4000000 in
theorem T_X4_next_83 {X : CX} {Q : HS → Prop} (C : Cx X cX4_next RX4 5 rm_X4_next) (E : ReV X rm_X4_next Q) (ht : (xh X).sig.returnType = none) (hn : (xh X).name = yX4_next.name) {v0 : Nat} {s0 : Int32} {S : HS} (h : P_X4_next_83 Q v0 s0 S) : WS X 5 0 0 83 [(0, .ref v0)] [.int s0] S := by
  refine r_istore_n (pc := 83) C dX4_next_83 rfl (by decide) (lv' := [(1, .int s0), (0, .ref v0)]) rfl ?_
  refine r_aload_n (pc := 84) C dX4_next_84 1 rfl ?_
  obtain ⟨o_v0, h⟩ := h
  refine r_geti (pc := 85) C fL_X4_92 dX4_next_85 o_v0 ?_
  refine r_topi (fun x1 ex1 => ?_)
  have h := h x1 ex1
  refine r_iconst (pc := 88) C (v := (1 : Int32)) dX4_next_88 (by decide) ?_
  refine r_icmp_ne (pc := 89) C (tgt := 97) dX4_next_89 (by decide) (fun c2 => ?_) (fun c2 => ?_)
  · have h := h.1 c2
    refine r_iconst (pc := 97) C (v := (3 : Int32)) dX4_next_97 (by decide) ?_
    exact r_sub [1, 0] rfl (T_X4_next_98 C E ht hn h)
  · have h := h.2 c2
    refine r_bipush (pc := 92) C (v := (8 : Int32)) dX4_next_92 (by decide) ?_
    refine r_goto (pc := 94) C (tgt := 98) dX4_next_94 (by decide) ?_
    exact r_sub [1, 0] rfl (T_X4_next_98 C E ht hn h)
def P_X4_next_78 (Q : HS → Prop) (v0 : Nat) (S : HS) : Prop := P_X4_next_83 Q v0 (1 : Int32) S
set_option maxRecDepth 20000 in
set_option maxHeartbeats 4000000 in
theorem T_X4_next_78 {X : CX} {Q : HS → Prop} (C : Cx X cX4_next RX4 5 rm_X4_next) (E : ReV X rm_X4_next Q) (ht : (xh X).sig.returnType = none) (hn : (xh X).name = yX4_next.name) {v0 : Nat} {S : HS} (h : P_X4_next_78 Q v0 S) : WS X 5 0 0 78 [(0, .ref v0)] [] S := by
  refine r_iconst (pc := 78) C (v := (1 : Int32)) dX4_next_78 (by decide) ?_
  refine r_goto (pc := 79) C (tgt := 83) dX4_next_79 (by decide) ?_
  exact r_sub [0] rfl (T_X4_next_83 C E ht hn h)
def P_X4_next_37 (Q : HS → Prop) (v0 : Nat) (S : HS) : Prop := ob S v0 4 ∧ (∀ x1 : Int32, x1 = fI S v0 4 → (∀ S2 : HS, S2 = sI S v0 7 x1 → (∀ x3 : Int32, x3 = fI S2 v0 4 → (P_X4_sortAt v0 x3 (fun x6 S4 => Gr S2 S4 → (∀ S7 : HS, S7 = sI S4 v0 6 x6 → (∀ S8 : HS, S8 = sJ S7 v0 8 (0 : Int64) → (∀ x9 : Int32, x9 = fI S8 v0 6 → (((x9 = (1 : Int32)) → (P_X4_next_78 Q v0 S8)) ∧ ((¬ x9 = (1 : Int32)) → (∀ x11 : Int32, x11 = fI S8 v0 6 → (((¬ x11 = (2 : Int32)) → (P_X4_next_83 Q v0 (0 : Int32) S8)) ∧ ((x11 = (2 : Int32)) → (P_X4_next_78 Q v0 S8)))))))))) S2))))
set_option maxRecDepth 20000 in
set_option maxHeartbeats 4000000 in
theorem T_X4_next_37 {X : CX} {Q : HS → Prop} (C : Cx X cX4_next RX4 5 rm_X4_next) (E : ReV X rm_X4_next Q) (ht : (xh X).sig.returnType = none) (hn : (xh X).name = yX4_next.name) {v0 : Nat} {S : HS} (h : P_X4_next_37 Q v0 S) : WS X 5 0 0 37 [(0, .ref v0)] [] S := by
  refine r_aload_n (pc := 37) C dX4_next_37 0 rfl ?_
  refine r_aload_n (pc := 38) C dX4_next_38 0 rfl ?_
  obtain ⟨o_v0, h⟩ := h
  refine r_geti (pc := 39) C fL_X4_107 dX4_next_39 o_v0 ?_
  refine r_topi (fun x1 ex1 => ?_)
  have h := h x1 ex1
  refine r_puti (pc := 42) C pfL_X4_125 dX4_next_42 o_v0 ?_
  refine r_heap (fun S2 eS2 => ?_)
  have h := h S2 eS2
  have o_v0 := ob_I eS2 o_v0
  refine r_aload_n (pc := 45) C dX4_next_45 0 rfl ?_
  refine r_aload_n (pc := 46) C dX4_next_46 0 rfl ?_
  refine r_aload_n (pc := 47) C dX4_next_47 0 rfl ?_
  refine r_geti (pc := 48) C fL_X4_107 dX4_next_48 o_v0 ?_
  refine r_topi (fun x3 ex3 => ?_)
  have h := h x3 ex3
  refine r_callVi0 (pc := 51) C (rest := [.ref v0]) (a := v0) o_v0 [.int x3] yV_X4_sortAt g_453 (c_X4_sortAt h) dX4_next_51 rfl rfl (Nat.le_of_ble_eq_true rfl) ⟨by decide, by decide⟩ ⟨by decide, by decide⟩ ⟨rfl, rfl⟩ (fun x6 S4 h g5 => ?_)
  have h := h g5
  have o_v0 := gr_ob g5 o_v0
  refine r_puti (pc := 54) C pfL_X4_92 dX4_next_54 o_v0 ?_
  refine r_heap (fun S7 eS7 => ?_)
  have h := h S7 eS7
  have o_v0 := ob_I eS7 o_v0
  refine r_aload_n (pc := 57) C dX4_next_57 0 rfl ?_
  refine r_lconst (pc := 58) C (v := (0 : Int64)) dX4_next_58 (by decide) ?_
  refine r_putl (pc := 59) C pfL_X4_132 dX4_next_59 o_v0 ?_
  refine r_heap (fun S8 eS8 => ?_)
  have h := h S8 eS8
  have o_v0 := ob_J eS8 o_v0
  refine r_aload_n (pc := 62) C dX4_next_62 0 rfl ?_
  refine r_geti (pc := 63) C fL_X4_92 dX4_next_63 o_v0 ?_
  refine r_topi (fun x9 ex9 => ?_)
  have h := h x9 ex9
  refine r_iconst (pc := 66) C (v := (1 : Int32)) dX4_next_66 (by decide) ?_
  refine r_icmp_eq (pc := 67) C (tgt := 78) dX4_next_67 (by decide) (fun c10 => ?_) (fun c10 => ?_)
  · have h := h.1 c10
    exact r_sub [0] rfl (T_X4_next_78 C E ht hn h)
  · have h := h.2 c10
    refine r_aload_n (pc := 70) C dX4_next_70 0 rfl ?_
    refine r_geti (pc := 71) C fL_X4_92 dX4_next_71 o_v0 ?_
    refine r_topi (fun x11 ex11 => ?_)
    have h := h x11 ex11
    refine r_iconst (pc := 74) C (v := (2 : Int32)) dX4_next_74 (by decide) ?_
    refine r_icmp_ne (pc := 75) C (tgt := 82) dX4_next_75 (by decide) (fun c12 => ?_) (fun c12 => ?_)
    · have h := h.1 c12
      refine r_iconst (pc := 82) C (v := (0 : Int32)) dX4_next_82 (by decide) ?_
      exact r_sub [0] rfl (T_X4_next_83 C E ht hn h)
    · have h := h.2 c12
      exact r_sub [0] rfl (T_X4_next_78 C E ht hn h)
def B_X4_next_2 (Q : HS → Prop) (X2 : Nat → Int32 → HS → Prop) (v0 : Nat) (v1 : Int32) (S : HS) : Prop := (((900 : Int32) ≤ v1) → (P_X4_next_37 Q v0 S)) ∧ ((¬ (900 : Int32) ≤ v1) → (ob S v0 4 ∧ (∀ x2 : Int32, x2 = fI S v0 4 → (P_X4_sortAt v0 x2 (fun x5 S3 => Gr S S3 → (((¬ x5 = (5 : Int32)) → (P_X4_next_37 Q v0 S3)) ∧ ((x5 = (5 : Int32)) → (∀ x7 : Int32, x7 = fI S3 v0 4 → (∀ x8 : Int32, x8 = x7 + (1 : Int32) → (∀ S9 : HS, S9 = sI S3 v0 4 x8 → (∀ x10 : Int32, x10 = v1 + (1 : Int32) → (X2 v0 x10 S9)))))))) S))))
def P_X4_next_2 (Q : HS → Prop) (v0 : Nat) (v1 : Int32) (S : HS) : Prop := ∀ X2 : Nat → Int32 → HS → Prop, (∀ (v0 : Nat) (v1 : Int32) (S : HS), B_X4_next_2 Q X2 v0 v1 S → X2 v0 v1 S) → X2 v0 v1 S
set_option maxRecDepth 20000 in
set_option maxHeartbeats 4000000 in
theorem TB_X4_next_2 {X : CX} {Q : HS → Prop} (C : Cx X cX4_next RX4 5 rm_X4_next) (E : ReV X rm_X4_next Q) (ht : (xh X).sig.returnType = none) (hn : (xh X).name = yX4_next.name) {X2 : Nat → Int32 → HS → Prop} (hX2 : ∀ (v0 : Nat) (v1 : Int32) (S : HS), X2 v0 v1 S → WS X 5 0 0 2 [(0, .ref v0), (1, .int v1)] [] S) {v0 : Nat} {v1 : Int32} {S : HS} (h : B_X4_next_2 Q X2 v0 v1 S) : WS X 5 0 0 2 [(0, .ref v0), (1, .int v1)] [] S := by
  refine r_iload_n (pc := 2) C dX4_next_2 1 rfl ?_
  refine r_sipush (pc := 3) C (v := (900 : Int32)) dX4_next_3 (by decide) ?_
  refine r_icmp_ge (pc := 6) C (tgt := 37) dX4_next_6 (by decide) (fun c1 => ?_) (fun c1 => ?_)
  · have h := h.1 c1
    exact r_sub [0] rfl (T_X4_next_37 C E ht hn h)
  · have h := h.2 c1
    refine r_aload_n (pc := 9) C dX4_next_9 0 rfl ?_
    refine r_aload_n (pc := 10) C dX4_next_10 0 rfl ?_
    obtain ⟨o_v0, h⟩ := h
    refine r_geti (pc := 11) C fL_X4_107 dX4_next_11 o_v0 ?_
    refine r_topi (fun x2 ex2 => ?_)
    have h := h x2 ex2
    refine r_callVi0 (pc := 14) C (rest := []) (a := v0) o_v0 [.int x2] yV_X4_sortAt g_453 (c_X4_sortAt h) dX4_next_14 rfl rfl (Nat.le_of_ble_eq_true rfl) ⟨by decide, by decide⟩ ⟨by decide, by decide⟩ ⟨rfl, rfl⟩ (fun x5 S3 h g4 => ?_)
    have h := h g4
    have o_v0 := gr_ob g4 o_v0
    refine r_iconst (pc := 17) C (v := (5 : Int32)) dX4_next_17 (by decide) ?_
    refine r_icmp_ne (pc := 18) C (tgt := 37) dX4_next_18 (by decide) (fun c6 => ?_) (fun c6 => ?_)
    · have h := h.1 c6
      exact r_sub [0] rfl (T_X4_next_37 C E ht hn h)
    · have h := h.2 c6
      refine r_aload_n (pc := 21) C dX4_next_21 0 rfl ?_
      refine r_dup (pc := 22) C dX4_next_22 rfl ?_
      refine r_geti (pc := 23) C fL_X4_107 dX4_next_23 o_v0 ?_
      refine r_topi (fun x7 ex7 => ?_)
      have h := h x7 ex7
      refine r_iconst (pc := 26) C (v := (1 : Int32)) dX4_next_26 (by decide) ?_
      refine r_iadd (pc := 27) C dX4_next_27 ?_
      refine r_topi (fun x8 ex8 => ?_)
      have h := h x8 ex8
      refine r_puti (pc := 28) C pfL_X4_107 dX4_next_28 o_v0 ?_
      refine r_heap (fun S9 eS9 => ?_)
      have h := h S9 eS9
      have o_v0 := ob_I eS9 o_v0
      obtain ⟨x10, ex10⟩ : ∃ z : Int32, z = v1 + (1 : Int32) := ⟨_, rfl⟩
      have h := h x10 ex10
      refine r_iinc (pc := 31) C (v := x10) (lv' := [(1, .int x10), (0, .ref v0)]) dX4_next_31 1 rfl ex10.symm (by decide) rfl ?_
      refine r_goto (pc := 34) C (tgt := 2) dX4_next_34 (by decide) ?_
      exact r_sub [1, 0] rfl (hX2 v0 x10 S9 h)
theorem T_X4_next_2 {X : CX} {Q : HS → Prop} (C : Cx X cX4_next RX4 5 rm_X4_next) (E : ReV X rm_X4_next Q) (ht : (xh X).sig.returnType = none) (hn : (xh X).name = yX4_next.name) {v0 : Nat} {v1 : Int32} {S : HS} (h : P_X4_next_2 Q v0 v1 S) : WS X 5 0 0 2 [(0, .ref v0), (1, .int v1)] [] S :=
  h (fun v0 v1 S => WS X 5 0 0 2 [(0, .ref v0), (1, .int v1)] [] S) (fun v0 v1 S hh => TB_X4_next_2 C E ht hn (fun v0 v1 S z => z) hh)
def P_X4_next_0 (Q : HS → Prop) (v0 : Nat) (S : HS) : Prop := P_X4_next_2 Q v0 (0 : Int32) S
set_option maxRecDepth 20000 in
set_option maxHeartbeats 4000000 in
theorem T_X4_next_0 {X : CX} {Q : HS → Prop} (C : Cx X cX4_next RX4 5 rm_X4_next) (E : ReV X rm_X4_next Q) (ht : (xh X).sig.returnType = none) (hn : (xh X).name = yX4_next.name) {v0 : Nat} {S : HS} (h : P_X4_next_0 Q v0 S) : WS X 5 0 0 0 [(0, .ref v0)] [] S := by
  refine r_iconst (pc := 0) C (v := (0 : Int32)) dX4_next_0 (by decide) ?_
  refine r_istore_n (pc := 1) C dX4_next_1 rfl (by decide) (lv' := [(1, .int (0 : Int32)), (0, .ref v0)]) rfl ?_
  exact r_sub [1, 0] rfl (T_X4_next_2 C E ht hn h)
def P_X4_next (v0 : Nat) (Q : HS → Prop) (S : HS) : Prop := P_X4_next_0 Q v0 S
theorem c_X4_next {l : Launch} {Ee : EE} {S : HS} {v0 : Nat} {Q : HS → Prop} (h : P_X4_next v0 Q S) : MV l yX4_next cX4_next 5 none rm_X4_next Ee S [.ref v0] Q :=
  openV (by decide) (Nat.le_of_ble_eq_true rfl) (fun X C E ht hn hE hl => by subst hE; exact r_sub [0] rfl (T_X4_next_0 C E ht hn h))
def rm_X4_whole : Room := { frames := 2, cells := 0, slots := 0, locals := 46 }
def P_X4_whole_34 (Q : Int32 → HS → Prop) (v0 : Nat) (S : HS) : Prop := ob S v0 4 ∧ (P_X4_fail v0 (4 : Int32) (fun x3 S1 => Gr S S1 → bl x3 → (bl x3 ∧ Q x3 S1)) S)
set_option maxRecDepth 20000 in
set_option maxHeartbeats 4000000 in
theorem T_X4_whole_34 {X : CX} {Q : Int32 → HS → Prop} (C : Cx X cX4_whole RX4 3 rm_X4_whole) (E : ReI X rm_X4_whole (fun r S => bl r ∧ Q r S)) (ht : (xh X).sig.returnType = (some .boolean)) (hn : (xh X).name = yX4_whole.name) {v0 : Nat} {S : HS} (h : P_X4_whole_34 Q v0 S) : WS X 3 0 0 34 [(0, .ref v0)] [] S := by
  refine r_aload_n (pc := 34) C dX4_whole_34 0 rfl ?_
  refine r_iconst (pc := 35) C (v := (4 : Int32)) dX4_whole_35 (by decide) ?_
  obtain ⟨o_v0, h⟩ := h
  refine r_callVi0 (pc := 36) C (rest := []) (a := v0) o_v0 [.int (4 : Int32)] yV_X4_fail g_519 (c_X4_fail h) dX4_whole_36 rfl rfl (Nat.le_of_ble_eq_true rfl) ⟨by decide, by decide⟩ ⟨by decide, by decide⟩ ⟨rfl, rfl⟩ (fun x3 S1 h g2 => ?_)
  have bx3 := h.1
  have h := h.2 g2 bx3
  have o_v0 := gr_ob g2 o_v0
  exact r_zret (pc := 39) C E ht dX4_whole_39 (by decide) (by decide) h.1 h.2
def P_X4_whole_0 (Q : Int32 → HS → Prop) (v0 : Nat) (v1 : Int32) (v2 : Int32) (S : HS) : Prop := ob S v0 4 ∧ (∀ x1 : Int32, x1 = fI S v0 6 → (((x1 = (2 : Int32)) → (∀ x3 : Int64, x3 = fJ S v0 8 → ((((lg_cmp x3 v1.toInt64) < 0) → (P_X4_whole_34 Q v0 S)) ∧ ((¬ (lg_cmp x3 v1.toInt64) < 0) → (∀ x5 : Int64, x5 = fJ S v0 8 → ((((lg_cmp x5 v2.toInt64) ≤ 0) → (∀ x7 : Int64, x7 = fJ S v0 8 → (∀ x8 : Int32, x8 = x7.toInt32 → (∀ S9 : HS, S9 = sI S v0 9 x8 → (P_X4_next v0 (fun S10 => Gr S9 S10 → (Q (1 : Int32) S10)) S9))))) ∧ ((¬ (lg_cmp x5 v2.toInt64) ≤ 0) → (P_X4_whole_34 Q v0 S)))))))) ∧ ((¬ x1 = (2 : Int32)) → (P_X4_fail v0 (1 : Int32) (fun x15 S13 => Gr S S13 → bl x15 → (bl x15 ∧ Q x15 S13)) S))))
set_option maxRecDepth 20000 in
set_option maxHeartbeats 4000000 in
theorem T_X4_whole_0 {X : CX} {Q : Int32 → HS → Prop} (C : Cx X cX4_whole RX4 3 rm_X4_whole) (E : ReI X rm_X4_whole (fun r S => bl r ∧ Q r S)) (ht : (xh X).sig.returnType = (some .boolean)) (hn : (xh X).name = yX4_whole.name) {v0 : Nat} {v1 : Int32} {v2 : Int32} {S : HS} (h : P_X4_whole_0 Q v0 v1 v2 S) : WS X 3 0 0 0 [(0, .ref v0), (1, .int v1), (2, .int v2)] [] S := by
  refine r_aload_n (pc := 0) C dX4_whole_0 0 rfl ?_
  obtain ⟨o_v0, h⟩ := h
  refine r_geti (pc := 1) C fL_X4_92 dX4_whole_1 o_v0 ?_
  refine r_topi (fun x1 ex1 => ?_)
  have h := h x1 ex1
  refine r_iconst (pc := 4) C (v := (2 : Int32)) dX4_whole_4 (by decide) ?_
  refine r_icmp_eq (pc := 5) C (tgt := 14) dX4_whole_5 (by decide) (fun c2 => ?_) (fun c2 => ?_)
  · have h := h.1 c2
    refine r_aload_n (pc := 14) C dX4_whole_14 0 rfl ?_
    refine r_getl (pc := 15) C fL_X4_132 dX4_whole_15 o_v0 ?_
    refine r_topl (fun x3 ex3 => ?_)
    have h := h x3 ex3
    refine r_iload_n (pc := 18) C dX4_whole_18 1 rfl ?_
    refine r_i2l (pc := 19) C dX4_whole_19 ?_
    refine r_lcmp (pc := 20) C dX4_whole_20 ?_
    refine r_if_lt (pc := 21) C (tgt := 34) dX4_whole_21 (by decide) (fun c4 => ?_) (fun c4 => ?_)
    · have h := h.1 c4
      exact r_sub [0] rfl (T_X4_whole_34 C E ht hn h)
    · have h := h.2 c4
      refine r_aload_n (pc := 24) C dX4_whole_24 0 rfl ?_
      refine r_getl (pc := 25) C fL_X4_132 dX4_whole_25 o_v0 ?_
      refine r_topl (fun x5 ex5 => ?_)
      have h := h x5 ex5
      refine r_iload_n (pc := 28) C dX4_whole_28 2 rfl ?_
      refine r_i2l (pc := 29) C dX4_whole_29 ?_
      refine r_lcmp (pc := 30) C dX4_whole_30 ?_
      refine r_if_le (pc := 31) C (tgt := 40) dX4_whole_31 (by decide) (fun c6 => ?_) (fun c6 => ?_)
      · have h := h.1 c6
        refine r_aload_n (pc := 40) C dX4_whole_40 0 rfl ?_
        refine r_aload_n (pc := 41) C dX4_whole_41 0 rfl ?_
        refine r_getl (pc := 42) C fL_X4_132 dX4_whole_42 o_v0 ?_
        refine r_topl (fun x7 ex7 => ?_)
        have h := h x7 ex7
        refine r_l2i (pc := 45) C dX4_whole_45 ?_
        refine r_topi (fun x8 ex8 => ?_)
        have h := h x8 ex8
        refine r_puti (pc := 46) C pfL_X4_147 dX4_whole_46 o_v0 ?_
        refine r_heap (fun S9 eS9 => ?_)
        have h := h S9 eS9
        have o_v0 := ob_I eS9 o_v0
        refine r_aload_n (pc := 49) C dX4_whole_49 0 rfl ?_
        refine r_callVv0 (pc := 50) C (rest := []) (a := v0) o_v0 [] yV_X4_next g_449 (c_X4_next h) dX4_whole_50 rfl rfl (Nat.le_of_ble_eq_true rfl) ⟨by decide, by decide⟩ ⟨by decide, by decide⟩ ⟨rfl, rfl⟩ (fun S10 h g11 => ?_)
        have h := h g11
        have o_v0 := gr_ob g11 o_v0
        refine r_iconst (pc := 53) C (v := (1 : Int32)) dX4_whole_53 (by decide) ?_
        exact r_zret (pc := 54) C E ht dX4_whole_54 (by decide) (by decide) (Or.inr rfl) h
      · have h := h.2 c6
        exact r_sub [0] rfl (T_X4_whole_34 C E ht hn h)
  · have h := h.2 c2
    refine r_aload_n (pc := 8) C dX4_whole_8 0 rfl ?_
    refine r_iconst (pc := 9) C (v := (1 : Int32)) dX4_whole_9 (by decide) ?_
    refine r_callVi0 (pc := 10) C (rest := []) (a := v0) o_v0 [.int (1 : Int32)] yV_X4_fail g_519 (c_X4_fail h) dX4_whole_10 rfl rfl (Nat.le_of_ble_eq_true rfl) ⟨by decide, by decide⟩ ⟨by decide, by decide⟩ ⟨rfl, rfl⟩ (fun x15 S13 h g14 => ?_)
    have bx15 := h.1
    have h := h.2 g14 bx15
    have o_v0 := gr_ob g14 o_v0
    exact r_zret (pc := 13) C E ht dX4_whole_13 (by decide) (by decide) h.1 h.2
def P_X4_whole (v0 : Nat) (v1 : Int32) (v2 : Int32) (Q : Int32 → HS → Prop) (S : HS) : Prop := P_X4_whole_0 Q v0 v1 v2 S
theorem c_X4_whole {l : Launch} {Ee : EE} {S : HS} {v0 : Nat} {v1 : Int32} {v2 : Int32} {Q : Int32 → HS → Prop} (h : P_X4_whole v0 v1 v2 Q S) : MI l yX4_whole cX4_whole 3 (some .boolean) rm_X4_whole Ee S [.ref v0, .int v1, .int v2] (fun r S => bl r ∧ Q r S) :=
  openI (by decide) (Nat.le_of_ble_eq_true rfl) (fun X C E ht hn hE hl => by subst hE; exact r_sub [0, 1, 2] rfl (T_X4_whole_0 C E ht hn h))
def rm_X4_is : Room := { frames := 5, cells := 0, slots := 0, locals := 120 }
def B_X4_is_15 (Q : Int32 → HS → Prop) (X15 : Nat → Nat → Int64 → Int32 → HS → Prop) (v0 : Nat) (v1 : Nat) (v2 : Int64) (v4 : Int32) (S : HS) : Prop := v1 < 54 ∧ ∀ x1 : Int32, x1 = nI (sLen.getD v1 0) → (((x1 ≤ v4) → (ob S v0 4 ∧ (∀ x3 : Int64, x3 = fJ S v0 8 → (((¬ (lg_cmp x3 v2) = 0) → (Q (0 : Int32) S)) ∧ (((lg_cmp x3 v2) = 0) → (Q (1 : Int32) S)))))) ∧ ((¬ x1 ≤ v4) → (v1 < 54 ∧ vp_in v4 (sLen.getD v1 0) ∧ ∀ x5 : Int32, x5 = sch v1 v4 → (∀ x6 : Int64, x6 = (v2 * (32 : Int64)) + ((x5 &&& (31 : Int32)).toInt64) → (∀ x7 : Int32, x7 = v4 + (1 : Int32) → (X15 v0 v1 x6 x7 S))))))
def P_X4_is_15 (Q : Int32 → HS → Prop) (v0 : Nat) (v1 : Nat) (v2 : Int64) (v4 : Int32) (S : HS) : Prop := ∀ X15 : Nat → Nat → Int64 → Int32 → HS → Prop, (∀ (v0 : Nat) (v1 : Nat) (v2 : Int64) (v4 : Int32) (S : HS), B_X4_is_15 Q X15 v0 v1 v2 v4 S → X15 v0 v1 v2 v4 S) → X15 v0 v1 v2 v4 S
set_option maxRecDepth 20000 in
set_option maxHeartbeats 4000000 in
theorem TB_X4_is_15 {X : CX} {Q : Int32 → HS → Prop} (C : Cx X cX4_is RX4 5 rm_X4_is) (E : ReI X rm_X4_is (fun r S => bl r ∧ Q r S)) (ht : (xh X).sig.returnType = (some .boolean)) (hn : (xh X).name = yX4_is.name) {X15 : Nat → Nat → Int64 → Int32 → HS → Prop} (hX15 : ∀ (v0 : Nat) (v1 : Nat) (v2 : Int64) (v4 : Int32) (S : HS), X15 v0 v1 v2 v4 S → WS X 5 0 0 15 [(0, .ref v0), (1, .ref (eK (xE X) v1)), (2, .long v2), (4, .int v4)] [] S) {v0 : Nat} {v1 : Nat} {v2 : Int64} {v4 : Int32} {S : HS} (h : B_X4_is_15 Q X15 v0 v1 v2 v4 S) : WS X 5 0 0 15 [(0, .ref v0), (1, .ref (eK (xE X) v1)), (2, .long v2), (4, .int v4)] [] S := by
  refine r_iload (pc := 15) C dX4_is_15 3 rfl ?_
  refine r_aload_n (pc := 17) C dX4_is_17 1 rfl ?_
  obtain ⟨hw, h⟩ := h
  refine r_slen (pc := 18) C g_462 dX4_is_18 hw (by decide) (by decide) (by decide) (by decide) (Nat.le_of_ble_eq_true rfl) ?_
  refine r_topi (fun x1 ex1 => ?_)
  have h := h x1 ex1
  refine r_icmp_ge (pc := 21) C (tgt := 47) dX4_is_21 (by decide) (fun c2 => ?_) (fun c2 => ?_)
  · have h := h.1 c2
    refine r_aload_n (pc := 47) C dX4_is_47 0 rfl ?_
    obtain ⟨o_v0, h⟩ := h
    refine r_getl (pc := 48) C fL_X4_132 dX4_is_48 o_v0 ?_
    refine r_topl (fun x3 ex3 => ?_)
    have h := h x3 ex3
    refine r_lload_n (pc := 51) C dX4_is_51 2 rfl ?_
    refine r_lcmp (pc := 52) C dX4_is_52 ?_
    refine r_if_ne (pc := 53) C (tgt := 60) dX4_is_53 (by decide) (fun c4 => ?_) (fun c4 => ?_)
    · have h := h.1 c4
      refine r_iconst (pc := 60) C (v := (0 : Int32)) dX4_is_60 (by decide) ?_
      exact r_zret (pc := 61) C E ht dX4_is_61 (by decide) (by decide) (Or.inl rfl) h
    · have h := h.2 c4
      refine r_iconst (pc := 56) C (v := (1 : Int32)) dX4_is_56 (by decide) ?_
      refine r_goto (pc := 57) C (tgt := 61) dX4_is_57 (by decide) ?_
      exact r_zret (pc := 61) C E ht dX4_is_61 (by decide) (by decide) (Or.inr rfl) h
  · have h := h.2 c2
    refine r_lload_n (pc := 24) C dX4_is_24 2 rfl ?_
    refine r_ldc2 (pc := 25) C (v := (32 : Int64)) dX4_is_25 g_472 ?_
    refine r_lmul (pc := 28) C dX4_is_28 ?_
    refine r_aload_n (pc := 29) C dX4_is_29 1 rfl ?_
    refine r_iload (pc := 30) C dX4_is_30 3 rfl ?_
    obtain ⟨hw, hw2, h⟩ := h
    refine r_schar (pc := 32) C g_473 dX4_is_32 hw hw2 (by decide) (by decide) (by decide) (by decide) (Nat.le_of_ble_eq_true rfl) ?_
    refine r_topi (fun x5 ex5 => ?_)
    have h := h x5 ex5
    refine r_bipush (pc := 35) C (v := (31 : Int32)) dX4_is_35 (by decide) ?_
    refine r_iand (pc := 37) C dX4_is_37 ?_
    refine r_i2l (pc := 38) C dX4_is_38 ?_
    refine r_ladd (pc := 39) C dX4_is_39 ?_
    refine r_topl (fun x6 ex6 => ?_)
    have h := h x6 ex6
    refine r_lstore_n (pc := 40) C dX4_is_40 rfl (by decide) (lv' := [(2, .long x6), (0, .ref v0), (1, .ref (eK (xE X) v1)), (4, .int v4)]) rfl ?_
    obtain ⟨x7, ex7⟩ : ∃ z : Int32, z = v4 + (1 : Int32) := ⟨_, rfl⟩
    have h := h x7 ex7
    refine r_iinc (pc := 41) C (v := x7) (lv' := [(4, .int x7), (2, .long x6), (0, .ref v0), (1, .ref (eK (xE X) v1))]) dX4_is_41 3 rfl ex7.symm (by decide) rfl ?_
    refine r_goto (pc := 44) C (tgt := 15) dX4_is_44 (by decide) ?_
    exact r_sub [2, 3, 1, 0] rfl (hX15 v0 v1 x6 x7 S h)
theorem T_X4_is_15 {X : CX} {Q : Int32 → HS → Prop} (C : Cx X cX4_is RX4 5 rm_X4_is) (E : ReI X rm_X4_is (fun r S => bl r ∧ Q r S)) (ht : (xh X).sig.returnType = (some .boolean)) (hn : (xh X).name = yX4_is.name) {v0 : Nat} {v1 : Nat} {v2 : Int64} {v4 : Int32} {S : HS} (h : P_X4_is_15 Q v0 v1 v2 v4 S) : WS X 5 0 0 15 [(0, .ref v0), (1, .ref (eK (xE X) v1)), (2, .long v2), (4, .int v4)] [] S :=
  h (fun v0 v1 v2 v4 S => WS X 5 0 0 15 [(0, .ref v0), (1, .ref (eK (xE X) v1)), (2, .long v2), (4, .int v4)] [] S) (fun v0 v1 v2 v4 S hh => TB_X4_is_15 C E ht hn (fun v0 v1 v2 v4 S z => z) hh)
def P_X4_is_0 (Q : Int32 → HS → Prop) (v0 : Nat) (v1 : Nat) (S : HS) : Prop := ob S v0 4 ∧ (∀ x1 : Int32, x1 = fI S v0 6 → (((x1 = (1 : Int32)) → (P_X4_is_15 Q v0 v1 (0 : Int64) (0 : Int32) S)) ∧ ((¬ x1 = (1 : Int32)) → (Q (0 : Int32) S))))
set_option maxRecDepth 20000 in
set_option maxHeartbeats 4000000 in
theorem T_X4_is_0 {X : CX} {Q : Int32 → HS → Prop} (C : Cx X cX4_is RX4 5 rm_X4_is) (E : ReI X rm_X4_is (fun r S => bl r ∧ Q r S)) (ht : (xh X).sig.returnType = (some .boolean)) (hn : (xh X).name = yX4_is.name) {v0 : Nat} {v1 : Nat} {S : HS} (h : P_X4_is_0 Q v0 v1 S) : WS X 5 0 0 0 [(0, .ref v0), (1, .ref (eK (xE X) v1))] [] S := by
  refine r_aload_n (pc := 0) C dX4_is_0 0 rfl ?_
  obtain ⟨o_v0, h⟩ := h
  refine r_geti (pc := 1) C fL_X4_92 dX4_is_1 o_v0 ?_
  refine r_topi (fun x1 ex1 => ?_)
  have h := h x1 ex1
  refine r_iconst (pc := 4) C (v := (1 : Int32)) dX4_is_4 (by decide) ?_
  refine r_icmp_eq (pc := 5) C (tgt := 10) dX4_is_5 (by decide) (fun c2 => ?_) (fun c2 => ?_)
  · have h := h.1 c2
    refine r_lconst (pc := 10) C (v := (0 : Int64)) dX4_is_10 (by decide) ?_
    refine r_lstore_n (pc := 11) C dX4_is_11 rfl (by decide) (lv' := [(2, .long (0 : Int64)), (0, .ref v0), (1, .ref (eK (xE X) v1))]) rfl ?_
    refine r_iconst (pc := 12) C (v := (0 : Int32)) dX4_is_12 (by decide) ?_
    refine r_istore (pc := 13) C dX4_is_13 (by decide) (lv' := [(4, .int (0 : Int32)), (2, .long (0 : Int64)), (0, .ref v0), (1, .ref (eK (xE X) v1))]) rfl ?_
    exact r_sub [2, 3, 1, 0] rfl (T_X4_is_15 C E ht hn h)
  · have h := h.2 c2
    refine r_iconst (pc := 8) C (v := (0 : Int32)) dX4_is_8 (by decide) ?_
    exact r_zret (pc := 9) C E ht dX4_is_9 (by decide) (by decide) (Or.inl rfl) h
def P_X4_is (v0 : Nat) (v1 : Nat) (Q : Int32 → HS → Prop) (S : HS) : Prop := P_X4_is_0 Q v0 v1 S
theorem c_X4_is {l : Launch} {Ee : EE} {S : HS} {v0 : Nat} {v1 : Nat} {Q : Int32 → HS → Prop} (h : P_X4_is v0 v1 Q S) : MI l yX4_is cX4_is 5 (some .boolean) rm_X4_is Ee S [.ref v0, .ref (eK Ee v1)] (fun r S => bl r ∧ Q r S) :=
  openI (by decide) (Nat.le_of_ble_eq_true rfl) (fun X C E ht hn hE hl => by subst hE; exact r_sub [0, 1] rfl (T_X4_is_0 C E ht hn h))
def rm_X4_word : Room := { frames := 6, cells := 0, slots := 0, locals := 144 }
def P_X4_word_0 (Q : Int32 → HS → Prop) (v0 : Nat) (v1 : Nat) (S : HS) : Prop := ob S v0 4 ∧ (P_X4_is v0 v1 (fun x3 S1 => Gr S S1 → bl x3 → (((¬ x3 = 0) → (P_X4_next v0 (fun S5 => Gr S1 S5 → (Q (1 : Int32) S5)) S1)) ∧ ((x3 = 0) → (P_X4_fail v0 (1 : Int32) (fun x10 S8 => Gr S1 S8 → bl x10 → (bl x10 ∧ Q x10 S8)) S1)))) S)
set_option maxRecDepth 20000 in
set_option maxHeartbeats 4000000 in
theorem T_X4_word_0 {X : CX} {Q : Int32 → HS → Prop} (C : Cx X cX4_word RX4 2 rm_X4_word) (E : ReI X rm_X4_word (fun r S => bl r ∧ Q r S)) (ht : (xh X).sig.returnType = (some .boolean)) (hn : (xh X).name = yX4_word.name) {v0 : Nat} {v1 : Nat} {S : HS} (h : P_X4_word_0 Q v0 v1 S) : WS X 2 0 0 0 [(0, .ref v0), (1, .ref (eK (xE X) v1))] [] S := by
  refine r_aload_n (pc := 0) C dX4_word_0 0 rfl ?_
  refine r_aload_n (pc := 1) C dX4_word_1 1 rfl ?_
  obtain ⟨o_v0, h⟩ := h
  refine r_callVi0 (pc := 2) C (rest := []) (a := v0) o_v0 [.ref (eK (xE X) v1)] yV_X4_is g_458 (c_X4_is h) dX4_word_2 rfl rfl (Nat.le_of_ble_eq_true rfl) ⟨by decide, by decide⟩ ⟨by decide, by decide⟩ ⟨rfl, rfl⟩ (fun x3 S1 h g2 => ?_)
  have bx3 := h.1
  have h := h.2 g2 bx3
  have o_v0 := gr_ob g2 o_v0
  refine r_if_ne (pc := 5) C (tgt := 14) dX4_word_5 (by decide) (fun c4 => ?_) (fun c4 => ?_)
  · have h := h.1 c4
    refine r_aload_n (pc := 14) C dX4_word_14 0 rfl ?_
    refine r_callVv0 (pc := 15) C (rest := []) (a := v0) o_v0 [] yV_X4_next g_449 (c_X4_next h) dX4_word_15 rfl rfl (Nat.le_of_ble_eq_true rfl) ⟨by decide, by decide⟩ ⟨by decide, by decide⟩ ⟨rfl, rfl⟩ (fun S5 h g6 => ?_)
    have h := h g6
    have o_v0 := gr_ob g6 o_v0
    refine r_iconst (pc := 18) C (v := (1 : Int32)) dX4_word_18 (by decide) ?_
    exact r_zret (pc := 19) C E ht dX4_word_19 (by decide) (by decide) (Or.inr rfl) h
  · have h := h.2 c4
    refine r_aload_n (pc := 8) C dX4_word_8 0 rfl ?_
    refine r_iconst (pc := 9) C (v := (1 : Int32)) dX4_word_9 (by decide) ?_
    refine r_callVi0 (pc := 10) C (rest := []) (a := v0) o_v0 [.int (1 : Int32)] yV_X4_fail g_519 (c_X4_fail h) dX4_word_10 rfl rfl (Nat.le_of_ble_eq_true rfl) ⟨by decide, by decide⟩ ⟨by decide, by decide⟩ ⟨rfl, rfl⟩ (fun x10 S8 h g9 => ?_)
    have bx10 := h.1
    have h := h.2 g9 bx10
    have o_v0 := gr_ob g9 o_v0
    exact r_zret (pc := 13) C E ht dX4_word_13 (by decide) (by decide) h.1 h.2
def P_X4_word (v0 : Nat) (v1 : Nat) (Q : Int32 → HS → Prop) (S : HS) : Prop := P_X4_word_0 Q v0 v1 S
theorem c_X4_word {l : Launch} {Ee : EE} {S : HS} {v0 : Nat} {v1 : Nat} {Q : Int32 → HS → Prop} (h : P_X4_word v0 v1 Q S) : MI l yX4_word cX4_word 2 (some .boolean) rm_X4_word Ee S [.ref v0, .ref (eK Ee v1)] (fun r S => bl r ∧ Q r S) :=
  openI (by decide) (Nat.le_of_ble_eq_true rfl) (fun X C E ht hn hE hl => by subst hE; exact r_sub [0, 1] rfl (T_X4_word_0 C E ht hn h))
def rm_X4_wordAndWhole : Room := { frames := 7, cells := 0, slots := 0, locals := 165 }
def P_X4_wordAndWhole_0 (Q : Int32 → HS → Prop) (v0 : Nat) (v1 : Nat) (v2 : Int32) (v3 : Int32) (S : HS) : Prop := ob S v0 4 ∧ (P_X4_word v0 v1 (fun x3 S1 => Gr S S1 → bl x3 → (((x3 = 0) → (Q (0 : Int32) S1)) ∧ ((¬ x3 = 0) → (P_X4_whole v0 v2 v3 (fun x7 S5 => Gr S1 S5 → bl x7 → (((x7 = 0) → (Q (0 : Int32) S5)) ∧ ((¬ x7 = 0) → (Q (1 : Int32) S5)))) S1)))) S)
set_option maxRecDepth 20000 in
set_option maxHeartbeats 4000000 in
theorem T_X4_wordAndWhole_0 {X : CX} {Q : Int32 → HS → Prop} (C : Cx X cX4_wordAndWhole RX4 4 rm_X4_wordAndWhole) (E : ReI X rm_X4_wordAndWhole (fun r S => bl r ∧ Q r S)) (ht : (xh X).sig.returnType = (some .boolean)) (hn : (xh X).name = yX4_wordAndWhole.name) {v0 : Nat} {v1 : Nat} {v2 : Int32} {v3 : Int32} {S : HS} (h : P_X4_wordAndWhole_0 Q v0 v1 v2 v3 S) : WS X 4 0 0 0 [(0, .ref v0), (1, .ref (eK (xE X) v1)), (2, .int v2), (3, .int v3)] [] S := by
  refine r_aload_n (pc := 0) C dX4_wordAndWhole_0 0 rfl ?_
  refine r_aload_n (pc := 1) C dX4_wordAndWhole_1 1 rfl ?_
  obtain ⟨o_v0, h⟩ := h
  refine r_callVi0 (pc := 2) C (rest := []) (a := v0) o_v0 [.ref (eK (xE X) v1)] yV_X4_word g_528 (c_X4_word h) dX4_wordAndWhole_2 rfl rfl (Nat.le_of_ble_eq_true rfl) ⟨by decide, by decide⟩ ⟨by decide, by decide⟩ ⟨rfl, rfl⟩ (fun x3 S1 h g2 => ?_)
  have bx3 := h.1
  have h := h.2 g2 bx3
  have o_v0 := gr_ob g2 o_v0
  refine r_if_eq (pc := 5) C (tgt := 21) dX4_wordAndWhole_5 (by decide) (fun c4 => ?_) (fun c4 => ?_)
  · have h := h.1 c4
    refine r_iconst (pc := 21) C (v := (0 : Int32)) dX4_wordAndWhole_21 (by decide) ?_
    exact r_zret (pc := 22) C E ht dX4_wordAndWhole_22 (by decide) (by decide) (Or.inl rfl) h
  · have h := h.2 c4
    refine r_aload_n (pc := 8) C dX4_wordAndWhole_8 0 rfl ?_
    refine r_iload_n (pc := 9) C dX4_wordAndWhole_9 2 rfl ?_
    refine r_iload_n (pc := 10) C dX4_wordAndWhole_10 3 rfl ?_
    refine r_callVi0 (pc := 11) C (rest := []) (a := v0) o_v0 [.int v2, .int v3] yV_X4_whole g_532 (c_X4_whole h) dX4_wordAndWhole_11 rfl rfl (Nat.le_of_ble_eq_true rfl) ⟨by decide, by decide⟩ ⟨by decide, by decide⟩ ⟨rfl, rfl⟩ (fun x7 S5 h g6 => ?_)
    have bx7 := h.1
    have h := h.2 g6 bx7
    have o_v0 := gr_ob g6 o_v0
    refine r_if_eq (pc := 14) C (tgt := 21) dX4_wordAndWhole_14 (by decide) (fun c8 => ?_) (fun c8 => ?_)
    · have h := h.1 c8
      refine r_iconst (pc := 21) C (v := (0 : Int32)) dX4_wordAndWhole_21 (by decide) ?_
      exact r_zret (pc := 22) C E ht dX4_wordAndWhole_22 (by decide) (by decide) (Or.inl rfl) h
    · have h := h.2 c8
      refine r_iconst (pc := 17) C (v := (1 : Int32)) dX4_wordAndWhole_17 (by decide) ?_
      refine r_goto (pc := 18) C (tgt := 22) dX4_wordAndWhole_18 (by decide) ?_
      exact r_zret (pc := 22) C E ht dX4_wordAndWhole_22 (by decide) (by decide) (Or.inr rfl) h
def P_X4_wordAndWhole (v0 : Nat) (v1 : Nat) (v2 : Int32) (v3 : Int32) (Q : Int32 → HS → Prop) (S : HS) : Prop := P_X4_wordAndWhole_0 Q v0 v1 v2 v3 S
theorem c_X4_wordAndWhole {l : Launch} {Ee : EE} {S : HS} {v0 : Nat} {v1 : Nat} {v2 : Int32} {v3 : Int32} {Q : Int32 → HS → Prop} (h : P_X4_wordAndWhole v0 v1 v2 v3 Q S) : MI l yX4_wordAndWhole cX4_wordAndWhole 4 (some .boolean) rm_X4_wordAndWhole Ee S [.ref v0, .ref (eK Ee v1), .int v2, .int v3] (fun r S => bl r ∧ Q r S) :=
  openI (by decide) (Nat.le_of_ble_eq_true rfl) (fun X C E ht hn hE hl => by subst hE; exact r_sub [0, 1, 2, 3] rfl (T_X4_wordAndWhole_0 C E ht hn h))
def rm_X6_shape : Room := { frames := 0, cells := 0, slots := 0, locals := 0 }
def P_X6_shape_16 (Q : HS → Prop) (v0 : Nat) (v1 : Int32) (v2 : Int32) (v3 : Int32) (s0 : Int32) (S : HS) : Prop := ob S v0 6 ∧ (∀ x1 : Int32, x1 = v1 * (v2 + s0) → (∀ S2 : HS, S2 = sI S v0 2 x1 → (∀ x3 : Int32, x3 = v1 * (v3 - s0) → (∀ S4 : HS, S4 = sI S2 v0 3 x3 → (∀ x5 : Int32, x5 = (v2 + s0) * (v3 - s0) → (∀ S6 : HS, S6 = sI S4 v0 4 x5 → (Q S6)))))))
set_option maxRecDepth 20000 in
set_option maxHeartbeats 4000000 in
theorem T_X6_shape_16 {X : CX} {Q : HS → Prop} (C : Cx X cX6_shape RX6 5 rm_X6_shape) (E : ReV X rm_X6_shape Q) (ht : (xh X).sig.returnType = none) (hn : (xh X).name = yX6_shape.name) {v0 : Nat} {v1 : Int32} {v2 : Int32} {v3 : Int32} {s0 : Int32} {S : HS} (h : P_X6_shape_16 Q v0 v1 v2 v3 s0 S) : WS X 5 0 0 16 [(0, .ref v0), (1, .int v1), (2, .int v2), (3, .int v3)] [.int s0] S := by
  refine r_istore (pc := 16) C dX6_shape_16 (by decide) (lv' := [(4, .int s0), (0, .ref v0), (1, .int v1), (2, .int v2), (3, .int v3)]) rfl ?_
  refine r_aload_n (pc := 18) C dX6_shape_18 1 rfl ?_
  refine r_iload_n (pc := 19) C dX6_shape_19 2 rfl ?_
  refine r_iload_n (pc := 20) C dX6_shape_20 3 rfl ?_
  refine r_iload (pc := 21) C dX6_shape_21 0 rfl ?_
  refine r_iadd (pc := 23) C dX6_shape_23 ?_
  refine r_imul (pc := 24) C dX6_shape_24 ?_
  obtain ⟨o_v0, h⟩ := h
  refine r_topi (fun x1 ex1 => ?_)
  have h := h x1 ex1
  refine r_puti (pc := 25) C pfL_X6_18 dX6_shape_25 o_v0 ?_
  refine r_heap (fun S2 eS2 => ?_)
  have h := h S2 eS2
  have o_v0 := ob_I eS2 o_v0
  refine r_aload_n (pc := 28) C dX6_shape_28 1 rfl ?_
  refine r_iload_n (pc := 29) C dX6_shape_29 2 rfl ?_
  refine r_iload_n (pc := 30) C dX6_shape_30 4 rfl ?_
  refine r_iload (pc := 31) C dX6_shape_31 0 rfl ?_
  refine r_isub (pc := 33) C dX6_shape_33 ?_
  refine r_imul (pc := 34) C dX6_shape_34 ?_
  refine r_topi (fun x3 ex3 => ?_)
  have h := h x3 ex3
  refine r_puti (pc := 35) C pfL_X6_21 dX6_shape_35 o_v0 ?_
  refine r_heap (fun S4 eS4 => ?_)
  have h := h S4 eS4
  have o_v0 := ob_I eS4 o_v0
  refine r_aload_n (pc := 38) C dX6_shape_38 1 rfl ?_
  refine r_iload_n (pc := 39) C dX6_shape_39 3 rfl ?_
  refine r_iload (pc := 40) C dX6_shape_40 0 rfl ?_
  refine r_iadd (pc := 42) C dX6_shape_42 ?_
  refine r_iload_n (pc := 43) C dX6_shape_43 4 rfl ?_
  refine r_iload (pc := 44) C dX6_shape_44 0 rfl ?_
  refine r_isub (pc := 46) C dX6_shape_46 ?_
  refine r_imul (pc := 47) C dX6_shape_47 ?_
  refine r_topi (fun x5 ex5 => ?_)
  have h := h x5 ex5
  refine r_puti (pc := 48) C pfL_X6_24 dX6_shape_48 o_v0 ?_
  refine r_heap (fun S6 eS6 => ?_)
  have h := h S6 eS6
  have o_v0 := ob_I eS6 o_v0
  exact r_vret (pc := 51) C E ht dX6_shape_51 (by decide) (by decide) h
def P_X6_shape_0 (Q : HS → Prop) (v0 : Nat) (v1 : Int32) (v2 : Int32) (v3 : Int32) (S : HS) : Prop := ob S v0 6 ∧ (∀ x1 : Int32, x1 = fI S v0 0 → (((¬ x1 = (1 : Int32)) → (P_X6_shape_16 Q v0 v1 v2 v3 (0 : Int32) S)) ∧ ((x1 = (1 : Int32)) → (∀ x3 : Int32, x3 = fI S v0 1 → (P_X6_shape_16 Q v0 v1 v2 v3 x3 S)))))
set_option maxRecDepth 20000 in
set_option maxHeartbeats 4000000 in
theorem T_X6_shape_0 {X : CX} {Q : HS → Prop} (C : Cx X cX6_shape RX6 5 rm_X6_shape) (E : ReV X rm_X6_shape Q) (ht : (xh X).sig.returnType = none) (hn : (xh X).name = yX6_shape.name) {v0 : Nat} {v1 : Int32} {v2 : Int32} {v3 : Int32} {S : HS} (h : P_X6_shape_0 Q v0 v1 v2 v3 S) : WS X 5 0 0 0 [(0, .ref v0), (1, .int v1), (2, .int v2), (3, .int v3)] [] S := by
  refine r_aload_n (pc := 0) C dX6_shape_0 0 rfl ?_
  obtain ⟨o_v0, h⟩ := h
  refine r_geti (pc := 1) C fL_X6_9 dX6_shape_1 o_v0 ?_
  refine r_topi (fun x1 ex1 => ?_)
  have h := h x1 ex1
  refine r_iconst (pc := 4) C (v := (1 : Int32)) dX6_shape_4 (by decide) ?_
  refine r_icmp_ne (pc := 5) C (tgt := 15) dX6_shape_5 (by decide) (fun c2 => ?_) (fun c2 => ?_)
  · have h := h.1 c2
    refine r_iconst (pc := 15) C (v := (0 : Int32)) dX6_shape_15 (by decide) ?_
    exact r_sub [0, 1, 2, 3] rfl (T_X6_shape_16 C E ht hn h)
  · have h := h.2 c2
    refine r_aload_n (pc := 8) C dX6_shape_8 0 rfl ?_
    refine r_geti (pc := 9) C fL_X6_15 dX6_shape_9 o_v0 ?_
    refine r_topi (fun x3 ex3 => ?_)
    have h := h x3 ex3
    refine r_goto (pc := 12) C (tgt := 16) dX6_shape_12 (by decide) ?_
    exact r_sub [0, 1, 2, 3] rfl (T_X6_shape_16 C E ht hn h)
def P_X6_shape (v0 : Nat) (v1 : Int32) (v2 : Int32) (v3 : Int32) (Q : HS → Prop) (S : HS) : Prop := P_X6_shape_0 Q v0 v1 v2 v3 S
theorem c_X6_shape {l : Launch} {Ee : EE} {S : HS} {v0 : Nat} {v1 : Int32} {v2 : Int32} {v3 : Int32} {Q : HS → Prop} (h : P_X6_shape v0 v1 v2 v3 Q S) : MV l yX6_shape cX6_shape 5 none rm_X6_shape Ee S [.ref v0, .int v1, .int v2, .int v3] Q :=
  openV (by decide) (Nat.le_of_ble_eq_true rfl) (fun X C E ht hn hE hl => by subst hE; exact r_sub [0, 1, 2, 3] rfl (T_X6_shape_0 C E ht hn h))
def rm_X4_bodyOf : Room := { frames := 8, cells := 0, slots := 0, locals := 188 }
def P_X4_bodyOf_58 (Q : Int32 → HS → Prop) (v0 : Nat) (v1 : Nat) (v2 : Int32) (v3 : Int32) (s0 : Int32) (S : HS) : Prop := ob S v0 4 ∧ (P_X4_wordAndWhole v0 24 s0 (9 : Int32) (fun x3 S1 => Gr S S1 → bl x3 → (((¬ x3 = 0) → (∀ x5 : Int32, x5 = fI S1 v0 9 → (ob S1 v1 6 ∧ (P_X6_shape v1 v2 v3 x5 (fun S6 => Gr S1 S6 → (Q (1 : Int32) S6)) S1)))) ∧ ((x3 = 0) → (Q (0 : Int32) S1)))) S)
set_option maxRecDepth 20000 in
set_option maxHeartbeats 4000000 in
theorem T_X4_bodyOf_58 {X : CX} {Q : Int32 → HS → Prop} (C : Cx X cX4_bodyOf RX4 5 rm_X4_bodyOf) (E : ReI X rm_X4_bodyOf (fun r S => bl r ∧ Q r S)) (ht : (xh X).sig.returnType = (some .boolean)) (hn : (xh X).name = yX4_bodyOf.name) {v0 : Nat} {v1 : Nat} {v2 : Int32} {v3 : Int32} {s0 : Int32} {S : HS} (h : P_X4_bodyOf_58 Q v0 v1 v2 v3 s0 S) : WS X 5 0 0 58 [(0, .ref v0), (1, .ref v1), (2, .int v2), (3, .int v3)] [.int s0] S := by
  refine r_istore (pc := 58) C dX4_bodyOf_58 (by decide) (lv' := [(4, .int s0), (0, .ref v0), (1, .ref v1), (2, .int v2), (3, .int v3)]) rfl ?_
  refine r_aload_n (pc := 60) C dX4_bodyOf_60 1 rfl ?_
  refine r_ldsw (pc := 61) C 24 rfl dX4_bodyOf_61 ?_
  refine r_iload (pc := 64) C dX4_bodyOf_64 0 rfl ?_
  refine r_bipush (pc := 66) C (v := (9 : Int32)) dX4_bodyOf_66 (by decide) ?_
  obtain ⟨o_v0, h⟩ := h
  refine r_callVi0 (pc := 68) C (rest := []) (a := v0) o_v0 [.ref (eK (xE X) 24), .int s0, .int (9 : Int32)] yV_X4_wordAndWhole g_524 (c_X4_wordAndWhole h) dX4_bodyOf_68 rfl rfl (Nat.le_of_ble_eq_true rfl) ⟨by decide, by decide⟩ ⟨by decide, by decide⟩ ⟨rfl, rfl⟩ (fun x3 S1 h g2 => ?_)
  have bx3 := h.1
  have h := h.2 g2 bx3
  have o_v0 := gr_ob g2 o_v0
  refine r_if_ne (pc := 71) C (tgt := 76) dX4_bodyOf_71 (by decide) (fun c4 => ?_) (fun c4 => ?_)
  · have h := h.1 c4
    refine r_aload_n (pc := 76) C dX4_bodyOf_76 2 rfl ?_
    refine r_iload_n (pc := 77) C dX4_bodyOf_77 3 rfl ?_
    refine r_iload_n (pc := 78) C dX4_bodyOf_78 4 rfl ?_
    refine r_aload_n (pc := 79) C dX4_bodyOf_79 1 rfl ?_
    refine r_geti (pc := 80) C fL_X4_147 dX4_bodyOf_80 o_v0 ?_
    refine r_topi (fun x5 ex5 => ?_)
    have h := h x5 ex5
    obtain ⟨o_v1, h⟩ := h
    refine r_callVv0 (pc := 83) C (rest := []) (a := v1) o_v1 [.int v2, .int v3, .int x5] yV_X6_shape g_607 (c_X6_shape h) dX4_bodyOf_83 rfl rfl (Nat.le_of_ble_eq_true rfl) ⟨by decide, by decide⟩ ⟨by decide, by decide⟩ ⟨rfl, rfl⟩ (fun S6 h g7 => ?_)
    have h := h g7
    have o_v0 := gr_ob g7 o_v0
    have o_v1 := gr_ob g7 o_v1
    refine r_iconst (pc := 86) C (v := (1 : Int32)) dX4_bodyOf_86 (by decide) ?_
    exact r_zret (pc := 87) C E ht dX4_bodyOf_87 (by decide) (by decide) (Or.inr rfl) h
  · have h := h.2 c4
    refine r_iconst (pc := 74) C (v := (0 : Int32)) dX4_bodyOf_74 (by decide) ?_
    exact r_zret (pc := 75) C E ht dX4_bodyOf_75 (by decide) (by decide) (Or.inl rfl) h
def P_X4_bodyOf_0 (Q : Int32 → HS → Prop) (v0 : Nat) (v1 : Nat) (S : HS) : Prop := ob S v0 4 ∧ (P_X4_wordAndWhole v0 22 (1 : Int32) (9 : Int32) (fun x3 S1 => Gr S S1 → bl x3 → (((¬ x3 = 0) → (∀ x5 : Int32, x5 = fI S1 v0 9 → (P_X4_wordAndWhole v0 23 (1 : Int32) (9 : Int32) (fun x8 S6 => Gr S1 S6 → bl x8 → (((¬ x8 = 0) → (∀ x10 : Int32, x10 = fI S6 v0 9 → (ob S6 v1 6 ∧ (∀ x11 : Int32, x11 = fI S6 v1 0 → (((¬ x11 = (1 : Int32)) → (P_X4_bodyOf_58 Q v0 v1 x5 x10 (1 : Int32) S6)) ∧ ((x11 = (1 : Int32)) → (∀ x13 : Int32, x13 = fI S6 v1 1 → (P_X4_bodyOf_58 Q v0 v1 x5 x10 (x13 + (1 : Int32)) S6)))))))) ∧ ((x8 = 0) → (Q (0 : Int32) S6)))) S1))) ∧ ((x3 = 0) → (Q (0 : Int32) S1)))) S)
set_option maxRecDepth 20000 in
set_option maxHeartbeats 4000000 in
theorem T_X4_bodyOf_0 {X : CX} {Q : Int32 → HS → Prop} (C : Cx X cX4_bodyOf RX4 5 rm_X4_bodyOf) (E : ReI X rm_X4_bodyOf (fun r S => bl r ∧ Q r S)) (ht : (xh X).sig.returnType = (some .boolean)) (hn : (xh X).name = yX4_bodyOf.name) {v0 : Nat} {v1 : Nat} {S : HS} (h : P_X4_bodyOf_0 Q v0 v1 S) : WS X 5 0 0 0 [(0, .ref v0), (1, .ref v1)] [] S := by
  refine r_aload_n (pc := 0) C dX4_bodyOf_0 0 rfl ?_
  refine r_ldsw (pc := 1) C 22 rfl dX4_bodyOf_1 ?_
  refine r_iconst (pc := 4) C (v := (1 : Int32)) dX4_bodyOf_4 (by decide) ?_
  refine r_bipush (pc := 5) C (v := (9 : Int32)) dX4_bodyOf_5 (by decide) ?_
  obtain ⟨o_v0, h⟩ := h
  refine r_callVi0 (pc := 7) C (rest := []) (a := v0) o_v0 [.ref (eK (xE X) 22), .int (1 : Int32), .int (9 : Int32)] yV_X4_wordAndWhole g_524 (c_X4_wordAndWhole h) dX4_bodyOf_7 rfl rfl (Nat.le_of_ble_eq_true rfl) ⟨by decide, by decide⟩ ⟨by decide, by decide⟩ ⟨rfl, rfl⟩ (fun x3 S1 h g2 => ?_)
  have bx3 := h.1
  have h := h.2 g2 bx3
  have o_v0 := gr_ob g2 o_v0
  refine r_if_ne (pc := 10) C (tgt := 15) dX4_bodyOf_10 (by decide) (fun c4 => ?_) (fun c4 => ?_)
  · have h := h.1 c4
    refine r_aload_n (pc := 15) C dX4_bodyOf_15 0 rfl ?_
    refine r_geti (pc := 16) C fL_X4_147 dX4_bodyOf_16 o_v0 ?_
    refine r_topi (fun x5 ex5 => ?_)
    have h := h x5 ex5
    refine r_istore_n (pc := 19) C dX4_bodyOf_19 rfl (by decide) (lv' := [(2, .int x5), (0, .ref v0), (1, .ref v1)]) rfl ?_
    refine r_aload_n (pc := 20) C dX4_bodyOf_20 1 rfl ?_
    refine r_ldsw (pc := 21) C 23 rfl dX4_bodyOf_21 ?_
    refine r_iconst (pc := 24) C (v := (1 : Int32)) dX4_bodyOf_24 (by decide) ?_
    refine r_bipush (pc := 25) C (v := (9 : Int32)) dX4_bodyOf_25 (by decide) ?_
    refine r_callVi0 (pc := 27) C (rest := []) (a := v0) o_v0 [.ref (eK (xE X) 23), .int (1 : Int32), .int (9 : Int32)] yV_X4_wordAndWhole g_524 (c_X4_wordAndWhole h) dX4_bodyOf_27 rfl rfl (Nat.le_of_ble_eq_true rfl) ⟨by decide, by decide⟩ ⟨by decide, by decide⟩ ⟨rfl, rfl⟩ (fun x8 S6 h g7 => ?_)
    have bx8 := h.1
    have h := h.2 g7 bx8
    have o_v0 := gr_ob g7 o_v0
    refine r_if_ne (pc := 30) C (tgt := 35) dX4_bodyOf_30 (by decide) (fun c9 => ?_) (fun c9 => ?_)
    · have h := h.1 c9
      refine r_aload_n (pc := 35) C dX4_bodyOf_35 1 rfl ?_
      refine r_geti (pc := 36) C fL_X4_147 dX4_bodyOf_36 o_v0 ?_
      refine r_topi (fun x10 ex10 => ?_)
      have h := h x10 ex10
      refine r_istore_n (pc := 39) C dX4_bodyOf_39 rfl (by decide) (lv' := [(3, .int x10), (2, .int x5), (0, .ref v0), (1, .ref v1)]) rfl ?_
      refine r_aload_n (pc := 40) C dX4_bodyOf_40 3 rfl ?_
      obtain ⟨o_v1, h⟩ := h
      refine r_geti (pc := 41) C fL_X4_264 dX4_bodyOf_41 o_v1 ?_
      refine r_topi (fun x11 ex11 => ?_)
      have h := h x11 ex11
      refine r_iconst (pc := 44) C (v := (1 : Int32)) dX4_bodyOf_44 (by decide) ?_
      refine r_icmp_ne (pc := 45) C (tgt := 57) dX4_bodyOf_45 (by decide) (fun c12 => ?_) (fun c12 => ?_)
      · have h := h.1 c12
        refine r_iconst (pc := 57) C (v := (1 : Int32)) dX4_bodyOf_57 (by decide) ?_
        exact r_sub [2, 3, 1, 0] rfl (T_X4_bodyOf_58 C E ht hn h)
      · have h := h.2 c12
        refine r_aload_n (pc := 48) C dX4_bodyOf_48 3 rfl ?_
        refine r_geti (pc := 49) C fL_X4_273 dX4_bodyOf_49 o_v1 ?_
        refine r_topi (fun x13 ex13 => ?_)
        have h := h x13 ex13
        refine r_iconst (pc := 52) C (v := (1 : Int32)) dX4_bodyOf_52 (by decide) ?_
        refine r_iadd (pc := 53) C dX4_bodyOf_53 ?_
        refine r_goto (pc := 54) C (tgt := 58) dX4_bodyOf_54 (by decide) ?_
        exact r_sub [2, 3, 1, 0] rfl (T_X4_bodyOf_58 C E ht hn h)
    · have h := h.2 c9
      refine r_iconst (pc := 33) C (v := (0 : Int32)) dX4_bodyOf_33 (by decide) ?_
      exact r_zret (pc := 34) C E ht dX4_bodyOf_34 (by decide) (by decide) (Or.inl rfl) h
  · have h := h.2 c4
    refine r_iconst (pc := 13) C (v := (0 : Int32)) dX4_bodyOf_13 (by decide) ?_
    exact r_zret (pc := 14) C E ht dX4_bodyOf_14 (by decide) (by decide) (Or.inl rfl) h
def P_X4_bodyOf (v0 : Nat) (v1 : Nat) (Q : Int32 → HS → Prop) (S : HS) : Prop := P_X4_bodyOf_0 Q v0 v1 S
theorem c_X4_bodyOf {l : Launch} {Ee : EE} {S : HS} {v0 : Nat} {v1 : Nat} {Q : Int32 → HS → Prop} (h : P_X4_bodyOf v0 v1 Q S) : MI l yX4_bodyOf cX4_bodyOf 5 (some .boolean) rm_X4_bodyOf Ee S [.ref v0, .ref v1] (fun r S => bl r ∧ Q r S) :=
  openI (by decide) (Nat.le_of_ble_eq_true rfl) (fun X C E ht hn hE hl => by subst hE; exact r_sub [0, 1] rfl (T_X4_bodyOf_0 C E ht hn h))
def rm_X4_canBeName : Room := { frames := 6, cells := 0, slots := 0, locals := 144 }
def P_X4_canBeName_86 (Q : Int32 → HS → Prop) (v0 : Nat) (s0 : Int32) (S : HS) : Prop := ob S v0 4 ∧ (∀ x1 : Int32, x1 = fI S v0 6 → (((¬ x1 = (1 : Int32)) → (Q (0 : Int32) S)) ∧ ((x1 = (1 : Int32)) → (((¬ s0 = 0) → (Q (0 : Int32) S)) ∧ ((s0 = 0) → (Q (1 : Int32) S))))))
set_option maxRecDepth 20000 in
set_option maxHeartbeats 4000000 in
theorem T_X4_canBeName_86 {X : CX} {Q : Int32 → HS → Prop} (C : Cx X cX4_canBeName RX4 2 rm_X4_canBeName) (E : ReI X rm_X4_canBeName (fun r S => bl r ∧ Q r S)) (ht : (xh X).sig.returnType = (some .boolean)) (hn : (xh X).name = yX4_canBeName.name) {v0 : Nat} {s0 : Int32} {S : HS} (h : P_X4_canBeName_86 Q v0 s0 S) : WS X 2 0 0 86 [(0, .ref v0)] [.int s0] S := by
  refine r_istore_n (pc := 86) C dX4_canBeName_86 rfl (by decide) (lv' := [(1, .int s0), (0, .ref v0)]) rfl ?_
  refine r_aload_n (pc := 87) C dX4_canBeName_87 1 rfl ?_
  obtain ⟨o_v0, h⟩ := h
  refine r_geti (pc := 88) C fL_X4_92 dX4_canBeName_88 o_v0 ?_
  refine r_topi (fun x1 ex1 => ?_)
  have h := h x1 ex1
  refine r_iconst (pc := 91) C (v := (1 : Int32)) dX4_canBeName_91 (by decide) ?_
  refine r_icmp_ne (pc := 92) C (tgt := 103) dX4_canBeName_92 (by decide) (fun c2 => ?_) (fun c2 => ?_)
  · have h := h.1 c2
    refine r_iconst (pc := 103) C (v := (0 : Int32)) dX4_canBeName_103 (by decide) ?_
    exact r_zret (pc := 104) C E ht dX4_canBeName_104 (by decide) (by decide) (Or.inl rfl) h
  · have h := h.2 c2
    refine r_iload_n (pc := 95) C dX4_canBeName_95 0 rfl ?_
    refine r_if_ne (pc := 96) C (tgt := 103) dX4_canBeName_96 (by decide) (fun c3 => ?_) (fun c3 => ?_)
    · have h := h.1 c3
      refine r_iconst (pc := 103) C (v := (0 : Int32)) dX4_canBeName_103 (by decide) ?_
      exact r_zret (pc := 104) C E ht dX4_canBeName_104 (by decide) (by decide) (Or.inl rfl) h
    · have h := h.2 c3
      refine r_iconst (pc := 99) C (v := (1 : Int32)) dX4_canBeName_99 (by decide) ?_
      refine r_goto (pc := 100) C (tgt := 104) dX4_canBeName_100 (by decide) ?_
      exact r_zret (pc := 104) C E ht dX4_canBeName_104 (by decide) (by decide) (Or.inr rfl) h
def P_X4_canBeName_81 (Q : Int32 → HS → Prop) (v0 : Nat) (S : HS) : Prop := P_X4_canBeName_86 Q v0 (1 : Int32) S
set_option maxRecDepth 20000 in
set_option maxHeartbeats 4000000 in
theorem T_X4_canBeName_81 {X : CX} {Q : Int32 → HS → Prop} (C : Cx X cX4_canBeName RX4 2 rm_X4_canBeName) (E : ReI X rm_X4_canBeName (fun r S => bl r ∧ Q r S)) (ht : (xh X).sig.returnType = (some .boolean)) (hn : (xh X).name = yX4_canBeName.name) {v0 : Nat} {S : HS} (h : P_X4_canBeName_81 Q v0 S) : WS X 2 0 0 81 [(0, .ref v0)] [] S := by
  refine r_iconst (pc := 81) C (v := (1 : Int32)) dX4_canBeName_81 (by decide) ?_
  refine r_goto (pc := 82) C (tgt := 86) dX4_canBeName_82 (by decide) ?_
  exact r_sub [0] rfl (T_X4_canBeName_86 C E ht hn h)
def P_X4_canBeName_0 (Q : Int32 → HS → Prop) (v0 : Nat) (S : HS) : Prop := ob S v0 4 ∧ (P_X4_is v0 0 (fun x3 S1 => Gr S S1 → bl x3 → (((¬ x3 = 0) → (P_X4_canBeName_81 Q v0 S1)) ∧ ((x3 = 0) → (P_X4_is v0 2 (fun x7 S5 => Gr S1 S5 → bl x7 → (((¬ x7 = 0) → (P_X4_canBeName_81 Q v0 S5)) ∧ ((x7 = 0) → (P_X4_is v0 11 (fun x11 S9 => Gr S5 S9 → bl x11 → (((¬ x11 = 0) → (P_X4_canBeName_81 Q v0 S9)) ∧ ((x11 = 0) → (P_X4_is v0 12 (fun x15 S13 => Gr S9 S13 → bl x15 → (((¬ x15 = 0) → (P_X4_canBeName_81 Q v0 S13)) ∧ ((x15 = 0) → (P_X4_is v0 13 (fun x19 S17 => Gr S13 S17 → bl x19 → (((¬ x19 = 0) → (P_X4_canBeName_81 Q v0 S17)) ∧ ((x19 = 0) → (P_X4_is v0 14 (fun x23 S21 => Gr S17 S21 → bl x23 → (((¬ x23 = 0) → (P_X4_canBeName_81 Q v0 S21)) ∧ ((x23 = 0) → (P_X4_is v0 15 (fun x27 S25 => Gr S21 S25 → bl x27 → (((¬ x27 = 0) → (P_X4_canBeName_81 Q v0 S25)) ∧ ((x27 = 0) → (P_X4_is v0 16 (fun x31 S29 => Gr S25 S29 → bl x31 → (((¬ x31 = 0) → (P_X4_canBeName_81 Q v0 S29)) ∧ ((x31 = 0) → (P_X4_is v0 17 (fun x35 S33 => Gr S29 S33 → bl x35 → (((x35 = 0) → (P_X4_canBeName_86 Q v0 (0 : Int32) S33)) ∧ ((¬ x35 = 0) → (P_X4_canBeName_81 Q v0 S33)))) S29)))) S25)))) S21)))) S17)))) S13)))) S9)))) S5)))) S1)))) S)
set_option maxRecDepth 20000 in
set_option maxHeartbeats 4000000 in
theorem T_X4_canBeName_0 {X : CX} {Q : Int32 → HS → Prop} (C : Cx X cX4_canBeName RX4 2 rm_X4_canBeName) (E : ReI X rm_X4_canBeName (fun r S => bl r ∧ Q r S)) (ht : (xh X).sig.returnType = (some .boolean)) (hn : (xh X).name = yX4_canBeName.name) {v0 : Nat} {S : HS} (h : P_X4_canBeName_0 Q v0 S) : WS X 2 0 0 0 [(0, .ref v0)] [] S := by
  refine r_aload_n (pc := 0) C dX4_canBeName_0 0 rfl ?_
  refine r_lds (pc := 1) C 0 rfl dX4_canBeName_1 ?_
  obtain ⟨o_v0, h⟩ := h
  refine r_callVi0 (pc := 3) C (rest := []) (a := v0) o_v0 [.ref (eK (xE X) 0)] yV_X4_is g_458 (c_X4_is h) dX4_canBeName_3 rfl rfl (Nat.le_of_ble_eq_true rfl) ⟨by decide, by decide⟩ ⟨by decide, by decide⟩ ⟨rfl, rfl⟩ (fun x3 S1 h g2 => ?_)
  have bx3 := h.1
  have h := h.2 g2 bx3
  have o_v0 := gr_ob g2 o_v0
  refine r_if_ne (pc := 6) C (tgt := 81) dX4_canBeName_6 (by decide) (fun c4 => ?_) (fun c4 => ?_)
  · have h := h.1 c4
    exact r_sub [0] rfl (T_X4_canBeName_81 C E ht hn h)
  · have h := h.2 c4
    refine r_aload_n (pc := 9) C dX4_canBeName_9 0 rfl ?_
    refine r_lds (pc := 10) C 2 rfl dX4_canBeName_10 ?_
    refine r_callVi0 (pc := 12) C (rest := []) (a := v0) o_v0 [.ref (eK (xE X) 2)] yV_X4_is g_458 (c_X4_is h) dX4_canBeName_12 rfl rfl (Nat.le_of_ble_eq_true rfl) ⟨by decide, by decide⟩ ⟨by decide, by decide⟩ ⟨rfl, rfl⟩ (fun x7 S5 h g6 => ?_)
    have bx7 := h.1
    have h := h.2 g6 bx7
    have o_v0 := gr_ob g6 o_v0
    refine r_if_ne (pc := 15) C (tgt := 81) dX4_canBeName_15 (by decide) (fun c8 => ?_) (fun c8 => ?_)
    · have h := h.1 c8
      exact r_sub [0] rfl (T_X4_canBeName_81 C E ht hn h)
    · have h := h.2 c8
      refine r_aload_n (pc := 18) C dX4_canBeName_18 0 rfl ?_
      refine r_lds (pc := 19) C 11 rfl dX4_canBeName_19 ?_
      refine r_callVi0 (pc := 21) C (rest := []) (a := v0) o_v0 [.ref (eK (xE X) 11)] yV_X4_is g_458 (c_X4_is h) dX4_canBeName_21 rfl rfl (Nat.le_of_ble_eq_true rfl) ⟨by decide, by decide⟩ ⟨by decide, by decide⟩ ⟨rfl, rfl⟩ (fun x11 S9 h g10 => ?_)
      have bx11 := h.1
      have h := h.2 g10 bx11
      have o_v0 := gr_ob g10 o_v0
      refine r_if_ne (pc := 24) C (tgt := 81) dX4_canBeName_24 (by decide) (fun c12 => ?_) (fun c12 => ?_)
      · have h := h.1 c12
        exact r_sub [0] rfl (T_X4_canBeName_81 C E ht hn h)
      · have h := h.2 c12
        refine r_aload_n (pc := 27) C dX4_canBeName_27 0 rfl ?_
        refine r_lds (pc := 28) C 12 rfl dX4_canBeName_28 ?_
        refine r_callVi0 (pc := 30) C (rest := []) (a := v0) o_v0 [.ref (eK (xE X) 12)] yV_X4_is g_458 (c_X4_is h) dX4_canBeName_30 rfl rfl (Nat.le_of_ble_eq_true rfl) ⟨by decide, by decide⟩ ⟨by decide, by decide⟩ ⟨rfl, rfl⟩ (fun x15 S13 h g14 => ?_)
        have bx15 := h.1
        have h := h.2 g14 bx15
        have o_v0 := gr_ob g14 o_v0
        refine r_if_ne (pc := 33) C (tgt := 81) dX4_canBeName_33 (by decide) (fun c16 => ?_) (fun c16 => ?_)
        · have h := h.1 c16
          exact r_sub [0] rfl (T_X4_canBeName_81 C E ht hn h)
        · have h := h.2 c16
          refine r_aload_n (pc := 36) C dX4_canBeName_36 0 rfl ?_
          refine r_lds (pc := 37) C 13 rfl dX4_canBeName_37 ?_
          refine r_callVi0 (pc := 39) C (rest := []) (a := v0) o_v0 [.ref (eK (xE X) 13)] yV_X4_is g_458 (c_X4_is h) dX4_canBeName_39 rfl rfl (Nat.le_of_ble_eq_true rfl) ⟨by decide, by decide⟩ ⟨by decide, by decide⟩ ⟨rfl, rfl⟩ (fun x19 S17 h g18 => ?_)
          have bx19 := h.1
          have h := h.2 g18 bx19
          have o_v0 := gr_ob g18 o_v0
          refine r_if_ne (pc := 42) C (tgt := 81) dX4_canBeName_42 (by decide) (fun c20 => ?_) (fun c20 => ?_)
          · have h := h.1 c20
            exact r_sub [0] rfl (T_X4_canBeName_81 C E ht hn h)
          · have h := h.2 c20
            refine r_aload_n (pc := 45) C dX4_canBeName_45 0 rfl ?_
            refine r_lds (pc := 46) C 14 rfl dX4_canBeName_46 ?_
            refine r_callVi0 (pc := 48) C (rest := []) (a := v0) o_v0 [.ref (eK (xE X) 14)] yV_X4_is g_458 (c_X4_is h) dX4_canBeName_48 rfl rfl (Nat.le_of_ble_eq_true rfl) ⟨by decide, by decide⟩ ⟨by decide, by decide⟩ ⟨rfl, rfl⟩ (fun x23 S21 h g22 => ?_)
            have bx23 := h.1
            have h := h.2 g22 bx23
            have o_v0 := gr_ob g22 o_v0
            refine r_if_ne (pc := 51) C (tgt := 81) dX4_canBeName_51 (by decide) (fun c24 => ?_) (fun c24 => ?_)
            · have h := h.1 c24
              exact r_sub [0] rfl (T_X4_canBeName_81 C E ht hn h)
            · have h := h.2 c24
              refine r_aload_n (pc := 54) C dX4_canBeName_54 0 rfl ?_
              refine r_lds (pc := 55) C 15 rfl dX4_canBeName_55 ?_
              refine r_callVi0 (pc := 57) C (rest := []) (a := v0) o_v0 [.ref (eK (xE X) 15)] yV_X4_is g_458 (c_X4_is h) dX4_canBeName_57 rfl rfl (Nat.le_of_ble_eq_true rfl) ⟨by decide, by decide⟩ ⟨by decide, by decide⟩ ⟨rfl, rfl⟩ (fun x27 S25 h g26 => ?_)
              have bx27 := h.1
              have h := h.2 g26 bx27
              have o_v0 := gr_ob g26 o_v0
              refine r_if_ne (pc := 60) C (tgt := 81) dX4_canBeName_60 (by decide) (fun c28 => ?_) (fun c28 => ?_)
              · have h := h.1 c28
                exact r_sub [0] rfl (T_X4_canBeName_81 C E ht hn h)
              · have h := h.2 c28
                refine r_aload_n (pc := 63) C dX4_canBeName_63 0 rfl ?_
                refine r_lds (pc := 64) C 16 rfl dX4_canBeName_64 ?_
                refine r_callVi0 (pc := 66) C (rest := []) (a := v0) o_v0 [.ref (eK (xE X) 16)] yV_X4_is g_458 (c_X4_is h) dX4_canBeName_66 rfl rfl (Nat.le_of_ble_eq_true rfl) ⟨by decide, by decide⟩ ⟨by decide, by decide⟩ ⟨rfl, rfl⟩ (fun x31 S29 h g30 => ?_)
                have bx31 := h.1
                have h := h.2 g30 bx31
                have o_v0 := gr_ob g30 o_v0
                refine r_if_ne (pc := 69) C (tgt := 81) dX4_canBeName_69 (by decide) (fun c32 => ?_) (fun c32 => ?_)
                · have h := h.1 c32
                  exact r_sub [0] rfl (T_X4_canBeName_81 C E ht hn h)
                · have h := h.2 c32
                  refine r_aload_n (pc := 72) C dX4_canBeName_72 0 rfl ?_
                  refine r_lds (pc := 73) C 17 rfl dX4_canBeName_73 ?_
                  refine r_callVi0 (pc := 75) C (rest := []) (a := v0) o_v0 [.ref (eK (xE X) 17)] yV_X4_is g_458 (c_X4_is h) dX4_canBeName_75 rfl rfl (Nat.le_of_ble_eq_true rfl) ⟨by decide, by decide⟩ ⟨by decide, by decide⟩ ⟨rfl, rfl⟩ (fun x35 S33 h g34 => ?_)
                  have bx35 := h.1
                  have h := h.2 g34 bx35
                  have o_v0 := gr_ob g34 o_v0
                  refine r_if_eq (pc := 78) C (tgt := 85) dX4_canBeName_78 (by decide) (fun c36 => ?_) (fun c36 => ?_)
                  · have h := h.1 c36
                    refine r_iconst (pc := 85) C (v := (0 : Int32)) dX4_canBeName_85 (by decide) ?_
                    exact r_sub [0] rfl (T_X4_canBeName_86 C E ht hn h)
                  · have h := h.2 c36
                    exact r_sub [0] rfl (T_X4_canBeName_81 C E ht hn h)
def P_X4_canBeName (v0 : Nat) (Q : Int32 → HS → Prop) (S : HS) : Prop := P_X4_canBeName_0 Q v0 S
theorem c_X4_canBeName {l : Launch} {Ee : EE} {S : HS} {v0 : Nat} {Q : Int32 → HS → Prop} (h : P_X4_canBeName v0 Q S) : MI l yX4_canBeName cX4_canBeName 2 (some .boolean) rm_X4_canBeName Ee S [.ref v0] (fun r S => bl r ∧ Q r S) :=
  openI (by decide) (Nat.le_of_ble_eq_true rfl) (fun X C E ht hn hE hl => by subst hE; exact r_sub [0] rfl (T_X4_canBeName_0 C E ht hn h))
end
section
def rm_X4_exchange : Room := { frames := 0, cells := 0, slots := 0, locals := 0 }
def P_X4_exchange_0 (Q : Nat → HS → Prop) (v0 : Nat) (v1 : Nat) (S : HS) : Prop := ob S v0 4 ∧ (∃ a1 : Nat, fR S v0 5 = some a1 ∧ (∀ S2 : HS, S2 = sR S v0 5 (some v1) → (Q a1 S2)))
set_option maxRecDepth 20000 in
set_option maxHeartbeats 4000000 in
theorem T_X4_exchange_0 {X : CX} {Q : Nat → HS → Prop} (C : Cx X cX4_exchange RX4 3 rm_X4_exchange) (E : ReR X rm_X4_exchange (fun r S => ∃ a, r = some a ∧ Q a S)) (ht : (xh X).sig.returnType = (some (.object "RainWalk$World"))) (hn : (xh X).name = yX4_exchange.name) {v0 : Nat} {v1 : Nat} {S : HS} (h : P_X4_exchange_0 Q v0 v1 S) : WS X 3 0 0 0 [(0, .ref v0), (1, .ref v1)] [] S := by
  refine r_aload_n (pc := 0) C dX4_exchange_0 0 rfl ?_
  obtain ⟨o_v0, h⟩ := h
  obtain ⟨a1, ea1, h⟩ := h
  refine r_getr (pc := 1) C fL_X4_18 dX4_exchange_1 o_v0 ea1 ?_
  refine r_astore_n (pc := 4) C dX4_exchange_4 rfl (by decide) (lv' := [(2, .ref a1), (0, .ref v0), (1, .ref v1)]) rfl ?_
  refine r_aload_n (pc := 5) C dX4_exchange_5 1 rfl ?_
  refine r_aload_n (pc := 6) C dX4_exchange_6 2 rfl ?_
  refine r_putr (pc := 7) C pfL_X4_18 dX4_exchange_7 o_v0 ?_
  refine r_heap (fun S2 eS2 => ?_)
  have h := h S2 eS2
  have o_v0 := ob_R eS2 o_v0
  refine r_aload_n (pc := 10) C dX4_exchange_10 0 rfl ?_
  exact r_aret (pc := 11) C E ht (Or.inl ⟨_, rfl⟩) dX4_exchange_11 (by decide) (by decide) ⟨_, rfl, h⟩
def P_X4_exchange (v0 : Nat) (v1 : Nat) (Q : Nat → HS → Prop) (S : HS) : Prop := P_X4_exchange_0 Q v0 v1 S
theorem c_X4_exchange {l : Launch} {Ee : EE} {S : HS} {v0 : Nat} {v1 : Nat} {Q : Nat → HS → Prop} (h : P_X4_exchange v0 v1 Q S) : MR l yX4_exchange cX4_exchange 3 (some (.object "RainWalk$World")) rm_X4_exchange Ee S [.ref v0, .ref v1] (fun r S => ∃ a, r = some a ∧ Q a S) :=
  openR (by decide) (Nat.le_of_ble_eq_true rfl) (fun X C E ht hn hE hl => by subst hE; exact r_sub [0, 1] rfl (T_X4_exchange_0 C E ht hn h))
def rm_X4_findName : Room := { frames := 0, cells := 0, slots := 0, locals := 0 }
def B_X4_findName_2 (Q : Int32 → HS → Prop) (X2 : Nat → Int32 → HS → Prop) (v0 : Nat) (v1 : Int32) (S : HS) : Prop := ob S v0 4 ∧ (∀ x1 : Int32, x1 = fI S v0 10 → (((x1 ≤ v1) → (Q (-1 : Int32) S)) ∧ ((¬ x1 ≤ v1) → ((((12 : Int32) ≤ v1) → (Q (-1 : Int32) S)) ∧ ((¬ (12 : Int32) ≤ v1) → (∃ a4 : Nat, fR S v0 11 = some a4 ∧ (ob S a4 14 ∧ (vp_in v1 (hN S a4) ∧ ∀ x6 : Int64, x6 = fJ S a4 v1.toNatClampNeg → (∀ x7 : Int64, x7 = fJ S v0 8 → (((¬ (lg_cmp x6 x7) = 0) → (∀ x9 : Int32, x9 = v1 + (1 : Int32) → (X2 v0 x9 S))) ∧ (((lg_cmp x6 x7) = 0) → (∃ a10 : Nat, fR S v0 12 = some a10 ∧ (ob S a10 13 ∧ (vp_in v1 (hN S a10) ∧ ∀ x12 : Int32, x12 = fI S a10 v1.toNatClampNeg → (Q x12 S)))))))))))))))
def P_X4_findName_2 (Q : Int32 → HS → Prop) (v0 : Nat) (v1 : Int32) (S : HS) : Prop := ∀ X2 : Nat → Int32 → HS → Prop, (∀ (v0 : Nat) (v1 : Int32) (S : HS), B_X4_findName_2 Q X2 v0 v1 S → X2 v0 v1 S) → X2 v0 v1 S
set_option maxRecDepth 20000 in
set_option maxHeartbeats 4000000 in
theorem TB_X4_findName_2 {X : CX} {Q : Int32 → HS → Prop} (C : Cx X cX4_findName RX4 2 rm_X4_findName) (E : ReI X rm_X4_findName Q) (ht : (xh X).sig.returnType = (some .int)) (hn : (xh X).name = yX4_findName.name) {X2 : Nat → Int32 → HS → Prop} (hX2 : ∀ (v0 : Nat) (v1 : Int32) (S : HS), X2 v0 v1 S → WS X 2 0 0 2 [(0, .ref v0), (1, .int v1)] [] S) {v0 : Nat} {v1 : Int32} {S : HS} (h : B_X4_findName_2 Q X2 v0 v1 S) : WS X 2 0 0 2 [(0, .ref v0), (1, .int v1)] [] S := by
  refine r_iload_n (pc := 2) C dX4_findName_2 1 rfl ?_
  refine r_aload_n (pc := 3) C dX4_findName_3 0 rfl ?_
  obtain ⟨o_v0, h⟩ := h
  refine r_geti (pc := 4) C fL_X4_116 dX4_findName_4 o_v0 ?_
  refine r_topi (fun x1 ex1 => ?_)
  have h := h x1 ex1
  refine r_icmp_ge (pc := 7) C (tgt := 43) dX4_findName_7 (by decide) (fun c2 => ?_) (fun c2 => ?_)
  · have h := h.1 c2
    refine r_iconst (pc := 43) C (v := (-1 : Int32)) dX4_findName_43 (by decide) ?_
    exact r_iret (pc := 44) C E ht dX4_findName_44 (by decide) (by decide) h
  · have h := h.2 c2
    refine r_iload_n (pc := 10) C dX4_findName_10 1 rfl ?_
    refine r_bipush (pc := 11) C (v := (12 : Int32)) dX4_findName_11 (by decide) ?_
    refine r_icmp_ge (pc := 13) C (tgt := 43) dX4_findName_13 (by decide) (fun c3 => ?_) (fun c3 => ?_)
    · have h := h.1 c3
      refine r_iconst (pc := 43) C (v := (-1 : Int32)) dX4_findName_43 (by decide) ?_
      exact r_iret (pc := 44) C E ht dX4_findName_44 (by decide) (by decide) h
    · have h := h.2 c3
      refine r_aload_n (pc := 16) C dX4_findName_16 0 rfl ?_
      obtain ⟨a4, ea4, h⟩ := h
      refine r_getr (pc := 17) C fL_X4_22 dX4_findName_17 o_v0 ea4 ?_
      refine r_iload_n (pc := 20) C dX4_findName_20 1 rfl ?_
      obtain ⟨o_a4, h⟩ := h
      obtain ⟨i5, h⟩ := h
      refine r_lald (pc := 21) C dX4_findName_21 o_a4 i5 ?_
      refine r_topl (fun x6 ex6 => ?_)
      have h := h x6 ex6
      refine r_aload_n (pc := 22) C dX4_findName_22 0 rfl ?_
      refine r_getl (pc := 23) C fL_X4_132 dX4_findName_23 o_v0 ?_
      refine r_topl (fun x7 ex7 => ?_)
      have h := h x7 ex7
      refine r_lcmp (pc := 26) C dX4_findName_26 ?_
      refine r_if_ne (pc := 27) C (tgt := 37) dX4_findName_27 (by decide) (fun c8 => ?_) (fun c8 => ?_)
      · have h := h.1 c8
        obtain ⟨x9, ex9⟩ : ∃ z : Int32, z = v1 + (1 : Int32) := ⟨_, rfl⟩
        have h := h x9 ex9
        refine r_iinc (pc := 37) C (v := x9) (lv' := [(1, .int x9), (0, .ref v0)]) dX4_findName_37 1 rfl ex9.symm (by decide) rfl ?_
        refine r_goto (pc := 40) C (tgt := 2) dX4_findName_40 (by decide) ?_
        exact r_sub [1, 0] rfl (hX2 v0 x9 S h)
      · have h := h.2 c8
        refine r_aload_n (pc := 30) C dX4_findName_30 0 rfl ?_
        obtain ⟨a10, ea10, h⟩ := h
        refine r_getr (pc := 31) C fL_X4_26 dX4_findName_31 o_v0 ea10 ?_
        refine r_iload_n (pc := 34) C dX4_findName_34 1 rfl ?_
        obtain ⟨o_a10, h⟩ := h
        obtain ⟨i11, h⟩ := h
        refine r_iald (pc := 35) C dX4_findName_35 o_a10 i11 ?_
        refine r_topi (fun x12 ex12 => ?_)
        have h := h x12 ex12
        exact r_iret (pc := 36) C E ht dX4_findName_36 (by decide) (by decide) h
theorem T_X4_findName_2 {X : CX} {Q : Int32 → HS → Prop} (C : Cx X cX4_findName RX4 2 rm_X4_findName) (E : ReI X rm_X4_findName Q) (ht : (xh X).sig.returnType = (some .int)) (hn : (xh X).name = yX4_findName.name) {v0 : Nat} {v1 : Int32} {S : HS} (h : P_X4_findName_2 Q v0 v1 S) : WS X 2 0 0 2 [(0, .ref v0), (1, .int v1)] [] S :=
  h (fun v0 v1 S => WS X 2 0 0 2 [(0, .ref v0), (1, .int v1)] [] S) (fun v0 v1 S hh => TB_X4_findName_2 C E ht hn (fun v0 v1 S z => z) hh)
def P_X4_findName_0 (Q : Int32 → HS → Prop) (v0 : Nat) (S : HS) : Prop := P_X4_findName_2 Q v0 (0 : Int32) S
set_option maxRecDepth 20000 in
set_option maxHeartbeats 4000000 in
theorem T_X4_findName_0 {X : CX} {Q : Int32 → HS → Prop} (C : Cx X cX4_findName RX4 2 rm_X4_findName) (E : ReI X rm_X4_findName Q) (ht : (xh X).sig.returnType = (some .int)) (hn : (xh X).name = yX4_findName.name) {v0 : Nat} {S : HS} (h : P_X4_findName_0 Q v0 S) : WS X 2 0 0 0 [(0, .ref v0)] [] S := by
  refine r_iconst (pc := 0) C (v := (0 : Int32)) dX4_findName_0 (by decide) ?_
  refine r_istore_n (pc := 1) C dX4_findName_1 rfl (by decide) (lv' := [(1, .int (0 : Int32)), (0, .ref v0)]) rfl ?_
  exact r_sub [1, 0] rfl (T_X4_findName_2 C E ht hn h)
def P_X4_findName (v0 : Nat) (Q : Int32 → HS → Prop) (S : HS) : Prop := P_X4_findName_0 Q v0 S
theorem c_X4_findName {l : Launch} {Ee : EE} {S : HS} {v0 : Nat} {Q : Int32 → HS → Prop} (h : P_X4_findName v0 Q S) : MI l yX4_findName cX4_findName 2 (some .int) rm_X4_findName Ee S [.ref v0] Q :=
  openI (by decide) (Nat.le_of_ble_eq_true rfl) (fun X C E ht hn hE hl => by subst hE; exact r_sub [0] rfl (T_X4_findName_0 C E ht hn h))
def rm_X8_isTold : Room := { frames := 0, cells := 0, slots := 0, locals := 0 }
def P_X8_isTold_0 (Q : Int32 → HS → Prop) (v0 : Nat) (S : HS) : Prop := ob S v0 8 ∧ (∀ x1 : Int32, x1 = fI S v0 0 → (((x1 ≤ 0) → (Q (0 : Int32) S)) ∧ ((¬ x1 ≤ 0) → (Q (1 : Int32) S))))
set_option maxRecDepth 20000 in
set_option maxHeartbeats 4000000 in
theorem T_X8_isTold_0 {X : CX} {Q : Int32 → HS → Prop} (C : Cx X cX8_isTold RX8 1 rm_X8_isTold) (E : ReI X rm_X8_isTold (fun r S => bl r ∧ Q r S)) (ht : (xh X).sig.returnType = (some .boolean)) (hn : (xh X).name = yX8_isTold.name) {v0 : Nat} {S : HS} (h : P_X8_isTold_0 Q v0 S) : WS X 1 0 0 0 [(0, .ref v0)] [] S := by
  refine r_aload_n (pc := 0) C dX8_isTold_0 0 rfl ?_
  obtain ⟨o_v0, h⟩ := h
  refine r_geti (pc := 1) C fL_X8_42 dX8_isTold_1 o_v0 ?_
  refine r_topi (fun x1 ex1 => ?_)
  have h := h x1 ex1
  refine r_if_le (pc := 4) C (tgt := 11) dX8_isTold_4 (by decide) (fun c2 => ?_) (fun c2 => ?_)
  · have h := h.1 c2
    refine r_iconst (pc := 11) C (v := (0 : Int32)) dX8_isTold_11 (by decide) ?_
    exact r_zret (pc := 12) C E ht dX8_isTold_12 (by decide) (by decide) (Or.inl rfl) h
  · have h := h.2 c2
    refine r_iconst (pc := 7) C (v := (1 : Int32)) dX8_isTold_7 (by decide) ?_
    refine r_goto (pc := 8) C (tgt := 12) dX8_isTold_8 (by decide) ?_
    exact r_zret (pc := 12) C E ht dX8_isTold_12 (by decide) (by decide) (Or.inr rfl) h
def P_X8_isTold (v0 : Nat) (Q : Int32 → HS → Prop) (S : HS) : Prop := P_X8_isTold_0 Q v0 S
theorem c_X8_isTold {l : Launch} {Ee : EE} {S : HS} {v0 : Nat} {Q : Int32 → HS → Prop} (h : P_X8_isTold v0 Q S) : MI l yX8_isTold cX8_isTold 1 (some .boolean) rm_X8_isTold Ee S [.ref v0] (fun r S => bl r ∧ Q r S) :=
  openI (by decide) (Nat.le_of_ble_eq_true rfl) (fun X C E ht hn hE hl => by subst hE; exact r_sub [0] rfl (T_X8_isTold_0 C E ht hn h))
def rm_X4_hasRoom : Room := { frames := 2, cells := 0, slots := 0, locals := 46 }
def P_X4_hasRoom_0 (Q : Int32 → HS → Prop) (v0 : Nat) (v1 : Int32) (v2 : Int32) (S : HS) : Prop := ob S v0 4 ∧ (∃ a1 : Nat, fR S v0 5 = some a1 ∧ (ob S a1 8 ∧ (P_X8_isTold a1 (fun x4 S2 => Gr S S2 → bl x4 → (((¬ x4 = 0) → (((v1 < v2) → (P_X4_next v0 (fun S7 => Gr S2 S7 → (Q (1 : Int32) S7)) S2)) ∧ ((¬ v1 < v2) → (P_X4_fail v0 (5 : Int32) (fun x12 S10 => Gr S2 S10 → bl x12 → (bl x12 ∧ Q x12 S10)) S2)))) ∧ ((x4 = 0) → (P_X4_fail v0 (6 : Int32) (fun x15 S13 => Gr S2 S13 → bl x15 → (bl x15 ∧ Q x15 S13)) S2)))) S)))
set_option maxRecDepth 20000 in
set_option maxHeartbeats 4000000 in
theorem T_X4_hasRoom_0 {X : CX} {Q : Int32 → HS → Prop} (C : Cx X cX4_hasRoom RX4 3 rm_X4_hasRoom) (E : ReI X rm_X4_hasRoom (fun r S => bl r ∧ Q r S)) (ht : (xh X).sig.returnType = (some .boolean)) (hn : (xh X).name = yX4_hasRoom.name) {v0 : Nat} {v1 : Int32} {v2 : Int32} {S : HS} (h : P_X4_hasRoom_0 Q v0 v1 v2 S) : WS X 3 0 0 0 [(0, .ref v0), (1, .int v1), (2, .int v2)] [] S := by
  refine r_aload_n (pc := 0) C dX4_hasRoom_0 0 rfl ?_
  obtain ⟨o_v0, h⟩ := h
  obtain ⟨a1, ea1, h⟩ := h
  refine r_getr (pc := 1) C fL_X4_18 dX4_hasRoom_1 o_v0 ea1 ?_
  obtain ⟨o_a1, h⟩ := h
  refine r_callVi0 (pc := 4) C (rest := []) (a := a1) o_a1 [] yV_X8_isTold g_515 (c_X8_isTold h) dX4_hasRoom_4 rfl rfl (Nat.le_of_ble_eq_true rfl) ⟨by decide, by decide⟩ ⟨by decide, by decide⟩ ⟨rfl, rfl⟩ (fun x4 S2 h g3 => ?_)
  have bx4 := h.1
  have h := h.2 g3 bx4
  have o_a1 := gr_ob g3 o_a1
  have o_v0 := gr_ob g3 o_v0
  refine r_if_ne (pc := 7) C (tgt := 17) dX4_hasRoom_7 (by decide) (fun c5 => ?_) (fun c5 => ?_)
  · have h := h.1 c5
    refine r_iload_n (pc := 17) C dX4_hasRoom_17 1 rfl ?_
    refine r_iload_n (pc := 18) C dX4_hasRoom_18 2 rfl ?_
    refine r_icmp_lt (pc := 19) C (tgt := 28) dX4_hasRoom_19 (by decide) (fun c6 => ?_) (fun c6 => ?_)
    · have h := h.1 c6
      refine r_aload_n (pc := 28) C dX4_hasRoom_28 0 rfl ?_
      refine r_callVv0 (pc := 29) C (rest := []) (a := v0) o_v0 [] yV_X4_next g_449 (c_X4_next h) dX4_hasRoom_29 rfl rfl (Nat.le_of_ble_eq_true rfl) ⟨by decide, by decide⟩ ⟨by decide, by decide⟩ ⟨rfl, rfl⟩ (fun S7 h g8 => ?_)
      have h := h g8
      have o_a1 := gr_ob g8 o_a1
      have o_v0 := gr_ob g8 o_v0
      refine r_iconst (pc := 32) C (v := (1 : Int32)) dX4_hasRoom_32 (by decide) ?_
      exact r_zret (pc := 33) C E ht dX4_hasRoom_33 (by decide) (by decide) (Or.inr rfl) h
    · have h := h.2 c6
      refine r_aload_n (pc := 22) C dX4_hasRoom_22 0 rfl ?_
      refine r_iconst (pc := 23) C (v := (5 : Int32)) dX4_hasRoom_23 (by decide) ?_
      refine r_callVi0 (pc := 24) C (rest := []) (a := v0) o_v0 [.int (5 : Int32)] yV_X4_fail g_519 (c_X4_fail h) dX4_hasRoom_24 rfl rfl (Nat.le_of_ble_eq_true rfl) ⟨by decide, by decide⟩ ⟨by decide, by decide⟩ ⟨rfl, rfl⟩ (fun x12 S10 h g11 => ?_)
      have bx12 := h.1
      have h := h.2 g11 bx12
      have o_a1 := gr_ob g11 o_a1
      have o_v0 := gr_ob g11 o_v0
      exact r_zret (pc := 27) C E ht dX4_hasRoom_27 (by decide) (by decide) h.1 h.2
  · have h := h.2 c5
    refine r_aload_n (pc := 10) C dX4_hasRoom_10 0 rfl ?_
    refine r_bipush (pc := 11) C (v := (6 : Int32)) dX4_hasRoom_11 (by decide) ?_
    refine r_callVi0 (pc := 13) C (rest := []) (a := v0) o_v0 [.int (6 : Int32)] yV_X4_fail g_519 (c_X4_fail h) dX4_hasRoom_13 rfl rfl (Nat.le_of_ble_eq_true rfl) ⟨by decide, by decide⟩ ⟨by decide, by decide⟩ ⟨rfl, rfl⟩ (fun x15 S13 h g14 => ?_)
    have bx15 := h.1
    have h := h.2 g14 bx15
    have o_a1 := gr_ob g14 o_a1
    have o_v0 := gr_ob g14 o_v0
    exact r_zret (pc := 16) C E ht dX4_hasRoom_16 (by decide) (by decide) h.1 h.2
def P_X4_hasRoom (v0 : Nat) (v1 : Int32) (v2 : Int32) (Q : Int32 → HS → Prop) (S : HS) : Prop := P_X4_hasRoom_0 Q v0 v1 v2 S
theorem c_X4_hasRoom {l : Launch} {Ee : EE} {S : HS} {v0 : Nat} {v1 : Int32} {v2 : Int32} {Q : Int32 → HS → Prop} (h : P_X4_hasRoom v0 v1 v2 Q S) : MI l yX4_hasRoom cX4_hasRoom 3 (some .boolean) rm_X4_hasRoom Ee S [.ref v0, .int v1, .int v2] (fun r S => bl r ∧ Q r S) :=
  openI (by decide) (Nat.le_of_ble_eq_true rfl) (fun X C E ht hn hE hl => by subst hE; exact r_sub [0, 1, 2] rfl (T_X4_hasRoom_0 C E ht hn h))
def rm_X5_init : Room := { frames := 1, cells := 0, slots := 0, locals := 20 }
def P_X5_init_0 (Q : HS → Prop) (v0 : Nat) (S : HS) : Prop := Q S
set_option maxRecDepth 20000 in
set_option maxHeartbeats 4000000 in
theorem T_X5_init_0 {X : CX} {Q : HS → Prop} (C : Cx X cX5_init RX5 1 rm_X5_init) (E : ReV X rm_X5_init Q) (ht : (xh X).sig.returnType = none) (hn : (xh X).name = yX5_init.name) {v0 : Nat} {S : HS} (h : P_X5_init_0 Q v0 S) : WS X 1 0 0 0 [(0, .ref v0)] [] S := by
  refine r_aload_n (pc := 0) C dX5_init_0 0 rfl ?_
  refine r_objinit (pc := 1) C g_77 dX5_init_1 (by decide) (Nat.le_of_ble_eq_true rfl) ?_
  exact r_vret (pc := 4) C E ht dX5_init_4 (by decide) (by decide) h
def P_X5_init (v0 : Nat) (Q : HS → Prop) (S : HS) : Prop := P_X5_init_0 Q v0 S
theorem c_X5_init {l : Launch} {Ee : EE} {S : HS} {v0 : Nat} {Q : HS → Prop} (h : P_X5_init v0 Q S) : MV l yX5_init cX5_init 1 none rm_X5_init Ee S [.ref v0] Q :=
  openV (by decide) (Nat.le_of_ble_eq_true rfl) (fun X C E ht hn hE hl => by subst hE; exact r_sub [0] rfl (T_X5_init_0 C E ht hn h))
def rm_X6_init : Room := { frames := 1, cells := 0, slots := 0, locals := 20 }
def P_X6_init_0 (Q : HS → Prop) (v0 : Nat) (S : HS) : Prop := Q S
set_option maxRecDepth 20000 in
set_option maxHeartbeats 4000000 in
theorem T_X6_init_0 {X : CX} {Q : HS → Prop} (C : Cx X cX6_init RX6 1 rm_X6_init) (E : ReV X rm_X6_init Q) (ht : (xh X).sig.returnType = none) (hn : (xh X).name = yX6_init.name) {v0 : Nat} {S : HS} (h : P_X6_init_0 Q v0 S) : WS X 1 0 0 0 [(0, .ref v0)] [] S := by
  refine r_aload_n (pc := 0) C dX6_init_0 0 rfl ?_
  refine r_objinit (pc := 1) C g_105 dX6_init_1 (by decide) (Nat.le_of_ble_eq_true rfl) ?_
  exact r_vret (pc := 4) C E ht dX6_init_4 (by decide) (by decide) h
def P_X6_init (v0 : Nat) (Q : HS → Prop) (S : HS) : Prop := P_X6_init_0 Q v0 S
theorem c_X6_init {l : Launch} {Ee : EE} {S : HS} {v0 : Nat} {Q : HS → Prop} (h : P_X6_init v0 Q S) : MV l yX6_init cX6_init 1 none rm_X6_init Ee S [.ref v0] Q :=
  openV (by decide) (Nat.le_of_ble_eq_true rfl) (fun X C E ht hn hE hl => by subst hE; exact r_sub [0] rfl (T_X6_init_0 C E ht hn h))
def rm_X8_init : Room := { frames := 2, cells := 28, slots := 172, locals := 40 }
def B_X8_init_115 (Q : HS → Prop) (X115 : Nat → Int32 → Nat → Nat → HS → Prop) (v0 : Nat) (v1 : Int32) (kk : Nat) (nn : Nat) (S : HS) : Prop := ob S v0 8 ∧ (∃ a1 : Nat, fR S v0 9 = some a1 ∧ (ob S a1 19 ∧ ((((nI (hN S a1)) ≤ v1) → (kk ≤ rm_X8_init.cells ∧ nn ≤ rm_X8_init.slots ∧ Q S)) ∧ ((¬ (nI (hN S a1)) ≤ v1) → (∃ a3 : Nat, fR S v0 9 = some a3 ∧ (kk + 1 ≤ rm_X8_init.cells ∧ nn + 7 ≤ rm_X8_init.slots ∧ ∀ a4 : Nat, a4 ∉ hL S → ∀ S5 : HS, S5 = nW S a4 6 0 → (kk + 1 ≤ rm_X8_init.cells ∧ nn + 7 ≤ rm_X8_init.slots ∧ (P_X6_init a4 (fun S6 => Gr S5 S6 → (ob S6 a3 19 ∧ (vp_in v1 (hN S6 a3) ∧ (∀ S10 : HS, S10 = sR S6 a3 v1.toNatClampNeg (some a4) → (∀ x11 : Int32, x11 = v1 + (1 : Int32) → (X115 v0 x11 (kk + 1) (nn + 7) S10)))))) S5))))))))
def P_X8_init_115 (Q : HS → Prop) (v0 : Nat) (v1 : Int32) (kk : Nat) (nn : Nat) (S : HS) : Prop := ∀ X115 : Nat → Int32 → Nat → Nat → HS → Prop, (∀ (v0 : Nat) (v1 : Int32) (kk : Nat) (nn : Nat) (S : HS), B_X8_init_115 Q X115 v0 v1 kk nn S → X115 v0 v1 kk nn S) → X115 v0 v1 kk nn S
set_option maxRecDepth 20000 in
set_option maxHeartbeats 4000000 in
theorem TB_X8_init_115 {X : CX} {Q : HS → Prop} (C : Cx X cX8_init RX8 2 rm_X8_init) (E : ReV X rm_X8_init Q) (ht : (xh X).sig.returnType = none) (hn : (xh X).name = yX8_init.name) {X115 : Nat → Int32 → Nat → Nat → HS → Prop} (hX115 : ∀ (v0 : Nat) (v1 : Int32) (kk : Nat) (nn : Nat) (S : HS), X115 v0 v1 kk nn S → WS X 2 kk nn 115 [(0, .ref v0), (1, .int v1)] [] S) {v0 : Nat} {v1 : Int32} {kk : Nat} {nn : Nat} {S : HS} (h : B_X8_init_115 Q X115 v0 v1 kk nn S) : WS X 2 kk nn 115 [(0, .ref v0), (1, .int v1)] [] S := by
  refine r_iload_n (pc := 115) C dX8_init_115 1 rfl ?_
  refine r_aload_n (pc := 116) C dX8_init_116 0 rfl ?_
  obtain ⟨o_v0, h⟩ := h
  obtain ⟨a1, ea1, h⟩ := h
  refine r_getr (pc := 117) C fL_X8_29 dX8_init_117 o_v0 ea1 ?_
  obtain ⟨o_a1, h⟩ := h
  refine r_alen19 (pc := 120) C dX8_init_120 o_a1 ?_
  refine r_icmp_ge (pc := 121) C (tgt := 143) dX8_init_121 (by decide) (fun c2 => ?_) (fun c2 => ?_)
  · have h := h.1 c2
    obtain ⟨hk, hk2, h⟩ := h
    exact r_vret (pc := 143) C E ht dX8_init_143 hk hk2 h
  · have h := h.2 c2
    refine r_aload_n (pc := 124) C dX8_init_124 0 rfl ?_
    obtain ⟨a3, ea3, h⟩ := h
    refine r_getr (pc := 125) C fL_X8_29 dX8_init_125 o_v0 ea3 ?_
    refine r_iload_n (pc := 128) C dX8_init_128 1 rfl ?_
    obtain ⟨hk, hk2, h⟩ := h
    refine r_new (pc := 129) C nc_X8_27 dX8_init_129 hk hk2 (fun a4 q12 => ?_)
    refine r_heap (fun S5 eS5 => ?_)
    have h := h a4 q12 S5 eS5
    have g13 := gr_of_new eS5 q12
    have o_a4 := ob_of_new eS5
    have o_a1 := gr_ob g13 o_a1
    have o_v0 := gr_ob g13 o_v0
    refine r_dup (pc := 132) C dX8_init_132 rfl ?_
    obtain ⟨hk, hk2, h⟩ := h
    refine r_callNv0 (pc := 133) C (rest := [.ref a4, .int v1, .ref a3]) (a := a4) [] yI_X6_init (List.mem_of_getElem? (i := 2) rfl) (c_X6_init h) dX8_init_133 rfl rfl (Nat.le_of_ble_eq_true rfl) ⟨by decide, by decide⟩ ⟨hk, hk2⟩ ⟨rfl, rfl⟩ (fun S6 h g7 => ?_)
    have h := h g7
    have o_a1 := gr_ob g7 o_a1
    have o_a4 := gr_ob g7 o_a4
    have o_v0 := gr_ob g7 o_v0
    obtain ⟨o_a3, h⟩ := h
    obtain ⟨i9, h⟩ := h
    refine r_aast19 (pc := 136) C dX8_init_136 o_a3 i9 o_a4 ?_
    refine r_heap (fun S10 eS10 => ?_)
    have h := h S10 eS10
    have o_a1 := ob_R eS10 o_a1
    have o_a3 := ob_R eS10 o_a3
    have o_a4 := ob_R eS10 o_a4
    have o_v0 := ob_R eS10 o_v0
    obtain ⟨x11, ex11⟩ : ∃ z : Int32, z = v1 + (1 : Int32) := ⟨_, rfl⟩
    have h := h x11 ex11
    refine r_iinc (pc := 137) C (v := x11) (lv' := [(1, .int x11), (0, .ref v0)]) dX8_init_137 1 rfl ex11.symm (by decide) rfl ?_
    refine r_goto (pc := 140) C (tgt := 115) dX8_init_140 (by decide) ?_
    exact r_sub [1, 0] rfl (hX115 v0 x11 (kk + 1) (nn + 7) S10 h)
theorem T_X8_init_115 {X : CX} {Q : HS → Prop} (C : Cx X cX8_init RX8 2 rm_X8_init) (E : ReV X rm_X8_init Q) (ht : (xh X).sig.returnType = none) (hn : (xh X).name = yX8_init.name) {v0 : Nat} {v1 : Int32} {kk : Nat} {nn : Nat} {S : HS} (h : P_X8_init_115 Q v0 v1 kk nn S) : WS X 2 kk nn 115 [(0, .ref v0), (1, .int v1)] [] S :=
  h (fun v0 v1 kk nn S => WS X 2 kk nn 115 [(0, .ref v0), (1, .int v1)] [] S) (fun v0 v1 kk nn S hh => TB_X8_init_115 C E ht hn (fun v0 v1 kk nn S z => z) hh)
def B_X8_init_85 (Q : HS → Prop) (X85 : Nat → Int32 → Nat → Nat → HS → Prop) (v0 : Nat) (v1 : Int32) (kk : Nat) (nn : Nat) (S : HS) : Prop := ob S v0 8 ∧ (∃ a1 : Nat, fR S v0 8 = some a1 ∧ (ob S a1 18 ∧ ((((nI (hN S a1)) ≤ v1) → (P_X8_init_115 Q v0 (0 : Int32) kk nn S)) ∧ ((¬ (nI (hN S a1)) ≤ v1) → (∃ a3 : Nat, fR S v0 8 = some a3 ∧ (kk + 1 ≤ rm_X8_init.cells ∧ nn + 5 ≤ rm_X8_init.slots ∧ ∀ a4 : Nat, a4 ∉ hL S → ∀ S5 : HS, S5 = nW S a4 5 0 → (kk + 1 ≤ rm_X8_init.cells ∧ nn + 5 ≤ rm_X8_init.slots ∧ (P_X5_init a4 (fun S6 => Gr S5 S6 → (ob S6 a3 18 ∧ (vp_in v1 (hN S6 a3) ∧ (∀ S10 : HS, S10 = sR S6 a3 v1.toNatClampNeg (some a4) → (∀ x11 : Int32, x11 = v1 + (1 : Int32) → (X85 v0 x11 (kk + 1) (nn + 5) S10)))))) S5))))))))
def P_X8_init_85 (Q : HS → Prop) (v0 : Nat) (v1 : Int32) (kk : Nat) (nn : Nat) (S : HS) : Prop := ∀ X85 : Nat → Int32 → Nat → Nat → HS → Prop, (∀ (v0 : Nat) (v1 : Int32) (kk : Nat) (nn : Nat) (S : HS), B_X8_init_85 Q X85 v0 v1 kk nn S → X85 v0 v1 kk nn S) → X85 v0 v1 kk nn S
set_option maxRecDepth 20000 in
set_option maxHeartbeats 4000000 in
theorem TB_X8_init_85 {X : CX} {Q : HS → Prop} (C : Cx X cX8_init RX8 2 rm_X8_init) (E : ReV X rm_X8_init Q) (ht : (xh X).sig.returnType = none) (hn : (xh X).name = yX8_init.name) {X85 : Nat → Int32 → Nat → Nat → HS → Prop} (hX85 : ∀ (v0 : Nat) (v1 : Int32) (kk : Nat) (nn : Nat) (S : HS), X85 v0 v1 kk nn S → WS X 2 kk nn 85 [(0, .ref v0), (1, .int v1)] [] S) {v0 : Nat} {v1 : Int32} {kk : Nat} {nn : Nat} {S : HS} (h : B_X8_init_85 Q X85 v0 v1 kk nn S) : WS X 2 kk nn 85 [(0, .ref v0), (1, .int v1)] [] S := by
  refine r_iload_n (pc := 85) C dX8_init_85 1 rfl ?_
  refine r_aload_n (pc := 86) C dX8_init_86 0 rfl ?_
  obtain ⟨o_v0, h⟩ := h
  obtain ⟨a1, ea1, h⟩ := h
  refine r_getr (pc := 87) C fL_X8_23 dX8_init_87 o_v0 ea1 ?_
  obtain ⟨o_a1, h⟩ := h
  refine r_alen18 (pc := 90) C dX8_init_90 o_a1 ?_
  refine r_icmp_ge (pc := 91) C (tgt := 113) dX8_init_91 (by decide) (fun c2 => ?_) (fun c2 => ?_)
  · have h := h.1 c2
    refine r_iconst (pc := 113) C (v := (0 : Int32)) dX8_init_113 (by decide) ?_
    refine r_istore_n (pc := 114) C dX8_init_114 rfl (by decide) (lv' := [(1, .int (0 : Int32)), (0, .ref v0)]) rfl ?_
    exact r_sub [1, 0] rfl (T_X8_init_115 C E ht hn h)
  · have h := h.2 c2
    refine r_aload_n (pc := 94) C dX8_init_94 0 rfl ?_
    obtain ⟨a3, ea3, h⟩ := h
    refine r_getr (pc := 95) C fL_X8_23 dX8_init_95 o_v0 ea3 ?_
    refine r_iload_n (pc := 98) C dX8_init_98 1 rfl ?_
    obtain ⟨hk, hk2, h⟩ := h
    refine r_new (pc := 99) C nc_X8_21 dX8_init_99 hk hk2 (fun a4 q12 => ?_)
    refine r_heap (fun S5 eS5 => ?_)
    have h := h a4 q12 S5 eS5
    have g13 := gr_of_new eS5 q12
    have o_a4 := ob_of_new eS5
    have o_a1 := gr_ob g13 o_a1
    have o_v0 := gr_ob g13 o_v0
    refine r_dup (pc := 102) C dX8_init_102 rfl ?_
    obtain ⟨hk, hk2, h⟩ := h
    refine r_callNv0 (pc := 103) C (rest := [.ref a4, .int v1, .ref a3]) (a := a4) [] yI_X5_init (List.mem_of_getElem? (i := 1) rfl) (c_X5_init h) dX8_init_103 rfl rfl (Nat.le_of_ble_eq_true rfl) ⟨by decide, by decide⟩ ⟨hk, hk2⟩ ⟨rfl, rfl⟩ (fun S6 h g7 => ?_)
    have h := h g7
    have o_a1 := gr_ob g7 o_a1
    have o_a4 := gr_ob g7 o_a4
    have o_v0 := gr_ob g7 o_v0
    obtain ⟨o_a3, h⟩ := h
    obtain ⟨i9, h⟩ := h
    refine r_aast18 (pc := 106) C dX8_init_106 o_a3 i9 o_a4 ?_
    refine r_heap (fun S10 eS10 => ?_)
    have h := h S10 eS10
    have o_a1 := ob_R eS10 o_a1
    have o_a3 := ob_R eS10 o_a3
    have o_a4 := ob_R eS10 o_a4
    have o_v0 := ob_R eS10 o_v0
    obtain ⟨x11, ex11⟩ : ∃ z : Int32, z = v1 + (1 : Int32) := ⟨_, rfl⟩
    have h := h x11 ex11
    refine r_iinc (pc := 107) C (v := x11) (lv' := [(1, .int x11), (0, .ref v0)]) dX8_init_107 1 rfl ex11.symm (by decide) rfl ?_
    refine r_goto (pc := 110) C (tgt := 85) dX8_init_110 (by decide) ?_
    exact r_sub [1, 0] rfl (hX85 v0 x11 (kk + 1) (nn + 5) S10 h)
theorem T_X8_init_85 {X : CX} {Q : HS → Prop} (C : Cx X cX8_init RX8 2 rm_X8_init) (E : ReV X rm_X8_init Q) (ht : (xh X).sig.returnType = none) (hn : (xh X).name = yX8_init.name) {v0 : Nat} {v1 : Int32} {kk : Nat} {nn : Nat} {S : HS} (h : P_X8_init_85 Q v0 v1 kk nn S) : WS X 2 kk nn 85 [(0, .ref v0), (1, .int v1)] [] S :=
  h (fun v0 v1 kk nn S => WS X 2 kk nn 85 [(0, .ref v0), (1, .int v1)] [] S) (fun v0 v1 kk nn S hh => TB_X8_init_85 C E ht hn (fun v0 v1 kk nn S z => z) hh)
def B_X8_init_55 (Q : HS → Prop) (X55 : Nat → Int32 → Nat → Nat → HS → Prop) (v0 : Nat) (v1 : Int32) (kk : Nat) (nn : Nat) (S : HS) : Prop := ob S v0 8 ∧ (∃ a1 : Nat, fR S v0 6 = some a1 ∧ (ob S a1 17 ∧ ((((nI (hN S a1)) ≤ v1) → (P_X8_init_85 Q v0 (0 : Int32) kk nn S)) ∧ ((¬ (nI (hN S a1)) ≤ v1) → (∃ a3 : Nat, fR S v0 6 = some a3 ∧ (kk + 1 ≤ rm_X8_init.cells ∧ nn + 5 ≤ rm_X8_init.slots ∧ ∀ a4 : Nat, a4 ∉ hL S → ∀ S5 : HS, S5 = nW S a4 3 0 → (kk + 1 ≤ rm_X8_init.cells ∧ nn + 5 ≤ rm_X8_init.slots ∧ (P_X3_init a4 (fun S6 => Gr S5 S6 → (ob S6 a3 17 ∧ (vp_in v1 (hN S6 a3) ∧ (∀ S10 : HS, S10 = sR S6 a3 v1.toNatClampNeg (some a4) → (∀ x11 : Int32, x11 = v1 + (1 : Int32) → (X55 v0 x11 (kk + 1) (nn + 5) S10)))))) S5))))))))
def P_X8_init_55 (Q : HS → Prop) (v0 : Nat) (v1 : Int32) (kk : Nat) (nn : Nat) (S : HS) : Prop := ∀ X55 : Nat → Int32 → Nat → Nat → HS → Prop, (∀ (v0 : Nat) (v1 : Int32) (kk : Nat) (nn : Nat) (S : HS), B_X8_init_55 Q X55 v0 v1 kk nn S → X55 v0 v1 kk nn S) → X55 v0 v1 kk nn S
set_option maxRecDepth 20000 in
set_option maxHeartbeats 4000000 in
theorem TB_X8_init_55 {X : CX} {Q : HS → Prop} (C : Cx X cX8_init RX8 2 rm_X8_init) (E : ReV X rm_X8_init Q) (ht : (xh X).sig.returnType = none) (hn : (xh X).name = yX8_init.name) {X55 : Nat → Int32 → Nat → Nat → HS → Prop} (hX55 : ∀ (v0 : Nat) (v1 : Int32) (kk : Nat) (nn : Nat) (S : HS), X55 v0 v1 kk nn S → WS X 2 kk nn 55 [(0, .ref v0), (1, .int v1)] [] S) {v0 : Nat} {v1 : Int32} {kk : Nat} {nn : Nat} {S : HS} (h : B_X8_init_55 Q X55 v0 v1 kk nn S) : WS X 2 kk nn 55 [(0, .ref v0), (1, .int v1)] [] S := by
  refine r_iload_n (pc := 55) C dX8_init_55 1 rfl ?_
  refine r_aload_n (pc := 56) C dX8_init_56 0 rfl ?_
  obtain ⟨o_v0, h⟩ := h
  obtain ⟨a1, ea1, h⟩ := h
  refine r_getr (pc := 57) C fL_X8_11 dX8_init_57 o_v0 ea1 ?_
  obtain ⟨o_a1, h⟩ := h
  refine r_alen17 (pc := 60) C dX8_init_60 o_a1 ?_
  refine r_icmp_ge (pc := 61) C (tgt := 83) dX8_init_61 (by decide) (fun c2 => ?_) (fun c2 => ?_)
  · have h := h.1 c2
    refine r_iconst (pc := 83) C (v := (0 : Int32)) dX8_init_83 (by decide) ?_
    refine r_istore_n (pc := 84) C dX8_init_84 rfl (by decide) (lv' := [(1, .int (0 : Int32)), (0, .ref v0)]) rfl ?_
    exact r_sub [1, 0] rfl (T_X8_init_85 C E ht hn h)
  · have h := h.2 c2
    refine r_aload_n (pc := 64) C dX8_init_64 0 rfl ?_
    obtain ⟨a3, ea3, h⟩ := h
    refine r_getr (pc := 65) C fL_X8_11 dX8_init_65 o_v0 ea3 ?_
    refine r_iload_n (pc := 68) C dX8_init_68 1 rfl ?_
    obtain ⟨hk, hk2, h⟩ := h
    refine r_new (pc := 69) C nc_X8_9 dX8_init_69 hk hk2 (fun a4 q12 => ?_)
    refine r_heap (fun S5 eS5 => ?_)
    have h := h a4 q12 S5 eS5
    have g13 := gr_of_new eS5 q12
    have o_a4 := ob_of_new eS5
    have o_a1 := gr_ob g13 o_a1
    have o_v0 := gr_ob g13 o_v0
    refine r_dup (pc := 72) C dX8_init_72 rfl ?_
    obtain ⟨hk, hk2, h⟩ := h
    refine r_callNv0 (pc := 73) C (rest := [.ref a4, .int v1, .ref a3]) (a := a4) [] yI_X3_init (List.mem_of_getElem? (i := 0) rfl) (c_X3_init h) dX8_init_73 rfl rfl (Nat.le_of_ble_eq_true rfl) ⟨by decide, by decide⟩ ⟨hk, hk2⟩ ⟨rfl, rfl⟩ (fun S6 h g7 => ?_)
    have h := h g7
    have o_a1 := gr_ob g7 o_a1
    have o_a4 := gr_ob g7 o_a4
    have o_v0 := gr_ob g7 o_v0
    obtain ⟨o_a3, h⟩ := h
    obtain ⟨i9, h⟩ := h
    refine r_aast17 (pc := 76) C dX8_init_76 o_a3 i9 o_a4 ?_
    refine r_heap (fun S10 eS10 => ?_)
    have h := h S10 eS10
    have o_a1 := ob_R eS10 o_a1
    have o_a3 := ob_R eS10 o_a3
    have o_a4 := ob_R eS10 o_a4
    have o_v0 := ob_R eS10 o_v0
    obtain ⟨x11, ex11⟩ : ∃ z : Int32, z = v1 + (1 : Int32) := ⟨_, rfl⟩
    have h := h x11 ex11
    refine r_iinc (pc := 77) C (v := x11) (lv' := [(1, .int x11), (0, .ref v0)]) dX8_init_77 1 rfl ex11.symm (by decide) rfl ?_
    refine r_goto (pc := 80) C (tgt := 55) dX8_init_80 (by decide) ?_
    exact r_sub [1, 0] rfl (hX55 v0 x11 (kk + 1) (nn + 5) S10 h)
theorem T_X8_init_55 {X : CX} {Q : HS → Prop} (C : Cx X cX8_init RX8 2 rm_X8_init) (E : ReV X rm_X8_init Q) (ht : (xh X).sig.returnType = none) (hn : (xh X).name = yX8_init.name) {v0 : Nat} {v1 : Int32} {kk : Nat} {nn : Nat} {S : HS} (h : P_X8_init_55 Q v0 v1 kk nn S) : WS X 2 kk nn 55 [(0, .ref v0), (1, .int v1)] [] S :=
  h (fun v0 v1 kk nn S => WS X 2 kk nn 55 [(0, .ref v0), (1, .int v1)] [] S) (fun v0 v1 kk nn S hh => TB_X8_init_55 C E ht hn (fun v0 v1 kk nn S z => z) hh)
def P_X8_init_0 (Q : HS → Prop) (v0 : Nat) (kk : Nat) (nn : Nat) (S : HS) : Prop := kk + 1 ≤ rm_X8_init.cells ∧ nn + 6 ≤ rm_X8_init.slots ∧ ∀ a1 : Nat, a1 ∉ hL S → ∀ S2 : HS, S2 = nW S a1 17 6 → (ob S2 v0 8 ∧ (∀ S3 : HS, S3 = sR S2 v0 6 (some a1) → (kk + 1 + 1 ≤ rm_X8_init.cells ∧ nn + 6 + 8 ≤ rm_X8_init.slots ∧ ∀ a4 : Nat, a4 ∉ hL S3 → ∀ S5 : HS, S5 = nW S3 a4 13 8 → (∀ S6 : HS, S6 = sR S5 v0 7 (some a4) → (kk + 1 + 1 + 1 ≤ rm_X8_init.cells ∧ nn + 6 + 8 + 12 ≤ rm_X8_init.slots ∧ ∀ a7 : Nat, a7 ∉ hL S6 → ∀ S8 : HS, S8 = nW S6 a7 18 12 → (∀ S9 : HS, S9 = sR S8 v0 8 (some a7) → (kk + 1 + 1 + 1 + 1 ≤ rm_X8_init.cells ∧ nn + 6 + 8 + 12 + 4 ≤ rm_X8_init.slots ∧ ∀ a10 : Nat, a10 ∉ hL S9 → ∀ S11 : HS, S11 = nW S9 a10 19 4 → (∀ S12 : HS, S12 = sR S11 v0 9 (some a10) → (kk + 1 + 1 + 1 + 1 + 1 ≤ rm_X8_init.cells ∧ nn + 6 + 8 + 12 + 4 + 4 ≤ rm_X8_init.slots ∧ ∀ a13 : Nat, a13 ∉ hL S12 → ∀ S14 : HS, S14 = nW S12 a13 13 4 → (∀ S15 : HS, S15 = sR S14 v0 10 (some a13) → (kk + 1 + 1 + 1 + 1 + 1 + 1 ≤ rm_X8_init.cells ∧ nn + 6 + 8 + 12 + 4 + 4 + 20 ≤ rm_X8_init.slots ∧ ∀ a16 : Nat, a16 ∉ hL S15 → ∀ S17 : HS, S17 = nW S15 a16 13 20 → (∀ S18 : HS, S18 = sR S17 v0 11 (some a16) → (P_X8_init_55 Q v0 (0 : Int32) (kk + 1 + 1 + 1 + 1 + 1 + 1) (nn + 6 + 8 + 12 + 4 + 4 + 20) S18)))))))))))))
set_option maxRecDepth 20000 in
set_option maxHeartbeats 4000000 in
theorem T_X8_init_0 {X : CX} {Q : HS → Prop} (C : Cx X cX8_init RX8 2 rm_X8_init) (E : ReV X rm_X8_init Q) (ht : (xh X).sig.returnType = none) (hn : (xh X).name = yX8_init.name) {v0 : Nat} {kk : Nat} {nn : Nat} {S : HS} (h : P_X8_init_0 Q v0 kk nn S) : WS X 2 kk nn 0 [(0, .ref v0)] [] S := by
  refine r_aload_n (pc := 0) C dX8_init_0 0 rfl ?_
  refine r_objinit (pc := 1) C g_35 dX8_init_1 (by decide) (Nat.le_of_ble_eq_true rfl) ?_
  refine r_aload_n (pc := 4) C dX8_init_4 0 rfl ?_
  refine r_bipush (pc := 5) C (v := (6 : Int32)) dX8_init_5 (by decide) ?_
  obtain ⟨hk, hk2, h⟩ := h
  refine r_newa17 (pc := 7) C (N := 6) g_36 dX8_init_7 (by decide) (by decide) (by decide) hk hk2 (fun a1 q29 => ?_)
  refine r_heap (fun S2 eS2 => ?_)
  have h := h a1 q29 S2 eS2
  have g30 := gr_of_new eS2 q29
  have o_a1 := ob_of_new eS2
  obtain ⟨o_v0, h⟩ := h
  refine r_putFr (pc := 10) C pfL_X8_11 hn dX8_init_10 o_v0 ?_
  refine r_heap (fun S3 eS3 => ?_)
  have h := h S3 eS3
  have o_a1 := ob_R eS3 o_a1
  have o_v0 := ob_R eS3 o_v0
  refine r_aload_n (pc := 13) C dX8_init_13 0 rfl ?_
  refine r_bipush (pc := 14) C (v := (8 : Int32)) dX8_init_14 (by decide) ?_
  obtain ⟨hk, hk2, h⟩ := h
  refine r_newa13 (pc := 16) C (N := 8) g_72 dX8_init_16 (by decide) (by decide) (by decide) hk hk2 (fun a4 q27 => ?_)
  refine r_heap (fun S5 eS5 => ?_)
  have h := h a4 q27 S5 eS5
  have g28 := gr_of_new eS5 q27
  have o_a4 := ob_of_new eS5
  have o_a1 := gr_ob g28 o_a1
  have o_v0 := gr_ob g28 o_v0
  refine r_putFr (pc := 18) C pfL_X8_17 hn dX8_init_18 o_v0 ?_
  refine r_heap (fun S6 eS6 => ?_)
  have h := h S6 eS6
  have o_a1 := ob_R eS6 o_a1
  have o_a4 := ob_R eS6 o_a4
  have o_v0 := ob_R eS6 o_v0
  refine r_aload_n (pc := 21) C dX8_init_21 0 rfl ?_
  refine r_bipush (pc := 22) C (v := (12 : Int32)) dX8_init_22 (by decide) ?_
  obtain ⟨hk, hk2, h⟩ := h
  refine r_newa18 (pc := 24) C (N := 12) g_38 dX8_init_24 (by decide) (by decide) (by decide) hk hk2 (fun a7 q25 => ?_)
  refine r_heap (fun S8 eS8 => ?_)
  have h := h a7 q25 S8 eS8
  have g26 := gr_of_new eS8 q25
  have o_a7 := ob_of_new eS8
  have o_a1 := gr_ob g26 o_a1
  have o_a4 := gr_ob g26 o_a4
  have o_v0 := gr_ob g26 o_v0
  refine r_putFr (pc := 27) C pfL_X8_23 hn dX8_init_27 o_v0 ?_
  refine r_heap (fun S9 eS9 => ?_)
  have h := h S9 eS9
  have o_a1 := ob_R eS9 o_a1
  have o_a4 := ob_R eS9 o_a4
  have o_a7 := ob_R eS9 o_a7
  have o_v0 := ob_R eS9 o_v0
  refine r_aload_n (pc := 30) C dX8_init_30 0 rfl ?_
  refine r_iconst (pc := 31) C (v := (4 : Int32)) dX8_init_31 (by decide) ?_
  obtain ⟨hk, hk2, h⟩ := h
  refine r_newa19 (pc := 32) C (N := 4) g_40 dX8_init_32 (by decide) (by decide) (by decide) hk hk2 (fun a10 q23 => ?_)
  refine r_heap (fun S11 eS11 => ?_)
  have h := h a10 q23 S11 eS11
  have g24 := gr_of_new eS11 q23
  have o_a10 := ob_of_new eS11
  have o_a1 := gr_ob g24 o_a1
  have o_a4 := gr_ob g24 o_a4
  have o_a7 := gr_ob g24 o_a7
  have o_v0 := gr_ob g24 o_v0
  refine r_putFr (pc := 35) C pfL_X8_29 hn dX8_init_35 o_v0 ?_
  refine r_heap (fun S12 eS12 => ?_)
  have h := h S12 eS12
  have o_a1 := ob_R eS12 o_a1
  have o_a10 := ob_R eS12 o_a10
  have o_a4 := ob_R eS12 o_a4
  have o_a7 := ob_R eS12 o_a7
  have o_v0 := ob_R eS12 o_v0
  refine r_aload_n (pc := 38) C dX8_init_38 0 rfl ?_
  refine r_iconst (pc := 39) C (v := (4 : Int32)) dX8_init_39 (by decide) ?_
  obtain ⟨hk, hk2, h⟩ := h
  refine r_newa13 (pc := 40) C (N := 4) g_72 dX8_init_40 (by decide) (by decide) (by decide) hk hk2 (fun a13 q21 => ?_)
  refine r_heap (fun S14 eS14 => ?_)
  have h := h a13 q21 S14 eS14
  have g22 := gr_of_new eS14 q21
  have o_a13 := ob_of_new eS14
  have o_a1 := gr_ob g22 o_a1
  have o_a10 := gr_ob g22 o_a10
  have o_a4 := gr_ob g22 o_a4
  have o_a7 := gr_ob g22 o_a7
  have o_v0 := gr_ob g22 o_v0
  refine r_putFr (pc := 42) C pfL_X8_33 hn dX8_init_42 o_v0 ?_
  refine r_heap (fun S15 eS15 => ?_)
  have h := h S15 eS15
  have o_a1 := ob_R eS15 o_a1
  have o_a10 := ob_R eS15 o_a10
  have o_a13 := ob_R eS15 o_a13
  have o_a4 := ob_R eS15 o_a4
  have o_a7 := ob_R eS15 o_a7
  have o_v0 := ob_R eS15 o_v0
  refine r_aload_n (pc := 45) C dX8_init_45 0 rfl ?_
  refine r_bipush (pc := 46) C (v := (20 : Int32)) dX8_init_46 (by decide) ?_
  obtain ⟨hk, hk2, h⟩ := h
  refine r_newa13 (pc := 48) C (N := 20) g_72 dX8_init_48 (by decide) (by decide) (by decide) hk hk2 (fun a16 q19 => ?_)
  refine r_heap (fun S17 eS17 => ?_)
  have h := h a16 q19 S17 eS17
  have g20 := gr_of_new eS17 q19
  have o_a16 := ob_of_new eS17
  have o_a1 := gr_ob g20 o_a1
  have o_a10 := gr_ob g20 o_a10
  have o_a13 := gr_ob g20 o_a13
  have o_a4 := gr_ob g20 o_a4
  have o_a7 := gr_ob g20 o_a7
  have o_v0 := gr_ob g20 o_v0
  refine r_putFr (pc := 50) C pfL_X8_36 hn dX8_init_50 o_v0 ?_
  refine r_heap (fun S18 eS18 => ?_)
  have h := h S18 eS18
  have o_a1 := ob_R eS18 o_a1
  have o_a10 := ob_R eS18 o_a10
  have o_a13 := ob_R eS18 o_a13
  have o_a16 := ob_R eS18 o_a16
  have o_a4 := ob_R eS18 o_a4
  have o_a7 := ob_R eS18 o_a7
  have o_v0 := ob_R eS18 o_v0
  refine r_iconst (pc := 53) C (v := (0 : Int32)) dX8_init_53 (by decide) ?_
  refine r_istore_n (pc := 54) C dX8_init_54 rfl (by decide) (lv' := [(1, .int (0 : Int32)), (0, .ref v0)]) rfl ?_
  exact r_sub [1, 0] rfl (T_X8_init_55 C E ht hn h)
def P_X8_init (v0 : Nat) (Q : HS → Prop) (S : HS) : Prop := P_X8_init_0 Q v0 0 0 S
theorem c_X8_init {l : Launch} {Ee : EE} {S : HS} {v0 : Nat} {Q : HS → Prop} (h : P_X8_init v0 Q S) : MV l yX8_init cX8_init 2 none rm_X8_init Ee S [.ref v0] Q :=
  openV (by decide) (Nat.le_of_ble_eq_true rfl) (fun X C E ht hn hE hl => by subst hE; exact r_sub [0] rfl (T_X8_init_0 C E ht hn h))
def rm_X4_init : Room := { frames := 3, cells := 32, slots := 208, locals := 61 }
def P_X4_init_0 (Q : HS → Prop) (v0 : Nat) (S : HS) : Prop := ∀ a1 : Nat, a1 ∉ hL S → ∀ S2 : HS, S2 = nW S a1 12 0 → (ob S2 v0 4 ∧ (∀ S3 : HS, S3 = sR S2 v0 2 (some a1) → (∀ a4 : Nat, a4 ∉ hL S3 → ∀ S5 : HS, S5 = nW S3 a4 8 0 → (P_X8_init a4 (fun S6 => Gr S5 S6 → (∀ S9 : HS, S9 = sR S6 v0 5 (some a4) → (∀ a10 : Nat, a10 ∉ hL S9 → ∀ S11 : HS, S11 = nW S9 a10 14 12 → (∀ S12 : HS, S12 = sR S11 v0 11 (some a10) → (∀ a13 : Nat, a13 ∉ hL S12 → ∀ S14 : HS, S14 = nW S12 a13 13 12 → (∀ S15 : HS, S15 = sR S14 v0 12 (some a13) → (Q S15))))))) S5))))
set_option maxRecDepth 20000 in
set_option maxHeartbeats 4000000 in
theorem T_X4_init_0 {X : CX} {Q : HS → Prop} (C : Cx X cX4_init RX4 1 rm_X4_init) (E : ReV X rm_X4_init Q) (ht : (xh X).sig.returnType = none) (hn : (xh X).name = yX4_init.name) {v0 : Nat} {S : HS} (h : P_X4_init_0 Q v0 S) : WS X 1 0 0 0 [(0, .ref v0)] [] S := by
  refine r_aload_n (pc := 0) C dX4_init_0 0 rfl ?_
  refine r_objinit (pc := 1) C g_221 dX4_init_1 (by decide) (Nat.le_of_ble_eq_true rfl) ?_
  refine r_aload_n (pc := 4) C dX4_init_4 0 rfl ?_
  refine r_iconst (pc := 5) C (v := (0 : Int32)) dX4_init_5 (by decide) ?_
  refine r_newa12 (pc := 6) C (N := 0) g_71 dX4_init_6 (by decide) (by decide) (by decide) (by decide) (by decide) (fun a1 q22 => ?_)
  refine r_heap (fun S2 eS2 => ?_)
  have h := h a1 q22 S2 eS2
  have g23 := gr_of_new eS2 q22
  have o_a1 := ob_of_new eS2
  obtain ⟨o_v0, h⟩ := h
  refine r_putr (pc := 8) C pfL_X4_9 dX4_init_8 o_v0 ?_
  refine r_heap (fun S3 eS3 => ?_)
  have h := h S3 eS3
  have o_a1 := ob_R eS3 o_a1
  have o_v0 := ob_R eS3 o_v0
  refine r_aload_n (pc := 11) C dX4_init_11 0 rfl ?_
  refine r_new (pc := 12) C nc_X4_15 dX4_init_12 (by decide) (by decide) (fun a4 q20 => ?_)
  refine r_heap (fun S5 eS5 => ?_)
  have h := h a4 q20 S5 eS5
  have g21 := gr_of_new eS5 q20
  have o_a4 := ob_of_new eS5
  have o_a1 := gr_ob g21 o_a1
  have o_v0 := gr_ob g21 o_v0
  refine r_dup (pc := 15) C dX4_init_15 rfl ?_
  refine r_callIv (pc := 16) C (rest := [.ref a4, .ref v0]) (a := a4) [] yI_X8_init g_223 (c_X8_init h) dX4_init_16 rfl rfl (Nat.le_of_ble_eq_true rfl) ⟨by decide, by decide⟩ ⟨by decide, by decide⟩ (fun S6 h g7 => ?_)
  have h := h g7
  have o_a1 := gr_ob g7 o_a1
  have o_a4 := gr_ob g7 o_a4
  have o_v0 := gr_ob g7 o_v0
  refine r_putr (pc := 19) C pfL_X4_18 dX4_init_19 o_v0 ?_
  refine r_heap (fun S9 eS9 => ?_)
  have h := h S9 eS9
  have o_a1 := ob_R eS9 o_a1
  have o_a4 := ob_R eS9 o_a4
  have o_v0 := ob_R eS9 o_v0
  refine r_aload_n (pc := 22) C dX4_init_22 0 rfl ?_
  refine r_bipush (pc := 23) C (v := (12 : Int32)) dX4_init_23 (by decide) ?_
  refine r_newa14 (pc := 25) C (N := 12) g_266 dX4_init_25 (by decide) (by decide) (by decide) (by decide) (by decide) (fun a10 q18 => ?_)
  refine r_heap (fun S11 eS11 => ?_)
  have h := h a10 q18 S11 eS11
  have g19 := gr_of_new eS11 q18
  have o_a10 := ob_of_new eS11
  have o_a1 := gr_ob g19 o_a1
  have o_a4 := gr_ob g19 o_a4
  have o_v0 := gr_ob g19 o_v0
  refine r_putFr (pc := 27) C pfL_X4_22 hn dX4_init_27 o_v0 ?_
  refine r_heap (fun S12 eS12 => ?_)
  have h := h S12 eS12
  have o_a1 := ob_R eS12 o_a1
  have o_a10 := ob_R eS12 o_a10
  have o_a4 := ob_R eS12 o_a4
  have o_v0 := ob_R eS12 o_v0
  refine r_aload_n (pc := 30) C dX4_init_30 0 rfl ?_
  refine r_bipush (pc := 31) C (v := (12 : Int32)) dX4_init_31 (by decide) ?_
  refine r_newa13 (pc := 33) C (N := 12) g_72 dX4_init_33 (by decide) (by decide) (by decide) (by decide) (by decide) (fun a13 q16 => ?_)
  refine r_heap (fun S14 eS14 => ?_)
  have h := h a13 q16 S14 eS14
  have g17 := gr_of_new eS14 q16
  have o_a13 := ob_of_new eS14
  have o_a1 := gr_ob g17 o_a1
  have o_a10 := gr_ob g17 o_a10
  have o_a4 := gr_ob g17 o_a4
  have o_v0 := gr_ob g17 o_v0
  refine r_putFr (pc := 35) C pfL_X4_26 hn dX4_init_35 o_v0 ?_
  refine r_heap (fun S15 eS15 => ?_)
  have h := h S15 eS15
  have o_a1 := ob_R eS15 o_a1
  have o_a10 := ob_R eS15 o_a10
  have o_a13 := ob_R eS15 o_a13
  have o_a4 := ob_R eS15 o_a4
  have o_v0 := ob_R eS15 o_v0
  exact r_vret (pc := 38) C E ht dX4_init_38 (by decide) (by decide) h
def P_X4_init (v0 : Nat) (Q : HS → Prop) (S : HS) : Prop := P_X4_init_0 Q v0 S
theorem c_X4_init {l : Launch} {Ee : EE} {S : HS} {v0 : Nat} {Q : HS → Prop} (h : P_X4_init v0 Q S) : MV l yX4_init cX4_init 1 none rm_X4_init Ee S [.ref v0] Q :=
  openV (by decide) (Nat.le_of_ble_eq_true rfl) (fun X C E ht hn hE hl => by subst hE; exact r_sub [0] rfl (T_X4_init_0 C E ht hn h))
def rm_X4_kindOf : Room := { frames := 8, cells := 0, slots := 0, locals := 188 }
def P_X4_kindOf_0 (Q : Int32 → HS → Prop) (v0 : Nat) (v1 : Nat) (S : HS) : Prop := ob S v0 4 ∧ (∀ S1 : HS, S1 = sI S v0 9 (0 : Int32) → (P_X4_is v0 18 (fun x4 S2 => Gr S1 S2 → bl x4 → (((x4 = 0) → (P_X4_is v0 19 (fun x8 S6 => Gr S2 S6 → bl x8 → (((x8 = 0) → (P_X4_is v0 20 (fun x12 S10 => Gr S6 S10 → bl x12 → (((x12 = 0) → (ob S10 v1 6 ∧ (∀ S14 : HS, S14 = sI S10 v1 0 (0 : Int32) → (P_X4_word v0 21 (fun x17 S15 => Gr S14 S15 → bl x17 → (∀ x18 : Int32, x18 = fI S15 v0 9 → (∀ S19 : HS, S19 = sI S15 v1 1 x18 → (bl x17 ∧ Q x17 S19)))) S14)))) ∧ ((¬ x12 = 0) → (ob S10 v1 6 ∧ (∀ S20 : HS, S20 = sI S10 v1 0 (3 : Int32) → (P_X4_wordAndWhole v0 20 (1 : Int32) (99 : Int32) (fun x23 S21 => Gr S20 S21 → bl x23 → (∀ x24 : Int32, x24 = fI S21 v0 9 → (∀ S25 : HS, S25 = sI S21 v1 1 x24 → (bl x23 ∧ Q x23 S25)))) S20)))))) S6)) ∧ ((¬ x8 = 0) → (ob S6 v1 6 ∧ (∀ S26 : HS, S26 = sI S6 v1 0 (2 : Int32) → (P_X4_wordAndWhole v0 19 (0 : Int32) (999 : Int32) (fun x29 S27 => Gr S26 S27 → bl x29 → (∀ x30 : Int32, x30 = fI S27 v0 9 → (∀ S31 : HS, S31 = sI S27 v1 1 x30 → (bl x29 ∧ Q x29 S31)))) S26)))))) S2)) ∧ ((¬ x4 = 0) → (ob S2 v1 6 ∧ (∀ S32 : HS, S32 = sI S2 v1 0 (1 : Int32) → (P_X4_wordAndWhole v0 18 (1 : Int32) (8 : Int32) (fun x35 S33 => Gr S32 S33 → bl x35 → (∀ x36 : Int32, x36 = fI S33 v0 9 → (∀ S37 : HS, S37 = sI S33 v1 1 x36 → (bl x35 ∧ Q x35 S37)))) S32)))))) S1))
set_option maxRecDepth 20000 in
set_option maxHeartbeats 4000000 in
theorem T_X4_kindOf_0 {X : CX} {Q : Int32 → HS → Prop} (C : Cx X cX4_kindOf RX4 3 rm_X4_kindOf) (E : ReI X rm_X4_kindOf (fun r S => bl r ∧ Q r S)) (ht : (xh X).sig.returnType = (some .boolean)) (hn : (xh X).name = yX4_kindOf.name) {v0 : Nat} {v1 : Nat} {S : HS} (h : P_X4_kindOf_0 Q v0 v1 S) : WS X 3 0 0 0 [(0, .ref v0), (1, .ref v1)] [] S := by
  refine r_aload_n (pc := 0) C dX4_kindOf_0 0 rfl ?_
  refine r_iconst (pc := 1) C (v := (0 : Int32)) dX4_kindOf_1 (by decide) ?_
  obtain ⟨o_v0, h⟩ := h
  refine r_puti (pc := 2) C pfL_X4_147 dX4_kindOf_2 o_v0 ?_
  refine r_heap (fun S1 eS1 => ?_)
  have h := h S1 eS1
  have o_v0 := ob_I eS1 o_v0
  refine r_aload_n (pc := 5) C dX4_kindOf_5 0 rfl ?_
  refine r_ldsw (pc := 6) C 18 rfl dX4_kindOf_6 ?_
  refine r_callVi0 (pc := 9) C (rest := []) (a := v0) o_v0 [.ref (eK (xE X) 18)] yV_X4_is g_458 (c_X4_is h) dX4_kindOf_9 rfl rfl (Nat.le_of_ble_eq_true rfl) ⟨by decide, by decide⟩ ⟨by decide, by decide⟩ ⟨rfl, rfl⟩ (fun x4 S2 h g3 => ?_)
  have bx4 := h.1
  have h := h.2 g3 bx4
  have o_v0 := gr_ob g3 o_v0
  refine r_if_eq (pc := 12) C (tgt := 34) dX4_kindOf_12 (by decide) (fun c5 => ?_) (fun c5 => ?_)
  · have h := h.1 c5
    refine r_aload_n (pc := 34) C dX4_kindOf_34 0 rfl ?_
    refine r_ldsw (pc := 35) C 19 rfl dX4_kindOf_35 ?_
    refine r_callVi0 (pc := 38) C (rest := []) (a := v0) o_v0 [.ref (eK (xE X) 19)] yV_X4_is g_458 (c_X4_is h) dX4_kindOf_38 rfl rfl (Nat.le_of_ble_eq_true rfl) ⟨by decide, by decide⟩ ⟨by decide, by decide⟩ ⟨rfl, rfl⟩ (fun x8 S6 h g7 => ?_)
    have bx8 := h.1
    have h := h.2 g7 bx8
    have o_v0 := gr_ob g7 o_v0
    refine r_if_eq (pc := 41) C (tgt := 64) dX4_kindOf_41 (by decide) (fun c9 => ?_) (fun c9 => ?_)
    · have h := h.1 c9
      refine r_aload_n (pc := 64) C dX4_kindOf_64 0 rfl ?_
      refine r_ldsw (pc := 65) C 20 rfl dX4_kindOf_65 ?_
      refine r_callVi0 (pc := 68) C (rest := []) (a := v0) o_v0 [.ref (eK (xE X) 20)] yV_X4_is g_458 (c_X4_is h) dX4_kindOf_68 rfl rfl (Nat.le_of_ble_eq_true rfl) ⟨by decide, by decide⟩ ⟨by decide, by decide⟩ ⟨rfl, rfl⟩ (fun x12 S10 h g11 => ?_)
      have bx12 := h.1
      have h := h.2 g11 bx12
      have o_v0 := gr_ob g11 o_v0
      refine r_if_eq (pc := 71) C (tgt := 93) dX4_kindOf_71 (by decide) (fun c13 => ?_) (fun c13 => ?_)
      · have h := h.1 c13
        refine r_aload_n (pc := 93) C dX4_kindOf_93 1 rfl ?_
        refine r_iconst (pc := 94) C (v := (0 : Int32)) dX4_kindOf_94 (by decide) ?_
        obtain ⟨o_v1, h⟩ := h
        refine r_puti (pc := 95) C pfL_X4_264 dX4_kindOf_95 o_v1 ?_
        refine r_heap (fun S14 eS14 => ?_)
        have h := h S14 eS14
        have o_v0 := ob_I eS14 o_v0
        have o_v1 := ob_I eS14 o_v1
        refine r_aload_n (pc := 98) C dX4_kindOf_98 0 rfl ?_
        refine r_ldsw (pc := 99) C 21 rfl dX4_kindOf_99 ?_
        refine r_callVi0 (pc := 102) C (rest := []) (a := v0) o_v0 [.ref (eK (xE X) 21)] yV_X4_word g_528 (c_X4_word h) dX4_kindOf_102 rfl rfl (Nat.le_of_ble_eq_true rfl) ⟨by decide, by decide⟩ ⟨by decide, by decide⟩ ⟨rfl, rfl⟩ (fun x17 S15 h g16 => ?_)
        have bx17 := h.1
        have h := h.2 g16 bx17
        have o_v0 := gr_ob g16 o_v0
        have o_v1 := gr_ob g16 o_v1
        refine r_istore_n (pc := 105) C dX4_kindOf_105 rfl (by decide) (lv' := [(2, .int x17), (0, .ref v0), (1, .ref v1)]) rfl ?_
        refine r_aload_n (pc := 106) C dX4_kindOf_106 2 rfl ?_
        refine r_aload_n (pc := 107) C dX4_kindOf_107 1 rfl ?_
        refine r_geti (pc := 108) C fL_X4_147 dX4_kindOf_108 o_v0 ?_
        refine r_topi (fun x18 ex18 => ?_)
        have h := h x18 ex18
        refine r_puti (pc := 111) C pfL_X4_273 dX4_kindOf_111 o_v1 ?_
        refine r_heap (fun S19 eS19 => ?_)
        have h := h S19 eS19
        have o_v0 := ob_I eS19 o_v0
        have o_v1 := ob_I eS19 o_v1
        refine r_iload_n (pc := 114) C dX4_kindOf_114 0 rfl ?_
        exact r_zret (pc := 115) C E ht dX4_kindOf_115 (by decide) (by decide) h.1 h.2
      · have h := h.2 c13
        refine r_aload_n (pc := 74) C dX4_kindOf_74 1 rfl ?_
        refine r_iconst (pc := 75) C (v := (3 : Int32)) dX4_kindOf_75 (by decide) ?_
        obtain ⟨o_v1, h⟩ := h
        refine r_puti (pc := 76) C pfL_X4_264 dX4_kindOf_76 o_v1 ?_
        refine r_heap (fun S20 eS20 => ?_)
        have h := h S20 eS20
        have o_v0 := ob_I eS20 o_v0
        have o_v1 := ob_I eS20 o_v1
        refine r_aload_n (pc := 79) C dX4_kindOf_79 0 rfl ?_
        refine r_ldsw (pc := 80) C 20 rfl dX4_kindOf_80 ?_
        refine r_iconst (pc := 83) C (v := (1 : Int32)) dX4_kindOf_83 (by decide) ?_
        refine r_bipush (pc := 84) C (v := (99 : Int32)) dX4_kindOf_84 (by decide) ?_
        refine r_callVi0 (pc := 86) C (rest := []) (a := v0) o_v0 [.ref (eK (xE X) 20), .int (1 : Int32), .int (99 : Int32)] yV_X4_wordAndWhole g_524 (c_X4_wordAndWhole h) dX4_kindOf_86 rfl rfl (Nat.le_of_ble_eq_true rfl) ⟨by decide, by decide⟩ ⟨by decide, by decide⟩ ⟨rfl, rfl⟩ (fun x23 S21 h g22 => ?_)
        have bx23 := h.1
        have h := h.2 g22 bx23
        have o_v0 := gr_ob g22 o_v0
        have o_v1 := gr_ob g22 o_v1
        refine r_istore_n (pc := 89) C dX4_kindOf_89 rfl (by decide) (lv' := [(2, .int x23), (0, .ref v0), (1, .ref v1)]) rfl ?_
        refine r_goto (pc := 90) C (tgt := 106) dX4_kindOf_90 (by decide) ?_
        refine r_aload_n (pc := 106) C dX4_kindOf_106 2 rfl ?_
        refine r_aload_n (pc := 107) C dX4_kindOf_107 1 rfl ?_
        refine r_geti (pc := 108) C fL_X4_147 dX4_kindOf_108 o_v0 ?_
        refine r_topi (fun x24 ex24 => ?_)
        have h := h x24 ex24
        refine r_puti (pc := 111) C pfL_X4_273 dX4_kindOf_111 o_v1 ?_
        refine r_heap (fun S25 eS25 => ?_)
        have h := h S25 eS25
        have o_v0 := ob_I eS25 o_v0
        have o_v1 := ob_I eS25 o_v1
        refine r_iload_n (pc := 114) C dX4_kindOf_114 0 rfl ?_
        exact r_zret (pc := 115) C E ht dX4_kindOf_115 (by decide) (by decide) h.1 h.2
    · have h := h.2 c9
      refine r_aload_n (pc := 44) C dX4_kindOf_44 1 rfl ?_
      refine r_iconst (pc := 45) C (v := (2 : Int32)) dX4_kindOf_45 (by decide) ?_
      obtain ⟨o_v1, h⟩ := h
      refine r_puti (pc := 46) C pfL_X4_264 dX4_kindOf_46 o_v1 ?_
      refine r_heap (fun S26 eS26 => ?_)
      have h := h S26 eS26
      have o_v0 := ob_I eS26 o_v0
      have o_v1 := ob_I eS26 o_v1
      refine r_aload_n (pc := 49) C dX4_kindOf_49 0 rfl ?_
      refine r_ldsw (pc := 50) C 19 rfl dX4_kindOf_50 ?_
      refine r_iconst (pc := 53) C (v := (0 : Int32)) dX4_kindOf_53 (by decide) ?_
      refine r_sipush (pc := 54) C (v := (999 : Int32)) dX4_kindOf_54 (by decide) ?_
      refine r_callVi0 (pc := 57) C (rest := []) (a := v0) o_v0 [.ref (eK (xE X) 19), .int (0 : Int32), .int (999 : Int32)] yV_X4_wordAndWhole g_524 (c_X4_wordAndWhole h) dX4_kindOf_57 rfl rfl (Nat.le_of_ble_eq_true rfl) ⟨by decide, by decide⟩ ⟨by decide, by decide⟩ ⟨rfl, rfl⟩ (fun x29 S27 h g28 => ?_)
      have bx29 := h.1
      have h := h.2 g28 bx29
      have o_v0 := gr_ob g28 o_v0
      have o_v1 := gr_ob g28 o_v1
      refine r_istore_n (pc := 60) C dX4_kindOf_60 rfl (by decide) (lv' := [(2, .int x29), (0, .ref v0), (1, .ref v1)]) rfl ?_
      refine r_goto (pc := 61) C (tgt := 106) dX4_kindOf_61 (by decide) ?_
      refine r_aload_n (pc := 106) C dX4_kindOf_106 2 rfl ?_
      refine r_aload_n (pc := 107) C dX4_kindOf_107 1 rfl ?_
      refine r_geti (pc := 108) C fL_X4_147 dX4_kindOf_108 o_v0 ?_
      refine r_topi (fun x30 ex30 => ?_)
      have h := h x30 ex30
      refine r_puti (pc := 111) C pfL_X4_273 dX4_kindOf_111 o_v1 ?_
      refine r_heap (fun S31 eS31 => ?_)
      have h := h S31 eS31
      have o_v0 := ob_I eS31 o_v0
      have o_v1 := ob_I eS31 o_v1
      refine r_iload_n (pc := 114) C dX4_kindOf_114 0 rfl ?_
      exact r_zret (pc := 115) C E ht dX4_kindOf_115 (by decide) (by decide) h.1 h.2
  · have h := h.2 c5
    refine r_aload_n (pc := 15) C dX4_kindOf_15 1 rfl ?_
    refine r_iconst (pc := 16) C (v := (1 : Int32)) dX4_kindOf_16 (by decide) ?_
    obtain ⟨o_v1, h⟩ := h
    refine r_puti (pc := 17) C pfL_X4_264 dX4_kindOf_17 o_v1 ?_
    refine r_heap (fun S32 eS32 => ?_)
    have h := h S32 eS32
    have o_v0 := ob_I eS32 o_v0
    have o_v1 := ob_I eS32 o_v1
    refine r_aload_n (pc := 20) C dX4_kindOf_20 0 rfl ?_
    refine r_ldsw (pc := 21) C 18 rfl dX4_kindOf_21 ?_
    refine r_iconst (pc := 24) C (v := (1 : Int32)) dX4_kindOf_24 (by decide) ?_
    refine r_bipush (pc := 25) C (v := (8 : Int32)) dX4_kindOf_25 (by decide) ?_
    refine r_callVi0 (pc := 27) C (rest := []) (a := v0) o_v0 [.ref (eK (xE X) 18), .int (1 : Int32), .int (8 : Int32)] yV_X4_wordAndWhole g_524 (c_X4_wordAndWhole h) dX4_kindOf_27 rfl rfl (Nat.le_of_ble_eq_true rfl) ⟨by decide, by decide⟩ ⟨by decide, by decide⟩ ⟨rfl, rfl⟩ (fun x35 S33 h g34 => ?_)
    have bx35 := h.1
    have h := h.2 g34 bx35
    have o_v0 := gr_ob g34 o_v0
    have o_v1 := gr_ob g34 o_v1
    refine r_istore_n (pc := 30) C dX4_kindOf_30 rfl (by decide) (lv' := [(2, .int x35), (0, .ref v0), (1, .ref v1)]) rfl ?_
    refine r_goto (pc := 31) C (tgt := 106) dX4_kindOf_31 (by decide) ?_
    refine r_aload_n (pc := 106) C dX4_kindOf_106 2 rfl ?_
    refine r_aload_n (pc := 107) C dX4_kindOf_107 1 rfl ?_
    refine r_geti (pc := 108) C fL_X4_147 dX4_kindOf_108 o_v0 ?_
    refine r_topi (fun x36 ex36 => ?_)
    have h := h x36 ex36
    refine r_puti (pc := 111) C pfL_X4_273 dX4_kindOf_111 o_v1 ?_
    refine r_heap (fun S37 eS37 => ?_)
    have h := h S37 eS37
    have o_v0 := ob_I eS37 o_v0
    have o_v1 := ob_I eS37 o_v1
    refine r_iload_n (pc := 114) C dX4_kindOf_114 0 rfl ?_
    exact r_zret (pc := 115) C E ht dX4_kindOf_115 (by decide) (by decide) h.1 h.2
def P_X4_kindOf (v0 : Nat) (v1 : Nat) (Q : Int32 → HS → Prop) (S : HS) : Prop := P_X4_kindOf_0 Q v0 v1 S
theorem c_X4_kindOf {l : Launch} {Ee : EE} {S : HS} {v0 : Nat} {v1 : Nat} {Q : Int32 → HS → Prop} (h : P_X4_kindOf v0 v1 Q S) : MI l yX4_kindOf cX4_kindOf 3 (some .boolean) rm_X4_kindOf Ee S [.ref v0, .ref v1] (fun r S => bl r ∧ Q r S) :=
  openI (by decide) (Nat.le_of_ble_eq_true rfl) (fun X C E ht hn hE hl => by subst hE; exact r_sub [0, 1] rfl (T_X4_kindOf_0 C E ht hn h))
def rm_X4_newName : Room := { frames := 7, cells := 0, slots := 0, locals := 165 }
def P_X4_newName_69 (Q : Int32 → HS → Prop) (v0 : Nat) (S : HS) : Prop := ob S v0 4 ∧ (P_X4_next v0 (fun S1 => Gr S S1 → (Q (1 : Int32) S1)) S)
set_option maxRecDepth 20000 in
set_option maxHeartbeats 4000000 in
theorem T_X4_newName_69 {X : CX} {Q : Int32 → HS → Prop} (C : Cx X cX4_newName RX4 2 rm_X4_newName) (E : ReI X rm_X4_newName (fun r S => bl r ∧ Q r S)) (ht : (xh X).sig.returnType = (some .boolean)) (hn : (xh X).name = yX4_newName.name) {v0 : Nat} {S : HS} (h : P_X4_newName_69 Q v0 S) : WS X 2 0 0 69 [(0, .ref v0)] [] S := by
  refine r_aload_n (pc := 69) C dX4_newName_69 0 rfl ?_
  obtain ⟨o_v0, h⟩ := h
  refine r_callVv0 (pc := 70) C (rest := []) (a := v0) o_v0 [] yV_X4_next g_449 (c_X4_next h) dX4_newName_70 rfl rfl (Nat.le_of_ble_eq_true rfl) ⟨by decide, by decide⟩ ⟨by decide, by decide⟩ ⟨rfl, rfl⟩ (fun S1 h g2 => ?_)
  have h := h g2
  have o_v0 := gr_ob g2 o_v0
  refine r_iconst (pc := 73) C (v := (1 : Int32)) dX4_newName_73 (by decide) ?_
  exact r_zret (pc := 74) C E ht dX4_newName_74 (by decide) (by decide) (Or.inr rfl) h
def P_X4_newName_0 (Q : Int32 → HS → Prop) (v0 : Nat) (v1 : Int32) (S : HS) : Prop := ob S v0 4 ∧ (P_X4_canBeName v0 (fun x3 S1 => Gr S S1 → bl x3 → (((¬ x3 = 0) → (P_X4_findName v0 (fun x7 S5 => Gr S1 S5 → (((x7 = (-1 : Int32)) → (∀ x9 : Int32, x9 = fI S5 v0 10 → ((((12 : Int32) ≤ x9) → (P_X4_newName_69 Q v0 S5)) ∧ ((¬ (12 : Int32) ≤ x9) → (∃ a11 : Nat, fR S5 v0 11 = some a11 ∧ (∀ x12 : Int32, x12 = fI S5 v0 10 → (∀ x13 : Int64, x13 = fJ S5 v0 8 → (ob S5 a11 14 ∧ (vp_in x12 (hN S5 a11) ∧ (∀ S15 : HS, S15 = sJ S5 a11 x12.toNatClampNeg x13 → (∃ a16 : Nat, fR S15 v0 12 = some a16 ∧ (∀ x17 : Int32, x17 = fI S15 v0 10 → (ob S15 a16 13 ∧ (vp_in x17 (hN S15 a16) ∧ (∀ S19 : HS, S19 = sI S15 a16 x17.toNatClampNeg v1 → (∀ x20 : Int32, x20 = fI S19 v0 10 → (∀ x21 : Int32, x21 = x20 + (1 : Int32) → (∀ S22 : HS, S22 = sI S19 v0 10 x21 → (P_X4_newName_69 Q v0 S22))))))))))))))))))) ∧ ((¬ x7 = (-1 : Int32)) → (P_X4_fail v0 (3 : Int32) (fun x25 S23 => Gr S5 S23 → bl x25 → (bl x25 ∧ Q x25 S23)) S5)))) S1)) ∧ ((x3 = 0) → (P_X4_fail v0 (1 : Int32) (fun x28 S26 => Gr S1 S26 → bl x28 → (bl x28 ∧ Q x28 S26)) S1)))) S)
set_option maxRecDepth 20000 in
set_option maxHeartbeats 4000000 in
theorem T_X4_newName_0 {X : CX} {Q : Int32 → HS → Prop} (C : Cx X cX4_newName RX4 2 rm_X4_newName) (E : ReI X rm_X4_newName (fun r S => bl r ∧ Q r S)) (ht : (xh X).sig.returnType = (some .boolean)) (hn : (xh X).name = yX4_newName.name) {v0 : Nat} {v1 : Int32} {S : HS} (h : P_X4_newName_0 Q v0 v1 S) : WS X 2 0 0 0 [(0, .ref v0), (1, .int v1)] [] S := by
  refine r_aload_n (pc := 0) C dX4_newName_0 0 rfl ?_
  obtain ⟨o_v0, h⟩ := h
  refine r_callVi0 (pc := 1) C (rest := []) (a := v0) o_v0 [] yV_X4_canBeName g_566 (c_X4_canBeName h) dX4_newName_1 rfl rfl (Nat.le_of_ble_eq_true rfl) ⟨by decide, by decide⟩ ⟨by decide, by decide⟩ ⟨rfl, rfl⟩ (fun x3 S1 h g2 => ?_)
  have bx3 := h.1
  have h := h.2 g2 bx3
  have o_v0 := gr_ob g2 o_v0
  refine r_if_ne (pc := 4) C (tgt := 13) dX4_newName_4 (by decide) (fun c4 => ?_) (fun c4 => ?_)
  · have h := h.1 c4
    refine r_aload_n (pc := 13) C dX4_newName_13 0 rfl ?_
    refine r_callVi0 (pc := 14) C (rest := []) (a := v0) o_v0 [] yV_X4_findName g_576 (c_X4_findName h) dX4_newName_14 rfl rfl (Nat.le_of_ble_eq_true rfl) ⟨by decide, by decide⟩ ⟨by decide, by decide⟩ ⟨rfl, rfl⟩ (fun x7 S5 h g6 => ?_)
    have h := h g6
    have o_v0 := gr_ob g6 o_v0
    refine r_iconst (pc := 17) C (v := (-1 : Int32)) dX4_newName_17 (by decide) ?_
    refine r_icmp_eq (pc := 18) C (tgt := 27) dX4_newName_18 (by decide) (fun c8 => ?_) (fun c8 => ?_)
    · have h := h.1 c8
      refine r_aload_n (pc := 27) C dX4_newName_27 0 rfl ?_
      refine r_geti (pc := 28) C fL_X4_116 dX4_newName_28 o_v0 ?_
      refine r_topi (fun x9 ex9 => ?_)
      have h := h x9 ex9
      refine r_bipush (pc := 31) C (v := (12 : Int32)) dX4_newName_31 (by decide) ?_
      refine r_icmp_ge (pc := 33) C (tgt := 69) dX4_newName_33 (by decide) (fun c10 => ?_) (fun c10 => ?_)
      · have h := h.1 c10
        exact r_sub [0] rfl (T_X4_newName_69 C E ht hn h)
      · have h := h.2 c10
        refine r_aload_n (pc := 36) C dX4_newName_36 0 rfl ?_
        obtain ⟨a11, ea11, h⟩ := h
        refine r_getr (pc := 37) C fL_X4_22 dX4_newName_37 o_v0 ea11 ?_
        refine r_aload_n (pc := 40) C dX4_newName_40 0 rfl ?_
        refine r_geti (pc := 41) C fL_X4_116 dX4_newName_41 o_v0 ?_
        refine r_topi (fun x12 ex12 => ?_)
        have h := h x12 ex12
        refine r_aload_n (pc := 44) C dX4_newName_44 0 rfl ?_
        refine r_getl (pc := 45) C fL_X4_132 dX4_newName_45 o_v0 ?_
        refine r_topl (fun x13 ex13 => ?_)
        have h := h x13 ex13
        obtain ⟨o_a11, h⟩ := h
        obtain ⟨i14, h⟩ := h
        refine r_last (pc := 48) C dX4_newName_48 o_a11 i14 ?_
        refine r_heap (fun S15 eS15 => ?_)
        have h := h S15 eS15
        have o_a11 := ob_J eS15 o_a11
        have o_v0 := ob_J eS15 o_v0
        refine r_aload_n (pc := 49) C dX4_newName_49 0 rfl ?_
        obtain ⟨a16, ea16, h⟩ := h
        refine r_getr (pc := 50) C fL_X4_26 dX4_newName_50 o_v0 ea16 ?_
        refine r_aload_n (pc := 53) C dX4_newName_53 0 rfl ?_
        refine r_geti (pc := 54) C fL_X4_116 dX4_newName_54 o_v0 ?_
        refine r_topi (fun x17 ex17 => ?_)
        have h := h x17 ex17
        refine r_iload_n (pc := 57) C dX4_newName_57 1 rfl ?_
        obtain ⟨o_a16, h⟩ := h
        obtain ⟨i18, h⟩ := h
        refine r_iast (pc := 58) C dX4_newName_58 o_a16 i18 ?_
        refine r_heap (fun S19 eS19 => ?_)
        have h := h S19 eS19
        have o_a11 := ob_I eS19 o_a11
        have o_a16 := ob_I eS19 o_a16
        have o_v0 := ob_I eS19 o_v0
        refine r_aload_n (pc := 59) C dX4_newName_59 0 rfl ?_
        refine r_dup (pc := 60) C dX4_newName_60 rfl ?_
        refine r_geti (pc := 61) C fL_X4_116 dX4_newName_61 o_v0 ?_
        refine r_topi (fun x20 ex20 => ?_)
        have h := h x20 ex20
        refine r_iconst (pc := 64) C (v := (1 : Int32)) dX4_newName_64 (by decide) ?_
        refine r_iadd (pc := 65) C dX4_newName_65 ?_
        refine r_topi (fun x21 ex21 => ?_)
        have h := h x21 ex21
        refine r_puti (pc := 66) C pfL_X4_116 dX4_newName_66 o_v0 ?_
        refine r_heap (fun S22 eS22 => ?_)
        have h := h S22 eS22
        have o_a11 := ob_I eS22 o_a11
        have o_a16 := ob_I eS22 o_a16
        have o_v0 := ob_I eS22 o_v0
        exact r_sub [0] rfl (T_X4_newName_69 C E ht hn h)
    · have h := h.2 c8
      refine r_aload_n (pc := 21) C dX4_newName_21 0 rfl ?_
      refine r_iconst (pc := 22) C (v := (3 : Int32)) dX4_newName_22 (by decide) ?_
      refine r_callVi0 (pc := 23) C (rest := []) (a := v0) o_v0 [.int (3 : Int32)] yV_X4_fail g_519 (c_X4_fail h) dX4_newName_23 rfl rfl (Nat.le_of_ble_eq_true rfl) ⟨by decide, by decide⟩ ⟨by decide, by decide⟩ ⟨rfl, rfl⟩ (fun x25 S23 h g24 => ?_)
      have bx25 := h.1
      have h := h.2 g24 bx25
      have o_v0 := gr_ob g24 o_v0
      exact r_zret (pc := 26) C E ht dX4_newName_26 (by decide) (by decide) h.1 h.2
  · have h := h.2 c4
    refine r_aload_n (pc := 7) C dX4_newName_7 0 rfl ?_
    refine r_iconst (pc := 8) C (v := (1 : Int32)) dX4_newName_8 (by decide) ?_
    refine r_callVi0 (pc := 9) C (rest := []) (a := v0) o_v0 [.int (1 : Int32)] yV_X4_fail g_519 (c_X4_fail h) dX4_newName_9 rfl rfl (Nat.le_of_ble_eq_true rfl) ⟨by decide, by decide⟩ ⟨by decide, by decide⟩ ⟨rfl, rfl⟩ (fun x28 S26 h g27 => ?_)
    have bx28 := h.1
    have h := h.2 g27 bx28
    have o_v0 := gr_ob g27 o_v0
    exact r_zret (pc := 12) C E ht dX4_newName_12 (by decide) (by decide) h.1 h.2
def P_X4_newName (v0 : Nat) (v1 : Int32) (Q : Int32 → HS → Prop) (S : HS) : Prop := P_X4_newName_0 Q v0 v1 S
theorem c_X4_newName {l : Launch} {Ee : EE} {S : HS} {v0 : Nat} {v1 : Int32} {Q : Int32 → HS → Prop} (h : P_X4_newName v0 v1 Q S) : MI l yX4_newName cX4_newName 2 (some .boolean) rm_X4_newName Ee S [.ref v0, .int v1] (fun r S => bl r ∧ Q r S) :=
  openI (by decide) (Nat.le_of_ble_eq_true rfl) (fun X C E ht hn hE hl => by subst hE; exact r_sub [0, 1] rfl (T_X4_newName_0 C E ht hn h))
def rm_X8_clear : Room := { frames := 0, cells := 0, slots := 0, locals := 0 }
def P_X8_clear_0 (Q : HS → Prop) (v0 : Nat) (S : HS) : Prop := ob S v0 8 ∧ (∀ S1 : HS, S1 = sI S v0 0 (0 : Int32) → (∀ S2 : HS, S2 = sI S1 v0 1 (0 : Int32) → (∀ S3 : HS, S3 = sI S2 v0 2 (0 : Int32) → (∀ S4 : HS, S4 = sI S3 v0 3 (0 : Int32) → (∀ S5 : HS, S5 = sI S4 v0 4 (0 : Int32) → (∀ S6 : HS, S6 = sI S5 v0 5 (0 : Int32) → (Q S6)))))))
set_option maxRecDepth 20000 in
set_option maxHeartbeats 4000000 in
theorem T_X8_clear_0 {X : CX} {Q : HS → Prop} (C : Cx X cX8_clear RX8 1 rm_X8_clear) (E : ReV X rm_X8_clear Q) (ht : (xh X).sig.returnType = none) (hn : (xh X).name = yX8_clear.name) {v0 : Nat} {S : HS} (h : P_X8_clear_0 Q v0 S) : WS X 1 0 0 0 [(0, .ref v0)] [] S := by
  refine r_aload_n (pc := 0) C dX8_clear_0 0 rfl ?_
  refine r_iconst (pc := 1) C (v := (0 : Int32)) dX8_clear_1 (by decide) ?_
  obtain ⟨o_v0, h⟩ := h
  refine r_puti (pc := 2) C pfL_X8_42 dX8_clear_2 o_v0 ?_
  refine r_heap (fun S1 eS1 => ?_)
  have h := h S1 eS1
  have o_v0 := ob_I eS1 o_v0
  refine r_aload_n (pc := 5) C dX8_clear_5 0 rfl ?_
  refine r_iconst (pc := 6) C (v := (0 : Int32)) dX8_clear_6 (by decide) ?_
  refine r_puti (pc := 7) C pfL_X8_46 dX8_clear_7 o_v0 ?_
  refine r_heap (fun S2 eS2 => ?_)
  have h := h S2 eS2
  have o_v0 := ob_I eS2 o_v0
  refine r_aload_n (pc := 10) C dX8_clear_10 0 rfl ?_
  refine r_iconst (pc := 11) C (v := (0 : Int32)) dX8_clear_11 (by decide) ?_
  refine r_puti (pc := 12) C pfL_X8_49 dX8_clear_12 o_v0 ?_
  refine r_heap (fun S3 eS3 => ?_)
  have h := h S3 eS3
  have o_v0 := ob_I eS3 o_v0
  refine r_aload_n (pc := 15) C dX8_clear_15 0 rfl ?_
  refine r_iconst (pc := 16) C (v := (0 : Int32)) dX8_clear_16 (by decide) ?_
  refine r_puti (pc := 17) C pfL_X8_52 dX8_clear_17 o_v0 ?_
  refine r_heap (fun S4 eS4 => ?_)
  have h := h S4 eS4
  have o_v0 := ob_I eS4 o_v0
  refine r_aload_n (pc := 20) C dX8_clear_20 0 rfl ?_
  refine r_iconst (pc := 21) C (v := (0 : Int32)) dX8_clear_21 (by decide) ?_
  refine r_puti (pc := 22) C pfL_X8_55 dX8_clear_22 o_v0 ?_
  refine r_heap (fun S5 eS5 => ?_)
  have h := h S5 eS5
  have o_v0 := ob_I eS5 o_v0
  refine r_aload_n (pc := 25) C dX8_clear_25 0 rfl ?_
  refine r_iconst (pc := 26) C (v := (0 : Int32)) dX8_clear_26 (by decide) ?_
  refine r_puti (pc := 27) C pfL_X8_58 dX8_clear_27 o_v0 ?_
  refine r_heap (fun S6 eS6 => ?_)
  have h := h S6 eS6
  have o_v0 := ob_I eS6 o_v0
  exact r_vret (pc := 30) C E ht dX8_clear_30 (by decide) (by decide) h
def P_X8_clear (v0 : Nat) (Q : HS → Prop) (S : HS) : Prop := P_X8_clear_0 Q v0 S
theorem c_X8_clear {l : Launch} {Ee : EE} {S : HS} {v0 : Nat} {Q : HS → Prop} (h : P_X8_clear v0 Q S) : MV l yX8_clear cX8_clear 1 none rm_X8_clear Ee S [.ref v0] Q :=
  openV (by decide) (Nat.le_of_ble_eq_true rfl) (fun X C E ht hn hE hl => by subst hE; exact r_sub [0] rfl (T_X8_clear_0 C E ht hn h))
def rm_X4_open : Room := { frames := 2, cells := 0, slots := 0, locals := 46 }
def P_X4_open_0 (Q : HS → Prop) (v0 : Nat) (v1 : Nat) (v2 : Int32) (S : HS) : Prop := ob S v0 4 ∧ (∀ S1 : HS, S1 = sR S v0 2 (some v1) → (ob S1 v1 12 ∧ (∀ x2 : Int32, x2 = (if nI (hN S1 v1) < v2 then nI (hN S1 v1) else v2) → (∀ S3 : HS, S3 = sI S1 v0 3 x2 → (∀ S4 : HS, S4 = sI S3 v0 4 (0 : Int32) → (∀ S5 : HS, S5 = sI S4 v0 0 (0 : Int32) → (∀ S6 : HS, S6 = sI S5 v0 1 (0 : Int32) → (∀ S7 : HS, S7 = sI S6 v0 10 (0 : Int32) → (∃ a8 : Nat, fR S7 v0 5 = some a8 ∧ (ob S7 a8 8 ∧ (P_X8_clear a8 (fun S9 => Gr S7 S9 → (P_X4_next v0 (fun S12 => Gr S9 S12 → (Q S12)) S9)) S7)))))))))))
set_option maxRecDepth 20000 in
set_option maxHeartbeats 4000000 in
theorem T_X4_open_0 {X : CX} {Q : HS → Prop} (C : Cx X cX4_open RX4 3 rm_X4_open) (E : ReV X rm_X4_open Q) (ht : (xh X).sig.returnType = none) (hn : (xh X).name = yX4_open.name) {v0 : Nat} {v1 : Nat} {v2 : Int32} {S : HS} (h : P_X4_open_0 Q v0 v1 v2 S) : WS X 3 0 0 0 [(0, .ref v0), (1, .ref v1), (2, .int v2)] [] S := by
  refine r_aload_n (pc := 0) C dX4_open_0 0 rfl ?_
  refine r_aload_n (pc := 1) C dX4_open_1 1 rfl ?_
  obtain ⟨o_v0, h⟩ := h
  refine r_putr (pc := 2) C pfL_X4_9 dX4_open_2 o_v0 ?_
  refine r_heap (fun S1 eS1 => ?_)
  have h := h S1 eS1
  have o_v0 := ob_R eS1 o_v0
  refine r_aload_n (pc := 5) C dX4_open_5 0 rfl ?_
  refine r_iload_n (pc := 6) C dX4_open_6 2 rfl ?_
  refine r_aload_n (pc := 7) C dX4_open_7 1 rfl ?_
  obtain ⟨o_v1, h⟩ := h
  refine r_alen12 (pc := 8) C dX4_open_8 o_v1 ?_
  refine r_min (pc := 9) C g_442 dX4_open_9 (by decide) (Nat.le_of_ble_eq_true rfl) (by decide) (by decide) ?_
  refine r_topi (fun x2 ex2 => ?_)
  have h := h x2 ex2
  refine r_puti (pc := 12) C pfL_X4_104 dX4_open_12 o_v0 ?_
  refine r_heap (fun S3 eS3 => ?_)
  have h := h S3 eS3
  have o_v0 := ob_I eS3 o_v0
  have o_v1 := ob_I eS3 o_v1
  refine r_aload_n (pc := 15) C dX4_open_15 0 rfl ?_
  refine r_iconst (pc := 16) C (v := (0 : Int32)) dX4_open_16 (by decide) ?_
  refine r_puti (pc := 17) C pfL_X4_107 dX4_open_17 o_v0 ?_
  refine r_heap (fun S4 eS4 => ?_)
  have h := h S4 eS4
  have o_v0 := ob_I eS4 o_v0
  have o_v1 := ob_I eS4 o_v1
  refine r_aload_n (pc := 20) C dX4_open_20 0 rfl ?_
  refine r_iconst (pc := 21) C (v := (0 : Int32)) dX4_open_21 (by decide) ?_
  refine r_puti (pc := 22) C pfL_X4_110 dX4_open_22 o_v0 ?_
  refine r_heap (fun S5 eS5 => ?_)
  have h := h S5 eS5
  have o_v0 := ob_I eS5 o_v0
  have o_v1 := ob_I eS5 o_v1
  refine r_aload_n (pc := 25) C dX4_open_25 0 rfl ?_
  refine r_iconst (pc := 26) C (v := (0 : Int32)) dX4_open_26 (by decide) ?_
  refine r_puti (pc := 27) C pfL_X4_113 dX4_open_27 o_v0 ?_
  refine r_heap (fun S6 eS6 => ?_)
  have h := h S6 eS6
  have o_v0 := ob_I eS6 o_v0
  have o_v1 := ob_I eS6 o_v1
  refine r_aload_n (pc := 30) C dX4_open_30 0 rfl ?_
  refine r_iconst (pc := 31) C (v := (0 : Int32)) dX4_open_31 (by decide) ?_
  refine r_puti (pc := 32) C pfL_X4_116 dX4_open_32 o_v0 ?_
  refine r_heap (fun S7 eS7 => ?_)
  have h := h S7 eS7
  have o_v0 := ob_I eS7 o_v0
  have o_v1 := ob_I eS7 o_v1
  refine r_aload_n (pc := 35) C dX4_open_35 0 rfl ?_
  obtain ⟨a8, ea8, h⟩ := h
  refine r_getr (pc := 36) C fL_X4_18 dX4_open_36 o_v0 ea8 ?_
  obtain ⟨o_a8, h⟩ := h
  refine r_callVv0 (pc := 39) C (rest := []) (a := a8) o_a8 [] yV_X8_clear g_445 (c_X8_clear h) dX4_open_39 rfl rfl (Nat.le_of_ble_eq_true rfl) ⟨by decide, by decide⟩ ⟨by decide, by decide⟩ ⟨rfl, rfl⟩ (fun S9 h g10 => ?_)
  have h := h g10
  have o_a8 := gr_ob g10 o_a8
  have o_v0 := gr_ob g10 o_v0
  have o_v1 := gr_ob g10 o_v1
  refine r_aload_n (pc := 42) C dX4_open_42 0 rfl ?_
  refine r_callVv0 (pc := 43) C (rest := []) (a := v0) o_v0 [] yV_X4_next g_449 (c_X4_next h) dX4_open_43 rfl rfl (Nat.le_of_ble_eq_true rfl) ⟨by decide, by decide⟩ ⟨by decide, by decide⟩ ⟨rfl, rfl⟩ (fun S12 h g13 => ?_)
  have h := h g13
  have o_a8 := gr_ob g13 o_a8
  have o_v0 := gr_ob g13 o_v0
  have o_v1 := gr_ob g13 o_v1
  exact r_vret (pc := 46) C E ht dX4_open_46 (by decide) (by decide) h
def P_X4_open (v0 : Nat) (v1 : Nat) (v2 : Int32) (Q : HS → Prop) (S : HS) : Prop := P_X4_open_0 Q v0 v1 v2 S
theorem c_X4_open {l : Launch} {Ee : EE} {S : HS} {v0 : Nat} {v1 : Nat} {v2 : Int32} {Q : HS → Prop} (h : P_X4_open v0 v1 v2 Q S) : MV l yX4_open cX4_open 3 none rm_X4_open Ee S [.ref v0, .ref v1, .int v2] Q :=
  openV (by decide) (Nat.le_of_ble_eq_true rfl) (fun X C E ht hn hE hl => by subst hE; exact r_sub [0, 1, 2] rfl (T_X4_open_0 C E ht hn h))
def rm_X4_placeBut : Room := { frames := 7, cells := 0, slots := 0, locals := 165 }
def P_X4_placeBut_29 (Q : Int32 → HS → Prop) (v0 : Nat) (S : HS) : Prop := ob S v0 4 ∧ (P_X4_fail v0 (2 : Int32) (fun x3 S1 => Gr S S1 → bl x3 → (bl x3 ∧ Q x3 S1)) S)
set_option maxRecDepth 20000 in
set_option maxHeartbeats 4000000 in
theorem T_X4_placeBut_29 {X : CX} {Q : Int32 → HS → Prop} (C : Cx X cX4_placeBut RX4 3 rm_X4_placeBut) (E : ReI X rm_X4_placeBut (fun r S => bl r ∧ Q r S)) (ht : (xh X).sig.returnType = (some .boolean)) (hn : (xh X).name = yX4_placeBut.name) {v0 : Nat} {S : HS} (h : P_X4_placeBut_29 Q v0 S) : WS X 3 0 0 29 [(0, .ref v0)] [] S := by
  refine r_aload_n (pc := 29) C dX4_placeBut_29 0 rfl ?_
  refine r_iconst (pc := 30) C (v := (2 : Int32)) dX4_placeBut_30 (by decide) ?_
  obtain ⟨o_v0, h⟩ := h
  refine r_callVi0 (pc := 31) C (rest := []) (a := v0) o_v0 [.int (2 : Int32)] yV_X4_fail g_519 (c_X4_fail h) dX4_placeBut_31 rfl rfl (Nat.le_of_ble_eq_true rfl) ⟨by decide, by decide⟩ ⟨by decide, by decide⟩ ⟨rfl, rfl⟩ (fun x3 S1 h g2 => ?_)
  have bx3 := h.1
  have h := h.2 g2 bx3
  have o_v0 := gr_ob g2 o_v0
  exact r_zret (pc := 34) C E ht dX4_placeBut_34 (by decide) (by decide) h.1 h.2
def P_X4_placeBut_0 (Q : Int32 → HS → Prop) (v0 : Nat) (v1 : Int32) (S : HS) : Prop := ob S v0 4 ∧ (P_X4_canBeName v0 (fun x3 S1 => Gr S S1 → bl x3 → (((¬ x3 = 0) → (P_X4_findName v0 (fun x7 S5 => Gr S1 S5 → (((x7 = (-1 : Int32)) → (P_X4_placeBut_29 Q v0 S5)) ∧ ((¬ x7 = (-1 : Int32)) → (((x7 < (8 : Int32)) → (((¬ x7 = v1) → (∀ S11 : HS, S11 = sI S5 v0 9 x7 → (P_X4_next v0 (fun S12 => Gr S11 S12 → (Q (1 : Int32) S12)) S11))) ∧ ((x7 = v1) → (P_X4_fail v0 (3 : Int32) (fun x17 S15 => Gr S5 S15 → bl x17 → (bl x17 ∧ Q x17 S15)) S5)))) ∧ ((¬ x7 < (8 : Int32)) → (P_X4_placeBut_29 Q v0 S5)))))) S1)) ∧ ((x3 = 0) → (P_X4_fail v0 (1 : Int32) (fun x20 S18 => Gr S1 S18 → bl x20 → (bl x20 ∧ Q x20 S18)) S1)))) S)
set_option maxRecDepth 20000 in
set_option maxHeartbeats 4000000 in
theorem T_X4_placeBut_0 {X : CX} {Q : Int32 → HS → Prop} (C : Cx X cX4_placeBut RX4 3 rm_X4_placeBut) (E : ReI X rm_X4_placeBut (fun r S => bl r ∧ Q r S)) (ht : (xh X).sig.returnType = (some .boolean)) (hn : (xh X).name = yX4_placeBut.name) {v0 : Nat} {v1 : Int32} {S : HS} (h : P_X4_placeBut_0 Q v0 v1 S) : WS X 3 0 0 0 [(0, .ref v0), (1, .int v1)] [] S := by
  refine r_aload_n (pc := 0) C dX4_placeBut_0 0 rfl ?_
  obtain ⟨o_v0, h⟩ := h
  refine r_callVi0 (pc := 1) C (rest := []) (a := v0) o_v0 [] yV_X4_canBeName g_566 (c_X4_canBeName h) dX4_placeBut_1 rfl rfl (Nat.le_of_ble_eq_true rfl) ⟨by decide, by decide⟩ ⟨by decide, by decide⟩ ⟨rfl, rfl⟩ (fun x3 S1 h g2 => ?_)
  have bx3 := h.1
  have h := h.2 g2 bx3
  have o_v0 := gr_ob g2 o_v0
  refine r_if_ne (pc := 4) C (tgt := 13) dX4_placeBut_4 (by decide) (fun c4 => ?_) (fun c4 => ?_)
  · have h := h.1 c4
    refine r_aload_n (pc := 13) C dX4_placeBut_13 0 rfl ?_
    refine r_callVi0 (pc := 14) C (rest := []) (a := v0) o_v0 [] yV_X4_findName g_576 (c_X4_findName h) dX4_placeBut_14 rfl rfl (Nat.le_of_ble_eq_true rfl) ⟨by decide, by decide⟩ ⟨by decide, by decide⟩ ⟨rfl, rfl⟩ (fun x7 S5 h g6 => ?_)
    have h := h g6
    have o_v0 := gr_ob g6 o_v0
    refine r_istore_n (pc := 17) C dX4_placeBut_17 rfl (by decide) (lv' := [(2, .int x7), (0, .ref v0), (1, .int v1)]) rfl ?_
    refine r_iload_n (pc := 18) C dX4_placeBut_18 0 rfl ?_
    refine r_iconst (pc := 19) C (v := (-1 : Int32)) dX4_placeBut_19 (by decide) ?_
    refine r_icmp_eq (pc := 20) C (tgt := 29) dX4_placeBut_20 (by decide) (fun c8 => ?_) (fun c8 => ?_)
    · have h := h.1 c8
      exact r_sub [1] rfl (T_X4_placeBut_29 C E ht hn h)
    · have h := h.2 c8
      refine r_iload_n (pc := 23) C dX4_placeBut_23 0 rfl ?_
      refine r_bipush (pc := 24) C (v := (8 : Int32)) dX4_placeBut_24 (by decide) ?_
      refine r_icmp_lt (pc := 26) C (tgt := 35) dX4_placeBut_26 (by decide) (fun c9 => ?_) (fun c9 => ?_)
      · have h := h.1 c9
        refine r_iload_n (pc := 35) C dX4_placeBut_35 0 rfl ?_
        refine r_iload_n (pc := 36) C dX4_placeBut_36 2 rfl ?_
        refine r_icmp_ne (pc := 37) C (tgt := 46) dX4_placeBut_37 (by decide) (fun c10 => ?_) (fun c10 => ?_)
        · have h := h.1 c10
          refine r_aload_n (pc := 46) C dX4_placeBut_46 1 rfl ?_
          refine r_iload_n (pc := 47) C dX4_placeBut_47 0 rfl ?_
          refine r_puti (pc := 48) C pfL_X4_147 dX4_placeBut_48 o_v0 ?_
          refine r_heap (fun S11 eS11 => ?_)
          have h := h S11 eS11
          have o_v0 := ob_I eS11 o_v0
          refine r_aload_n (pc := 51) C dX4_placeBut_51 1 rfl ?_
          refine r_callVv0 (pc := 52) C (rest := []) (a := v0) o_v0 [] yV_X4_next g_449 (c_X4_next h) dX4_placeBut_52 rfl rfl (Nat.le_of_ble_eq_true rfl) ⟨by decide, by decide⟩ ⟨by decide, by decide⟩ ⟨rfl, rfl⟩ (fun S12 h g13 => ?_)
          have h := h g13
          have o_v0 := gr_ob g13 o_v0
          refine r_iconst (pc := 55) C (v := (1 : Int32)) dX4_placeBut_55 (by decide) ?_
          exact r_zret (pc := 56) C E ht dX4_placeBut_56 (by decide) (by decide) (Or.inr rfl) h
        · have h := h.2 c10
          refine r_aload_n (pc := 40) C dX4_placeBut_40 1 rfl ?_
          refine r_iconst (pc := 41) C (v := (3 : Int32)) dX4_placeBut_41 (by decide) ?_
          refine r_callVi0 (pc := 42) C (rest := []) (a := v0) o_v0 [.int (3 : Int32)] yV_X4_fail g_519 (c_X4_fail h) dX4_placeBut_42 rfl rfl (Nat.le_of_ble_eq_true rfl) ⟨by decide, by decide⟩ ⟨by decide, by decide⟩ ⟨rfl, rfl⟩ (fun x17 S15 h g16 => ?_)
          have bx17 := h.1
          have h := h.2 g16 bx17
          have o_v0 := gr_ob g16 o_v0
          exact r_zret (pc := 45) C E ht dX4_placeBut_45 (by decide) (by decide) h.1 h.2
      · have h := h.2 c9
        exact r_sub [1] rfl (T_X4_placeBut_29 C E ht hn h)
  · have h := h.2 c4
    refine r_aload_n (pc := 7) C dX4_placeBut_7 0 rfl ?_
    refine r_iconst (pc := 8) C (v := (1 : Int32)) dX4_placeBut_8 (by decide) ?_
    refine r_callVi0 (pc := 9) C (rest := []) (a := v0) o_v0 [.int (1 : Int32)] yV_X4_fail g_519 (c_X4_fail h) dX4_placeBut_9 rfl rfl (Nat.le_of_ble_eq_true rfl) ⟨by decide, by decide⟩ ⟨by decide, by decide⟩ ⟨rfl, rfl⟩ (fun x20 S18 h g19 => ?_)
    have bx20 := h.1
    have h := h.2 g19 bx20
    have o_v0 := gr_ob g19 o_v0
    exact r_zret (pc := 12) C E ht dX4_placeBut_12 (by decide) (by decide) h.1 h.2
def P_X4_placeBut (v0 : Nat) (v1 : Int32) (Q : Int32 → HS → Prop) (S : HS) : Prop := P_X4_placeBut_0 Q v0 v1 S
theorem c_X4_placeBut {l : Launch} {Ee : EE} {S : HS} {v0 : Nat} {v1 : Int32} {Q : Int32 → HS → Prop} (h : P_X4_placeBut v0 v1 Q S) : MI l yX4_placeBut cX4_placeBut 3 (some .boolean) rm_X4_placeBut Ee S [.ref v0, .int v1] (fun r S => bl r ∧ Q r S) :=
  openI (by decide) (Nat.le_of_ble_eq_true rfl) (fun X C E ht hn hE hl => by subst hE; exact r_sub [0, 1] rfl (T_X4_placeBut_0 C E ht hn h))
def rm_X4_placeLine : Room := { frames := 8, cells := 0, slots := 0, locals := 188 }
def P_X4_placeLine_64 (Q : Int32 → HS → Prop) (v0 : Nat) (v1 : Int32) (S : HS) : Prop := ob S v0 4 ∧ (∃ a1 : Nat, fR S v0 5 = some a1 ∧ (ob S a1 8 ∧ (∃ a2 : Nat, fR S a1 7 = some a2 ∧ (∃ a3 : Nat, fR S v0 5 = some a3 ∧ (ob S a3 8 ∧ (∀ x4 : Int32, x4 = fI S a3 2 → (ob S a2 13 ∧ (vp_in x4 (hN S a2) ∧ (∀ S6 : HS, S6 = sI S a2 x4.toNatClampNeg v1 → (∃ a7 : Nat, fR S6 v0 5 = some a7 ∧ (ob S6 a7 8 ∧ (∀ x8 : Int32, x8 = fI S6 a7 2 → (∀ x9 : Int32, x9 = x8 + (1 : Int32) → (∀ S10 : HS, S10 = sI S6 a7 2 x9 → (Q (1 : Int32) S10)))))))))))))))
set_option maxRecDepth 20000 in
set_option maxHeartbeats 4000000 in
theorem T_X4_placeLine_64 {X : CX} {Q : Int32 → HS → Prop} (C : Cx X cX4_placeLine RX4 2 rm_X4_placeLine) (E : ReI X rm_X4_placeLine (fun r S => bl r ∧ Q r S)) (ht : (xh X).sig.returnType = (some .boolean)) (hn : (xh X).name = yX4_placeLine.name) {v0 : Nat} {v1 : Int32} {S : HS} (h : P_X4_placeLine_64 Q v0 v1 S) : WS X 2 0 0 64 [(0, .ref v0), (1, .int v1)] [] S := by
  refine r_aload_n (pc := 64) C dX4_placeLine_64 0 rfl ?_
  obtain ⟨o_v0, h⟩ := h
  obtain ⟨a1, ea1, h⟩ := h
  refine r_getr (pc := 65) C fL_X4_18 dX4_placeLine_65 o_v0 ea1 ?_
  obtain ⟨o_a1, h⟩ := h
  obtain ⟨a2, ea2, h⟩ := h
  refine r_getr (pc := 68) C fL_X4_218 dX4_placeLine_68 o_a1 ea2 ?_
  refine r_aload_n (pc := 71) C dX4_placeLine_71 0 rfl ?_
  obtain ⟨a3, ea3, h⟩ := h
  refine r_getr (pc := 72) C fL_X4_18 dX4_placeLine_72 o_v0 ea3 ?_
  obtain ⟨o_a3, h⟩ := h
  refine r_geti (pc := 75) C fL_X4_58 dX4_placeLine_75 o_a3 ?_
  refine r_topi (fun x4 ex4 => ?_)
  have h := h x4 ex4
  refine r_iload_n (pc := 78) C dX4_placeLine_78 1 rfl ?_
  obtain ⟨o_a2, h⟩ := h
  obtain ⟨i5, h⟩ := h
  refine r_iast (pc := 79) C dX4_placeLine_79 o_a2 i5 ?_
  refine r_heap (fun S6 eS6 => ?_)
  have h := h S6 eS6
  have o_a1 := ob_I eS6 o_a1
  have o_a2 := ob_I eS6 o_a2
  have o_a3 := ob_I eS6 o_a3
  have o_v0 := ob_I eS6 o_v0
  refine r_aload_n (pc := 80) C dX4_placeLine_80 0 rfl ?_
  obtain ⟨a7, ea7, h⟩ := h
  refine r_getr (pc := 81) C fL_X4_18 dX4_placeLine_81 o_v0 ea7 ?_
  refine r_dup (pc := 84) C dX4_placeLine_84 rfl ?_
  obtain ⟨o_a7, h⟩ := h
  refine r_geti (pc := 85) C fL_X4_58 dX4_placeLine_85 o_a7 ?_
  refine r_topi (fun x8 ex8 => ?_)
  have h := h x8 ex8
  refine r_iconst (pc := 88) C (v := (1 : Int32)) dX4_placeLine_88 (by decide) ?_
  refine r_iadd (pc := 89) C dX4_placeLine_89 ?_
  refine r_topi (fun x9 ex9 => ?_)
  have h := h x9 ex9
  refine r_puti (pc := 90) C pfL_X4_58 dX4_placeLine_90 o_a7 ?_
  refine r_heap (fun S10 eS10 => ?_)
  have h := h S10 eS10
  have o_a1 := ob_I eS10 o_a1
  have o_a2 := ob_I eS10 o_a2
  have o_a3 := ob_I eS10 o_a3
  have o_a7 := ob_I eS10 o_a7
  have o_v0 := ob_I eS10 o_v0
  refine r_iconst (pc := 93) C (v := (1 : Int32)) dX4_placeLine_93 (by decide) ?_
  exact r_zret (pc := 94) C E ht dX4_placeLine_94 (by decide) (by decide) (Or.inr rfl) h
def P_X4_placeLine_0 (Q : Int32 → HS → Prop) (v0 : Nat) (S : HS) : Prop := ob S v0 4 ∧ (∃ a1 : Nat, fR S v0 5 = some a1 ∧ (ob S a1 8 ∧ (∀ x2 : Int32, x2 = fI S a1 2 → (P_X4_newName v0 x2 (fun x5 S3 => Gr S S3 → bl x5 → (((¬ x5 = 0) → (P_X4_is v0 15 (fun x9 S7 => Gr S3 S7 → bl x9 → (((x9 = 0) → (P_X4_is v0 16 (fun x13 S11 => Gr S7 S11 → bl x13 → (((x13 = 0) → (P_X4_placeLine_64 Q v0 (-1 : Int32) S11)) ∧ ((¬ x13 = 0) → (P_X4_wordAndWhole v0 16 (0 : Int32) (9 : Int32) (fun x17 S15 => Gr S11 S15 → bl x17 → (((¬ x17 = 0) → (∀ x19 : Int32, x19 = fI S15 v0 9 → (P_X4_placeLine_64 Q v0 x19 S15))) ∧ ((x17 = 0) → (Q (0 : Int32) S15)))) S11)))) S7)) ∧ ((¬ x9 = 0) → (P_X4_next v0 (fun S20 => Gr S7 S20 → (P_X4_placeLine_64 Q v0 (0 : Int32) S20)) S7)))) S3)) ∧ ((x5 = 0) → (Q (0 : Int32) S3)))) S))))
set_option maxRecDepth 20000 in
set_option maxHeartbeats 4000000 in
theorem T_X4_placeLine_0 {X : CX} {Q : Int32 → HS → Prop} (C : Cx X cX4_placeLine RX4 2 rm_X4_placeLine) (E : ReI X rm_X4_placeLine (fun r S => bl r ∧ Q r S)) (ht : (xh X).sig.returnType = (some .boolean)) (hn : (xh X).name = yX4_placeLine.name) {v0 : Nat} {S : HS} (h : P_X4_placeLine_0 Q v0 S) : WS X 2 0 0 0 [(0, .ref v0)] [] S := by
  refine r_aload_n (pc := 0) C dX4_placeLine_0 0 rfl ?_
  refine r_aload_n (pc := 1) C dX4_placeLine_1 0 rfl ?_
  obtain ⟨o_v0, h⟩ := h
  obtain ⟨a1, ea1, h⟩ := h
  refine r_getr (pc := 2) C fL_X4_18 dX4_placeLine_2 o_v0 ea1 ?_
  obtain ⟨o_a1, h⟩ := h
  refine r_geti (pc := 5) C fL_X4_58 dX4_placeLine_5 o_a1 ?_
  refine r_topi (fun x2 ex2 => ?_)
  have h := h x2 ex2
  refine r_callVi0 (pc := 8) C (rest := []) (a := v0) o_v0 [.int x2] yV_X4_newName g_562 (c_X4_newName h) dX4_placeLine_8 rfl rfl (Nat.le_of_ble_eq_true rfl) ⟨by decide, by decide⟩ ⟨by decide, by decide⟩ ⟨rfl, rfl⟩ (fun x5 S3 h g4 => ?_)
  have bx5 := h.1
  have h := h.2 g4 bx5
  have o_a1 := gr_ob g4 o_a1
  have o_v0 := gr_ob g4 o_v0
  refine r_if_ne (pc := 11) C (tgt := 16) dX4_placeLine_11 (by decide) (fun c6 => ?_) (fun c6 => ?_)
  · have h := h.1 c6
    refine r_iconst (pc := 16) C (v := (-1 : Int32)) dX4_placeLine_16 (by decide) ?_
    refine r_istore_n (pc := 17) C dX4_placeLine_17 rfl (by decide) (lv' := [(1, .int (-1 : Int32)), (0, .ref v0)]) rfl ?_
    refine r_aload_n (pc := 18) C dX4_placeLine_18 1 rfl ?_
    refine r_lds (pc := 19) C 15 rfl dX4_placeLine_19 ?_
    refine r_callVi0 (pc := 21) C (rest := []) (a := v0) o_v0 [.ref (eK (xE X) 15)] yV_X4_is g_458 (c_X4_is h) dX4_placeLine_21 rfl rfl (Nat.le_of_ble_eq_true rfl) ⟨by decide, by decide⟩ ⟨by decide, by decide⟩ ⟨rfl, rfl⟩ (fun x9 S7 h g8 => ?_)
    have bx9 := h.1
    have h := h.2 g8 bx9
    have o_a1 := gr_ob g8 o_a1
    have o_v0 := gr_ob g8 o_v0
    refine r_if_eq (pc := 24) C (tgt := 36) dX4_placeLine_24 (by decide) (fun c10 => ?_) (fun c10 => ?_)
    · have h := h.1 c10
      refine r_aload_n (pc := 36) C dX4_placeLine_36 1 rfl ?_
      refine r_lds (pc := 37) C 16 rfl dX4_placeLine_37 ?_
      refine r_callVi0 (pc := 39) C (rest := []) (a := v0) o_v0 [.ref (eK (xE X) 16)] yV_X4_is g_458 (c_X4_is h) dX4_placeLine_39 rfl rfl (Nat.le_of_ble_eq_true rfl) ⟨by decide, by decide⟩ ⟨by decide, by decide⟩ ⟨rfl, rfl⟩ (fun x13 S11 h g12 => ?_)
      have bx13 := h.1
      have h := h.2 g12 bx13
      have o_a1 := gr_ob g12 o_a1
      have o_v0 := gr_ob g12 o_v0
      refine r_if_eq (pc := 42) C (tgt := 64) dX4_placeLine_42 (by decide) (fun c14 => ?_) (fun c14 => ?_)
      · have h := h.1 c14
        exact r_sub [1, 0] rfl (T_X4_placeLine_64 C E ht hn h)
      · have h := h.2 c14
        refine r_aload_n (pc := 45) C dX4_placeLine_45 1 rfl ?_
        refine r_lds (pc := 46) C 16 rfl dX4_placeLine_46 ?_
        refine r_iconst (pc := 48) C (v := (0 : Int32)) dX4_placeLine_48 (by decide) ?_
        refine r_bipush (pc := 49) C (v := (9 : Int32)) dX4_placeLine_49 (by decide) ?_
        refine r_callVi0 (pc := 51) C (rest := []) (a := v0) o_v0 [.ref (eK (xE X) 16), .int (0 : Int32), .int (9 : Int32)] yV_X4_wordAndWhole g_524 (c_X4_wordAndWhole h) dX4_placeLine_51 rfl rfl (Nat.le_of_ble_eq_true rfl) ⟨by decide, by decide⟩ ⟨by decide, by decide⟩ ⟨rfl, rfl⟩ (fun x17 S15 h g16 => ?_)
        have bx17 := h.1
        have h := h.2 g16 bx17
        have o_a1 := gr_ob g16 o_a1
        have o_v0 := gr_ob g16 o_v0
        refine r_if_ne (pc := 54) C (tgt := 59) dX4_placeLine_54 (by decide) (fun c18 => ?_) (fun c18 => ?_)
        · have h := h.1 c18
          refine r_aload_n (pc := 59) C dX4_placeLine_59 1 rfl ?_
          refine r_geti (pc := 60) C fL_X4_147 dX4_placeLine_60 o_v0 ?_
          refine r_topi (fun x19 ex19 => ?_)
          have h := h x19 ex19
          refine r_istore_n (pc := 63) C dX4_placeLine_63 rfl (by decide) (lv' := [(1, .int x19), (0, .ref v0)]) rfl ?_
          exact r_sub [1, 0] rfl (T_X4_placeLine_64 C E ht hn h)
        · have h := h.2 c18
          refine r_iconst (pc := 57) C (v := (0 : Int32)) dX4_placeLine_57 (by decide) ?_
          exact r_zret (pc := 58) C E ht dX4_placeLine_58 (by decide) (by decide) (Or.inl rfl) h
    · have h := h.2 c10
      refine r_iconst (pc := 27) C (v := (0 : Int32)) dX4_placeLine_27 (by decide) ?_
      refine r_istore_n (pc := 28) C dX4_placeLine_28 rfl (by decide) (lv' := [(1, .int (0 : Int32)), (0, .ref v0)]) rfl ?_
      refine r_aload_n (pc := 29) C dX4_placeLine_29 1 rfl ?_
      refine r_callVv0 (pc := 30) C (rest := []) (a := v0) o_v0 [] yV_X4_next g_449 (c_X4_next h) dX4_placeLine_30 rfl rfl (Nat.le_of_ble_eq_true rfl) ⟨by decide, by decide⟩ ⟨by decide, by decide⟩ ⟨rfl, rfl⟩ (fun S20 h g21 => ?_)
      have h := h g21
      have o_a1 := gr_ob g21 o_a1
      have o_v0 := gr_ob g21 o_v0
      refine r_goto (pc := 33) C (tgt := 64) dX4_placeLine_33 (by decide) ?_
      exact r_sub [1, 0] rfl (T_X4_placeLine_64 C E ht hn h)
  · have h := h.2 c6
    refine r_iconst (pc := 14) C (v := (0 : Int32)) dX4_placeLine_14 (by decide) ?_
    exact r_zret (pc := 15) C E ht dX4_placeLine_15 (by decide) (by decide) (Or.inl rfl) h
def P_X4_placeLine (v0 : Nat) (Q : Int32 → HS → Prop) (S : HS) : Prop := P_X4_placeLine_0 Q v0 S
theorem c_X4_placeLine {l : Launch} {Ee : EE} {S : HS} {v0 : Nat} {Q : Int32 → HS → Prop} (h : P_X4_placeLine v0 Q S) : MI l yX4_placeLine cX4_placeLine 2 (some .boolean) rm_X4_placeLine Ee S [.ref v0] (fun r S => bl r ∧ Q r S) :=
  openI (by decide) (Nat.le_of_ble_eq_true rfl) (fun X C E ht hn hE hl => by subst hE; exact r_sub [0] rfl (T_X4_placeLine_0 C E ht hn h))
def rm_X4_side : Room := { frames := 6, cells := 0, slots := 0, locals := 144 }
def P_X4_side_74 (Q : Int32 → HS → Prop) (v0 : Nat) (S : HS) : Prop := ob S v0 4 ∧ (P_X4_next v0 (fun S1 => Gr S S1 → (Q (1 : Int32) S1)) S)
set_option maxRecDepth 20000 in
set_option maxHeartbeats 4000000 in
theorem T_X4_side_74 {X : CX} {Q : Int32 → HS → Prop} (C : Cx X cX4_side RX4 1 rm_X4_side) (E : ReI X rm_X4_side (fun r S => bl r ∧ Q r S)) (ht : (xh X).sig.returnType = (some .boolean)) (hn : (xh X).name = yX4_side.name) {v0 : Nat} {S : HS} (h : P_X4_side_74 Q v0 S) : WS X 1 0 0 74 [(0, .ref v0)] [] S := by
  refine r_aload_n (pc := 74) C dX4_side_74 0 rfl ?_
  obtain ⟨o_v0, h⟩ := h
  refine r_callVv0 (pc := 75) C (rest := []) (a := v0) o_v0 [] yV_X4_next g_449 (c_X4_next h) dX4_side_75 rfl rfl (Nat.le_of_ble_eq_true rfl) ⟨by decide, by decide⟩ ⟨by decide, by decide⟩ ⟨rfl, rfl⟩ (fun S1 h g2 => ?_)
  have h := h g2
  have o_v0 := gr_ob g2 o_v0
  refine r_iconst (pc := 78) C (v := (1 : Int32)) dX4_side_78 (by decide) ?_
  exact r_zret (pc := 79) C E ht dX4_side_79 (by decide) (by decide) (Or.inr rfl) h
def P_X4_side_0 (Q : Int32 → HS → Prop) (v0 : Nat) (S : HS) : Prop := ob S v0 4 ∧ (P_X4_is v0 6 (fun x3 S1 => Gr S S1 → bl x3 → (((x3 = 0) → (P_X4_is v0 7 (fun x7 S5 => Gr S1 S5 → bl x7 → (((x7 = 0) → (P_X4_is v0 8 (fun x11 S9 => Gr S5 S9 → bl x11 → (((x11 = 0) → (P_X4_is v0 9 (fun x15 S13 => Gr S9 S13 → bl x15 → (((x15 = 0) → (P_X4_fail v0 (1 : Int32) (fun x19 S17 => Gr S13 S17 → bl x19 → (bl x19 ∧ Q x19 S17)) S13)) ∧ ((¬ x15 = 0) → (∀ S20 : HS, S20 = sI S13 v0 9 (3 : Int32) → (P_X4_side_74 Q v0 S20))))) S9)) ∧ ((¬ x11 = 0) → (∀ S21 : HS, S21 = sI S9 v0 9 (2 : Int32) → (P_X4_side_74 Q v0 S21))))) S5)) ∧ ((¬ x7 = 0) → (∀ S22 : HS, S22 = sI S5 v0 9 (1 : Int32) → (P_X4_side_74 Q v0 S22))))) S1)) ∧ ((¬ x3 = 0) → (∀ S23 : HS, S23 = sI S1 v0 9 (0 : Int32) → (P_X4_side_74 Q v0 S23))))) S)
set_option maxRecDepth 20000 in
set_option maxHeartbeats 4000000 in
theorem T_X4_side_0 {X : CX} {Q : Int32 → HS → Prop} (C : Cx X cX4_side RX4 1 rm_X4_side) (E : ReI X rm_X4_side (fun r S => bl r ∧ Q r S)) (ht : (xh X).sig.returnType = (some .boolean)) (hn : (xh X).name = yX4_side.name) {v0 : Nat} {S : HS} (h : P_X4_side_0 Q v0 S) : WS X 1 0 0 0 [(0, .ref v0)] [] S := by
  refine r_aload_n (pc := 0) C dX4_side_0 0 rfl ?_
  refine r_lds (pc := 1) C 6 rfl dX4_side_1 ?_
  obtain ⟨o_v0, h⟩ := h
  refine r_callVi0 (pc := 3) C (rest := []) (a := v0) o_v0 [.ref (eK (xE X) 6)] yV_X4_is g_458 (c_X4_is h) dX4_side_3 rfl rfl (Nat.le_of_ble_eq_true rfl) ⟨by decide, by decide⟩ ⟨by decide, by decide⟩ ⟨rfl, rfl⟩ (fun x3 S1 h g2 => ?_)
  have bx3 := h.1
  have h := h.2 g2 bx3
  have o_v0 := gr_ob g2 o_v0
  refine r_if_eq (pc := 6) C (tgt := 17) dX4_side_6 (by decide) (fun c4 => ?_) (fun c4 => ?_)
  · have h := h.1 c4
    refine r_aload_n (pc := 17) C dX4_side_17 0 rfl ?_
    refine r_lds (pc := 18) C 7 rfl dX4_side_18 ?_
    refine r_callVi0 (pc := 20) C (rest := []) (a := v0) o_v0 [.ref (eK (xE X) 7)] yV_X4_is g_458 (c_X4_is h) dX4_side_20 rfl rfl (Nat.le_of_ble_eq_true rfl) ⟨by decide, by decide⟩ ⟨by decide, by decide⟩ ⟨rfl, rfl⟩ (fun x7 S5 h g6 => ?_)
    have bx7 := h.1
    have h := h.2 g6 bx7
    have o_v0 := gr_ob g6 o_v0
    refine r_if_eq (pc := 23) C (tgt := 34) dX4_side_23 (by decide) (fun c8 => ?_) (fun c8 => ?_)
    · have h := h.1 c8
      refine r_aload_n (pc := 34) C dX4_side_34 0 rfl ?_
      refine r_lds (pc := 35) C 8 rfl dX4_side_35 ?_
      refine r_callVi0 (pc := 37) C (rest := []) (a := v0) o_v0 [.ref (eK (xE X) 8)] yV_X4_is g_458 (c_X4_is h) dX4_side_37 rfl rfl (Nat.le_of_ble_eq_true rfl) ⟨by decide, by decide⟩ ⟨by decide, by decide⟩ ⟨rfl, rfl⟩ (fun x11 S9 h g10 => ?_)
      have bx11 := h.1
      have h := h.2 g10 bx11
      have o_v0 := gr_ob g10 o_v0
      refine r_if_eq (pc := 40) C (tgt := 51) dX4_side_40 (by decide) (fun c12 => ?_) (fun c12 => ?_)
      · have h := h.1 c12
        refine r_aload_n (pc := 51) C dX4_side_51 0 rfl ?_
        refine r_lds (pc := 52) C 9 rfl dX4_side_52 ?_
        refine r_callVi0 (pc := 54) C (rest := []) (a := v0) o_v0 [.ref (eK (xE X) 9)] yV_X4_is g_458 (c_X4_is h) dX4_side_54 rfl rfl (Nat.le_of_ble_eq_true rfl) ⟨by decide, by decide⟩ ⟨by decide, by decide⟩ ⟨rfl, rfl⟩ (fun x15 S13 h g14 => ?_)
        have bx15 := h.1
        have h := h.2 g14 bx15
        have o_v0 := gr_ob g14 o_v0
        refine r_if_eq (pc := 57) C (tgt := 68) dX4_side_57 (by decide) (fun c16 => ?_) (fun c16 => ?_)
        · have h := h.1 c16
          refine r_aload_n (pc := 68) C dX4_side_68 0 rfl ?_
          refine r_iconst (pc := 69) C (v := (1 : Int32)) dX4_side_69 (by decide) ?_
          refine r_callVi0 (pc := 70) C (rest := []) (a := v0) o_v0 [.int (1 : Int32)] yV_X4_fail g_519 (c_X4_fail h) dX4_side_70 rfl rfl (Nat.le_of_ble_eq_true rfl) ⟨by decide, by decide⟩ ⟨by decide, by decide⟩ ⟨rfl, rfl⟩ (fun x19 S17 h g18 => ?_)
          have bx19 := h.1
          have h := h.2 g18 bx19
          have o_v0 := gr_ob g18 o_v0
          exact r_zret (pc := 73) C E ht dX4_side_73 (by decide) (by decide) h.1 h.2
        · have h := h.2 c16
          refine r_aload_n (pc := 60) C dX4_side_60 0 rfl ?_
          refine r_iconst (pc := 61) C (v := (3 : Int32)) dX4_side_61 (by decide) ?_
          refine r_puti (pc := 62) C pfL_X4_147 dX4_side_62 o_v0 ?_
          refine r_heap (fun S20 eS20 => ?_)
          have h := h S20 eS20
          have o_v0 := ob_I eS20 o_v0
          refine r_goto (pc := 65) C (tgt := 74) dX4_side_65 (by decide) ?_
          exact r_sub [0] rfl (T_X4_side_74 C E ht hn h)
      · have h := h.2 c12
        refine r_aload_n (pc := 43) C dX4_side_43 0 rfl ?_
        refine r_iconst (pc := 44) C (v := (2 : Int32)) dX4_side_44 (by decide) ?_
        refine r_puti (pc := 45) C pfL_X4_147 dX4_side_45 o_v0 ?_
        refine r_heap (fun S21 eS21 => ?_)
        have h := h S21 eS21
        have o_v0 := ob_I eS21 o_v0
        refine r_goto (pc := 48) C (tgt := 74) dX4_side_48 (by decide) ?_
        exact r_sub [0] rfl (T_X4_side_74 C E ht hn h)
    · have h := h.2 c8
      refine r_aload_n (pc := 26) C dX4_side_26 0 rfl ?_
      refine r_iconst (pc := 27) C (v := (1 : Int32)) dX4_side_27 (by decide) ?_
      refine r_puti (pc := 28) C pfL_X4_147 dX4_side_28 o_v0 ?_
      refine r_heap (fun S22 eS22 => ?_)
      have h := h S22 eS22
      have o_v0 := ob_I eS22 o_v0
      refine r_goto (pc := 31) C (tgt := 74) dX4_side_31 (by decide) ?_
      exact r_sub [0] rfl (T_X4_side_74 C E ht hn h)
  · have h := h.2 c4
    refine r_aload_n (pc := 9) C dX4_side_9 0 rfl ?_
    refine r_iconst (pc := 10) C (v := (0 : Int32)) dX4_side_10 (by decide) ?_
    refine r_puti (pc := 11) C pfL_X4_147 dX4_side_11 o_v0 ?_
    refine r_heap (fun S23 eS23 => ?_)
    have h := h S23 eS23
    have o_v0 := ob_I eS23 o_v0
    refine r_goto (pc := 14) C (tgt := 74) dX4_side_14 (by decide) ?_
    exact r_sub [0] rfl (T_X4_side_74 C E ht hn h)
def P_X4_side (v0 : Nat) (Q : Int32 → HS → Prop) (S : HS) : Prop := P_X4_side_0 Q v0 S
theorem c_X4_side {l : Launch} {Ee : EE} {S : HS} {v0 : Nat} {Q : Int32 → HS → Prop} (h : P_X4_side v0 Q S) : MI l yX4_side cX4_side 1 (some .boolean) rm_X4_side Ee S [.ref v0] (fun r S => bl r ∧ Q r S) :=
  openI (by decide) (Nat.le_of_ble_eq_true rfl) (fun X C E ht hn hE hl => by subst hE; exact r_sub [0] rfl (T_X4_side_0 C E ht hn h))
def rm_X4_rainLine : Room := { frames := 8, cells := 0, slots := 0, locals := 188 }
def P_X4_rainLine_0 (Q : Int32 → HS → Prop) (v0 : Nat) (S : HS) : Prop := ob S v0 4 ∧ (∃ a1 : Nat, fR S v0 5 = some a1 ∧ (ob S a1 8 ∧ (∃ a2 : Nat, fR S a1 6 = some a2 ∧ (∃ a3 : Nat, fR S v0 5 = some a3 ∧ (ob S a3 8 ∧ (∀ x4 : Int32, x4 = fI S a3 1 → (ob S a2 17 ∧ (vp_in x4 (hN S a2) ∧ ∃ a6 : Nat, fR S a2 x4.toNatClampNeg = some a6 ∧ (P_X4_wordAndWhole v0 3 (0 : Int32) (9 : Int32) (fun x9 S7 => Gr S S7 → bl x9 → (((¬ x9 = 0) → (∀ x11 : Int32, x11 = fI S7 v0 9 → (ob S7 a6 3 ∧ (∀ S12 : HS, S12 = sI S7 a6 0 x11 → (P_X4_wordAndWhole v0 4 (1 : Int32) (9 : Int32) (fun x15 S13 => Gr S12 S13 → bl x15 → (((¬ x15 = 0) → (∀ x17 : Int32, x17 = fI S13 v0 9 → (∀ S18 : HS, S18 = sI S13 a6 1 x17 → (P_X4_word v0 5 (fun x21 S19 => Gr S18 S19 → bl x21 → (((x21 = 0) → (Q (0 : Int32) S19)) ∧ ((¬ x21 = 0) → (P_X4_side v0 (fun x25 S23 => Gr S19 S23 → bl x25 → (((¬ x25 = 0) → (∀ x27 : Int32, x27 = fI S23 v0 9 → (∀ S28 : HS, S28 = sI S23 a6 2 x27 → (P_X4_whole v0 (0 : Int32) (9 : Int32) (fun x31 S29 => Gr S28 S29 → bl x31 → (((¬ x31 = 0) → (∀ x33 : Int32, x33 = fI S29 v0 9 → (∀ S34 : HS, S34 = sI S29 a6 3 x33 → (P_X4_wordAndWhole v0 10 (0 : Int32) (100 : Int32) (fun x37 S35 => Gr S34 S35 → bl x37 → (((¬ x37 = 0) → (∀ x39 : Int32, x39 = fI S35 v0 9 → (∀ S40 : HS, S40 = sI S35 a6 4 x39 → (∃ a41 : Nat, fR S40 v0 5 = some a41 ∧ (ob S40 a41 8 ∧ (∀ x42 : Int32, x42 = fI S40 a41 1 → (∀ x43 : Int32, x43 = x42 + (1 : Int32) → (∀ S44 : HS, S44 = sI S40 a41 1 x43 → (Q (1 : Int32) S44))))))))) ∧ ((x37 = 0) → (Q (0 : Int32) S35)))) S34)))) ∧ ((x31 = 0) → (Q (0 : Int32) S29)))) S28)))) ∧ ((x25 = 0) → (Q (0 : Int32) S23)))) S19)))) S18)))) ∧ ((x15 = 0) → (Q (0 : Int32) S13)))) S12))))) ∧ ((x9 = 0) → (Q (0 : Int32) S7)))) S)))))))))
set_option maxRecDepth 20000 in
set_option maxHeartbeats 4000000 in
theorem T_X4_rainLine_0 {X : CX} {Q : Int32 → HS → Prop} (C : Cx X cX4_rainLine RX4 2 rm_X4_rainLine) (E : ReI X rm_X4_rainLine (fun r S => bl r ∧ Q r S)) (ht : (xh X).sig.returnType = (some .boolean)) (hn : (xh X).name = yX4_rainLine.name) {v0 : Nat} {S : HS} (h : P_X4_rainLine_0 Q v0 S) : WS X 2 0 0 0 [(0, .ref v0)] [] S := by
  refine r_aload_n (pc := 0) C dX4_rainLine_0 0 rfl ?_
  obtain ⟨o_v0, h⟩ := h
  obtain ⟨a1, ea1, h⟩ := h
  refine r_getr (pc := 1) C fL_X4_18 dX4_rainLine_1 o_v0 ea1 ?_
  obtain ⟨o_a1, h⟩ := h
  obtain ⟨a2, ea2, h⟩ := h
  refine r_getr (pc := 4) C fL_X4_188 dX4_rainLine_4 o_a1 ea2 ?_
  refine r_aload_n (pc := 7) C dX4_rainLine_7 0 rfl ?_
  obtain ⟨a3, ea3, h⟩ := h
  refine r_getr (pc := 8) C fL_X4_18 dX4_rainLine_8 o_v0 ea3 ?_
  obtain ⟨o_a3, h⟩ := h
  refine r_geti (pc := 11) C fL_X4_45 dX4_rainLine_11 o_a3 ?_
  refine r_topi (fun x4 ex4 => ?_)
  have h := h x4 ex4
  obtain ⟨o_a2, h⟩ := h
  obtain ⟨i5, a6, ea6, h⟩ := h
  refine r_aald17 (pc := 14) C dX4_rainLine_14 o_a2 i5 ea6 ?_
  refine r_astore_n (pc := 15) C dX4_rainLine_15 rfl (by decide) (lv' := [(1, .ref a6), (0, .ref v0)]) rfl ?_
  refine r_aload_n (pc := 16) C dX4_rainLine_16 1 rfl ?_
  refine r_lds (pc := 17) C 3 rfl dX4_rainLine_17 ?_
  refine r_iconst (pc := 19) C (v := (0 : Int32)) dX4_rainLine_19 (by decide) ?_
  refine r_bipush (pc := 20) C (v := (9 : Int32)) dX4_rainLine_20 (by decide) ?_
  refine r_callVi0 (pc := 22) C (rest := []) (a := v0) o_v0 [.ref (eK (xE X) 3), .int (0 : Int32), .int (9 : Int32)] yV_X4_wordAndWhole g_524 (c_X4_wordAndWhole h) dX4_rainLine_22 rfl rfl (Nat.le_of_ble_eq_true rfl) ⟨by decide, by decide⟩ ⟨by decide, by decide⟩ ⟨rfl, rfl⟩ (fun x9 S7 h g8 => ?_)
  have bx9 := h.1
  have h := h.2 g8 bx9
  have o_a1 := gr_ob g8 o_a1
  have o_a2 := gr_ob g8 o_a2
  have o_a3 := gr_ob g8 o_a3
  have o_v0 := gr_ob g8 o_v0
  refine r_if_ne (pc := 25) C (tgt := 30) dX4_rainLine_25 (by decide) (fun c10 => ?_) (fun c10 => ?_)
  · have h := h.1 c10
    refine r_aload_n (pc := 30) C dX4_rainLine_30 0 rfl ?_
    refine r_aload_n (pc := 31) C dX4_rainLine_31 1 rfl ?_
    refine r_geti (pc := 32) C fL_X4_147 dX4_rainLine_32 o_v0 ?_
    refine r_topi (fun x11 ex11 => ?_)
    have h := h x11 ex11
    obtain ⟨o_a6, h⟩ := h
    refine r_puti (pc := 35) C pfL_X4_193 dX4_rainLine_35 o_a6 ?_
    refine r_heap (fun S12 eS12 => ?_)
    have h := h S12 eS12
    have o_a1 := ob_I eS12 o_a1
    have o_a2 := ob_I eS12 o_a2
    have o_a3 := ob_I eS12 o_a3
    have o_a6 := ob_I eS12 o_a6
    have o_v0 := ob_I eS12 o_v0
    refine r_aload_n (pc := 38) C dX4_rainLine_38 1 rfl ?_
    refine r_lds (pc := 39) C 4 rfl dX4_rainLine_39 ?_
    refine r_iconst (pc := 41) C (v := (1 : Int32)) dX4_rainLine_41 (by decide) ?_
    refine r_bipush (pc := 42) C (v := (9 : Int32)) dX4_rainLine_42 (by decide) ?_
    refine r_callVi0 (pc := 44) C (rest := []) (a := v0) o_v0 [.ref (eK (xE X) 4), .int (1 : Int32), .int (9 : Int32)] yV_X4_wordAndWhole g_524 (c_X4_wordAndWhole h) dX4_rainLine_44 rfl rfl (Nat.le_of_ble_eq_true rfl) ⟨by decide, by decide⟩ ⟨by decide, by decide⟩ ⟨rfl, rfl⟩ (fun x15 S13 h g14 => ?_)
    have bx15 := h.1
    have h := h.2 g14 bx15
    have o_a1 := gr_ob g14 o_a1
    have o_a2 := gr_ob g14 o_a2
    have o_a3 := gr_ob g14 o_a3
    have o_a6 := gr_ob g14 o_a6
    have o_v0 := gr_ob g14 o_v0
    refine r_if_ne (pc := 47) C (tgt := 52) dX4_rainLine_47 (by decide) (fun c16 => ?_) (fun c16 => ?_)
    · have h := h.1 c16
      refine r_aload_n (pc := 52) C dX4_rainLine_52 0 rfl ?_
      refine r_aload_n (pc := 53) C dX4_rainLine_53 1 rfl ?_
      refine r_geti (pc := 54) C fL_X4_147 dX4_rainLine_54 o_v0 ?_
      refine r_topi (fun x17 ex17 => ?_)
      have h := h x17 ex17
      refine r_puti (pc := 57) C pfL_X4_199 dX4_rainLine_57 o_a6 ?_
      refine r_heap (fun S18 eS18 => ?_)
      have h := h S18 eS18
      have o_a1 := ob_I eS18 o_a1
      have o_a2 := ob_I eS18 o_a2
      have o_a3 := ob_I eS18 o_a3
      have o_a6 := ob_I eS18 o_a6
      have o_v0 := ob_I eS18 o_v0
      refine r_aload_n (pc := 60) C dX4_rainLine_60 1 rfl ?_
      refine r_lds (pc := 61) C 5 rfl dX4_rainLine_61 ?_
      refine r_callVi0 (pc := 63) C (rest := []) (a := v0) o_v0 [.ref (eK (xE X) 5)] yV_X4_word g_528 (c_X4_word h) dX4_rainLine_63 rfl rfl (Nat.le_of_ble_eq_true rfl) ⟨by decide, by decide⟩ ⟨by decide, by decide⟩ ⟨rfl, rfl⟩ (fun x21 S19 h g20 => ?_)
      have bx21 := h.1
      have h := h.2 g20 bx21
      have o_a1 := gr_ob g20 o_a1
      have o_a2 := gr_ob g20 o_a2
      have o_a3 := gr_ob g20 o_a3
      have o_a6 := gr_ob g20 o_a6
      have o_v0 := gr_ob g20 o_v0
      refine r_if_eq (pc := 66) C (tgt := 76) dX4_rainLine_66 (by decide) (fun c22 => ?_) (fun c22 => ?_)
      · have h := h.1 c22
        refine r_iconst (pc := 76) C (v := (0 : Int32)) dX4_rainLine_76 (by decide) ?_
        exact r_zret (pc := 77) C E ht dX4_rainLine_77 (by decide) (by decide) (Or.inl rfl) h
      · have h := h.2 c22
        refine r_aload_n (pc := 69) C dX4_rainLine_69 1 rfl ?_
        refine r_callVi0 (pc := 70) C (rest := []) (a := v0) o_v0 [] yV_X4_side g_548 (c_X4_side h) dX4_rainLine_70 rfl rfl (Nat.le_of_ble_eq_true rfl) ⟨by decide, by decide⟩ ⟨by decide, by decide⟩ ⟨rfl, rfl⟩ (fun x25 S23 h g24 => ?_)
        have bx25 := h.1
        have h := h.2 g24 bx25
        have o_a1 := gr_ob g24 o_a1
        have o_a2 := gr_ob g24 o_a2
        have o_a3 := gr_ob g24 o_a3
        have o_a6 := gr_ob g24 o_a6
        have o_v0 := gr_ob g24 o_v0
        refine r_if_ne (pc := 73) C (tgt := 78) dX4_rainLine_73 (by decide) (fun c26 => ?_) (fun c26 => ?_)
        · have h := h.1 c26
          refine r_aload_n (pc := 78) C dX4_rainLine_78 0 rfl ?_
          refine r_aload_n (pc := 79) C dX4_rainLine_79 1 rfl ?_
          refine r_geti (pc := 80) C fL_X4_147 dX4_rainLine_80 o_v0 ?_
          refine r_topi (fun x27 ex27 => ?_)
          have h := h x27 ex27
          refine r_puti (pc := 83) C pfL_X4_206 dX4_rainLine_83 o_a6 ?_
          refine r_heap (fun S28 eS28 => ?_)
          have h := h S28 eS28
          have o_a1 := ob_I eS28 o_a1
          have o_a2 := ob_I eS28 o_a2
          have o_a3 := ob_I eS28 o_a3
          have o_a6 := ob_I eS28 o_a6
          have o_v0 := ob_I eS28 o_v0
          refine r_aload_n (pc := 86) C dX4_rainLine_86 1 rfl ?_
          refine r_iconst (pc := 87) C (v := (0 : Int32)) dX4_rainLine_87 (by decide) ?_
          refine r_bipush (pc := 88) C (v := (9 : Int32)) dX4_rainLine_88 (by decide) ?_
          refine r_callVi0 (pc := 90) C (rest := []) (a := v0) o_v0 [.int (0 : Int32), .int (9 : Int32)] yV_X4_whole g_532 (c_X4_whole h) dX4_rainLine_90 rfl rfl (Nat.le_of_ble_eq_true rfl) ⟨by decide, by decide⟩ ⟨by decide, by decide⟩ ⟨rfl, rfl⟩ (fun x31 S29 h g30 => ?_)
          have bx31 := h.1
          have h := h.2 g30 bx31
          have o_a1 := gr_ob g30 o_a1
          have o_a2 := gr_ob g30 o_a2
          have o_a3 := gr_ob g30 o_a3
          have o_a6 := gr_ob g30 o_a6
          have o_v0 := gr_ob g30 o_v0
          refine r_if_ne (pc := 93) C (tgt := 98) dX4_rainLine_93 (by decide) (fun c32 => ?_) (fun c32 => ?_)
          · have h := h.1 c32
            refine r_aload_n (pc := 98) C dX4_rainLine_98 0 rfl ?_
            refine r_aload_n (pc := 99) C dX4_rainLine_99 1 rfl ?_
            refine r_geti (pc := 100) C fL_X4_147 dX4_rainLine_100 o_v0 ?_
            refine r_topi (fun x33 ex33 => ?_)
            have h := h x33 ex33
            refine r_puti (pc := 103) C pfL_X4_209 dX4_rainLine_103 o_a6 ?_
            refine r_heap (fun S34 eS34 => ?_)
            have h := h S34 eS34
            have o_a1 := ob_I eS34 o_a1
            have o_a2 := ob_I eS34 o_a2
            have o_a3 := ob_I eS34 o_a3
            have o_a6 := ob_I eS34 o_a6
            have o_v0 := ob_I eS34 o_v0
            refine r_aload_n (pc := 106) C dX4_rainLine_106 1 rfl ?_
            refine r_lds (pc := 107) C 10 rfl dX4_rainLine_107 ?_
            refine r_iconst (pc := 109) C (v := (0 : Int32)) dX4_rainLine_109 (by decide) ?_
            refine r_bipush (pc := 110) C (v := (100 : Int32)) dX4_rainLine_110 (by decide) ?_
            refine r_callVi0 (pc := 112) C (rest := []) (a := v0) o_v0 [.ref (eK (xE X) 10), .int (0 : Int32), .int (100 : Int32)] yV_X4_wordAndWhole g_524 (c_X4_wordAndWhole h) dX4_rainLine_112 rfl rfl (Nat.le_of_ble_eq_true rfl) ⟨by decide, by decide⟩ ⟨by decide, by decide⟩ ⟨rfl, rfl⟩ (fun x37 S35 h g36 => ?_)
            have bx37 := h.1
            have h := h.2 g36 bx37
            have o_a1 := gr_ob g36 o_a1
            have o_a2 := gr_ob g36 o_a2
            have o_a3 := gr_ob g36 o_a3
            have o_a6 := gr_ob g36 o_a6
            have o_v0 := gr_ob g36 o_v0
            refine r_if_ne (pc := 115) C (tgt := 120) dX4_rainLine_115 (by decide) (fun c38 => ?_) (fun c38 => ?_)
            · have h := h.1 c38
              refine r_aload_n (pc := 120) C dX4_rainLine_120 0 rfl ?_
              refine r_aload_n (pc := 121) C dX4_rainLine_121 1 rfl ?_
              refine r_geti (pc := 122) C fL_X4_147 dX4_rainLine_122 o_v0 ?_
              refine r_topi (fun x39 ex39 => ?_)
              have h := h x39 ex39
              refine r_puti (pc := 125) C pfL_X4_213 dX4_rainLine_125 o_a6 ?_
              refine r_heap (fun S40 eS40 => ?_)
              have h := h S40 eS40
              have o_a1 := ob_I eS40 o_a1
              have o_a2 := ob_I eS40 o_a2
              have o_a3 := ob_I eS40 o_a3
              have o_a6 := ob_I eS40 o_a6
              have o_v0 := ob_I eS40 o_v0
              refine r_aload_n (pc := 128) C dX4_rainLine_128 1 rfl ?_
              obtain ⟨a41, ea41, h⟩ := h
              refine r_getr (pc := 129) C fL_X4_18 dX4_rainLine_129 o_v0 ea41 ?_
              refine r_dup (pc := 132) C dX4_rainLine_132 rfl ?_
              obtain ⟨o_a41, h⟩ := h
              refine r_geti (pc := 133) C fL_X4_45 dX4_rainLine_133 o_a41 ?_
              refine r_topi (fun x42 ex42 => ?_)
              have h := h x42 ex42
              refine r_iconst (pc := 136) C (v := (1 : Int32)) dX4_rainLine_136 (by decide) ?_
              refine r_iadd (pc := 137) C dX4_rainLine_137 ?_
              refine r_topi (fun x43 ex43 => ?_)
              have h := h x43 ex43
              refine r_puti (pc := 138) C pfL_X4_45 dX4_rainLine_138 o_a41 ?_
              refine r_heap (fun S44 eS44 => ?_)
              have h := h S44 eS44
              have o_a1 := ob_I eS44 o_a1
              have o_a2 := ob_I eS44 o_a2
              have o_a3 := ob_I eS44 o_a3
              have o_a41 := ob_I eS44 o_a41
              have o_a6 := ob_I eS44 o_a6
              have o_v0 := ob_I eS44 o_v0
              refine r_iconst (pc := 141) C (v := (1 : Int32)) dX4_rainLine_141 (by decide) ?_
              exact r_zret (pc := 142) C E ht dX4_rainLine_142 (by decide) (by decide) (Or.inr rfl) h
            · have h := h.2 c38
              refine r_iconst (pc := 118) C (v := (0 : Int32)) dX4_rainLine_118 (by decide) ?_
              exact r_zret (pc := 119) C E ht dX4_rainLine_119 (by decide) (by decide) (Or.inl rfl) h
          · have h := h.2 c32
            refine r_iconst (pc := 96) C (v := (0 : Int32)) dX4_rainLine_96 (by decide) ?_
            exact r_zret (pc := 97) C E ht dX4_rainLine_97 (by decide) (by decide) (Or.inl rfl) h
        · have h := h.2 c26
          refine r_iconst (pc := 76) C (v := (0 : Int32)) dX4_rainLine_76 (by decide) ?_
          exact r_zret (pc := 77) C E ht dX4_rainLine_77 (by decide) (by decide) (Or.inl rfl) h
    · have h := h.2 c16
      refine r_iconst (pc := 50) C (v := (0 : Int32)) dX4_rainLine_50 (by decide) ?_
      exact r_zret (pc := 51) C E ht dX4_rainLine_51 (by decide) (by decide) (Or.inl rfl) h
  · have h := h.2 c10
    refine r_iconst (pc := 28) C (v := (0 : Int32)) dX4_rainLine_28 (by decide) ?_
    exact r_zret (pc := 29) C E ht dX4_rainLine_29 (by decide) (by decide) (Or.inl rfl) h
def P_X4_rainLine (v0 : Nat) (Q : Int32 → HS → Prop) (S : HS) : Prop := P_X4_rainLine_0 Q v0 S
theorem c_X4_rainLine {l : Launch} {Ee : EE} {S : HS} {v0 : Nat} {Q : Int32 → HS → Prop} (h : P_X4_rainLine v0 Q S) : MI l yX4_rainLine cX4_rainLine 2 (some .boolean) rm_X4_rainLine Ee S [.ref v0] (fun r S => bl r ∧ Q r S) :=
  openI (by decide) (Nat.le_of_ble_eq_true rfl) (fun X C E ht hn hE hl => by subst hE; exact r_sub [0] rfl (T_X4_rainLine_0 C E ht hn h))
def rm_X4_roadLine : Room := { frames := 8, cells := 0, slots := 0, locals := 188 }
def P_X4_roadLine_130 (Q : Int32 → HS → Prop) (v0 : Nat) (S : HS) : Prop := ob S v0 4 ∧ (∃ a1 : Nat, fR S v0 5 = some a1 ∧ (ob S a1 8 ∧ (∀ x2 : Int32, x2 = fI S a1 3 → (∀ x3 : Int32, x3 = x2 + (1 : Int32) → (∀ S4 : HS, S4 = sI S a1 3 x3 → (Q (1 : Int32) S4))))))
set_option maxRecDepth 20000 in
set_option maxHeartbeats 4000000 in
theorem T_X4_roadLine_130 {X : CX} {Q : Int32 → HS → Prop} (C : Cx X cX4_roadLine RX4 2 rm_X4_roadLine) (E : ReI X rm_X4_roadLine (fun r S => bl r ∧ Q r S)) (ht : (xh X).sig.returnType = (some .boolean)) (hn : (xh X).name = yX4_roadLine.name) {v0 : Nat} {S : HS} (h : P_X4_roadLine_130 Q v0 S) : WS X 2 0 0 130 [(0, .ref v0)] [] S := by
  refine r_aload_n (pc := 130) C dX4_roadLine_130 0 rfl ?_
  obtain ⟨o_v0, h⟩ := h
  obtain ⟨a1, ea1, h⟩ := h
  refine r_getr (pc := 131) C fL_X4_18 dX4_roadLine_131 o_v0 ea1 ?_
  refine r_dup (pc := 134) C dX4_roadLine_134 rfl ?_
  obtain ⟨o_a1, h⟩ := h
  refine r_geti (pc := 135) C fL_X4_66 dX4_roadLine_135 o_a1 ?_
  refine r_topi (fun x2 ex2 => ?_)
  have h := h x2 ex2
  refine r_iconst (pc := 138) C (v := (1 : Int32)) dX4_roadLine_138 (by decide) ?_
  refine r_iadd (pc := 139) C dX4_roadLine_139 ?_
  refine r_topi (fun x3 ex3 => ?_)
  have h := h x3 ex3
  refine r_puti (pc := 140) C pfL_X4_66 dX4_roadLine_140 o_a1 ?_
  refine r_heap (fun S4 eS4 => ?_)
  have h := h S4 eS4
  have o_a1 := ob_I eS4 o_a1
  have o_v0 := ob_I eS4 o_v0
  refine r_iconst (pc := 143) C (v := (1 : Int32)) dX4_roadLine_143 (by decide) ?_
  exact r_zret (pc := 144) C E ht dX4_roadLine_144 (by decide) (by decide) (Or.inr rfl) h
def P_X4_roadLine_0 (Q : Int32 → HS → Prop) (v0 : Nat) (S : HS) : Prop := ob S v0 4 ∧ (∃ a1 : Nat, fR S v0 5 = some a1 ∧ (ob S a1 8 ∧ (∃ a2 : Nat, fR S a1 8 = some a2 ∧ (∃ a3 : Nat, fR S v0 5 = some a3 ∧ (ob S a3 8 ∧ (∀ x4 : Int32, x4 = fI S a3 3 → (ob S a2 18 ∧ (vp_in x4 (hN S a2) ∧ ∃ a6 : Nat, fR S a2 x4.toNatClampNeg = some a6 ∧ (P_X4_placeBut v0 (-1 : Int32) (fun x9 S7 => Gr S S7 → bl x9 → (((¬ x9 = 0) → (∀ x11 : Int32, x11 = fI S7 v0 9 → (ob S7 a6 5 ∧ (∀ S12 : HS, S12 = sI S7 a6 0 x11 → (P_X4_side v0 (fun x15 S13 => Gr S12 S13 → bl x15 → (((¬ x15 = 0) → (∀ x17 : Int32, x17 = fI S13 v0 9 → (∀ S18 : HS, S18 = sI S13 a6 2 x17 → (P_X4_whole v0 (1 : Int32) (60 : Int32) (fun x21 S19 => Gr S18 S19 → bl x21 → (((¬ x21 = 0) → (∀ x23 : Int32, x23 = fI S19 v0 9 → (∀ S24 : HS, S24 = sI S19 a6 3 x23 → (∀ x25 : Int32, x25 = fI S24 a6 0 → (P_X4_placeBut v0 x25 (fun x28 S26 => Gr S24 S26 → bl x28 → (((¬ x28 = 0) → (∀ x30 : Int32, x30 = fI S26 v0 9 → (∀ S31 : HS, S31 = sI S26 a6 1 x30 → (∀ S32 : HS, S32 = sI S31 a6 4 (0 : Int32) → (P_X4_is v0 17 (fun x35 S33 => Gr S32 S33 → bl x35 → (((x35 = 0) → (P_X4_roadLine_130 Q v0 S33)) ∧ ((¬ x35 = 0) → (∀ x37 : Int32, x37 = fI S33 a6 3 → (P_X4_wordAndWhole v0 17 (0 : Int32) x37 (fun x40 S38 => Gr S33 S38 → bl x40 → (((¬ x40 = 0) → (∀ x42 : Int32, x42 = fI S38 v0 9 → (∀ S43 : HS, S43 = sI S38 a6 4 x42 → (P_X4_roadLine_130 Q v0 S43)))) ∧ ((x40 = 0) → (Q (0 : Int32) S38)))) S33))))) S32))))) ∧ ((x28 = 0) → (Q (0 : Int32) S26)))) S24))))) ∧ ((x21 = 0) → (Q (0 : Int32) S19)))) S18)))) ∧ ((x15 = 0) → (Q (0 : Int32) S13)))) S12))))) ∧ ((x9 = 0) → (Q (0 : Int32) S7)))) S)))))))))
set_option maxRecDepth 20000 in
set_option maxHeartbeats 4000000 in
theorem T_X4_roadLine_0 {X : CX} {Q : Int32 → HS → Prop} (C : Cx X cX4_roadLine RX4 2 rm_X4_roadLine) (E : ReI X rm_X4_roadLine (fun r S => bl r ∧ Q r S)) (ht : (xh X).sig.returnType = (some .boolean)) (hn : (xh X).name = yX4_roadLine.name) {v0 : Nat} {S : HS} (h : P_X4_roadLine_0 Q v0 S) : WS X 2 0 0 0 [(0, .ref v0)] [] S := by
  refine r_aload_n (pc := 0) C dX4_roadLine_0 0 rfl ?_
  obtain ⟨o_v0, h⟩ := h
  obtain ⟨a1, ea1, h⟩ := h
  refine r_getr (pc := 1) C fL_X4_18 dX4_roadLine_1 o_v0 ea1 ?_
  obtain ⟨o_a1, h⟩ := h
  obtain ⟨a2, ea2, h⟩ := h
  refine r_getr (pc := 4) C fL_X4_221 dX4_roadLine_4 o_a1 ea2 ?_
  refine r_aload_n (pc := 7) C dX4_roadLine_7 0 rfl ?_
  obtain ⟨a3, ea3, h⟩ := h
  refine r_getr (pc := 8) C fL_X4_18 dX4_roadLine_8 o_v0 ea3 ?_
  obtain ⟨o_a3, h⟩ := h
  refine r_geti (pc := 11) C fL_X4_66 dX4_roadLine_11 o_a3 ?_
  refine r_topi (fun x4 ex4 => ?_)
  have h := h x4 ex4
  obtain ⟨o_a2, h⟩ := h
  obtain ⟨i5, a6, ea6, h⟩ := h
  refine r_aald18 (pc := 14) C dX4_roadLine_14 o_a2 i5 ea6 ?_
  refine r_astore_n (pc := 15) C dX4_roadLine_15 rfl (by decide) (lv' := [(1, .ref a6), (0, .ref v0)]) rfl ?_
  refine r_aload_n (pc := 16) C dX4_roadLine_16 1 rfl ?_
  refine r_iconst (pc := 17) C (v := (-1 : Int32)) dX4_roadLine_17 (by decide) ?_
  refine r_callVi0 (pc := 18) C (rest := []) (a := v0) o_v0 [.int (-1 : Int32)] yV_X4_placeBut g_584 (c_X4_placeBut h) dX4_roadLine_18 rfl rfl (Nat.le_of_ble_eq_true rfl) ⟨by decide, by decide⟩ ⟨by decide, by decide⟩ ⟨rfl, rfl⟩ (fun x9 S7 h g8 => ?_)
  have bx9 := h.1
  have h := h.2 g8 bx9
  have o_a1 := gr_ob g8 o_a1
  have o_a2 := gr_ob g8 o_a2
  have o_a3 := gr_ob g8 o_a3
  have o_v0 := gr_ob g8 o_v0
  refine r_if_ne (pc := 21) C (tgt := 26) dX4_roadLine_21 (by decide) (fun c10 => ?_) (fun c10 => ?_)
  · have h := h.1 c10
    refine r_aload_n (pc := 26) C dX4_roadLine_26 0 rfl ?_
    refine r_aload_n (pc := 27) C dX4_roadLine_27 1 rfl ?_
    refine r_geti (pc := 28) C fL_X4_147 dX4_roadLine_28 o_v0 ?_
    refine r_topi (fun x11 ex11 => ?_)
    have h := h x11 ex11
    obtain ⟨o_a6, h⟩ := h
    refine r_puti (pc := 31) C pfL_X4_227 dX4_roadLine_31 o_a6 ?_
    refine r_heap (fun S12 eS12 => ?_)
    have h := h S12 eS12
    have o_a1 := ob_I eS12 o_a1
    have o_a2 := ob_I eS12 o_a2
    have o_a3 := ob_I eS12 o_a3
    have o_a6 := ob_I eS12 o_a6
    have o_v0 := ob_I eS12 o_v0
    refine r_aload_n (pc := 34) C dX4_roadLine_34 1 rfl ?_
    refine r_callVi0 (pc := 35) C (rest := []) (a := v0) o_v0 [] yV_X4_side g_548 (c_X4_side h) dX4_roadLine_35 rfl rfl (Nat.le_of_ble_eq_true rfl) ⟨by decide, by decide⟩ ⟨by decide, by decide⟩ ⟨rfl, rfl⟩ (fun x15 S13 h g14 => ?_)
    have bx15 := h.1
    have h := h.2 g14 bx15
    have o_a1 := gr_ob g14 o_a1
    have o_a2 := gr_ob g14 o_a2
    have o_a3 := gr_ob g14 o_a3
    have o_a6 := gr_ob g14 o_a6
    have o_v0 := gr_ob g14 o_v0
    refine r_if_ne (pc := 38) C (tgt := 43) dX4_roadLine_38 (by decide) (fun c16 => ?_) (fun c16 => ?_)
    · have h := h.1 c16
      refine r_aload_n (pc := 43) C dX4_roadLine_43 0 rfl ?_
      refine r_aload_n (pc := 44) C dX4_roadLine_44 1 rfl ?_
      refine r_geti (pc := 45) C fL_X4_147 dX4_roadLine_45 o_v0 ?_
      refine r_topi (fun x17 ex17 => ?_)
      have h := h x17 ex17
      refine r_puti (pc := 48) C pfL_X4_232 dX4_roadLine_48 o_a6 ?_
      refine r_heap (fun S18 eS18 => ?_)
      have h := h S18 eS18
      have o_a1 := ob_I eS18 o_a1
      have o_a2 := ob_I eS18 o_a2
      have o_a3 := ob_I eS18 o_a3
      have o_a6 := ob_I eS18 o_a6
      have o_v0 := ob_I eS18 o_v0
      refine r_aload_n (pc := 51) C dX4_roadLine_51 1 rfl ?_
      refine r_iconst (pc := 52) C (v := (1 : Int32)) dX4_roadLine_52 (by decide) ?_
      refine r_bipush (pc := 53) C (v := (60 : Int32)) dX4_roadLine_53 (by decide) ?_
      refine r_callVi0 (pc := 55) C (rest := []) (a := v0) o_v0 [.int (1 : Int32), .int (60 : Int32)] yV_X4_whole g_532 (c_X4_whole h) dX4_roadLine_55 rfl rfl (Nat.le_of_ble_eq_true rfl) ⟨by decide, by decide⟩ ⟨by decide, by decide⟩ ⟨rfl, rfl⟩ (fun x21 S19 h g20 => ?_)
      have bx21 := h.1
      have h := h.2 g20 bx21
      have o_a1 := gr_ob g20 o_a1
      have o_a2 := gr_ob g20 o_a2
      have o_a3 := gr_ob g20 o_a3
      have o_a6 := gr_ob g20 o_a6
      have o_v0 := gr_ob g20 o_v0
      refine r_if_ne (pc := 58) C (tgt := 63) dX4_roadLine_58 (by decide) (fun c22 => ?_) (fun c22 => ?_)
      · have h := h.1 c22
        refine r_aload_n (pc := 63) C dX4_roadLine_63 0 rfl ?_
        refine r_aload_n (pc := 64) C dX4_roadLine_64 1 rfl ?_
        refine r_geti (pc := 65) C fL_X4_147 dX4_roadLine_65 o_v0 ?_
        refine r_topi (fun x23 ex23 => ?_)
        have h := h x23 ex23
        refine r_puti (pc := 68) C pfL_X4_234 dX4_roadLine_68 o_a6 ?_
        refine r_heap (fun S24 eS24 => ?_)
        have h := h S24 eS24
        have o_a1 := ob_I eS24 o_a1
        have o_a2 := ob_I eS24 o_a2
        have o_a3 := ob_I eS24 o_a3
        have o_a6 := ob_I eS24 o_a6
        have o_v0 := ob_I eS24 o_v0
        refine r_aload_n (pc := 71) C dX4_roadLine_71 1 rfl ?_
        refine r_aload_n (pc := 72) C dX4_roadLine_72 0 rfl ?_
        refine r_geti (pc := 73) C fL_X4_227 dX4_roadLine_73 o_a6 ?_
        refine r_topi (fun x25 ex25 => ?_)
        have h := h x25 ex25
        refine r_callVi0 (pc := 76) C (rest := []) (a := v0) o_v0 [.int x25] yV_X4_placeBut g_584 (c_X4_placeBut h) dX4_roadLine_76 rfl rfl (Nat.le_of_ble_eq_true rfl) ⟨by decide, by decide⟩ ⟨by decide, by decide⟩ ⟨rfl, rfl⟩ (fun x28 S26 h g27 => ?_)
        have bx28 := h.1
        have h := h.2 g27 bx28
        have o_a1 := gr_ob g27 o_a1
        have o_a2 := gr_ob g27 o_a2
        have o_a3 := gr_ob g27 o_a3
        have o_a6 := gr_ob g27 o_a6
        have o_v0 := gr_ob g27 o_v0
        refine r_if_ne (pc := 79) C (tgt := 84) dX4_roadLine_79 (by decide) (fun c29 => ?_) (fun c29 => ?_)
        · have h := h.1 c29
          refine r_aload_n (pc := 84) C dX4_roadLine_84 0 rfl ?_
          refine r_aload_n (pc := 85) C dX4_roadLine_85 1 rfl ?_
          refine r_geti (pc := 86) C fL_X4_147 dX4_roadLine_86 o_v0 ?_
          refine r_topi (fun x30 ex30 => ?_)
          have h := h x30 ex30
          refine r_puti (pc := 89) C pfL_X4_235 dX4_roadLine_89 o_a6 ?_
          refine r_heap (fun S31 eS31 => ?_)
          have h := h S31 eS31
          have o_a1 := ob_I eS31 o_a1
          have o_a2 := ob_I eS31 o_a2
          have o_a3 := ob_I eS31 o_a3
          have o_a6 := ob_I eS31 o_a6
          have o_v0 := ob_I eS31 o_v0
          refine r_aload_n (pc := 92) C dX4_roadLine_92 0 rfl ?_
          refine r_iconst (pc := 93) C (v := (0 : Int32)) dX4_roadLine_93 (by decide) ?_
          refine r_puti (pc := 94) C pfL_X4_238 dX4_roadLine_94 o_a6 ?_
          refine r_heap (fun S32 eS32 => ?_)
          have h := h S32 eS32
          have o_a1 := ob_I eS32 o_a1
          have o_a2 := ob_I eS32 o_a2
          have o_a3 := ob_I eS32 o_a3
          have o_a6 := ob_I eS32 o_a6
          have o_v0 := ob_I eS32 o_v0
          refine r_aload_n (pc := 97) C dX4_roadLine_97 1 rfl ?_
          refine r_lds (pc := 98) C 17 rfl dX4_roadLine_98 ?_
          refine r_callVi0 (pc := 100) C (rest := []) (a := v0) o_v0 [.ref (eK (xE X) 17)] yV_X4_is g_458 (c_X4_is h) dX4_roadLine_100 rfl rfl (Nat.le_of_ble_eq_true rfl) ⟨by decide, by decide⟩ ⟨by decide, by decide⟩ ⟨rfl, rfl⟩ (fun x35 S33 h g34 => ?_)
          have bx35 := h.1
          have h := h.2 g34 bx35
          have o_a1 := gr_ob g34 o_a1
          have o_a2 := gr_ob g34 o_a2
          have o_a3 := gr_ob g34 o_a3
          have o_a6 := gr_ob g34 o_a6
          have o_v0 := gr_ob g34 o_v0
          refine r_if_eq (pc := 103) C (tgt := 130) dX4_roadLine_103 (by decide) (fun c36 => ?_) (fun c36 => ?_)
          · have h := h.1 c36
            exact r_sub [1] rfl (T_X4_roadLine_130 C E ht hn h)
          · have h := h.2 c36
            refine r_aload_n (pc := 106) C dX4_roadLine_106 1 rfl ?_
            refine r_lds (pc := 107) C 17 rfl dX4_roadLine_107 ?_
            refine r_iconst (pc := 109) C (v := (0 : Int32)) dX4_roadLine_109 (by decide) ?_
            refine r_aload_n (pc := 110) C dX4_roadLine_110 0 rfl ?_
            refine r_geti (pc := 111) C fL_X4_234 dX4_roadLine_111 o_a6 ?_
            refine r_topi (fun x37 ex37 => ?_)
            have h := h x37 ex37
            refine r_callVi0 (pc := 114) C (rest := []) (a := v0) o_v0 [.ref (eK (xE X) 17), .int (0 : Int32), .int x37] yV_X4_wordAndWhole g_524 (c_X4_wordAndWhole h) dX4_roadLine_114 rfl rfl (Nat.le_of_ble_eq_true rfl) ⟨by decide, by decide⟩ ⟨by decide, by decide⟩ ⟨rfl, rfl⟩ (fun x40 S38 h g39 => ?_)
            have bx40 := h.1
            have h := h.2 g39 bx40
            have o_a1 := gr_ob g39 o_a1
            have o_a2 := gr_ob g39 o_a2
            have o_a3 := gr_ob g39 o_a3
            have o_a6 := gr_ob g39 o_a6
            have o_v0 := gr_ob g39 o_v0
            refine r_if_ne (pc := 117) C (tgt := 122) dX4_roadLine_117 (by decide) (fun c41 => ?_) (fun c41 => ?_)
            · have h := h.1 c41
              refine r_aload_n (pc := 122) C dX4_roadLine_122 0 rfl ?_
              refine r_aload_n (pc := 123) C dX4_roadLine_123 1 rfl ?_
              refine r_geti (pc := 124) C fL_X4_147 dX4_roadLine_124 o_v0 ?_
              refine r_topi (fun x42 ex42 => ?_)
              have h := h x42 ex42
              refine r_puti (pc := 127) C pfL_X4_238 dX4_roadLine_127 o_a6 ?_
              refine r_heap (fun S43 eS43 => ?_)
              have h := h S43 eS43
              have o_a1 := ob_I eS43 o_a1
              have o_a2 := ob_I eS43 o_a2
              have o_a3 := ob_I eS43 o_a3
              have o_a6 := ob_I eS43 o_a6
              have o_v0 := ob_I eS43 o_v0
              exact r_sub [1] rfl (T_X4_roadLine_130 C E ht hn h)
            · have h := h.2 c41
              refine r_iconst (pc := 120) C (v := (0 : Int32)) dX4_roadLine_120 (by decide) ?_
              exact r_zret (pc := 121) C E ht dX4_roadLine_121 (by decide) (by decide) (Or.inl rfl) h
        · have h := h.2 c29
          refine r_iconst (pc := 82) C (v := (0 : Int32)) dX4_roadLine_82 (by decide) ?_
          exact r_zret (pc := 83) C E ht dX4_roadLine_83 (by decide) (by decide) (Or.inl rfl) h
      · have h := h.2 c22
        refine r_iconst (pc := 61) C (v := (0 : Int32)) dX4_roadLine_61 (by decide) ?_
        exact r_zret (pc := 62) C E ht dX4_roadLine_62 (by decide) (by decide) (Or.inl rfl) h
    · have h := h.2 c16
      refine r_iconst (pc := 41) C (v := (0 : Int32)) dX4_roadLine_41 (by decide) ?_
      exact r_zret (pc := 42) C E ht dX4_roadLine_42 (by decide) (by decide) (Or.inl rfl) h
  · have h := h.2 c10
    refine r_iconst (pc := 24) C (v := (0 : Int32)) dX4_roadLine_24 (by decide) ?_
    exact r_zret (pc := 25) C E ht dX4_roadLine_25 (by decide) (by decide) (Or.inl rfl) h
def P_X4_roadLine (v0 : Nat) (Q : Int32 → HS → Prop) (S : HS) : Prop := P_X4_roadLine_0 Q v0 S
theorem c_X4_roadLine {l : Launch} {Ee : EE} {S : HS} {v0 : Nat} {Q : Int32 → HS → Prop} (h : P_X4_roadLine v0 Q S) : MI l yX4_roadLine cX4_roadLine 2 (some .boolean) rm_X4_roadLine Ee S [.ref v0] (fun r S => bl r ∧ Q r S) :=
  openI (by decide) (Nat.le_of_ble_eq_true rfl) (fun X C E ht hn hE hl => by subst hE; exact r_sub [0] rfl (T_X4_roadLine_0 C E ht hn h))
end
section
def rm_X4_sign : Room := { frames := 2, cells := 0, slots := 0, locals := 46 }
def P_X4_sign_0 (Q : Int32 → HS → Prop) (v0 : Nat) (v1 : Int32) (S : HS) : Prop := ob S v0 4 ∧ (∀ x1 : Int32, x1 = fI S v0 6 → (((x1 = v1) → (P_X4_next v0 (fun S3 => Gr S S3 → (Q (1 : Int32) S3)) S)) ∧ ((¬ x1 = v1) → (P_X4_fail v0 (1 : Int32) (fun x8 S6 => Gr S S6 → bl x8 → (bl x8 ∧ Q x8 S6)) S))))
set_option maxRecDepth 20000 in
set_option maxHeartbeats 4000000 in
theorem T_X4_sign_0 {X : CX} {Q : Int32 → HS → Prop} (C : Cx X cX4_sign RX4 2 rm_X4_sign) (E : ReI X rm_X4_sign (fun r S => bl r ∧ Q r S)) (ht : (xh X).sig.returnType = (some .boolean)) (hn : (xh X).name = yX4_sign.name) {v0 : Nat} {v1 : Int32} {S : HS} (h : P_X4_sign_0 Q v0 v1 S) : WS X 2 0 0 0 [(0, .ref v0), (1, .int v1)] [] S := by
  refine r_aload_n (pc := 0) C dX4_sign_0 0 rfl ?_
  obtain ⟨o_v0, h⟩ := h
  refine r_geti (pc := 1) C fL_X4_92 dX4_sign_1 o_v0 ?_
  refine r_topi (fun x1 ex1 => ?_)
  have h := h x1 ex1
  refine r_iload_n (pc := 4) C dX4_sign_4 1 rfl ?_
  refine r_icmp_eq (pc := 5) C (tgt := 14) dX4_sign_5 (by decide) (fun c2 => ?_) (fun c2 => ?_)
  · have h := h.1 c2
    refine r_aload_n (pc := 14) C dX4_sign_14 0 rfl ?_
    refine r_callVv0 (pc := 15) C (rest := []) (a := v0) o_v0 [] yV_X4_next g_449 (c_X4_next h) dX4_sign_15 rfl rfl (Nat.le_of_ble_eq_true rfl) ⟨by decide, by decide⟩ ⟨by decide, by decide⟩ ⟨rfl, rfl⟩ (fun S3 h g4 => ?_)
    have h := h g4
    have o_v0 := gr_ob g4 o_v0
    refine r_iconst (pc := 18) C (v := (1 : Int32)) dX4_sign_18 (by decide) ?_
    exact r_zret (pc := 19) C E ht dX4_sign_19 (by decide) (by decide) (Or.inr rfl) h
  · have h := h.2 c2
    refine r_aload_n (pc := 8) C dX4_sign_8 0 rfl ?_
    refine r_iconst (pc := 9) C (v := (1 : Int32)) dX4_sign_9 (by decide) ?_
    refine r_callVi0 (pc := 10) C (rest := []) (a := v0) o_v0 [.int (1 : Int32)] yV_X4_fail g_519 (c_X4_fail h) dX4_sign_10 rfl rfl (Nat.le_of_ble_eq_true rfl) ⟨by decide, by decide⟩ ⟨by decide, by decide⟩ ⟨rfl, rfl⟩ (fun x8 S6 h g7 => ?_)
    have bx8 := h.1
    have h := h.2 g7 bx8
    have o_v0 := gr_ob g7 o_v0
    exact r_zret (pc := 13) C E ht dX4_sign_13 (by decide) (by decide) h.1 h.2
def P_X4_sign (v0 : Nat) (v1 : Int32) (Q : Int32 → HS → Prop) (S : HS) : Prop := P_X4_sign_0 Q v0 v1 S
theorem c_X4_sign {l : Launch} {Ee : EE} {S : HS} {v0 : Nat} {v1 : Int32} {Q : Int32 → HS → Prop} (h : P_X4_sign v0 v1 Q S) : MI l yX4_sign cX4_sign 2 (some .boolean) rm_X4_sign Ee S [.ref v0, .int v1] (fun r S => bl r ∧ Q r S) :=
  openI (by decide) (Nat.le_of_ble_eq_true rfl) (fun X C E ht hn hE hl => by subst hE; exact r_sub [0, 1] rfl (T_X4_sign_0 C E ht hn h))
def rm_X4_someWalker : Room := { frames := 7, cells := 0, slots := 0, locals := 165 }
def P_X4_someWalker_0 (Q : Int32 → HS → Prop) (v0 : Nat) (S : HS) : Prop := ob S v0 4 ∧ (P_X4_canBeName v0 (fun x3 S1 => Gr S S1 → bl x3 → (((¬ x3 = 0) → (P_X4_findName v0 (fun x7 S5 => Gr S1 S5 → ((((8 : Int32) ≤ x7) → (∀ x9 : Int32, x9 = x7 - (8 : Int32) → (∀ S10 : HS, S10 = sI S5 v0 9 x9 → (P_X4_next v0 (fun S11 => Gr S10 S11 → (Q (1 : Int32) S11)) S10)))) ∧ ((¬ (8 : Int32) ≤ x7) → (P_X4_fail v0 (2 : Int32) (fun x16 S14 => Gr S5 S14 → bl x16 → (bl x16 ∧ Q x16 S14)) S5)))) S1)) ∧ ((x3 = 0) → (P_X4_fail v0 (1 : Int32) (fun x19 S17 => Gr S1 S17 → bl x19 → (bl x19 ∧ Q x19 S17)) S1)))) S)
set_option maxRecDepth 20000 in
set_option maxHeartbeats 4000000 in
theorem T_X4_someWalker_0 {X : CX} {Q : Int32 → HS → Prop} (C : Cx X cX4_someWalker RX4 2 rm_X4_someWalker) (E : ReI X rm_X4_someWalker (fun r S => bl r ∧ Q r S)) (ht : (xh X).sig.returnType = (some .boolean)) (hn : (xh X).name = yX4_someWalker.name) {v0 : Nat} {S : HS} (h : P_X4_someWalker_0 Q v0 S) : WS X 2 0 0 0 [(0, .ref v0)] [] S := by
  refine r_aload_n (pc := 0) C dX4_someWalker_0 0 rfl ?_
  obtain ⟨o_v0, h⟩ := h
  refine r_callVi0 (pc := 1) C (rest := []) (a := v0) o_v0 [] yV_X4_canBeName g_566 (c_X4_canBeName h) dX4_someWalker_1 rfl rfl (Nat.le_of_ble_eq_true rfl) ⟨by decide, by decide⟩ ⟨by decide, by decide⟩ ⟨rfl, rfl⟩ (fun x3 S1 h g2 => ?_)
  have bx3 := h.1
  have h := h.2 g2 bx3
  have o_v0 := gr_ob g2 o_v0
  refine r_if_ne (pc := 4) C (tgt := 13) dX4_someWalker_4 (by decide) (fun c4 => ?_) (fun c4 => ?_)
  · have h := h.1 c4
    refine r_aload_n (pc := 13) C dX4_someWalker_13 0 rfl ?_
    refine r_callVi0 (pc := 14) C (rest := []) (a := v0) o_v0 [] yV_X4_findName g_576 (c_X4_findName h) dX4_someWalker_14 rfl rfl (Nat.le_of_ble_eq_true rfl) ⟨by decide, by decide⟩ ⟨by decide, by decide⟩ ⟨rfl, rfl⟩ (fun x7 S5 h g6 => ?_)
    have h := h g6
    have o_v0 := gr_ob g6 o_v0
    refine r_istore_n (pc := 17) C dX4_someWalker_17 rfl (by decide) (lv' := [(1, .int x7), (0, .ref v0)]) rfl ?_
    refine r_iload_n (pc := 18) C dX4_someWalker_18 0 rfl ?_
    refine r_bipush (pc := 19) C (v := (8 : Int32)) dX4_someWalker_19 (by decide) ?_
    refine r_icmp_ge (pc := 21) C (tgt := 30) dX4_someWalker_21 (by decide) (fun c8 => ?_) (fun c8 => ?_)
    · have h := h.1 c8
      refine r_aload_n (pc := 30) C dX4_someWalker_30 1 rfl ?_
      refine r_iload_n (pc := 31) C dX4_someWalker_31 0 rfl ?_
      refine r_bipush (pc := 32) C (v := (8 : Int32)) dX4_someWalker_32 (by decide) ?_
      refine r_isub (pc := 34) C dX4_someWalker_34 ?_
      refine r_topi (fun x9 ex9 => ?_)
      have h := h x9 ex9
      refine r_puti (pc := 35) C pfL_X4_147 dX4_someWalker_35 o_v0 ?_
      refine r_heap (fun S10 eS10 => ?_)
      have h := h S10 eS10
      have o_v0 := ob_I eS10 o_v0
      refine r_aload_n (pc := 38) C dX4_someWalker_38 1 rfl ?_
      refine r_callVv0 (pc := 39) C (rest := []) (a := v0) o_v0 [] yV_X4_next g_449 (c_X4_next h) dX4_someWalker_39 rfl rfl (Nat.le_of_ble_eq_true rfl) ⟨by decide, by decide⟩ ⟨by decide, by decide⟩ ⟨rfl, rfl⟩ (fun S11 h g12 => ?_)
      have h := h g12
      have o_v0 := gr_ob g12 o_v0
      refine r_iconst (pc := 42) C (v := (1 : Int32)) dX4_someWalker_42 (by decide) ?_
      exact r_zret (pc := 43) C E ht dX4_someWalker_43 (by decide) (by decide) (Or.inr rfl) h
    · have h := h.2 c8
      refine r_aload_n (pc := 24) C dX4_someWalker_24 1 rfl ?_
      refine r_iconst (pc := 25) C (v := (2 : Int32)) dX4_someWalker_25 (by decide) ?_
      refine r_callVi0 (pc := 26) C (rest := []) (a := v0) o_v0 [.int (2 : Int32)] yV_X4_fail g_519 (c_X4_fail h) dX4_someWalker_26 rfl rfl (Nat.le_of_ble_eq_true rfl) ⟨by decide, by decide⟩ ⟨by decide, by decide⟩ ⟨rfl, rfl⟩ (fun x16 S14 h g15 => ?_)
      have bx16 := h.1
      have h := h.2 g15 bx16
      have o_v0 := gr_ob g15 o_v0
      exact r_zret (pc := 29) C E ht dX4_someWalker_29 (by decide) (by decide) h.1 h.2
  · have h := h.2 c4
    refine r_aload_n (pc := 7) C dX4_someWalker_7 0 rfl ?_
    refine r_iconst (pc := 8) C (v := (1 : Int32)) dX4_someWalker_8 (by decide) ?_
    refine r_callVi0 (pc := 9) C (rest := []) (a := v0) o_v0 [.int (1 : Int32)] yV_X4_fail g_519 (c_X4_fail h) dX4_someWalker_9 rfl rfl (Nat.le_of_ble_eq_true rfl) ⟨by decide, by decide⟩ ⟨by decide, by decide⟩ ⟨rfl, rfl⟩ (fun x19 S17 h g18 => ?_)
    have bx19 := h.1
    have h := h.2 g18 bx19
    have o_v0 := gr_ob g18 o_v0
    exact r_zret (pc := 12) C E ht dX4_someWalker_12 (by decide) (by decide) h.1 h.2
def P_X4_someWalker (v0 : Nat) (Q : Int32 → HS → Prop) (S : HS) : Prop := P_X4_someWalker_0 Q v0 S
theorem c_X4_someWalker {l : Launch} {Ee : EE} {S : HS} {v0 : Nat} {Q : Int32 → HS → Prop} (h : P_X4_someWalker v0 Q S) : MI l yX4_someWalker cX4_someWalker 2 (some .boolean) rm_X4_someWalker Ee S [.ref v0] (fun r S => bl r ∧ Q r S) :=
  openI (by decide) (Nat.le_of_ble_eq_true rfl) (fun X C E ht hn hE hl => by subst hE; exact r_sub [0] rfl (T_X4_someWalker_0 C E ht hn h))
def rm_X4_seenLine : Room := { frames := 8, cells := 0, slots := 0, locals := 186 }
def P_X4_seenLine_47 (Q : Int32 → HS → Prop) (X30 : Nat → Int32 → HS → Prop) (v0 : Nat) (v1 : Int32) (S : HS) : Prop := ob S v0 4 ∧ (P_X4_whole v0 (0 : Int32) (999 : Int32) (fun x3 S1 => Gr S S1 → bl x3 → (((¬ x3 = 0) → (∃ a5 : Nat, fR S1 v0 5 = some a5 ∧ (ob S1 a5 8 ∧ (∃ a6 : Nat, fR S1 a5 11 = some a6 ∧ (∃ a7 : Nat, fR S1 v0 5 = some a7 ∧ (ob S1 a7 8 ∧ (∀ x8 : Int32, x8 = fI S1 a7 5 → (∀ x9 : Int32, x9 = fI S1 v0 9 → (ob S1 a6 13 ∧ (vp_in ((x8 * (5 : Int32)) + v1) (hN S1 a6) ∧ (∀ S11 : HS, S11 = sI S1 a6 ((x8 * (5 : Int32)) + v1).toNatClampNeg x9 → (∀ x12 : Int32, x12 = v1 + (1 : Int32) → (X30 v0 x12 S11))))))))))))) ∧ ((x3 = 0) → (Q (0 : Int32) S1)))) S)
set_option maxRecDepth 20000 in
set_option maxHeartbeats 4000000 in
theorem T_X4_seenLine_47 {X : CX} {Q : Int32 → HS → Prop} (C : Cx X cX4_seenLine RX4 2 rm_X4_seenLine) (E : ReI X rm_X4_seenLine (fun r S => bl r ∧ Q r S)) (ht : (xh X).sig.returnType = (some .boolean)) (hn : (xh X).name = yX4_seenLine.name) {X30 : Nat → Int32 → HS → Prop} (hX30 : ∀ (v0 : Nat) (v1 : Int32) (S : HS), X30 v0 v1 S → WS X 2 0 0 30 [(0, .ref v0), (1, .int v1)] [] S) {v0 : Nat} {v1 : Int32} {S : HS} (h : P_X4_seenLine_47 Q X30 v0 v1 S) : WS X 2 0 0 47 [(0, .ref v0), (1, .int v1)] [] S := by
  refine r_aload_n (pc := 47) C dX4_seenLine_47 0 rfl ?_
  refine r_iconst (pc := 48) C (v := (0 : Int32)) dX4_seenLine_48 (by decide) ?_
  refine r_sipush (pc := 49) C (v := (999 : Int32)) dX4_seenLine_49 (by decide) ?_
  obtain ⟨o_v0, h⟩ := h
  refine r_callVi0 (pc := 52) C (rest := []) (a := v0) o_v0 [.int (0 : Int32), .int (999 : Int32)] yV_X4_whole g_532 (c_X4_whole h) dX4_seenLine_52 rfl rfl (Nat.le_of_ble_eq_true rfl) ⟨by decide, by decide⟩ ⟨by decide, by decide⟩ ⟨rfl, rfl⟩ (fun x3 S1 h g2 => ?_)
  have bx3 := h.1
  have h := h.2 g2 bx3
  have o_v0 := gr_ob g2 o_v0
  refine r_if_ne (pc := 55) C (tgt := 60) dX4_seenLine_55 (by decide) (fun c4 => ?_) (fun c4 => ?_)
  · have h := h.1 c4
    refine r_aload_n (pc := 60) C dX4_seenLine_60 0 rfl ?_
    obtain ⟨a5, ea5, h⟩ := h
    refine r_getr (pc := 61) C fL_X4_18 dX4_seenLine_61 o_v0 ea5 ?_
    obtain ⟨o_a5, h⟩ := h
    obtain ⟨a6, ea6, h⟩ := h
    refine r_getr (pc := 64) C fL_X4_292 dX4_seenLine_64 o_a5 ea6 ?_
    refine r_aload_n (pc := 67) C dX4_seenLine_67 0 rfl ?_
    obtain ⟨a7, ea7, h⟩ := h
    refine r_getr (pc := 68) C fL_X4_18 dX4_seenLine_68 o_v0 ea7 ?_
    obtain ⟨o_a7, h⟩ := h
    refine r_geti (pc := 71) C fL_X4_82 dX4_seenLine_71 o_a7 ?_
    refine r_topi (fun x8 ex8 => ?_)
    have h := h x8 ex8
    refine r_iconst (pc := 74) C (v := (5 : Int32)) dX4_seenLine_74 (by decide) ?_
    refine r_imul (pc := 75) C dX4_seenLine_75 ?_
    refine r_iload_n (pc := 76) C dX4_seenLine_76 1 rfl ?_
    refine r_iadd (pc := 77) C dX4_seenLine_77 ?_
    refine r_aload_n (pc := 78) C dX4_seenLine_78 0 rfl ?_
    refine r_geti (pc := 79) C fL_X4_147 dX4_seenLine_79 o_v0 ?_
    refine r_topi (fun x9 ex9 => ?_)
    have h := h x9 ex9
    obtain ⟨o_a6, h⟩ := h
    obtain ⟨i10, h⟩ := h
    refine r_iast (pc := 82) C dX4_seenLine_82 o_a6 i10 ?_
    refine r_heap (fun S11 eS11 => ?_)
    have h := h S11 eS11
    have o_a5 := ob_I eS11 o_a5
    have o_a6 := ob_I eS11 o_a6
    have o_a7 := ob_I eS11 o_a7
    have o_v0 := ob_I eS11 o_v0
    obtain ⟨x12, ex12⟩ : ∃ z : Int32, z = v1 + (1 : Int32) := ⟨_, rfl⟩
    have h := h x12 ex12
    refine r_iinc (pc := 83) C (v := x12) (lv' := [(1, .int x12), (0, .ref v0)]) dX4_seenLine_83 1 rfl ex12.symm (by decide) rfl ?_
    refine r_goto (pc := 86) C (tgt := 30) dX4_seenLine_86 (by decide) ?_
    exact r_sub [1, 0] rfl (hX30 v0 x12 S11 h)
  · have h := h.2 c4
    refine r_iconst (pc := 58) C (v := (0 : Int32)) dX4_seenLine_58 (by decide) ?_
    exact r_zret (pc := 59) C E ht dX4_seenLine_59 (by decide) (by decide) (Or.inl rfl) h
def B_X4_seenLine_30 (Q : Int32 → HS → Prop) (X30 : Nat → Int32 → HS → Prop) (v0 : Nat) (v1 : Int32) (S : HS) : Prop := (((5 : Int32) ≤ v1) → (ob S v0 4 ∧ (∃ a2 : Nat, fR S v0 5 = some a2 ∧ (ob S a2 8 ∧ (∀ x3 : Int32, x3 = fI S a2 5 → (∀ x4 : Int32, x4 = x3 + (1 : Int32) → (∀ S5 : HS, S5 = sI S a2 5 x4 → (Q (1 : Int32) S5)))))))) ∧ ((¬ (5 : Int32) ≤ v1) → (((v1 ≤ 0) → (P_X4_seenLine_47 Q X30 v0 v1 S)) ∧ ((¬ v1 ≤ 0) → (ob S v0 4 ∧ (P_X4_sign v0 (4 : Int32) (fun x9 S7 => Gr S S7 → bl x9 → (((x9 = 0) → (Q (0 : Int32) S7)) ∧ ((¬ x9 = 0) → (P_X4_seenLine_47 Q X30 v0 v1 S7)))) S)))))
def P_X4_seenLine_30 (Q : Int32 → HS → Prop) (v0 : Nat) (v1 : Int32) (S : HS) : Prop := ∀ X30 : Nat → Int32 → HS → Prop, (∀ (v0 : Nat) (v1 : Int32) (S : HS), B_X4_seenLine_30 Q X30 v0 v1 S → X30 v0 v1 S) → X30 v0 v1 S
set_option maxRecDepth 20000 in
set_option maxHeartbeats 4000000 in
theorem TB_X4_seenLine_30 {X : CX} {Q : Int32 → HS → Prop} (C : Cx X cX4_seenLine RX4 2 rm_X4_seenLine) (E : ReI X rm_X4_seenLine (fun r S => bl r ∧ Q r S)) (ht : (xh X).sig.returnType = (some .boolean)) (hn : (xh X).name = yX4_seenLine.name) {X30 : Nat → Int32 → HS → Prop} (hX30 : ∀ (v0 : Nat) (v1 : Int32) (S : HS), X30 v0 v1 S → WS X 2 0 0 30 [(0, .ref v0), (1, .int v1)] [] S) {v0 : Nat} {v1 : Int32} {S : HS} (h : B_X4_seenLine_30 Q X30 v0 v1 S) : WS X 2 0 0 30 [(0, .ref v0), (1, .int v1)] [] S := by
  refine r_iload_n (pc := 30) C dX4_seenLine_30 1 rfl ?_
  refine r_iconst (pc := 31) C (v := (5 : Int32)) dX4_seenLine_31 (by decide) ?_
  refine r_icmp_ge (pc := 32) C (tgt := 89) dX4_seenLine_32 (by decide) (fun c1 => ?_) (fun c1 => ?_)
  · have h := h.1 c1
    refine r_aload_n (pc := 89) C dX4_seenLine_89 0 rfl ?_
    obtain ⟨o_v0, h⟩ := h
    obtain ⟨a2, ea2, h⟩ := h
    refine r_getr (pc := 90) C fL_X4_18 dX4_seenLine_90 o_v0 ea2 ?_
    refine r_dup (pc := 93) C dX4_seenLine_93 rfl ?_
    obtain ⟨o_a2, h⟩ := h
    refine r_geti (pc := 94) C fL_X4_82 dX4_seenLine_94 o_a2 ?_
    refine r_topi (fun x3 ex3 => ?_)
    have h := h x3 ex3
    refine r_iconst (pc := 97) C (v := (1 : Int32)) dX4_seenLine_97 (by decide) ?_
    refine r_iadd (pc := 98) C dX4_seenLine_98 ?_
    refine r_topi (fun x4 ex4 => ?_)
    have h := h x4 ex4
    refine r_puti (pc := 99) C pfL_X4_82 dX4_seenLine_99 o_a2 ?_
    refine r_heap (fun S5 eS5 => ?_)
    have h := h S5 eS5
    have o_a2 := ob_I eS5 o_a2
    have o_v0 := ob_I eS5 o_v0
    refine r_iconst (pc := 102) C (v := (1 : Int32)) dX4_seenLine_102 (by decide) ?_
    exact r_zret (pc := 103) C E ht dX4_seenLine_103 (by decide) (by decide) (Or.inr rfl) h
  · have h := h.2 c1
    refine r_iload_n (pc := 35) C dX4_seenLine_35 1 rfl ?_
    refine r_if_le (pc := 36) C (tgt := 47) dX4_seenLine_36 (by decide) (fun c6 => ?_) (fun c6 => ?_)
    · have h := h.1 c6
      exact r_sub [0, 1] rfl (T_X4_seenLine_47 C E ht hn hX30 h)
    · have h := h.2 c6
      refine r_aload_n (pc := 39) C dX4_seenLine_39 0 rfl ?_
      refine r_iconst (pc := 40) C (v := (4 : Int32)) dX4_seenLine_40 (by decide) ?_
      obtain ⟨o_v0, h⟩ := h
      refine r_callVi0 (pc := 41) C (rest := []) (a := v0) o_v0 [.int (4 : Int32)] yV_X4_sign g_621 (c_X4_sign h) dX4_seenLine_41 rfl rfl (Nat.le_of_ble_eq_true rfl) ⟨by decide, by decide⟩ ⟨by decide, by decide⟩ ⟨rfl, rfl⟩ (fun x9 S7 h g8 => ?_)
      have bx9 := h.1
      have h := h.2 g8 bx9
      have o_v0 := gr_ob g8 o_v0
      refine r_if_eq (pc := 44) C (tgt := 58) dX4_seenLine_44 (by decide) (fun c10 => ?_) (fun c10 => ?_)
      · have h := h.1 c10
        refine r_iconst (pc := 58) C (v := (0 : Int32)) dX4_seenLine_58 (by decide) ?_
        exact r_zret (pc := 59) C E ht dX4_seenLine_59 (by decide) (by decide) (Or.inl rfl) h
      · have h := h.2 c10
        exact r_sub [0, 1] rfl (T_X4_seenLine_47 C E ht hn hX30 h)
theorem T_X4_seenLine_30 {X : CX} {Q : Int32 → HS → Prop} (C : Cx X cX4_seenLine RX4 2 rm_X4_seenLine) (E : ReI X rm_X4_seenLine (fun r S => bl r ∧ Q r S)) (ht : (xh X).sig.returnType = (some .boolean)) (hn : (xh X).name = yX4_seenLine.name) {v0 : Nat} {v1 : Int32} {S : HS} (h : P_X4_seenLine_30 Q v0 v1 S) : WS X 2 0 0 30 [(0, .ref v0), (1, .int v1)] [] S :=
  h (fun v0 v1 S => WS X 2 0 0 30 [(0, .ref v0), (1, .int v1)] [] S) (fun v0 v1 S hh => TB_X4_seenLine_30 C E ht hn (fun v0 v1 S z => z) hh)
def P_X4_seenLine_0 (Q : Int32 → HS → Prop) (v0 : Nat) (S : HS) : Prop := ob S v0 4 ∧ (P_X4_someWalker v0 (fun x3 S1 => Gr S S1 → bl x3 → (((¬ x3 = 0) → (∃ a5 : Nat, fR S1 v0 5 = some a5 ∧ (ob S1 a5 8 ∧ (∃ a6 : Nat, fR S1 a5 10 = some a6 ∧ (∃ a7 : Nat, fR S1 v0 5 = some a7 ∧ (ob S1 a7 8 ∧ (∀ x8 : Int32, x8 = fI S1 a7 5 → (∀ x9 : Int32, x9 = fI S1 v0 9 → (ob S1 a6 13 ∧ (vp_in x8 (hN S1 a6) ∧ (∀ S11 : HS, S11 = sI S1 a6 x8.toNatClampNeg x9 → (P_X4_seenLine_30 Q v0 (0 : Int32) S11)))))))))))) ∧ ((x3 = 0) → (Q (0 : Int32) S1)))) S)
set_option maxRecDepth 20000 in
set_option maxHeartbeats 4000000 in
theorem T_X4_seenLine_0 {X : CX} {Q : Int32 → HS → Prop} (C : Cx X cX4_seenLine RX4 2 rm_X4_seenLine) (E : ReI X rm_X4_seenLine (fun r S => bl r ∧ Q r S)) (ht : (xh X).sig.returnType = (some .boolean)) (hn : (xh X).name = yX4_seenLine.name) {v0 : Nat} {S : HS} (h : P_X4_seenLine_0 Q v0 S) : WS X 2 0 0 0 [(0, .ref v0)] [] S := by
  refine r_aload_n (pc := 0) C dX4_seenLine_0 0 rfl ?_
  obtain ⟨o_v0, h⟩ := h
  refine r_callVi0 (pc := 1) C (rest := []) (a := v0) o_v0 [] yV_X4_someWalker g_617 (c_X4_someWalker h) dX4_seenLine_1 rfl rfl (Nat.le_of_ble_eq_true rfl) ⟨by decide, by decide⟩ ⟨by decide, by decide⟩ ⟨rfl, rfl⟩ (fun x3 S1 h g2 => ?_)
  have bx3 := h.1
  have h := h.2 g2 bx3
  have o_v0 := gr_ob g2 o_v0
  refine r_if_ne (pc := 4) C (tgt := 9) dX4_seenLine_4 (by decide) (fun c4 => ?_) (fun c4 => ?_)
  · have h := h.1 c4
    refine r_aload_n (pc := 9) C dX4_seenLine_9 0 rfl ?_
    obtain ⟨a5, ea5, h⟩ := h
    refine r_getr (pc := 10) C fL_X4_18 dX4_seenLine_10 o_v0 ea5 ?_
    obtain ⟨o_a5, h⟩ := h
    obtain ⟨a6, ea6, h⟩ := h
    refine r_getr (pc := 13) C fL_X4_289 dX4_seenLine_13 o_a5 ea6 ?_
    refine r_aload_n (pc := 16) C dX4_seenLine_16 0 rfl ?_
    obtain ⟨a7, ea7, h⟩ := h
    refine r_getr (pc := 17) C fL_X4_18 dX4_seenLine_17 o_v0 ea7 ?_
    obtain ⟨o_a7, h⟩ := h
    refine r_geti (pc := 20) C fL_X4_82 dX4_seenLine_20 o_a7 ?_
    refine r_topi (fun x8 ex8 => ?_)
    have h := h x8 ex8
    refine r_aload_n (pc := 23) C dX4_seenLine_23 0 rfl ?_
    refine r_geti (pc := 24) C fL_X4_147 dX4_seenLine_24 o_v0 ?_
    refine r_topi (fun x9 ex9 => ?_)
    have h := h x9 ex9
    obtain ⟨o_a6, h⟩ := h
    obtain ⟨i10, h⟩ := h
    refine r_iast (pc := 27) C dX4_seenLine_27 o_a6 i10 ?_
    refine r_heap (fun S11 eS11 => ?_)
    have h := h S11 eS11
    have o_a5 := ob_I eS11 o_a5
    have o_a6 := ob_I eS11 o_a6
    have o_a7 := ob_I eS11 o_a7
    have o_v0 := ob_I eS11 o_v0
    refine r_iconst (pc := 28) C (v := (0 : Int32)) dX4_seenLine_28 (by decide) ?_
    refine r_istore_n (pc := 29) C dX4_seenLine_29 rfl (by decide) (lv' := [(1, .int (0 : Int32)), (0, .ref v0)]) rfl ?_
    exact r_sub [1, 0] rfl (T_X4_seenLine_30 C E ht hn h)
  · have h := h.2 c4
    refine r_iconst (pc := 7) C (v := (0 : Int32)) dX4_seenLine_7 (by decide) ?_
    exact r_zret (pc := 8) C E ht dX4_seenLine_8 (by decide) (by decide) (Or.inl rfl) h
def P_X4_seenLine (v0 : Nat) (Q : Int32 → HS → Prop) (S : HS) : Prop := P_X4_seenLine_0 Q v0 S
theorem c_X4_seenLine {l : Launch} {Ee : EE} {S : HS} {v0 : Nat} {Q : Int32 → HS → Prop} (h : P_X4_seenLine v0 Q S) : MI l yX4_seenLine cX4_seenLine 2 (some .boolean) rm_X4_seenLine Ee S [.ref v0] (fun r S => bl r ∧ Q r S) :=
  openI (by decide) (Nat.le_of_ble_eq_true rfl) (fun X C E ht hn hE hl => by subst hE; exact r_sub [0] rfl (T_X4_seenLine_0 C E ht hn h))
def rm_X4_walkerLine : Room := { frames := 9, cells := 0, slots := 0, locals := 212 }
def P_X4_walkerLine_0 (Q : Int32 → HS → Prop) (v0 : Nat) (S : HS) : Prop := ob S v0 4 ∧ (∃ a1 : Nat, fR S v0 5 = some a1 ∧ (ob S a1 8 ∧ (∃ a2 : Nat, fR S a1 9 = some a2 ∧ (∃ a3 : Nat, fR S v0 5 = some a3 ∧ (ob S a3 8 ∧ (∀ x4 : Int32, x4 = fI S a3 4 → (ob S a2 19 ∧ (vp_in x4 (hN S a2) ∧ ∃ a6 : Nat, fR S a2 x4.toNatClampNeg = some a6 ∧ (∃ a7 : Nat, fR S v0 5 = some a7 ∧ (ob S a7 8 ∧ (∀ x8 : Int32, x8 = fI S a7 4 → (P_X4_newName v0 ((8 : Int32) + x8) (fun x11 S9 => Gr S S9 → bl x11 → (((x11 = 0) → (Q (0 : Int32) S9)) ∧ ((¬ x11 = 0) → (P_X4_kindOf v0 a6 (fun x15 S13 => Gr S9 S13 → bl x15 → (((x15 = 0) → (Q (0 : Int32) S13)) ∧ ((¬ x15 = 0) → (P_X4_bodyOf v0 a6 (fun x19 S17 => Gr S13 S17 → bl x19 → (((¬ x19 = 0) → (P_X4_wordAndWhole v0 25 (1 : Int32) (9 : Int32) (fun x23 S21 => Gr S17 S21 → bl x23 → (((¬ x23 = 0) → (∀ x25 : Int32, x25 = fI S21 v0 9 → (ob S21 a6 6 ∧ (∀ S26 : HS, S26 = sI S21 a6 5 x25 → (∀ x27 : Int32, x27 = fI S26 a6 5 → (P_X4_wordAndWhole v0 26 x27 (9 : Int32) (fun x30 S28 => Gr S26 S28 → bl x30 → (((¬ x30 = 0) → (∀ x32 : Int32, x32 = fI S28 v0 9 → (∀ S33 : HS, S33 = sI S28 a6 6 x32 → (∃ a34 : Nat, fR S33 v0 5 = some a34 ∧ (ob S33 a34 8 ∧ (∀ x35 : Int32, x35 = fI S33 a34 4 → (∀ x36 : Int32, x36 = x35 + (1 : Int32) → (∀ S37 : HS, S37 = sI S33 a34 4 x36 → (Q (1 : Int32) S37))))))))) ∧ ((x30 = 0) → (Q (0 : Int32) S28)))) S26)))))) ∧ ((x23 = 0) → (Q (0 : Int32) S21)))) S17)) ∧ ((x19 = 0) → (Q (0 : Int32) S17)))) S13)))) S9)))) S))))))))))))
set_option maxRecDepth 20000 in
set_option maxHeartbeats 4000000 in
theorem T_X4_walkerLine_0 {X : CX} {Q : Int32 → HS → Prop} (C : Cx X cX4_walkerLine RX4 2 rm_X4_walkerLine) (E : ReI X rm_X4_walkerLine (fun r S => bl r ∧ Q r S)) (ht : (xh X).sig.returnType = (some .boolean)) (hn : (xh X).name = yX4_walkerLine.name) {v0 : Nat} {S : HS} (h : P_X4_walkerLine_0 Q v0 S) : WS X 2 0 0 0 [(0, .ref v0)] [] S := by
  refine r_aload_n (pc := 0) C dX4_walkerLine_0 0 rfl ?_
  obtain ⟨o_v0, h⟩ := h
  obtain ⟨a1, ea1, h⟩ := h
  refine r_getr (pc := 1) C fL_X4_18 dX4_walkerLine_1 o_v0 ea1 ?_
  obtain ⟨o_a1, h⟩ := h
  obtain ⟨a2, ea2, h⟩ := h
  refine r_getr (pc := 4) C fL_X4_240 dX4_walkerLine_4 o_a1 ea2 ?_
  refine r_aload_n (pc := 7) C dX4_walkerLine_7 0 rfl ?_
  obtain ⟨a3, ea3, h⟩ := h
  refine r_getr (pc := 8) C fL_X4_18 dX4_walkerLine_8 o_v0 ea3 ?_
  obtain ⟨o_a3, h⟩ := h
  refine r_geti (pc := 11) C fL_X4_74 dX4_walkerLine_11 o_a3 ?_
  refine r_topi (fun x4 ex4 => ?_)
  have h := h x4 ex4
  obtain ⟨o_a2, h⟩ := h
  obtain ⟨i5, a6, ea6, h⟩ := h
  refine r_aald19 (pc := 14) C dX4_walkerLine_14 o_a2 i5 ea6 ?_
  refine r_astore_n (pc := 15) C dX4_walkerLine_15 rfl (by decide) (lv' := [(1, .ref a6), (0, .ref v0)]) rfl ?_
  refine r_aload_n (pc := 16) C dX4_walkerLine_16 1 rfl ?_
  refine r_bipush (pc := 17) C (v := (8 : Int32)) dX4_walkerLine_17 (by decide) ?_
  refine r_aload_n (pc := 19) C dX4_walkerLine_19 1 rfl ?_
  obtain ⟨a7, ea7, h⟩ := h
  refine r_getr (pc := 20) C fL_X4_18 dX4_walkerLine_20 o_v0 ea7 ?_
  obtain ⟨o_a7, h⟩ := h
  refine r_geti (pc := 23) C fL_X4_74 dX4_walkerLine_23 o_a7 ?_
  refine r_topi (fun x8 ex8 => ?_)
  have h := h x8 ex8
  refine r_iadd (pc := 26) C dX4_walkerLine_26 ?_
  refine r_callVi0 (pc := 27) C (rest := []) (a := v0) o_v0 [.int ((8 : Int32) + x8)] yV_X4_newName g_562 (c_X4_newName h) dX4_walkerLine_27 rfl rfl (Nat.le_of_ble_eq_true rfl) ⟨by decide, by decide⟩ ⟨by decide, by decide⟩ ⟨rfl, rfl⟩ (fun x11 S9 h g10 => ?_)
  have bx11 := h.1
  have h := h.2 g10 bx11
  have o_a1 := gr_ob g10 o_a1
  have o_a2 := gr_ob g10 o_a2
  have o_a3 := gr_ob g10 o_a3
  have o_a7 := gr_ob g10 o_a7
  have o_v0 := gr_ob g10 o_v0
  refine r_if_eq (pc := 30) C (tgt := 49) dX4_walkerLine_30 (by decide) (fun c12 => ?_) (fun c12 => ?_)
  · have h := h.1 c12
    refine r_iconst (pc := 49) C (v := (0 : Int32)) dX4_walkerLine_49 (by decide) ?_
    exact r_zret (pc := 50) C E ht dX4_walkerLine_50 (by decide) (by decide) (Or.inl rfl) h
  · have h := h.2 c12
    refine r_aload_n (pc := 33) C dX4_walkerLine_33 1 rfl ?_
    refine r_aload_n (pc := 34) C dX4_walkerLine_34 0 rfl ?_
    refine r_callVi0 (pc := 35) C (rest := []) (a := v0) o_v0 [.ref a6] yV_X4_kindOf g_592 (c_X4_kindOf h) dX4_walkerLine_35 rfl rfl (Nat.le_of_ble_eq_true rfl) ⟨by decide, by decide⟩ ⟨by decide, by decide⟩ ⟨rfl, rfl⟩ (fun x15 S13 h g14 => ?_)
    have bx15 := h.1
    have h := h.2 g14 bx15
    have o_a1 := gr_ob g14 o_a1
    have o_a2 := gr_ob g14 o_a2
    have o_a3 := gr_ob g14 o_a3
    have o_a7 := gr_ob g14 o_a7
    have o_v0 := gr_ob g14 o_v0
    refine r_if_eq (pc := 38) C (tgt := 49) dX4_walkerLine_38 (by decide) (fun c16 => ?_) (fun c16 => ?_)
    · have h := h.1 c16
      refine r_iconst (pc := 49) C (v := (0 : Int32)) dX4_walkerLine_49 (by decide) ?_
      exact r_zret (pc := 50) C E ht dX4_walkerLine_50 (by decide) (by decide) (Or.inl rfl) h
    · have h := h.2 c16
      refine r_aload_n (pc := 41) C dX4_walkerLine_41 1 rfl ?_
      refine r_aload_n (pc := 42) C dX4_walkerLine_42 0 rfl ?_
      refine r_callVi0 (pc := 43) C (rest := []) (a := v0) o_v0 [.ref a6] yV_X4_bodyOf g_600 (c_X4_bodyOf h) dX4_walkerLine_43 rfl rfl (Nat.le_of_ble_eq_true rfl) ⟨by decide, by decide⟩ ⟨by decide, by decide⟩ ⟨rfl, rfl⟩ (fun x19 S17 h g18 => ?_)
      have bx19 := h.1
      have h := h.2 g18 bx19
      have o_a1 := gr_ob g18 o_a1
      have o_a2 := gr_ob g18 o_a2
      have o_a3 := gr_ob g18 o_a3
      have o_a7 := gr_ob g18 o_a7
      have o_v0 := gr_ob g18 o_v0
      refine r_if_ne (pc := 46) C (tgt := 51) dX4_walkerLine_46 (by decide) (fun c20 => ?_) (fun c20 => ?_)
      · have h := h.1 c20
        refine r_aload_n (pc := 51) C dX4_walkerLine_51 1 rfl ?_
        refine r_lds (pc := 52) C 25 rfl dX4_walkerLine_52 ?_
        refine r_iconst (pc := 54) C (v := (1 : Int32)) dX4_walkerLine_54 (by decide) ?_
        refine r_bipush (pc := 55) C (v := (9 : Int32)) dX4_walkerLine_55 (by decide) ?_
        refine r_callVi0 (pc := 57) C (rest := []) (a := v0) o_v0 [.ref (eK (xE X) 25), .int (1 : Int32), .int (9 : Int32)] yV_X4_wordAndWhole g_524 (c_X4_wordAndWhole h) dX4_walkerLine_57 rfl rfl (Nat.le_of_ble_eq_true rfl) ⟨by decide, by decide⟩ ⟨by decide, by decide⟩ ⟨rfl, rfl⟩ (fun x23 S21 h g22 => ?_)
        have bx23 := h.1
        have h := h.2 g22 bx23
        have o_a1 := gr_ob g22 o_a1
        have o_a2 := gr_ob g22 o_a2
        have o_a3 := gr_ob g22 o_a3
        have o_a7 := gr_ob g22 o_a7
        have o_v0 := gr_ob g22 o_v0
        refine r_if_ne (pc := 60) C (tgt := 65) dX4_walkerLine_60 (by decide) (fun c24 => ?_) (fun c24 => ?_)
        · have h := h.1 c24
          refine r_aload_n (pc := 65) C dX4_walkerLine_65 0 rfl ?_
          refine r_aload_n (pc := 66) C dX4_walkerLine_66 1 rfl ?_
          refine r_geti (pc := 67) C fL_X4_147 dX4_walkerLine_67 o_v0 ?_
          refine r_topi (fun x25 ex25 => ?_)
          have h := h x25 ex25
          obtain ⟨o_a6, h⟩ := h
          refine r_puti (pc := 70) C pfL_X4_252 dX4_walkerLine_70 o_a6 ?_
          refine r_heap (fun S26 eS26 => ?_)
          have h := h S26 eS26
          have o_a1 := ob_I eS26 o_a1
          have o_a2 := ob_I eS26 o_a2
          have o_a3 := ob_I eS26 o_a3
          have o_a6 := ob_I eS26 o_a6
          have o_a7 := ob_I eS26 o_a7
          have o_v0 := ob_I eS26 o_v0
          refine r_aload_n (pc := 73) C dX4_walkerLine_73 1 rfl ?_
          refine r_ldsw (pc := 74) C 26 rfl dX4_walkerLine_74 ?_
          refine r_aload_n (pc := 77) C dX4_walkerLine_77 0 rfl ?_
          refine r_geti (pc := 78) C fL_X4_252 dX4_walkerLine_78 o_a6 ?_
          refine r_topi (fun x27 ex27 => ?_)
          have h := h x27 ex27
          refine r_bipush (pc := 81) C (v := (9 : Int32)) dX4_walkerLine_81 (by decide) ?_
          refine r_callVi0 (pc := 83) C (rest := []) (a := v0) o_v0 [.ref (eK (xE X) 26), .int x27, .int (9 : Int32)] yV_X4_wordAndWhole g_524 (c_X4_wordAndWhole h) dX4_walkerLine_83 rfl rfl (Nat.le_of_ble_eq_true rfl) ⟨by decide, by decide⟩ ⟨by decide, by decide⟩ ⟨rfl, rfl⟩ (fun x30 S28 h g29 => ?_)
          have bx30 := h.1
          have h := h.2 g29 bx30
          have o_a1 := gr_ob g29 o_a1
          have o_a2 := gr_ob g29 o_a2
          have o_a3 := gr_ob g29 o_a3
          have o_a6 := gr_ob g29 o_a6
          have o_a7 := gr_ob g29 o_a7
          have o_v0 := gr_ob g29 o_v0
          refine r_if_ne (pc := 86) C (tgt := 91) dX4_walkerLine_86 (by decide) (fun c31 => ?_) (fun c31 => ?_)
          · have h := h.1 c31
            refine r_aload_n (pc := 91) C dX4_walkerLine_91 0 rfl ?_
            refine r_aload_n (pc := 92) C dX4_walkerLine_92 1 rfl ?_
            refine r_geti (pc := 93) C fL_X4_147 dX4_walkerLine_93 o_v0 ?_
            refine r_topi (fun x32 ex32 => ?_)
            have h := h x32 ex32
            refine r_puti (pc := 96) C pfL_X4_259 dX4_walkerLine_96 o_a6 ?_
            refine r_heap (fun S33 eS33 => ?_)
            have h := h S33 eS33
            have o_a1 := ob_I eS33 o_a1
            have o_a2 := ob_I eS33 o_a2
            have o_a3 := ob_I eS33 o_a3
            have o_a6 := ob_I eS33 o_a6
            have o_a7 := ob_I eS33 o_a7
            have o_v0 := ob_I eS33 o_v0
            refine r_aload_n (pc := 99) C dX4_walkerLine_99 1 rfl ?_
            obtain ⟨a34, ea34, h⟩ := h
            refine r_getr (pc := 100) C fL_X4_18 dX4_walkerLine_100 o_v0 ea34 ?_
            refine r_dup (pc := 103) C dX4_walkerLine_103 rfl ?_
            obtain ⟨o_a34, h⟩ := h
            refine r_geti (pc := 104) C fL_X4_74 dX4_walkerLine_104 o_a34 ?_
            refine r_topi (fun x35 ex35 => ?_)
            have h := h x35 ex35
            refine r_iconst (pc := 107) C (v := (1 : Int32)) dX4_walkerLine_107 (by decide) ?_
            refine r_iadd (pc := 108) C dX4_walkerLine_108 ?_
            refine r_topi (fun x36 ex36 => ?_)
            have h := h x36 ex36
            refine r_puti (pc := 109) C pfL_X4_74 dX4_walkerLine_109 o_a34 ?_
            refine r_heap (fun S37 eS37 => ?_)
            have h := h S37 eS37
            have o_a1 := ob_I eS37 o_a1
            have o_a2 := ob_I eS37 o_a2
            have o_a3 := ob_I eS37 o_a3
            have o_a34 := ob_I eS37 o_a34
            have o_a6 := ob_I eS37 o_a6
            have o_a7 := ob_I eS37 o_a7
            have o_v0 := ob_I eS37 o_v0
            refine r_iconst (pc := 112) C (v := (1 : Int32)) dX4_walkerLine_112 (by decide) ?_
            exact r_zret (pc := 113) C E ht dX4_walkerLine_113 (by decide) (by decide) (Or.inr rfl) h
          · have h := h.2 c31
            refine r_iconst (pc := 89) C (v := (0 : Int32)) dX4_walkerLine_89 (by decide) ?_
            exact r_zret (pc := 90) C E ht dX4_walkerLine_90 (by decide) (by decide) (Or.inl rfl) h
        · have h := h.2 c24
          refine r_iconst (pc := 63) C (v := (0 : Int32)) dX4_walkerLine_63 (by decide) ?_
          exact r_zret (pc := 64) C E ht dX4_walkerLine_64 (by decide) (by decide) (Or.inl rfl) h
      · have h := h.2 c20
        refine r_iconst (pc := 49) C (v := (0 : Int32)) dX4_walkerLine_49 (by decide) ?_
        exact r_zret (pc := 50) C E ht dX4_walkerLine_50 (by decide) (by decide) (Or.inl rfl) h
def P_X4_walkerLine (v0 : Nat) (Q : Int32 → HS → Prop) (S : HS) : Prop := P_X4_walkerLine_0 Q v0 S
theorem c_X4_walkerLine {l : Launch} {Ee : EE} {S : HS} {v0 : Nat} {Q : Int32 → HS → Prop} (h : P_X4_walkerLine v0 Q S) : MI l yX4_walkerLine cX4_walkerLine 2 (some .boolean) rm_X4_walkerLine Ee S [.ref v0] (fun r S => bl r ∧ Q r S) :=
  openI (by decide) (Nat.le_of_ble_eq_true rfl) (fun X C E ht hn hE hl => by subst hE; exact r_sub [0] rfl (T_X4_walkerLine_0 C E ht hn h))
def rm_X4_worldLine : Room := { frames := 8, cells := 0, slots := 0, locals := 188 }
def P_X4_worldLine_0 (Q : Int32 → HS → Prop) (v0 : Nat) (S : HS) : Prop := ob S v0 4 ∧ (∃ a1 : Nat, fR S v0 5 = some a1 ∧ (ob S a1 8 ∧ (P_X8_isTold a1 (fun x4 S2 => Gr S S2 → bl x4 → (((x4 = 0) → (P_X4_next v0 (fun S6 => Gr S2 S6 → (P_X4_wordAndWhole v0 1 (5 : Int32) (60 : Int32) (fun x11 S9 => Gr S6 S9 → bl x11 → (((¬ x11 = 0) → (∃ a13 : Nat, fR S9 v0 5 = some a13 ∧ (∀ x14 : Int32, x14 = fI S9 v0 9 → (ob S9 a13 8 ∧ (∀ S15 : HS, S15 = sI S9 a13 0 x14 → (Q (1 : Int32) S15)))))) ∧ ((x11 = 0) → (Q (0 : Int32) S9)))) S6)) S2)) ∧ ((¬ x4 = 0) → (P_X4_fail v0 (3 : Int32) (fun x18 S16 => Gr S2 S16 → bl x18 → (bl x18 ∧ Q x18 S16)) S2)))) S)))
set_option maxRecDepth 20000 in
set_option maxHeartbeats 4000000 in
theorem T_X4_worldLine_0 {X : CX} {Q : Int32 → HS → Prop} (C : Cx X cX4_worldLine RX4 1 rm_X4_worldLine) (E : ReI X rm_X4_worldLine (fun r S => bl r ∧ Q r S)) (ht : (xh X).sig.returnType = (some .boolean)) (hn : (xh X).name = yX4_worldLine.name) {v0 : Nat} {S : HS} (h : P_X4_worldLine_0 Q v0 S) : WS X 1 0 0 0 [(0, .ref v0)] [] S := by
  refine r_aload_n (pc := 0) C dX4_worldLine_0 0 rfl ?_
  obtain ⟨o_v0, h⟩ := h
  obtain ⟨a1, ea1, h⟩ := h
  refine r_getr (pc := 1) C fL_X4_18 dX4_worldLine_1 o_v0 ea1 ?_
  obtain ⟨o_a1, h⟩ := h
  refine r_callVi0 (pc := 4) C (rest := []) (a := a1) o_a1 [] yV_X8_isTold g_515 (c_X8_isTold h) dX4_worldLine_4 rfl rfl (Nat.le_of_ble_eq_true rfl) ⟨by decide, by decide⟩ ⟨by decide, by decide⟩ ⟨rfl, rfl⟩ (fun x4 S2 h g3 => ?_)
  have bx4 := h.1
  have h := h.2 g3 bx4
  have o_a1 := gr_ob g3 o_a1
  have o_v0 := gr_ob g3 o_v0
  refine r_if_eq (pc := 7) C (tgt := 16) dX4_worldLine_7 (by decide) (fun c5 => ?_) (fun c5 => ?_)
  · have h := h.1 c5
    refine r_aload_n (pc := 16) C dX4_worldLine_16 0 rfl ?_
    refine r_callVv0 (pc := 17) C (rest := []) (a := v0) o_v0 [] yV_X4_next g_449 (c_X4_next h) dX4_worldLine_17 rfl rfl (Nat.le_of_ble_eq_true rfl) ⟨by decide, by decide⟩ ⟨by decide, by decide⟩ ⟨rfl, rfl⟩ (fun S6 h g7 => ?_)
    have h := h g7
    have o_a1 := gr_ob g7 o_a1
    have o_v0 := gr_ob g7 o_v0
    refine r_aload_n (pc := 20) C dX4_worldLine_20 0 rfl ?_
    refine r_lds (pc := 21) C 1 rfl dX4_worldLine_21 ?_
    refine r_iconst (pc := 23) C (v := (5 : Int32)) dX4_worldLine_23 (by decide) ?_
    refine r_bipush (pc := 24) C (v := (60 : Int32)) dX4_worldLine_24 (by decide) ?_
    refine r_callVi0 (pc := 26) C (rest := []) (a := v0) o_v0 [.ref (eK (xE X) 1), .int (5 : Int32), .int (60 : Int32)] yV_X4_wordAndWhole g_524 (c_X4_wordAndWhole h) dX4_worldLine_26 rfl rfl (Nat.le_of_ble_eq_true rfl) ⟨by decide, by decide⟩ ⟨by decide, by decide⟩ ⟨rfl, rfl⟩ (fun x11 S9 h g10 => ?_)
    have bx11 := h.1
    have h := h.2 g10 bx11
    have o_a1 := gr_ob g10 o_a1
    have o_v0 := gr_ob g10 o_v0
    refine r_if_ne (pc := 29) C (tgt := 34) dX4_worldLine_29 (by decide) (fun c12 => ?_) (fun c12 => ?_)
    · have h := h.1 c12
      refine r_aload_n (pc := 34) C dX4_worldLine_34 0 rfl ?_
      obtain ⟨a13, ea13, h⟩ := h
      refine r_getr (pc := 35) C fL_X4_18 dX4_worldLine_35 o_v0 ea13 ?_
      refine r_aload_n (pc := 38) C dX4_worldLine_38 0 rfl ?_
      refine r_geti (pc := 39) C fL_X4_147 dX4_worldLine_39 o_v0 ?_
      refine r_topi (fun x14 ex14 => ?_)
      have h := h x14 ex14
      obtain ⟨o_a13, h⟩ := h
      refine r_puti (pc := 42) C pfL_X4_185 dX4_worldLine_42 o_a13 ?_
      refine r_heap (fun S15 eS15 => ?_)
      have h := h S15 eS15
      have o_a1 := ob_I eS15 o_a1
      have o_a13 := ob_I eS15 o_a13
      have o_v0 := ob_I eS15 o_v0
      refine r_iconst (pc := 45) C (v := (1 : Int32)) dX4_worldLine_45 (by decide) ?_
      exact r_zret (pc := 46) C E ht dX4_worldLine_46 (by decide) (by decide) (Or.inr rfl) h
    · have h := h.2 c12
      refine r_iconst (pc := 32) C (v := (0 : Int32)) dX4_worldLine_32 (by decide) ?_
      exact r_zret (pc := 33) C E ht dX4_worldLine_33 (by decide) (by decide) (Or.inl rfl) h
  · have h := h.2 c5
    refine r_aload_n (pc := 10) C dX4_worldLine_10 0 rfl ?_
    refine r_iconst (pc := 11) C (v := (3 : Int32)) dX4_worldLine_11 (by decide) ?_
    refine r_callVi0 (pc := 12) C (rest := []) (a := v0) o_v0 [.int (3 : Int32)] yV_X4_fail g_519 (c_X4_fail h) dX4_worldLine_12 rfl rfl (Nat.le_of_ble_eq_true rfl) ⟨by decide, by decide⟩ ⟨by decide, by decide⟩ ⟨rfl, rfl⟩ (fun x18 S16 h g17 => ?_)
    have bx18 := h.1
    have h := h.2 g17 bx18
    have o_a1 := gr_ob g17 o_a1
    have o_v0 := gr_ob g17 o_v0
    exact r_zret (pc := 15) C E ht dX4_worldLine_15 (by decide) (by decide) h.1 h.2
def P_X4_worldLine (v0 : Nat) (Q : Int32 → HS → Prop) (S : HS) : Prop := P_X4_worldLine_0 Q v0 S
theorem c_X4_worldLine {l : Launch} {Ee : EE} {S : HS} {v0 : Nat} {Q : Int32 → HS → Prop} (h : P_X4_worldLine v0 Q S) : MI l yX4_worldLine cX4_worldLine 1 (some .boolean) rm_X4_worldLine Ee S [.ref v0] (fun r S => bl r ∧ Q r S) :=
  openI (by decide) (Nat.le_of_ble_eq_true rfl) (fun X C E ht hn hE hl => by subst hE; exact r_sub [0] rfl (T_X4_worldLine_0 C E ht hn h))
def rm_X4_read : Room := { frames := 10, cells := 0, slots := 0, locals := 233 }
def P_X4_read_280 (Q : Int32 → HS → Prop) (v0 : Nat) (S : HS) : Prop := ob S v0 4 ∧ (P_X4_fail v0 (6 : Int32) (fun x3 S1 => Gr S S1 → bl x3 → (((x3 = 0) → (Q (0 : Int32) S1)) ∧ ((¬ x3 = 0) → (Q (1 : Int32) S1)))) S)
set_option maxRecDepth 20000 in
set_option maxHeartbeats 4000000 in
theorem T_X4_read_280 {X : CX} {Q : Int32 → HS → Prop} (C : Cx X cX4_read RX4 5 rm_X4_read) (E : ReI X rm_X4_read (fun r S => bl r ∧ Q r S)) (ht : (xh X).sig.returnType = (some .boolean)) (hn : (xh X).name = yX4_read.name) {v0 : Nat} {S : HS} (h : P_X4_read_280 Q v0 S) : WS X 5 0 0 280 [(0, .ref v0)] [] S := by
  refine r_aload_n (pc := 280) C dX4_read_280 0 rfl ?_
  refine r_bipush (pc := 281) C (v := (6 : Int32)) dX4_read_281 (by decide) ?_
  obtain ⟨o_v0, h⟩ := h
  refine r_callVi0 (pc := 283) C (rest := []) (a := v0) o_v0 [.int (6 : Int32)] yV_X4_fail g_519 (c_X4_fail h) dX4_read_283 rfl rfl (Nat.le_of_ble_eq_true rfl) ⟨by decide, by decide⟩ ⟨by decide, by decide⟩ ⟨rfl, rfl⟩ (fun x3 S1 h g2 => ?_)
  have bx3 := h.1
  have h := h.2 g2 bx3
  have o_v0 := gr_ob g2 o_v0
  refine r_if_eq (pc := 286) C (tgt := 293) dX4_read_286 (by decide) (fun c4 => ?_) (fun c4 => ?_)
  · have h := h.1 c4
    refine r_iconst (pc := 293) C (v := (0 : Int32)) dX4_read_293 (by decide) ?_
    exact r_zret (pc := 294) C E ht dX4_read_294 (by decide) (by decide) (Or.inl rfl) h
  · have h := h.2 c4
    refine r_iconst (pc := 289) C (v := (1 : Int32)) dX4_read_289 (by decide) ?_
    refine r_goto (pc := 290) C (tgt := 294) dX4_read_290 (by decide) ?_
    exact r_zret (pc := 294) C E ht dX4_read_294 (by decide) (by decide) (Or.inr rfl) h
def P_X4_read_295 (Q : Int32 → HS → Prop) (X8 : Nat → Int32 → HS → Prop) (v0 : Nat) (v3 : Int32) (v4 : Int32) (S : HS) : Prop := ((v4 = 0) → (Q (0 : Int32) S)) ∧ ((¬ v4 = 0) → (ob S v0 4 ∧ (P_X4_sign v0 (3 : Int32) (fun x4 S2 => Gr S S2 → bl x4 → (((¬ x4 = 0) → (∀ x6 : Int32, x6 = v3 + (1 : Int32) → (X8 v0 x6 S2))) ∧ ((x4 = 0) → (Q (0 : Int32) S2)))) S)))
set_option maxRecDepth 20000 in
set_option maxHeartbeats 4000000 in
theorem T_X4_read_295 {X : CX} {Q : Int32 → HS → Prop} (C : Cx X cX4_read RX4 5 rm_X4_read) (E : ReI X rm_X4_read (fun r S => bl r ∧ Q r S)) (ht : (xh X).sig.returnType = (some .boolean)) (hn : (xh X).name = yX4_read.name) {X8 : Nat → Int32 → HS → Prop} (hX8 : ∀ (v0 : Nat) (v3 : Int32) (S : HS), X8 v0 v3 S → WS X 5 0 0 8 [(0, .ref v0), (3, .int v3)] [] S) {v0 : Nat} {v3 : Int32} {v4 : Int32} {S : HS} (h : P_X4_read_295 Q X8 v0 v3 v4 S) : WS X 5 0 0 295 [(0, .ref v0), (3, .int v3), (4, .int v4)] [] S := by
  refine r_iload (pc := 295) C dX4_read_295 2 rfl ?_
  refine r_if_eq (pc := 297) C (tgt := 308) dX4_read_297 (by decide) (fun c1 => ?_) (fun c1 => ?_)
  · have h := h.1 c1
    refine r_iconst (pc := 308) C (v := (0 : Int32)) dX4_read_308 (by decide) ?_
    exact r_zret (pc := 309) C E ht dX4_read_309 (by decide) (by decide) (Or.inl rfl) h
  · have h := h.2 c1
    refine r_aload_n (pc := 300) C dX4_read_300 0 rfl ?_
    refine r_iconst (pc := 301) C (v := (3 : Int32)) dX4_read_301 (by decide) ?_
    obtain ⟨o_v0, h⟩ := h
    refine r_callVi0 (pc := 302) C (rest := []) (a := v0) o_v0 [.int (3 : Int32)] yV_X4_sign g_621 (c_X4_sign h) dX4_read_302 rfl rfl (Nat.le_of_ble_eq_true rfl) ⟨by decide, by decide⟩ ⟨by decide, by decide⟩ ⟨rfl, rfl⟩ (fun x4 S2 h g3 => ?_)
    have bx4 := h.1
    have h := h.2 g3 bx4
    have o_v0 := gr_ob g3 o_v0
    refine r_if_ne (pc := 305) C (tgt := 310) dX4_read_305 (by decide) (fun c5 => ?_) (fun c5 => ?_)
    · have h := h.1 c5
      obtain ⟨x6, ex6⟩ : ∃ z : Int32, z = v3 + (1 : Int32) := ⟨_, rfl⟩
      have h := h x6 ex6
      refine r_iinc (pc := 310) C (v := x6) (lv' := [(3, .int x6), (0, .ref v0), (4, .int v4)]) dX4_read_310 1 rfl ex6.symm (by decide) rfl ?_
      refine r_goto (pc := 313) C (tgt := 8) dX4_read_313 (by decide) ?_
      exact r_sub [1, 0] rfl (hX8 v0 x6 S2 h)
    · have h := h.2 c5
      refine r_iconst (pc := 308) C (v := (0 : Int32)) dX4_read_308 (by decide) ?_
      exact r_zret (pc := 309) C E ht dX4_read_309 (by decide) (by decide) (Or.inl rfl) h
def P_X4_read_248 (Q : Int32 → HS → Prop) (X8 : Nat → Int32 → HS → Prop) (v0 : Nat) (v3 : Int32) (v4 : Int32) (S : HS) : Prop := ((v4 = 0) → (P_X4_read_295 Q X8 v0 v3 v4 S)) ∧ ((¬ v4 = 0) → (ob S v0 4 ∧ (∀ x2 : Int32, x2 = fI S v0 6 → (((¬ x2 = 0) → (P_X4_read_295 Q X8 v0 v3 v4 S)) ∧ ((x2 = 0) → (∃ a4 : Nat, fR S v0 5 = some a4 ∧ (ob S a4 8 ∧ (∀ x5 : Int32, x5 = fI S a4 2 → (((x5 ≤ 0) → (P_X4_read_280 Q v0 S)) ∧ ((¬ x5 ≤ 0) → (∃ a7 : Nat, fR S v0 5 = some a7 ∧ (ob S a7 8 ∧ (∀ x8 : Int32, x8 = fI S a7 4 → (((0 < x8) → (Q (1 : Int32) S)) ∧ ((¬ 0 < x8) → (P_X4_read_280 Q v0 S))))))))))))))))
set_option maxRecDepth 20000 in
set_option maxHeartbeats 4000000 in
theorem T_X4_read_248 {X : CX} {Q : Int32 → HS → Prop} (C : Cx X cX4_read RX4 5 rm_X4_read) (E : ReI X rm_X4_read (fun r S => bl r ∧ Q r S)) (ht : (xh X).sig.returnType = (some .boolean)) (hn : (xh X).name = yX4_read.name) {X8 : Nat → Int32 → HS → Prop} (hX8 : ∀ (v0 : Nat) (v3 : Int32) (S : HS), X8 v0 v3 S → WS X 5 0 0 8 [(0, .ref v0), (3, .int v3)] [] S) {v0 : Nat} {v3 : Int32} {v4 : Int32} {S : HS} (h : P_X4_read_248 Q X8 v0 v3 v4 S) : WS X 5 0 0 248 [(0, .ref v0), (3, .int v3), (4, .int v4)] [] S := by
  refine r_iload (pc := 248) C dX4_read_248 2 rfl ?_
  refine r_if_eq (pc := 250) C (tgt := 295) dX4_read_250 (by decide) (fun c1 => ?_) (fun c1 => ?_)
  · have h := h.1 c1
    exact r_sub [0, 1, 2] rfl (T_X4_read_295 C E ht hn hX8 h)
  · have h := h.2 c1
    refine r_aload_n (pc := 253) C dX4_read_253 0 rfl ?_
    obtain ⟨o_v0, h⟩ := h
    refine r_geti (pc := 254) C fL_X4_92 dX4_read_254 o_v0 ?_
    refine r_topi (fun x2 ex2 => ?_)
    have h := h x2 ex2
    refine r_if_ne (pc := 257) C (tgt := 295) dX4_read_257 (by decide) (fun c3 => ?_) (fun c3 => ?_)
    · have h := h.1 c3
      exact r_sub [0, 1, 2] rfl (T_X4_read_295 C E ht hn hX8 h)
    · have h := h.2 c3
      refine r_aload_n (pc := 260) C dX4_read_260 0 rfl ?_
      obtain ⟨a4, ea4, h⟩ := h
      refine r_getr (pc := 261) C fL_X4_18 dX4_read_261 o_v0 ea4 ?_
      obtain ⟨o_a4, h⟩ := h
      refine r_geti (pc := 264) C fL_X4_58 dX4_read_264 o_a4 ?_
      refine r_topi (fun x5 ex5 => ?_)
      have h := h x5 ex5
      refine r_if_le (pc := 267) C (tgt := 280) dX4_read_267 (by decide) (fun c6 => ?_) (fun c6 => ?_)
      · have h := h.1 c6
        exact r_sub [0] rfl (T_X4_read_280 C E ht hn h)
      · have h := h.2 c6
        refine r_aload_n (pc := 270) C dX4_read_270 0 rfl ?_
        obtain ⟨a7, ea7, h⟩ := h
        refine r_getr (pc := 271) C fL_X4_18 dX4_read_271 o_v0 ea7 ?_
        obtain ⟨o_a7, h⟩ := h
        refine r_geti (pc := 274) C fL_X4_74 dX4_read_274 o_a7 ?_
        refine r_topi (fun x8 ex8 => ?_)
        have h := h x8 ex8
        refine r_if_gt (pc := 277) C (tgt := 289) dX4_read_277 (by decide) (fun c9 => ?_) (fun c9 => ?_)
        · have h := h.1 c9
          refine r_iconst (pc := 289) C (v := (1 : Int32)) dX4_read_289 (by decide) ?_
          refine r_goto (pc := 290) C (tgt := 294) dX4_read_290 (by decide) ?_
          exact r_zret (pc := 294) C E ht dX4_read_294 (by decide) (by decide) (Or.inr rfl) h
        · have h := h.2 c9
          exact r_sub [0] rfl (T_X4_read_280 C E ht hn h)
def P_X4_read_70 (Q : Int32 → HS → Prop) (X8 : Nat → Int32 → HS → Prop) (v0 : Nat) (v3 : Int32) (s0 : Int32) (S : HS) : Prop := P_X4_read_248 Q X8 v0 v3 s0 S
set_option maxRecDepth 20000 in
set_option maxHeartbeats 4000000 in
theorem T_X4_read_70 {X : CX} {Q : Int32 → HS → Prop} (C : Cx X cX4_read RX4 5 rm_X4_read) (E : ReI X rm_X4_read (fun r S => bl r ∧ Q r S)) (ht : (xh X).sig.returnType = (some .boolean)) (hn : (xh X).name = yX4_read.name) {X8 : Nat → Int32 → HS → Prop} (hX8 : ∀ (v0 : Nat) (v3 : Int32) (S : HS), X8 v0 v3 S → WS X 5 0 0 8 [(0, .ref v0), (3, .int v3)] [] S) {v0 : Nat} {v3 : Int32} {s0 : Int32} {S : HS} (h : P_X4_read_70 Q X8 v0 v3 s0 S) : WS X 5 0 0 70 [(0, .ref v0), (3, .int v3)] [.int s0] S := by
  refine r_istore (pc := 70) C dX4_read_70 (by decide) (lv' := [(4, .int s0), (0, .ref v0), (3, .int v3)]) rfl ?_
  refine r_goto (pc := 72) C (tgt := 248) dX4_read_72 (by decide) ?_
  exact r_sub [1, 2, 0] rfl (T_X4_read_248 C E ht hn hX8 h)
def P_X4_read_69 (Q : Int32 → HS → Prop) (X8 : Nat → Int32 → HS → Prop) (v0 : Nat) (v3 : Int32) (S : HS) : Prop := P_X4_read_70 Q X8 v0 v3 (0 : Int32) S
set_option maxRecDepth 20000 in
set_option maxHeartbeats 4000000 in
theorem T_X4_read_69 {X : CX} {Q : Int32 → HS → Prop} (C : Cx X cX4_read RX4 5 rm_X4_read) (E : ReI X rm_X4_read (fun r S => bl r ∧ Q r S)) (ht : (xh X).sig.returnType = (some .boolean)) (hn : (xh X).name = yX4_read.name) {X8 : Nat → Int32 → HS → Prop} (hX8 : ∀ (v0 : Nat) (v3 : Int32) (S : HS), X8 v0 v3 S → WS X 5 0 0 8 [(0, .ref v0), (3, .int v3)] [] S) {v0 : Nat} {v3 : Int32} {S : HS} (h : P_X4_read_69 Q X8 v0 v3 S) : WS X 5 0 0 69 [(0, .ref v0), (3, .int v3)] [] S := by
  refine r_iconst (pc := 69) C (v := (0 : Int32)) dX4_read_69 (by decide) ?_
  exact r_sub [0, 1] rfl (T_X4_read_70 C E ht hn hX8 h)
def P_X4_read_112 (Q : Int32 → HS → Prop) (X8 : Nat → Int32 → HS → Prop) (v0 : Nat) (v3 : Int32) (s0 : Int32) (S : HS) : Prop := P_X4_read_248 Q X8 v0 v3 s0 S
set_option maxRecDepth 20000 in
set_option maxHeartbeats 4000000 in
theorem T_X4_read_112 {X : CX} {Q : Int32 → HS → Prop} (C : Cx X cX4_read RX4 5 rm_X4_read) (E : ReI X rm_X4_read (fun r S => bl r ∧ Q r S)) (ht : (xh X).sig.returnType = (some .boolean)) (hn : (xh X).name = yX4_read.name) {X8 : Nat → Int32 → HS → Prop} (hX8 : ∀ (v0 : Nat) (v3 : Int32) (S : HS), X8 v0 v3 S → WS X 5 0 0 8 [(0, .ref v0), (3, .int v3)] [] S) {v0 : Nat} {v3 : Int32} {s0 : Int32} {S : HS} (h : P_X4_read_112 Q X8 v0 v3 s0 S) : WS X 5 0 0 112 [(0, .ref v0), (3, .int v3)] [.int s0] S := by
  refine r_istore (pc := 112) C dX4_read_112 (by decide) (lv' := [(4, .int s0), (0, .ref v0), (3, .int v3)]) rfl ?_
  refine r_goto (pc := 114) C (tgt := 248) dX4_read_114 (by decide) ?_
  exact r_sub [1, 2, 0] rfl (T_X4_read_248 C E ht hn hX8 h)
def P_X4_read_111 (Q : Int32 → HS → Prop) (X8 : Nat → Int32 → HS → Prop) (v0 : Nat) (v3 : Int32) (S : HS) : Prop := P_X4_read_112 Q X8 v0 v3 (0 : Int32) S
set_option maxRecDepth 20000 in
set_option maxHeartbeats 4000000 in
theorem T_X4_read_111 {X : CX} {Q : Int32 → HS → Prop} (C : Cx X cX4_read RX4 5 rm_X4_read) (E : ReI X rm_X4_read (fun r S => bl r ∧ Q r S)) (ht : (xh X).sig.returnType = (some .boolean)) (hn : (xh X).name = yX4_read.name) {X8 : Nat → Int32 → HS → Prop} (hX8 : ∀ (v0 : Nat) (v3 : Int32) (S : HS), X8 v0 v3 S → WS X 5 0 0 8 [(0, .ref v0), (3, .int v3)] [] S) {v0 : Nat} {v3 : Int32} {S : HS} (h : P_X4_read_111 Q X8 v0 v3 S) : WS X 5 0 0 111 [(0, .ref v0), (3, .int v3)] [] S := by
  refine r_iconst (pc := 111) C (v := (0 : Int32)) dX4_read_111 (by decide) ?_
  exact r_sub [0, 1] rfl (T_X4_read_112 C E ht hn hX8 h)
def P_X4_read_154 (Q : Int32 → HS → Prop) (X8 : Nat → Int32 → HS → Prop) (v0 : Nat) (v3 : Int32) (s0 : Int32) (S : HS) : Prop := P_X4_read_248 Q X8 v0 v3 s0 S
set_option maxRecDepth 20000 in
set_option maxHeartbeats 4000000 in
theorem T_X4_read_154 {X : CX} {Q : Int32 → HS → Prop} (C : Cx X cX4_read RX4 5 rm_X4_read) (E : ReI X rm_X4_read (fun r S => bl r ∧ Q r S)) (ht : (xh X).sig.returnType = (some .boolean)) (hn : (xh X).name = yX4_read.name) {X8 : Nat → Int32 → HS → Prop} (hX8 : ∀ (v0 : Nat) (v3 : Int32) (S : HS), X8 v0 v3 S → WS X 5 0 0 8 [(0, .ref v0), (3, .int v3)] [] S) {v0 : Nat} {v3 : Int32} {s0 : Int32} {S : HS} (h : P_X4_read_154 Q X8 v0 v3 s0 S) : WS X 5 0 0 154 [(0, .ref v0), (3, .int v3)] [.int s0] S := by
  refine r_istore (pc := 154) C dX4_read_154 (by decide) (lv' := [(4, .int s0), (0, .ref v0), (3, .int v3)]) rfl ?_
  refine r_goto (pc := 156) C (tgt := 248) dX4_read_156 (by decide) ?_
  exact r_sub [1, 2, 0] rfl (T_X4_read_248 C E ht hn hX8 h)
def P_X4_read_153 (Q : Int32 → HS → Prop) (X8 : Nat → Int32 → HS → Prop) (v0 : Nat) (v3 : Int32) (S : HS) : Prop := P_X4_read_154 Q X8 v0 v3 (0 : Int32) S
set_option maxRecDepth 20000 in
set_option maxHeartbeats 4000000 in
theorem T_X4_read_153 {X : CX} {Q : Int32 → HS → Prop} (C : Cx X cX4_read RX4 5 rm_X4_read) (E : ReI X rm_X4_read (fun r S => bl r ∧ Q r S)) (ht : (xh X).sig.returnType = (some .boolean)) (hn : (xh X).name = yX4_read.name) {X8 : Nat → Int32 → HS → Prop} (hX8 : ∀ (v0 : Nat) (v3 : Int32) (S : HS), X8 v0 v3 S → WS X 5 0 0 8 [(0, .ref v0), (3, .int v3)] [] S) {v0 : Nat} {v3 : Int32} {S : HS} (h : P_X4_read_153 Q X8 v0 v3 S) : WS X 5 0 0 153 [(0, .ref v0), (3, .int v3)] [] S := by
  refine r_iconst (pc := 153) C (v := (0 : Int32)) dX4_read_153 (by decide) ?_
  exact r_sub [0, 1] rfl (T_X4_read_154 C E ht hn hX8 h)
def P_X4_read_195 (Q : Int32 → HS → Prop) (X8 : Nat → Int32 → HS → Prop) (v0 : Nat) (v3 : Int32) (s0 : Int32) (S : HS) : Prop := P_X4_read_248 Q X8 v0 v3 s0 S
set_option maxRecDepth 20000 in
set_option maxHeartbeats 4000000 in
theorem T_X4_read_195 {X : CX} {Q : Int32 → HS → Prop} (C : Cx X cX4_read RX4 5 rm_X4_read) (E : ReI X rm_X4_read (fun r S => bl r ∧ Q r S)) (ht : (xh X).sig.returnType = (some .boolean)) (hn : (xh X).name = yX4_read.name) {X8 : Nat → Int32 → HS → Prop} (hX8 : ∀ (v0 : Nat) (v3 : Int32) (S : HS), X8 v0 v3 S → WS X 5 0 0 8 [(0, .ref v0), (3, .int v3)] [] S) {v0 : Nat} {v3 : Int32} {s0 : Int32} {S : HS} (h : P_X4_read_195 Q X8 v0 v3 s0 S) : WS X 5 0 0 195 [(0, .ref v0), (3, .int v3)] [.int s0] S := by
  refine r_istore (pc := 195) C dX4_read_195 (by decide) (lv' := [(4, .int s0), (0, .ref v0), (3, .int v3)]) rfl ?_
  refine r_goto (pc := 197) C (tgt := 248) dX4_read_197 (by decide) ?_
  exact r_sub [1, 2, 0] rfl (T_X4_read_248 C E ht hn hX8 h)
def P_X4_read_194 (Q : Int32 → HS → Prop) (X8 : Nat → Int32 → HS → Prop) (v0 : Nat) (v3 : Int32) (S : HS) : Prop := P_X4_read_195 Q X8 v0 v3 (0 : Int32) S
set_option maxRecDepth 20000 in
set_option maxHeartbeats 4000000 in
theorem T_X4_read_194 {X : CX} {Q : Int32 → HS → Prop} (C : Cx X cX4_read RX4 5 rm_X4_read) (E : ReI X rm_X4_read (fun r S => bl r ∧ Q r S)) (ht : (xh X).sig.returnType = (some .boolean)) (hn : (xh X).name = yX4_read.name) {X8 : Nat → Int32 → HS → Prop} (hX8 : ∀ (v0 : Nat) (v3 : Int32) (S : HS), X8 v0 v3 S → WS X 5 0 0 8 [(0, .ref v0), (3, .int v3)] [] S) {v0 : Nat} {v3 : Int32} {S : HS} (h : P_X4_read_194 Q X8 v0 v3 S) : WS X 5 0 0 194 [(0, .ref v0), (3, .int v3)] [] S := by
  refine r_iconst (pc := 194) C (v := (0 : Int32)) dX4_read_194 (by decide) ?_
  exact r_sub [0, 1] rfl (T_X4_read_195 C E ht hn hX8 h)
def P_X4_read_236 (Q : Int32 → HS → Prop) (X8 : Nat → Int32 → HS → Prop) (v0 : Nat) (v3 : Int32) (s0 : Int32) (S : HS) : Prop := P_X4_read_248 Q X8 v0 v3 s0 S
set_option maxRecDepth 20000 in
set_option maxHeartbeats 4000000 in
theorem T_X4_read_236 {X : CX} {Q : Int32 → HS → Prop} (C : Cx X cX4_read RX4 5 rm_X4_read) (E : ReI X rm_X4_read (fun r S => bl r ∧ Q r S)) (ht : (xh X).sig.returnType = (some .boolean)) (hn : (xh X).name = yX4_read.name) {X8 : Nat → Int32 → HS → Prop} (hX8 : ∀ (v0 : Nat) (v3 : Int32) (S : HS), X8 v0 v3 S → WS X 5 0 0 8 [(0, .ref v0), (3, .int v3)] [] S) {v0 : Nat} {v3 : Int32} {s0 : Int32} {S : HS} (h : P_X4_read_236 Q X8 v0 v3 s0 S) : WS X 5 0 0 236 [(0, .ref v0), (3, .int v3)] [.int s0] S := by
  refine r_istore (pc := 236) C dX4_read_236 (by decide) (lv' := [(4, .int s0), (0, .ref v0), (3, .int v3)]) rfl ?_
  refine r_goto (pc := 238) C (tgt := 248) dX4_read_238 (by decide) ?_
  exact r_sub [1, 2, 0] rfl (T_X4_read_248 C E ht hn hX8 h)
def P_X4_read_235 (Q : Int32 → HS → Prop) (X8 : Nat → Int32 → HS → Prop) (v0 : Nat) (v3 : Int32) (S : HS) : Prop := P_X4_read_236 Q X8 v0 v3 (0 : Int32) S
set_option maxRecDepth 20000 in
set_option maxHeartbeats 4000000 in
theorem T_X4_read_235 {X : CX} {Q : Int32 → HS → Prop} (C : Cx X cX4_read RX4 5 rm_X4_read) (E : ReI X rm_X4_read (fun r S => bl r ∧ Q r S)) (ht : (xh X).sig.returnType = (some .boolean)) (hn : (xh X).name = yX4_read.name) {X8 : Nat → Int32 → HS → Prop} (hX8 : ∀ (v0 : Nat) (v3 : Int32) (S : HS), X8 v0 v3 S → WS X 5 0 0 8 [(0, .ref v0), (3, .int v3)] [] S) {v0 : Nat} {v3 : Int32} {S : HS} (h : P_X4_read_235 Q X8 v0 v3 S) : WS X 5 0 0 235 [(0, .ref v0), (3, .int v3)] [] S := by
  refine r_iconst (pc := 235) C (v := (0 : Int32)) dX4_read_235 (by decide) ?_
  exact r_sub [0, 1] rfl (T_X4_read_236 C E ht hn hX8 h)
def B_X4_read_8 (Q : Int32 → HS → Prop) (X8 : Nat → Int32 → HS → Prop) (v0 : Nat) (v3 : Int32) (S : HS) : Prop := (((900 : Int32) < v3) → (ob S v0 4 ∧ (P_X4_fail v0 (1 : Int32) (fun x4 S2 => Gr S S2 → bl x4 → (bl x4 ∧ Q x4 S2)) S))) ∧ ((¬ (900 : Int32) < v3) → (ob S v0 4 ∧ (P_X4_is v0 0 (fun x7 S5 => Gr S S5 → bl x7 → (((x7 = 0) → (P_X4_is v0 2 (fun x11 S9 => Gr S5 S9 → bl x11 → (((x11 = 0) → (P_X4_is v0 11 (fun x15 S13 => Gr S9 S13 → bl x15 → (((x15 = 0) → (P_X4_is v0 12 (fun x19 S17 => Gr S13 S17 → bl x19 → (((x19 = 0) → (P_X4_is v0 13 (fun x23 S21 => Gr S17 S21 → bl x23 → (((x23 = 0) → (P_X4_is v0 14 (fun x27 S25 => Gr S21 S25 → bl x27 → (((x27 = 0) → (P_X4_fail v0 (1 : Int32) (fun x31 S29 => Gr S25 S29 → bl x31 → (P_X4_read_248 Q X8 v0 v3 x31 S29)) S25)) ∧ ((¬ x27 = 0) → (∃ a32 : Nat, fR S25 v0 5 = some a32 ∧ (ob S25 a32 8 ∧ (∀ x33 : Int32, x33 = fI S25 a32 5 → (P_X4_hasRoom v0 x33 (4 : Int32) (fun x36 S34 => Gr S25 S34 → bl x36 → (((x36 = 0) → (P_X4_read_235 Q X8 v0 v3 S34)) ∧ ((¬ x36 = 0) → (P_X4_seenLine v0 (fun x40 S38 => Gr S34 S38 → bl x40 → (((x40 = 0) → (P_X4_read_235 Q X8 v0 v3 S38)) ∧ ((¬ x40 = 0) → (P_X4_read_236 Q X8 v0 v3 (1 : Int32) S38)))) S34)))) S25))))))) S21)) ∧ ((¬ x23 = 0) → (∃ a42 : Nat, fR S21 v0 5 = some a42 ∧ (ob S21 a42 8 ∧ (∀ x43 : Int32, x43 = fI S21 a42 4 → (P_X4_hasRoom v0 x43 (4 : Int32) (fun x46 S44 => Gr S21 S44 → bl x46 → (((x46 = 0) → (P_X4_read_194 Q X8 v0 v3 S44)) ∧ ((¬ x46 = 0) → (P_X4_walkerLine v0 (fun x50 S48 => Gr S44 S48 → bl x50 → (((x50 = 0) → (P_X4_read_194 Q X8 v0 v3 S48)) ∧ ((¬ x50 = 0) → (P_X4_read_195 Q X8 v0 v3 (1 : Int32) S48)))) S44)))) S21))))))) S17)) ∧ ((¬ x19 = 0) → (∃ a52 : Nat, fR S17 v0 5 = some a52 ∧ (ob S17 a52 8 ∧ (∀ x53 : Int32, x53 = fI S17 a52 3 → (P_X4_hasRoom v0 x53 (12 : Int32) (fun x56 S54 => Gr S17 S54 → bl x56 → (((x56 = 0) → (P_X4_read_153 Q X8 v0 v3 S54)) ∧ ((¬ x56 = 0) → (P_X4_roadLine v0 (fun x60 S58 => Gr S54 S58 → bl x60 → (((x60 = 0) → (P_X4_read_153 Q X8 v0 v3 S58)) ∧ ((¬ x60 = 0) → (P_X4_read_154 Q X8 v0 v3 (1 : Int32) S58)))) S54)))) S17))))))) S13)) ∧ ((¬ x15 = 0) → (∃ a62 : Nat, fR S13 v0 5 = some a62 ∧ (ob S13 a62 8 ∧ (∀ x63 : Int32, x63 = fI S13 a62 2 → (P_X4_hasRoom v0 x63 (8 : Int32) (fun x66 S64 => Gr S13 S64 → bl x66 → (((x66 = 0) → (P_X4_read_111 Q X8 v0 v3 S64)) ∧ ((¬ x66 = 0) → (P_X4_placeLine v0 (fun x70 S68 => Gr S64 S68 → bl x70 → (((x70 = 0) → (P_X4_read_111 Q X8 v0 v3 S68)) ∧ ((¬ x70 = 0) → (P_X4_read_112 Q X8 v0 v3 (1 : Int32) S68)))) S64)))) S13))))))) S9)) ∧ ((¬ x11 = 0) → (∃ a72 : Nat, fR S9 v0 5 = some a72 ∧ (ob S9 a72 8 ∧ (∀ x73 : Int32, x73 = fI S9 a72 1 → (P_X4_hasRoom v0 x73 (6 : Int32) (fun x76 S74 => Gr S9 S74 → bl x76 → (((x76 = 0) → (P_X4_read_69 Q X8 v0 v3 S74)) ∧ ((¬ x76 = 0) → (P_X4_rainLine v0 (fun x80 S78 => Gr S74 S78 → bl x80 → (((x80 = 0) → (P_X4_read_69 Q X8 v0 v3 S78)) ∧ ((¬ x80 = 0) → (P_X4_read_70 Q X8 v0 v3 (1 : Int32) S78)))) S74)))) S9))))))) S5)) ∧ ((¬ x7 = 0) → (P_X4_worldLine v0 (fun x84 S82 => Gr S5 S82 → bl x84 → (P_X4_read_248 Q X8 v0 v3 x84 S82)) S5)))) S)))
def P_X4_read_8 (Q : Int32 → HS → Prop) (v0 : Nat) (v3 : Int32) (S : HS) : Prop := ∀ X8 : Nat → Int32 → HS → Prop, (∀ (v0 : Nat) (v3 : Int32) (S : HS), B_X4_read_8 Q X8 v0 v3 S → X8 v0 v3 S) → X8 v0 v3 S
set_option maxRecDepth 20000 in
set_option maxHeartbeats 4000000 in
theorem TB_X4_read_8 {X : CX} {Q : Int32 → HS → Prop} (C : Cx X cX4_read RX4 5 rm_X4_read) (E : ReI X rm_X4_read (fun r S => bl r ∧ Q r S)) (ht : (xh X).sig.returnType = (some .boolean)) (hn : (xh X).name = yX4_read.name) {X8 : Nat → Int32 → HS → Prop} (hX8 : ∀ (v0 : Nat) (v3 : Int32) (S : HS), X8 v0 v3 S → WS X 5 0 0 8 [(0, .ref v0), (3, .int v3)] [] S) {v0 : Nat} {v3 : Int32} {S : HS} (h : B_X4_read_8 Q X8 v0 v3 S) : WS X 5 0 0 8 [(0, .ref v0), (3, .int v3)] [] S := by
  refine r_iload_n (pc := 8) C dX4_read_8 1 rfl ?_
  refine r_sipush (pc := 9) C (v := (900 : Int32)) dX4_read_9 (by decide) ?_
  refine r_icmp_gt (pc := 12) C (tgt := 316) dX4_read_12 (by decide) (fun c1 => ?_) (fun c1 => ?_)
  · have h := h.1 c1
    refine r_aload_n (pc := 316) C dX4_read_316 0 rfl ?_
    refine r_iconst (pc := 317) C (v := (1 : Int32)) dX4_read_317 (by decide) ?_
    obtain ⟨o_v0, h⟩ := h
    refine r_callVi0 (pc := 318) C (rest := []) (a := v0) o_v0 [.int (1 : Int32)] yV_X4_fail g_519 (c_X4_fail h) dX4_read_318 rfl rfl (Nat.le_of_ble_eq_true rfl) ⟨by decide, by decide⟩ ⟨by decide, by decide⟩ ⟨rfl, rfl⟩ (fun x4 S2 h g3 => ?_)
    have bx4 := h.1
    have h := h.2 g3 bx4
    have o_v0 := gr_ob g3 o_v0
    exact r_zret (pc := 321) C E ht dX4_read_321 (by decide) (by decide) h.1 h.2
  · have h := h.2 c1
    refine r_aload_n (pc := 15) C dX4_read_15 0 rfl ?_
    refine r_lds (pc := 16) C 0 rfl dX4_read_16 ?_
    obtain ⟨o_v0, h⟩ := h
    refine r_callVi0 (pc := 18) C (rest := []) (a := v0) o_v0 [.ref (eK (xE X) 0)] yV_X4_is g_458 (c_X4_is h) dX4_read_18 rfl rfl (Nat.le_of_ble_eq_true rfl) ⟨by decide, by decide⟩ ⟨by decide, by decide⟩ ⟨rfl, rfl⟩ (fun x7 S5 h g6 => ?_)
    have bx7 := h.1
    have h := h.2 g6 bx7
    have o_v0 := gr_ob g6 o_v0
    refine r_if_eq (pc := 21) C (tgt := 33) dX4_read_21 (by decide) (fun c8 => ?_) (fun c8 => ?_)
    · have h := h.1 c8
      refine r_aload_n (pc := 33) C dX4_read_33 0 rfl ?_
      refine r_lds (pc := 34) C 2 rfl dX4_read_34 ?_
      refine r_callVi0 (pc := 36) C (rest := []) (a := v0) o_v0 [.ref (eK (xE X) 2)] yV_X4_is g_458 (c_X4_is h) dX4_read_36 rfl rfl (Nat.le_of_ble_eq_true rfl) ⟨by decide, by decide⟩ ⟨by decide, by decide⟩ ⟨rfl, rfl⟩ (fun x11 S9 h g10 => ?_)
      have bx11 := h.1
      have h := h.2 g10 bx11
      have o_v0 := gr_ob g10 o_v0
      refine r_if_eq (pc := 39) C (tgt := 75) dX4_read_39 (by decide) (fun c12 => ?_) (fun c12 => ?_)
      · have h := h.1 c12
        refine r_aload_n (pc := 75) C dX4_read_75 0 rfl ?_
        refine r_lds (pc := 76) C 11 rfl dX4_read_76 ?_
        refine r_callVi0 (pc := 78) C (rest := []) (a := v0) o_v0 [.ref (eK (xE X) 11)] yV_X4_is g_458 (c_X4_is h) dX4_read_78 rfl rfl (Nat.le_of_ble_eq_true rfl) ⟨by decide, by decide⟩ ⟨by decide, by decide⟩ ⟨rfl, rfl⟩ (fun x15 S13 h g14 => ?_)
        have bx15 := h.1
        have h := h.2 g14 bx15
        have o_v0 := gr_ob g14 o_v0
        refine r_if_eq (pc := 81) C (tgt := 117) dX4_read_81 (by decide) (fun c16 => ?_) (fun c16 => ?_)
        · have h := h.1 c16
          refine r_aload_n (pc := 117) C dX4_read_117 0 rfl ?_
          refine r_lds (pc := 118) C 12 rfl dX4_read_118 ?_
          refine r_callVi0 (pc := 120) C (rest := []) (a := v0) o_v0 [.ref (eK (xE X) 12)] yV_X4_is g_458 (c_X4_is h) dX4_read_120 rfl rfl (Nat.le_of_ble_eq_true rfl) ⟨by decide, by decide⟩ ⟨by decide, by decide⟩ ⟨rfl, rfl⟩ (fun x19 S17 h g18 => ?_)
          have bx19 := h.1
          have h := h.2 g18 bx19
          have o_v0 := gr_ob g18 o_v0
          refine r_if_eq (pc := 123) C (tgt := 159) dX4_read_123 (by decide) (fun c20 => ?_) (fun c20 => ?_)
          · have h := h.1 c20
            refine r_aload_n (pc := 159) C dX4_read_159 0 rfl ?_
            refine r_lds (pc := 160) C 13 rfl dX4_read_160 ?_
            refine r_callVi0 (pc := 162) C (rest := []) (a := v0) o_v0 [.ref (eK (xE X) 13)] yV_X4_is g_458 (c_X4_is h) dX4_read_162 rfl rfl (Nat.le_of_ble_eq_true rfl) ⟨by decide, by decide⟩ ⟨by decide, by decide⟩ ⟨rfl, rfl⟩ (fun x23 S21 h g22 => ?_)
            have bx23 := h.1
            have h := h.2 g22 bx23
            have o_v0 := gr_ob g22 o_v0
            refine r_if_eq (pc := 165) C (tgt := 200) dX4_read_165 (by decide) (fun c24 => ?_) (fun c24 => ?_)
            · have h := h.1 c24
              refine r_aload_n (pc := 200) C dX4_read_200 0 rfl ?_
              refine r_lds (pc := 201) C 14 rfl dX4_read_201 ?_
              refine r_callVi0 (pc := 203) C (rest := []) (a := v0) o_v0 [.ref (eK (xE X) 14)] yV_X4_is g_458 (c_X4_is h) dX4_read_203 rfl rfl (Nat.le_of_ble_eq_true rfl) ⟨by decide, by decide⟩ ⟨by decide, by decide⟩ ⟨rfl, rfl⟩ (fun x27 S25 h g26 => ?_)
              have bx27 := h.1
              have h := h.2 g26 bx27
              have o_v0 := gr_ob g26 o_v0
              refine r_if_eq (pc := 206) C (tgt := 241) dX4_read_206 (by decide) (fun c28 => ?_) (fun c28 => ?_)
              · have h := h.1 c28
                refine r_aload_n (pc := 241) C dX4_read_241 0 rfl ?_
                refine r_iconst (pc := 242) C (v := (1 : Int32)) dX4_read_242 (by decide) ?_
                refine r_callVi0 (pc := 243) C (rest := []) (a := v0) o_v0 [.int (1 : Int32)] yV_X4_fail g_519 (c_X4_fail h) dX4_read_243 rfl rfl (Nat.le_of_ble_eq_true rfl) ⟨by decide, by decide⟩ ⟨by decide, by decide⟩ ⟨rfl, rfl⟩ (fun x31 S29 h g30 => ?_)
                have bx31 := h.1
                have h := h.2 g30 bx31
                have o_v0 := gr_ob g30 o_v0
                refine r_istore (pc := 246) C dX4_read_246 (by decide) (lv' := [(4, .int x31), (0, .ref v0), (3, .int v3)]) rfl ?_
                exact r_sub [1, 2, 0] rfl (T_X4_read_248 C E ht hn hX8 h)
              · have h := h.2 c28
                refine r_aload_n (pc := 209) C dX4_read_209 0 rfl ?_
                refine r_aload_n (pc := 210) C dX4_read_210 0 rfl ?_
                obtain ⟨a32, ea32, h⟩ := h
                refine r_getr (pc := 211) C fL_X4_18 dX4_read_211 o_v0 ea32 ?_
                obtain ⟨o_a32, h⟩ := h
                refine r_geti (pc := 214) C fL_X4_82 dX4_read_214 o_a32 ?_
                refine r_topi (fun x33 ex33 => ?_)
                have h := h x33 ex33
                refine r_iconst (pc := 217) C (v := (4 : Int32)) dX4_read_217 (by decide) ?_
                refine r_callVi0 (pc := 218) C (rest := []) (a := v0) o_v0 [.int x33, .int (4 : Int32)] yV_X4_hasRoom g_537 (c_X4_hasRoom h) dX4_read_218 rfl rfl (Nat.le_of_ble_eq_true rfl) ⟨by decide, by decide⟩ ⟨by decide, by decide⟩ ⟨rfl, rfl⟩ (fun x36 S34 h g35 => ?_)
                have bx36 := h.1
                have h := h.2 g35 bx36
                have o_a32 := gr_ob g35 o_a32
                have o_v0 := gr_ob g35 o_v0
                refine r_if_eq (pc := 221) C (tgt := 235) dX4_read_221 (by decide) (fun c37 => ?_) (fun c37 => ?_)
                · have h := h.1 c37
                  exact r_sub [0, 1] rfl (T_X4_read_235 C E ht hn hX8 h)
                · have h := h.2 c37
                  refine r_aload_n (pc := 224) C dX4_read_224 0 rfl ?_
                  refine r_callVi0 (pc := 225) C (rest := []) (a := v0) o_v0 [] yV_X4_seenLine g_613 (c_X4_seenLine h) dX4_read_225 rfl rfl (Nat.le_of_ble_eq_true rfl) ⟨by decide, by decide⟩ ⟨by decide, by decide⟩ ⟨rfl, rfl⟩ (fun x40 S38 h g39 => ?_)
                  have bx40 := h.1
                  have h := h.2 g39 bx40
                  have o_a32 := gr_ob g39 o_a32
                  have o_v0 := gr_ob g39 o_v0
                  refine r_if_eq (pc := 228) C (tgt := 235) dX4_read_228 (by decide) (fun c41 => ?_) (fun c41 => ?_)
                  · have h := h.1 c41
                    exact r_sub [0, 1] rfl (T_X4_read_235 C E ht hn hX8 h)
                  · have h := h.2 c41
                    refine r_iconst (pc := 231) C (v := (1 : Int32)) dX4_read_231 (by decide) ?_
                    refine r_goto (pc := 232) C (tgt := 236) dX4_read_232 (by decide) ?_
                    exact r_sub [0, 1] rfl (T_X4_read_236 C E ht hn hX8 h)
            · have h := h.2 c24
              refine r_aload_n (pc := 168) C dX4_read_168 0 rfl ?_
              refine r_aload_n (pc := 169) C dX4_read_169 0 rfl ?_
              obtain ⟨a42, ea42, h⟩ := h
              refine r_getr (pc := 170) C fL_X4_18 dX4_read_170 o_v0 ea42 ?_
              obtain ⟨o_a42, h⟩ := h
              refine r_geti (pc := 173) C fL_X4_74 dX4_read_173 o_a42 ?_
              refine r_topi (fun x43 ex43 => ?_)
              have h := h x43 ex43
              refine r_iconst (pc := 176) C (v := (4 : Int32)) dX4_read_176 (by decide) ?_
              refine r_callVi0 (pc := 177) C (rest := []) (a := v0) o_v0 [.int x43, .int (4 : Int32)] yV_X4_hasRoom g_537 (c_X4_hasRoom h) dX4_read_177 rfl rfl (Nat.le_of_ble_eq_true rfl) ⟨by decide, by decide⟩ ⟨by decide, by decide⟩ ⟨rfl, rfl⟩ (fun x46 S44 h g45 => ?_)
              have bx46 := h.1
              have h := h.2 g45 bx46
              have o_a42 := gr_ob g45 o_a42
              have o_v0 := gr_ob g45 o_v0
              refine r_if_eq (pc := 180) C (tgt := 194) dX4_read_180 (by decide) (fun c47 => ?_) (fun c47 => ?_)
              · have h := h.1 c47
                exact r_sub [0, 1] rfl (T_X4_read_194 C E ht hn hX8 h)
              · have h := h.2 c47
                refine r_aload_n (pc := 183) C dX4_read_183 0 rfl ?_
                refine r_callVi0 (pc := 184) C (rest := []) (a := v0) o_v0 [] yV_X4_walkerLine g_588 (c_X4_walkerLine h) dX4_read_184 rfl rfl (Nat.le_of_ble_eq_true rfl) ⟨by decide, by decide⟩ ⟨by decide, by decide⟩ ⟨rfl, rfl⟩ (fun x50 S48 h g49 => ?_)
                have bx50 := h.1
                have h := h.2 g49 bx50
                have o_a42 := gr_ob g49 o_a42
                have o_v0 := gr_ob g49 o_v0
                refine r_if_eq (pc := 187) C (tgt := 194) dX4_read_187 (by decide) (fun c51 => ?_) (fun c51 => ?_)
                · have h := h.1 c51
                  exact r_sub [0, 1] rfl (T_X4_read_194 C E ht hn hX8 h)
                · have h := h.2 c51
                  refine r_iconst (pc := 190) C (v := (1 : Int32)) dX4_read_190 (by decide) ?_
                  refine r_goto (pc := 191) C (tgt := 195) dX4_read_191 (by decide) ?_
                  exact r_sub [0, 1] rfl (T_X4_read_195 C E ht hn hX8 h)
          · have h := h.2 c20
            refine r_aload_n (pc := 126) C dX4_read_126 0 rfl ?_
            refine r_aload_n (pc := 127) C dX4_read_127 0 rfl ?_
            obtain ⟨a52, ea52, h⟩ := h
            refine r_getr (pc := 128) C fL_X4_18 dX4_read_128 o_v0 ea52 ?_
            obtain ⟨o_a52, h⟩ := h
            refine r_geti (pc := 131) C fL_X4_66 dX4_read_131 o_a52 ?_
            refine r_topi (fun x53 ex53 => ?_)
            have h := h x53 ex53
            refine r_bipush (pc := 134) C (v := (12 : Int32)) dX4_read_134 (by decide) ?_
            refine r_callVi0 (pc := 136) C (rest := []) (a := v0) o_v0 [.int x53, .int (12 : Int32)] yV_X4_hasRoom g_537 (c_X4_hasRoom h) dX4_read_136 rfl rfl (Nat.le_of_ble_eq_true rfl) ⟨by decide, by decide⟩ ⟨by decide, by decide⟩ ⟨rfl, rfl⟩ (fun x56 S54 h g55 => ?_)
            have bx56 := h.1
            have h := h.2 g55 bx56
            have o_a52 := gr_ob g55 o_a52
            have o_v0 := gr_ob g55 o_v0
            refine r_if_eq (pc := 139) C (tgt := 153) dX4_read_139 (by decide) (fun c57 => ?_) (fun c57 => ?_)
            · have h := h.1 c57
              exact r_sub [0, 1] rfl (T_X4_read_153 C E ht hn hX8 h)
            · have h := h.2 c57
              refine r_aload_n (pc := 142) C dX4_read_142 0 rfl ?_
              refine r_callVi0 (pc := 143) C (rest := []) (a := v0) o_v0 [] yV_X4_roadLine g_580 (c_X4_roadLine h) dX4_read_143 rfl rfl (Nat.le_of_ble_eq_true rfl) ⟨by decide, by decide⟩ ⟨by decide, by decide⟩ ⟨rfl, rfl⟩ (fun x60 S58 h g59 => ?_)
              have bx60 := h.1
              have h := h.2 g59 bx60
              have o_a52 := gr_ob g59 o_a52
              have o_v0 := gr_ob g59 o_v0
              refine r_if_eq (pc := 146) C (tgt := 153) dX4_read_146 (by decide) (fun c61 => ?_) (fun c61 => ?_)
              · have h := h.1 c61
                exact r_sub [0, 1] rfl (T_X4_read_153 C E ht hn hX8 h)
              · have h := h.2 c61
                refine r_iconst (pc := 149) C (v := (1 : Int32)) dX4_read_149 (by decide) ?_
                refine r_goto (pc := 150) C (tgt := 154) dX4_read_150 (by decide) ?_
                exact r_sub [0, 1] rfl (T_X4_read_154 C E ht hn hX8 h)
        · have h := h.2 c16
          refine r_aload_n (pc := 84) C dX4_read_84 0 rfl ?_
          refine r_aload_n (pc := 85) C dX4_read_85 0 rfl ?_
          obtain ⟨a62, ea62, h⟩ := h
          refine r_getr (pc := 86) C fL_X4_18 dX4_read_86 o_v0 ea62 ?_
          obtain ⟨o_a62, h⟩ := h
          refine r_geti (pc := 89) C fL_X4_58 dX4_read_89 o_a62 ?_
          refine r_topi (fun x63 ex63 => ?_)
          have h := h x63 ex63
          refine r_bipush (pc := 92) C (v := (8 : Int32)) dX4_read_92 (by decide) ?_
          refine r_callVi0 (pc := 94) C (rest := []) (a := v0) o_v0 [.int x63, .int (8 : Int32)] yV_X4_hasRoom g_537 (c_X4_hasRoom h) dX4_read_94 rfl rfl (Nat.le_of_ble_eq_true rfl) ⟨by decide, by decide⟩ ⟨by decide, by decide⟩ ⟨rfl, rfl⟩ (fun x66 S64 h g65 => ?_)
          have bx66 := h.1
          have h := h.2 g65 bx66
          have o_a62 := gr_ob g65 o_a62
          have o_v0 := gr_ob g65 o_v0
          refine r_if_eq (pc := 97) C (tgt := 111) dX4_read_97 (by decide) (fun c67 => ?_) (fun c67 => ?_)
          · have h := h.1 c67
            exact r_sub [0, 1] rfl (T_X4_read_111 C E ht hn hX8 h)
          · have h := h.2 c67
            refine r_aload_n (pc := 100) C dX4_read_100 0 rfl ?_
            refine r_callVi0 (pc := 101) C (rest := []) (a := v0) o_v0 [] yV_X4_placeLine g_558 (c_X4_placeLine h) dX4_read_101 rfl rfl (Nat.le_of_ble_eq_true rfl) ⟨by decide, by decide⟩ ⟨by decide, by decide⟩ ⟨rfl, rfl⟩ (fun x70 S68 h g69 => ?_)
            have bx70 := h.1
            have h := h.2 g69 bx70
            have o_a62 := gr_ob g69 o_a62
            have o_v0 := gr_ob g69 o_v0
            refine r_if_eq (pc := 104) C (tgt := 111) dX4_read_104 (by decide) (fun c71 => ?_) (fun c71 => ?_)
            · have h := h.1 c71
              exact r_sub [0, 1] rfl (T_X4_read_111 C E ht hn hX8 h)
            · have h := h.2 c71
              refine r_iconst (pc := 107) C (v := (1 : Int32)) dX4_read_107 (by decide) ?_
              refine r_goto (pc := 108) C (tgt := 112) dX4_read_108 (by decide) ?_
              exact r_sub [0, 1] rfl (T_X4_read_112 C E ht hn hX8 h)
      · have h := h.2 c12
        refine r_aload_n (pc := 42) C dX4_read_42 0 rfl ?_
        refine r_aload_n (pc := 43) C dX4_read_43 0 rfl ?_
        obtain ⟨a72, ea72, h⟩ := h
        refine r_getr (pc := 44) C fL_X4_18 dX4_read_44 o_v0 ea72 ?_
        obtain ⟨o_a72, h⟩ := h
        refine r_geti (pc := 47) C fL_X4_45 dX4_read_47 o_a72 ?_
        refine r_topi (fun x73 ex73 => ?_)
        have h := h x73 ex73
        refine r_bipush (pc := 50) C (v := (6 : Int32)) dX4_read_50 (by decide) ?_
        refine r_callVi0 (pc := 52) C (rest := []) (a := v0) o_v0 [.int x73, .int (6 : Int32)] yV_X4_hasRoom g_537 (c_X4_hasRoom h) dX4_read_52 rfl rfl (Nat.le_of_ble_eq_true rfl) ⟨by decide, by decide⟩ ⟨by decide, by decide⟩ ⟨rfl, rfl⟩ (fun x76 S74 h g75 => ?_)
        have bx76 := h.1
        have h := h.2 g75 bx76
        have o_a72 := gr_ob g75 o_a72
        have o_v0 := gr_ob g75 o_v0
        refine r_if_eq (pc := 55) C (tgt := 69) dX4_read_55 (by decide) (fun c77 => ?_) (fun c77 => ?_)
        · have h := h.1 c77
          exact r_sub [0, 1] rfl (T_X4_read_69 C E ht hn hX8 h)
        · have h := h.2 c77
          refine r_aload_n (pc := 58) C dX4_read_58 0 rfl ?_
          refine r_callVi0 (pc := 59) C (rest := []) (a := v0) o_v0 [] yV_X4_rainLine g_541 (c_X4_rainLine h) dX4_read_59 rfl rfl (Nat.le_of_ble_eq_true rfl) ⟨by decide, by decide⟩ ⟨by decide, by decide⟩ ⟨rfl, rfl⟩ (fun x80 S78 h g79 => ?_)
          have bx80 := h.1
          have h := h.2 g79 bx80
          have o_a72 := gr_ob g79 o_a72
          have o_v0 := gr_ob g79 o_v0
          refine r_if_eq (pc := 62) C (tgt := 69) dX4_read_62 (by decide) (fun c81 => ?_) (fun c81 => ?_)
          · have h := h.1 c81
            exact r_sub [0, 1] rfl (T_X4_read_69 C E ht hn hX8 h)
          · have h := h.2 c81
            refine r_iconst (pc := 65) C (v := (1 : Int32)) dX4_read_65 (by decide) ?_
            refine r_goto (pc := 66) C (tgt := 70) dX4_read_66 (by decide) ?_
            exact r_sub [0, 1] rfl (T_X4_read_70 C E ht hn hX8 h)
    · have h := h.2 c8
      refine r_aload_n (pc := 24) C dX4_read_24 0 rfl ?_
      refine r_callVi0 (pc := 25) C (rest := []) (a := v0) o_v0 [] yV_X4_worldLine g_511 (c_X4_worldLine h) dX4_read_25 rfl rfl (Nat.le_of_ble_eq_true rfl) ⟨by decide, by decide⟩ ⟨by decide, by decide⟩ ⟨rfl, rfl⟩ (fun x84 S82 h g83 => ?_)
      have bx84 := h.1
      have h := h.2 g83 bx84
      have o_v0 := gr_ob g83 o_v0
      refine r_istore (pc := 28) C dX4_read_28 (by decide) (lv' := [(4, .int x84), (0, .ref v0), (3, .int v3)]) rfl ?_
      refine r_goto (pc := 30) C (tgt := 248) dX4_read_30 (by decide) ?_
      exact r_sub [1, 2, 0] rfl (T_X4_read_248 C E ht hn hX8 h)
theorem T_X4_read_8 {X : CX} {Q : Int32 → HS → Prop} (C : Cx X cX4_read RX4 5 rm_X4_read) (E : ReI X rm_X4_read (fun r S => bl r ∧ Q r S)) (ht : (xh X).sig.returnType = (some .boolean)) (hn : (xh X).name = yX4_read.name) {v0 : Nat} {v3 : Int32} {S : HS} (h : P_X4_read_8 Q v0 v3 S) : WS X 5 0 0 8 [(0, .ref v0), (3, .int v3)] [] S :=
  h (fun v0 v3 S => WS X 5 0 0 8 [(0, .ref v0), (3, .int v3)] [] S) (fun v0 v3 S hh => TB_X4_read_8 C E ht hn (fun v0 v3 S z => z) hh)
def P_X4_read_0 (Q : Int32 → HS → Prop) (v0 : Nat) (v1 : Nat) (v2 : Int32) (S : HS) : Prop := ob S v0 4 ∧ (P_X4_open v0 v1 v2 (fun S1 => Gr S S1 → (P_X4_read_8 Q v0 (0 : Int32) S1)) S)
set_option maxRecDepth 20000 in
set_option maxHeartbeats 4000000 in
theorem T_X4_read_0 {X : CX} {Q : Int32 → HS → Prop} (C : Cx X cX4_read RX4 5 rm_X4_read) (E : ReI X rm_X4_read (fun r S => bl r ∧ Q r S)) (ht : (xh X).sig.returnType = (some .boolean)) (hn : (xh X).name = yX4_read.name) {v0 : Nat} {v1 : Nat} {v2 : Int32} {S : HS} (h : P_X4_read_0 Q v0 v1 v2 S) : WS X 5 0 0 0 [(0, .ref v0), (1, .ref v1), (2, .int v2)] [] S := by
  refine r_aload_n (pc := 0) C dX4_read_0 0 rfl ?_
  refine r_aload_n (pc := 1) C dX4_read_1 1 rfl ?_
  refine r_iload_n (pc := 2) C dX4_read_2 2 rfl ?_
  obtain ⟨o_v0, h⟩ := h
  refine r_callVv0 (pc := 3) C (rest := []) (a := v0) o_v0 [.ref v1, .int v2] yV_X4_open g_438 (c_X4_open h) dX4_read_3 rfl rfl (Nat.le_of_ble_eq_true rfl) ⟨by decide, by decide⟩ ⟨by decide, by decide⟩ ⟨rfl, rfl⟩ (fun S1 h g2 => ?_)
  have h := h g2
  have o_v0 := gr_ob g2 o_v0
  refine r_iconst (pc := 6) C (v := (0 : Int32)) dX4_read_6 (by decide) ?_
  refine r_istore_n (pc := 7) C dX4_read_7 rfl (by decide) (lv' := [(3, .int (0 : Int32)), (0, .ref v0), (1, .ref v1), (2, .int v2)]) rfl ?_
  exact r_sub [1, 0] rfl (T_X4_read_8 C E ht hn h)
def P_X4_read (v0 : Nat) (v1 : Nat) (v2 : Int32) (Q : Int32 → HS → Prop) (S : HS) : Prop := P_X4_read_0 Q v0 v1 v2 S
theorem c_X4_read {l : Launch} {Ee : EE} {S : HS} {v0 : Nat} {v1 : Nat} {v2 : Int32} {Q : Int32 → HS → Prop} (h : P_X4_read v0 v1 v2 Q S) : MI l yX4_read cX4_read 5 (some .boolean) rm_X4_read Ee S [.ref v0, .ref v1, .int v2] (fun r S => bl r ∧ Q r S) :=
  openI (by decide) (Nat.le_of_ble_eq_true rfl) (fun X C E ht hn hE hl => by subst hE; exact r_sub [0, 1, 2] rfl (T_X4_read_0 C E ht hn h))
def rm_X5_endOf : Room := { frames := 0, cells := 0, slots := 0, locals := 0 }
def P_X5_endOf_0 (Q : Int32 → HS → Prop) (v0 : Nat) (v1 : Int32) (S : HS) : Prop := ((¬ v1 = 0) → (ob S v0 5 ∧ (∀ x2 : Int32, x2 = fI S v0 0 → (Q x2 S)))) ∧ ((v1 = 0) → (ob S v0 5 ∧ (∀ x3 : Int32, x3 = fI S v0 1 → (Q x3 S))))
set_option maxRecDepth 20000 in
set_option maxHeartbeats 4000000 in
theorem T_X5_endOf_0 {X : CX} {Q : Int32 → HS → Prop} (C : Cx X cX5_endOf RX5 2 rm_X5_endOf) (E : ReI X rm_X5_endOf Q) (ht : (xh X).sig.returnType = (some .int)) (hn : (xh X).name = yX5_endOf.name) {v0 : Nat} {v1 : Int32} {S : HS} (h : P_X5_endOf_0 Q v0 v1 S) : WS X 2 0 0 0 [(0, .ref v0), (1, .int v1)] [] S := by
  refine r_iload_n (pc := 0) C dX5_endOf_0 1 rfl ?_
  refine r_if_ne (pc := 1) C (tgt := 11) dX5_endOf_1 (by decide) (fun c1 => ?_) (fun c1 => ?_)
  · have h := h.1 c1
    refine r_aload_n (pc := 11) C dX5_endOf_11 0 rfl ?_
    obtain ⟨o_v0, h⟩ := h
    refine r_geti (pc := 12) C fL_X5_7 dX5_endOf_12 o_v0 ?_
    refine r_topi (fun x2 ex2 => ?_)
    have h := h x2 ex2
    exact r_iret (pc := 15) C E ht dX5_endOf_15 (by decide) (by decide) h
  · have h := h.2 c1
    refine r_aload_n (pc := 4) C dX5_endOf_4 0 rfl ?_
    obtain ⟨o_v0, h⟩ := h
    refine r_geti (pc := 5) C fL_X5_13 dX5_endOf_5 o_v0 ?_
    refine r_topi (fun x3 ex3 => ?_)
    have h := h x3 ex3
    refine r_goto (pc := 8) C (tgt := 15) dX5_endOf_8 (by decide) ?_
    exact r_iret (pc := 15) C E ht dX5_endOf_15 (by decide) (by decide) h
def P_X5_endOf (v0 : Nat) (v1 : Int32) (Q : Int32 → HS → Prop) (S : HS) : Prop := P_X5_endOf_0 Q v0 v1 S
theorem c_X5_endOf {l : Launch} {Ee : EE} {S : HS} {v0 : Nat} {v1 : Int32} {Q : Int32 → HS → Prop} (h : P_X5_endOf v0 v1 Q S) : MI l yX5_endOf cX5_endOf 2 (some .int) rm_X5_endOf Ee S [.ref v0, .int v1] Q :=
  openI (by decide) (Nat.le_of_ble_eq_true rfl) (fun X C E ht hn hE hl => by subst hE; exact r_sub [0, 1] rfl (T_X5_endOf_0 C E ht hn h))
def rm_X5_minutesAt : Room := { frames := 0, cells := 0, slots := 0, locals := 0 }
def P_X5_minutesAt_0 (Q : Int32 → HS → Prop) (v0 : Nat) (v1 : Int32) (S : HS) : Prop := ((v1 ≤ 0) → (Q (0 : Int32) S)) ∧ ((¬ v1 ≤ 0) → (ob S v0 5 ∧ (∀ x2 : Int32, x2 = fI S v0 3 → (¬ v1 = 0 ∧ ∀ x4 : Int32, x4 = ((x2 + v1) - (1 : Int32)) / v1 → (Q x4 S)))))
set_option maxRecDepth 20000 in
set_option maxHeartbeats 4000000 in
theorem T_X5_minutesAt_0 {X : CX} {Q : Int32 → HS → Prop} (C : Cx X cX5_minutesAt RX5 2 rm_X5_minutesAt) (E : ReI X rm_X5_minutesAt Q) (ht : (xh X).sig.returnType = (some .int)) (hn : (xh X).name = yX5_minutesAt.name) {v0 : Nat} {v1 : Int32} {S : HS} (h : P_X5_minutesAt_0 Q v0 v1 S) : WS X 2 0 0 0 [(0, .ref v0), (1, .int v1)] [] S := by
  refine r_iload_n (pc := 0) C dX5_minutesAt_0 1 rfl ?_
  refine r_if_le (pc := 1) C (tgt := 17) dX5_minutesAt_1 (by decide) (fun c1 => ?_) (fun c1 => ?_)
  · have h := h.1 c1
    refine r_iconst (pc := 17) C (v := (0 : Int32)) dX5_minutesAt_17 (by decide) ?_
    exact r_iret (pc := 18) C E ht dX5_minutesAt_18 (by decide) (by decide) h
  · have h := h.2 c1
    refine r_aload_n (pc := 4) C dX5_minutesAt_4 0 rfl ?_
    obtain ⟨o_v0, h⟩ := h
    refine r_geti (pc := 5) C fL_X5_16 dX5_minutesAt_5 o_v0 ?_
    refine r_topi (fun x2 ex2 => ?_)
    have h := h x2 ex2
    refine r_iload_n (pc := 8) C dX5_minutesAt_8 1 rfl ?_
    refine r_iadd (pc := 9) C dX5_minutesAt_9 ?_
    refine r_iconst (pc := 10) C (v := (1 : Int32)) dX5_minutesAt_10 (by decide) ?_
    refine r_isub (pc := 11) C dX5_minutesAt_11 ?_
    refine r_iload_n (pc := 12) C dX5_minutesAt_12 1 rfl ?_
    obtain ⟨q3, h⟩ := h
    refine r_idiv (pc := 13) C dX5_minutesAt_13 q3 ?_
    refine r_topi (fun x4 ex4 => ?_)
    have h := h x4 ex4
    refine r_goto (pc := 14) C (tgt := 18) dX5_minutesAt_14 (by decide) ?_
    exact r_iret (pc := 18) C E ht dX5_minutesAt_18 (by decide) (by decide) h
def P_X5_minutesAt (v0 : Nat) (v1 : Int32) (Q : Int32 → HS → Prop) (S : HS) : Prop := P_X5_minutesAt_0 Q v0 v1 S
theorem c_X5_minutesAt {l : Launch} {Ee : EE} {S : HS} {v0 : Nat} {v1 : Int32} {Q : Int32 → HS → Prop} (h : P_X5_minutesAt v0 v1 Q S) : MI l yX5_minutesAt cX5_minutesAt 2 (some .int) rm_X5_minutesAt Ee S [.ref v0, .int v1] Q :=
  openI (by decide) (Nat.le_of_ble_eq_true rfl) (fun X C E ht hn hE hl => by subst hE; exact r_sub [0, 1] rfl (T_X5_minutesAt_0 C E ht hn h))
def rm_X5_startOf : Room := { frames := 0, cells := 0, slots := 0, locals := 0 }
def P_X5_startOf_0 (Q : Int32 → HS → Prop) (v0 : Nat) (v1 : Int32) (S : HS) : Prop := ((¬ v1 = 0) → (ob S v0 5 ∧ (∀ x2 : Int32, x2 = fI S v0 1 → (Q x2 S)))) ∧ ((v1 = 0) → (ob S v0 5 ∧ (∀ x3 : Int32, x3 = fI S v0 0 → (Q x3 S))))
set_option maxRecDepth 20000 in
set_option maxHeartbeats 4000000 in
theorem T_X5_startOf_0 {X : CX} {Q : Int32 → HS → Prop} (C : Cx X cX5_startOf RX5 2 rm_X5_startOf) (E : ReI X rm_X5_startOf Q) (ht : (xh X).sig.returnType = (some .int)) (hn : (xh X).name = yX5_startOf.name) {v0 : Nat} {v1 : Int32} {S : HS} (h : P_X5_startOf_0 Q v0 v1 S) : WS X 2 0 0 0 [(0, .ref v0), (1, .int v1)] [] S := by
  refine r_iload_n (pc := 0) C dX5_startOf_0 1 rfl ?_
  refine r_if_ne (pc := 1) C (tgt := 11) dX5_startOf_1 (by decide) (fun c1 => ?_) (fun c1 => ?_)
  · have h := h.1 c1
    refine r_aload_n (pc := 11) C dX5_startOf_11 0 rfl ?_
    obtain ⟨o_v0, h⟩ := h
    refine r_geti (pc := 12) C fL_X5_13 dX5_startOf_12 o_v0 ?_
    refine r_topi (fun x2 ex2 => ?_)
    have h := h x2 ex2
    exact r_iret (pc := 15) C E ht dX5_startOf_15 (by decide) (by decide) h
  · have h := h.2 c1
    refine r_aload_n (pc := 4) C dX5_startOf_4 0 rfl ?_
    obtain ⟨o_v0, h⟩ := h
    refine r_geti (pc := 5) C fL_X5_7 dX5_startOf_5 o_v0 ?_
    refine r_topi (fun x3 ex3 => ?_)
    have h := h x3 ex3
    refine r_goto (pc := 8) C (tgt := 15) dX5_startOf_8 (by decide) ?_
    exact r_iret (pc := 15) C E ht dX5_startOf_15 (by decide) (by decide) h
def P_X5_startOf (v0 : Nat) (v1 : Int32) (Q : Int32 → HS → Prop) (S : HS) : Prop := P_X5_startOf_0 Q v0 v1 S
theorem c_X5_startOf {l : Launch} {Ee : EE} {S : HS} {v0 : Nat} {v1 : Int32} {Q : Int32 → HS → Prop} (h : P_X5_startOf v0 v1 Q S) : MI l yX5_startOf cX5_startOf 2 (some .int) rm_X5_startOf Ee S [.ref v0, .int v1] Q :=
  openI (by decide) (Nat.le_of_ble_eq_true rfl) (fun X C E ht hn hE hl => by subst hE; exact r_sub [0, 1] rfl (T_X5_startOf_0 C E ht hn h))
def rm_X5_tell : Room := { frames := 0, cells := 0, slots := 0, locals := 0 }
def P_X5_tell_0 (Q : Int32 → HS → Prop) (v0 : Nat) (v1 : Int32) (S : HS) : Prop := (v1.toInt < 0 ∨ 3 < v1.toInt → (ob S v0 5 ∧ (∀ x2 : Int32, x2 = fI S v0 4 → (Q x2 S)))) ∧ (v1.toInt = 0 → (ob S v0 5 ∧ (∀ x3 : Int32, x3 = fI S v0 0 → (Q x3 S)))) ∧ (v1.toInt = 1 → (ob S v0 5 ∧ (∀ x4 : Int32, x4 = fI S v0 1 → (Q x4 S)))) ∧ (v1.toInt = 2 → (ob S v0 5 ∧ (∀ x5 : Int32, x5 = fI S v0 2 → (Q x5 S)))) ∧ (v1.toInt = 3 → (ob S v0 5 ∧ (∀ x6 : Int32, x6 = fI S v0 3 → (Q x6 S))))
set_option maxRecDepth 20000 in
set_option maxHeartbeats 4000000 in
theorem T_X5_tell_0 {X : CX} {Q : Int32 → HS → Prop} (C : Cx X cX5_tell RX5 2 rm_X5_tell) (E : ReI X rm_X5_tell Q) (ht : (xh X).sig.returnType = (some .int)) (hn : (xh X).name = yX5_tell.name) {v0 : Nat} {v1 : Int32} {S : HS} (h : P_X5_tell_0 Q v0 v1 S) : WS X 2 0 0 0 [(0, .ref v0), (1, .int v1)] [] S := by
  refine r_iload_n (pc := 0) C dX5_tell_0 1 rfl ?_
  refine r_table (pc := 1) C (tgt := 52) dX5_tell_1 (by decide) (fun c1 => ?_) (fun j hj hx => ?_)
  · have h := h.1 c1
    refine r_aload_n (pc := 52) C dX5_tell_52 0 rfl ?_
    obtain ⟨o_v0, h⟩ := h
    refine r_geti (pc := 53) C fL_X5_34 dX5_tell_53 o_v0 ?_
    refine r_topi (fun x2 ex2 => ?_)
    have h := h x2 ex2
    exact r_iret (pc := 56) C E ht dX5_tell_56 (by decide) (by decide) h
  · match j, hj, hx with
    | 0, _, hx =>
      refine ⟨31, 32, rfl, by decide, ?_⟩
      have h := h.2.1 (by simpa using hx)
      refine r_aload_n (pc := 32) C dX5_tell_32 0 rfl ?_
      obtain ⟨o_v0, h⟩ := h
      refine r_geti (pc := 33) C fL_X5_7 dX5_tell_33 o_v0 ?_
      refine r_topi (fun x3 ex3 => ?_)
      have h := h x3 ex3
      exact r_iret (pc := 36) C E ht dX5_tell_36 (by decide) (by decide) h
    | 1, _, hx =>
      refine ⟨36, 37, rfl, by decide, ?_⟩
      have h := h.2.2.1 (by simpa using hx)
      refine r_aload_n (pc := 37) C dX5_tell_37 0 rfl ?_
      obtain ⟨o_v0, h⟩ := h
      refine r_geti (pc := 38) C fL_X5_13 dX5_tell_38 o_v0 ?_
      refine r_topi (fun x4 ex4 => ?_)
      have h := h x4 ex4
      exact r_iret (pc := 41) C E ht dX5_tell_41 (by decide) (by decide) h
    | 2, _, hx =>
      refine ⟨41, 42, rfl, by decide, ?_⟩
      have h := h.2.2.2.1 (by simpa using hx)
      refine r_aload_n (pc := 42) C dX5_tell_42 0 rfl ?_
      obtain ⟨o_v0, h⟩ := h
      refine r_geti (pc := 43) C fL_X5_19 dX5_tell_43 o_v0 ?_
      refine r_topi (fun x5 ex5 => ?_)
      have h := h x5 ex5
      exact r_iret (pc := 46) C E ht dX5_tell_46 (by decide) (by decide) h
    | 3, _, hx =>
      refine ⟨46, 47, rfl, by decide, ?_⟩
      have h := h.2.2.2.2 (by simpa using hx)
      refine r_aload_n (pc := 47) C dX5_tell_47 0 rfl ?_
      obtain ⟨o_v0, h⟩ := h
      refine r_geti (pc := 48) C fL_X5_16 dX5_tell_48 o_v0 ?_
      refine r_topi (fun x6 ex6 => ?_)
      have h := h x6 ex6
      exact r_iret (pc := 51) C E ht dX5_tell_51 (by decide) (by decide) h
    | j + 4, hj, _ => exact absurd hj (by omega)
def P_X5_tell (v0 : Nat) (v1 : Int32) (Q : Int32 → HS → Prop) (S : HS) : Prop := P_X5_tell_0 Q v0 v1 S
theorem c_X5_tell {l : Launch} {Ee : EE} {S : HS} {v0 : Nat} {v1 : Int32} {Q : Int32 → HS → Prop} (h : P_X5_tell v0 v1 Q S) : MI l yX5_tell cX5_tell 2 (some .int) rm_X5_tell Ee S [.ref v0, .int v1] Q :=
  openI (by decide) (Nat.le_of_ble_eq_true rfl) (fun X C E ht hn hE hl => by subst hE; exact r_sub [0, 1] rfl (T_X5_tell_0 C E ht hn h))
def rm_X5_touches : Room := { frames := 0, cells := 0, slots := 0, locals := 0 }
def P_X5_touches_0 (Q : Int32 → HS → Prop) (v0 : Nat) (v1 : Int32) (S : HS) : Prop := ob S v0 5 ∧ (∀ x1 : Int32, x1 = fI S v0 0 → (((x1 = v1) → (Q (1 : Int32) S)) ∧ ((¬ x1 = v1) → (∀ x3 : Int32, x3 = fI S v0 1 → (((¬ x3 = v1) → (Q (0 : Int32) S)) ∧ ((x3 = v1) → (Q (1 : Int32) S)))))))
set_option maxRecDepth 20000 in
set_option maxHeartbeats 4000000 in
theorem T_X5_touches_0 {X : CX} {Q : Int32 → HS → Prop} (C : Cx X cX5_touches RX5 2 rm_X5_touches) (E : ReI X rm_X5_touches (fun r S => bl r ∧ Q r S)) (ht : (xh X).sig.returnType = (some .boolean)) (hn : (xh X).name = yX5_touches.name) {v0 : Nat} {v1 : Int32} {S : HS} (h : P_X5_touches_0 Q v0 v1 S) : WS X 2 0 0 0 [(0, .ref v0), (1, .int v1)] [] S := by
  refine r_aload_n (pc := 0) C dX5_touches_0 0 rfl ?_
  obtain ⟨o_v0, h⟩ := h
  refine r_geti (pc := 1) C fL_X5_7 dX5_touches_1 o_v0 ?_
  refine r_topi (fun x1 ex1 => ?_)
  have h := h x1 ex1
  refine r_iload_n (pc := 4) C dX5_touches_4 1 rfl ?_
  refine r_icmp_eq (pc := 5) C (tgt := 16) dX5_touches_5 (by decide) (fun c2 => ?_) (fun c2 => ?_)
  · have h := h.1 c2
    refine r_iconst (pc := 16) C (v := (1 : Int32)) dX5_touches_16 (by decide) ?_
    refine r_goto (pc := 17) C (tgt := 21) dX5_touches_17 (by decide) ?_
    exact r_zret (pc := 21) C E ht dX5_touches_21 (by decide) (by decide) (Or.inr rfl) h
  · have h := h.2 c2
    refine r_aload_n (pc := 8) C dX5_touches_8 0 rfl ?_
    refine r_geti (pc := 9) C fL_X5_13 dX5_touches_9 o_v0 ?_
    refine r_topi (fun x3 ex3 => ?_)
    have h := h x3 ex3
    refine r_iload_n (pc := 12) C dX5_touches_12 1 rfl ?_
    refine r_icmp_ne (pc := 13) C (tgt := 20) dX5_touches_13 (by decide) (fun c4 => ?_) (fun c4 => ?_)
    · have h := h.1 c4
      refine r_iconst (pc := 20) C (v := (0 : Int32)) dX5_touches_20 (by decide) ?_
      exact r_zret (pc := 21) C E ht dX5_touches_21 (by decide) (by decide) (Or.inl rfl) h
    · have h := h.2 c4
      refine r_iconst (pc := 16) C (v := (1 : Int32)) dX5_touches_16 (by decide) ?_
      refine r_goto (pc := 17) C (tgt := 21) dX5_touches_17 (by decide) ?_
      exact r_zret (pc := 21) C E ht dX5_touches_21 (by decide) (by decide) (Or.inr rfl) h
def P_X5_touches (v0 : Nat) (v1 : Int32) (Q : Int32 → HS → Prop) (S : HS) : Prop := P_X5_touches_0 Q v0 v1 S
theorem c_X5_touches {l : Launch} {Ee : EE} {S : HS} {v0 : Nat} {v1 : Int32} {Q : Int32 → HS → Prop} (h : P_X5_touches v0 v1 Q S) : MI l yX5_touches cX5_touches 2 (some .boolean) rm_X5_touches Ee S [.ref v0, .int v1] (fun r S => bl r ∧ Q r S) :=
  openI (by decide) (Nat.le_of_ble_eq_true rfl) (fun X C E ht hn hE hl => by subst hE; exact r_sub [0, 1] rfl (T_X5_touches_0 C E ht hn h))
def rm_X6_tell : Room := { frames := 0, cells := 0, slots := 0, locals := 0 }
def P_X6_tell_0 (Q : Int32 → HS → Prop) (v0 : Nat) (v1 : Int32) (S : HS) : Prop := (v1.toInt < 0 ∨ 5 < v1.toInt → (ob S v0 6 ∧ (∀ x2 : Int32, x2 = fI S v0 6 → (Q x2 S)))) ∧ (v1.toInt = 0 → (ob S v0 6 ∧ (∀ x3 : Int32, x3 = fI S v0 0 → (Q x3 S)))) ∧ (v1.toInt = 1 → (ob S v0 6 ∧ (∀ x4 : Int32, x4 = fI S v0 1 → (Q x4 S)))) ∧ (v1.toInt = 2 → (ob S v0 6 ∧ (∀ x5 : Int32, x5 = fI S v0 2 → (Q x5 S)))) ∧ (v1.toInt = 3 → (ob S v0 6 ∧ (∀ x6 : Int32, x6 = fI S v0 3 → (Q x6 S)))) ∧ (v1.toInt = 4 → (ob S v0 6 ∧ (∀ x7 : Int32, x7 = fI S v0 4 → (Q x7 S)))) ∧ (v1.toInt = 5 → (ob S v0 6 ∧ (∀ x8 : Int32, x8 = fI S v0 5 → (Q x8 S))))
set_option maxRecDepth 20000 in
set_option maxHeartbeats 4000000 in
theorem T_X6_tell_0 {X : CX} {Q : Int32 → HS → Prop} (C : Cx X cX6_tell RX6 2 rm_X6_tell) (E : ReI X rm_X6_tell Q) (ht : (xh X).sig.returnType = (some .int)) (hn : (xh X).name = yX6_tell.name) {v0 : Nat} {v1 : Int32} {S : HS} (h : P_X6_tell_0 Q v0 v1 S) : WS X 2 0 0 0 [(0, .ref v0), (1, .int v1)] [] S := by
  refine r_iload_n (pc := 0) C dX6_tell_0 1 rfl ?_
  refine r_table (pc := 1) C (tgt := 70) dX6_tell_1 (by decide) (fun c1 => ?_) (fun j hj hx => ?_)
  · have h := h.1 c1
    refine r_aload_n (pc := 70) C dX6_tell_70 0 rfl ?_
    obtain ⟨o_v0, h⟩ := h
    refine r_geti (pc := 71) C fL_X6_30 dX6_tell_71 o_v0 ?_
    refine r_topi (fun x2 ex2 => ?_)
    have h := h x2 ex2
    exact r_iret (pc := 74) C E ht dX6_tell_74 (by decide) (by decide) h
  · match j, hj, hx with
    | 0, _, hx =>
      refine ⟨39, 40, rfl, by decide, ?_⟩
      have h := h.2.1 (by simpa using hx)
      refine r_aload_n (pc := 40) C dX6_tell_40 0 rfl ?_
      obtain ⟨o_v0, h⟩ := h
      refine r_geti (pc := 41) C fL_X6_9 dX6_tell_41 o_v0 ?_
      refine r_topi (fun x3 ex3 => ?_)
      have h := h x3 ex3
      exact r_iret (pc := 44) C E ht dX6_tell_44 (by decide) (by decide) h
    | 1, _, hx =>
      refine ⟨44, 45, rfl, by decide, ?_⟩
      have h := h.2.2.1 (by simpa using hx)
      refine r_aload_n (pc := 45) C dX6_tell_45 0 rfl ?_
      obtain ⟨o_v0, h⟩ := h
      refine r_geti (pc := 46) C fL_X6_15 dX6_tell_46 o_v0 ?_
      refine r_topi (fun x4 ex4 => ?_)
      have h := h x4 ex4
      exact r_iret (pc := 49) C E ht dX6_tell_49 (by decide) (by decide) h
    | 2, _, hx =>
      refine ⟨49, 50, rfl, by decide, ?_⟩
      have h := h.2.2.2.1 (by simpa using hx)
      refine r_aload_n (pc := 50) C dX6_tell_50 0 rfl ?_
      obtain ⟨o_v0, h⟩ := h
      refine r_geti (pc := 51) C fL_X6_18 dX6_tell_51 o_v0 ?_
      refine r_topi (fun x5 ex5 => ?_)
      have h := h x5 ex5
      exact r_iret (pc := 54) C E ht dX6_tell_54 (by decide) (by decide) h
    | 3, _, hx =>
      refine ⟨54, 55, rfl, by decide, ?_⟩
      have h := h.2.2.2.2.1 (by simpa using hx)
      refine r_aload_n (pc := 55) C dX6_tell_55 0 rfl ?_
      obtain ⟨o_v0, h⟩ := h
      refine r_geti (pc := 56) C fL_X6_21 dX6_tell_56 o_v0 ?_
      refine r_topi (fun x6 ex6 => ?_)
      have h := h x6 ex6
      exact r_iret (pc := 59) C E ht dX6_tell_59 (by decide) (by decide) h
    | 4, _, hx =>
      refine ⟨59, 60, rfl, by decide, ?_⟩
      have h := h.2.2.2.2.2.1 (by simpa using hx)
      refine r_aload_n (pc := 60) C dX6_tell_60 0 rfl ?_
      obtain ⟨o_v0, h⟩ := h
      refine r_geti (pc := 61) C fL_X6_24 dX6_tell_61 o_v0 ?_
      refine r_topi (fun x7 ex7 => ?_)
      have h := h x7 ex7
      exact r_iret (pc := 64) C E ht dX6_tell_64 (by decide) (by decide) h
    | 5, _, hx =>
      refine ⟨64, 65, rfl, by decide, ?_⟩
      have h := h.2.2.2.2.2.2 (by simpa using hx)
      refine r_aload_n (pc := 65) C dX6_tell_65 0 rfl ?_
      obtain ⟨o_v0, h⟩ := h
      refine r_geti (pc := 66) C fL_X6_27 dX6_tell_66 o_v0 ?_
      refine r_topi (fun x8 ex8 => ?_)
      have h := h x8 ex8
      exact r_iret (pc := 69) C E ht dX6_tell_69 (by decide) (by decide) h
    | j + 6, hj, _ => exact absurd hj (by omega)
def P_X6_tell (v0 : Nat) (v1 : Int32) (Q : Int32 → HS → Prop) (S : HS) : Prop := P_X6_tell_0 Q v0 v1 S
theorem c_X6_tell {l : Launch} {Ee : EE} {S : HS} {v0 : Nat} {v1 : Int32} {Q : Int32 → HS → Prop} (h : P_X6_tell v0 v1 Q S) : MI l yX6_tell cX6_tell 2 (some .int) rm_X6_tell Ee S [.ref v0, .int v1] Q :=
  openI (by decide) (Nat.le_of_ble_eq_true rfl) (fun X C E ht hn hE hl => by subst hE; exact r_sub [0, 1] rfl (T_X6_tell_0 C E ht hn h))
def rm_X7_addMove : Room := { frames := 0, cells := 0, slots := 0, locals := 0 }
def P_X7_addMove_0 (Q : HS → Prop) (v0 : Nat) (v1 : Int32) (v2 : Int32) (v3 : Int32) (v4 : Int64) (v6 : Int32) (S : HS) : Prop := ob S v0 7 ∧ (∀ x1 : Int32, x1 = fI S v0 11 → (((v1 = x1) → (Q S)) ∧ ((¬ v1 = x1) → (∀ x3 : Int32, x3 = fI S v0 3 → (((x3 < 0) → (Q S)) ∧ ((¬ x3 < 0) → (∀ x5 : Int32, x5 = fI S v0 3 → (((x5 < (224 : Int32)) → (∃ a7 : Nat, fR S v0 4 = some a7 ∧ (∀ x8 : Int32, x8 = fI S v0 3 → (ob S a7 13 ∧ (∀ x10 : Int32, x10 = v1 * (401 : Int32) → (vp_in x8 (hN S a7) ∧ (∀ S11 : HS, S11 = sI S a7 x8.toNatClampNeg x10 → (∃ a12 : Nat, fR S11 v0 5 = some a12 ∧ (∀ x13 : Int32, x13 = fI S11 v0 3 → (ob S11 a12 13 ∧ (∀ x15 : Int32, x15 = (v2 * (401 : Int32)) + v3 → (vp_in x13 (hN S11 a12) ∧ (∀ S16 : HS, S16 = sI S11 a12 x13.toNatClampNeg x15 → (∃ a17 : Nat, fR S16 v0 6 = some a17 ∧ (∀ x18 : Int32, x18 = fI S16 v0 3 → (ob S16 a17 13 ∧ (vp_in x18 (hN S16 a17) ∧ (∀ S20 : HS, S20 = sI S16 a17 x18.toNatClampNeg v3 → (∃ a21 : Nat, fR S20 v0 7 = some a21 ∧ (∀ x22 : Int32, x22 = fI S20 v0 3 → (ob S20 a21 14 ∧ (∀ x24 : Int64, x24 = v4 * (512 : Int64) → (vp_in x22 (hN S20 a21) ∧ (∀ S25 : HS, S25 = sJ S20 a21 x22.toNatClampNeg x24 → (∃ a26 : Nat, fR S25 v0 8 = some a26 ∧ (∀ x27 : Int32, x27 = fI S25 v0 3 → (ob S25 a26 13 ∧ (vp_in x27 (hN S25 a26) ∧ (∀ S29 : HS, S29 = sI S25 a26 x27.toNatClampNeg v6 → (∀ x30 : Int32, x30 = fI S29 v0 3 → (∀ x31 : Int32, x31 = x30 + (1 : Int32) → (∀ S32 : HS, S32 = sI S29 v0 3 x31 → (Q S32))))))))))))))))))))))))))))))))) ∧ ((¬ x5 < (224 : Int32)) → (Q S))))))))))
set_option maxRecDepth 20000 in
set_option maxHeartbeats 4000000 in
theorem T_X7_addMove_0 {X : CX} {Q : HS → Prop} (C : Cx X cX7_addMove RX7 7 rm_X7_addMove) (E : ReV X rm_X7_addMove Q) (ht : (xh X).sig.returnType = none) (hn : (xh X).name = yX7_addMove.name) {v0 : Nat} {v1 : Int32} {v2 : Int32} {v3 : Int32} {v4 : Int64} {v6 : Int32} {S : HS} (h : P_X7_addMove_0 Q v0 v1 v2 v3 v4 v6 S) : WS X 7 0 0 0 [(0, .ref v0), (1, .int v1), (2, .int v2), (3, .int v3), (4, .long v4), (6, .int v6)] [] S := by
  refine r_iload_n (pc := 0) C dX7_addMove_0 1 rfl ?_
  refine r_aload_n (pc := 1) C dX7_addMove_1 0 rfl ?_
  obtain ⟨o_v0, h⟩ := h
  refine r_geti (pc := 2) C fL_X7_44 dX7_addMove_2 o_v0 ?_
  refine r_topi (fun x1 ex1 => ?_)
  have h := h x1 ex1
  refine r_icmp_eq (pc := 5) C (tgt := 25) dX7_addMove_5 (by decide) (fun c2 => ?_) (fun c2 => ?_)
  · have h := h.1 c2
    exact r_vret (pc := 25) C E ht dX7_addMove_25 (by decide) (by decide) h
  · have h := h.2 c2
    refine r_aload_n (pc := 8) C dX7_addMove_8 0 rfl ?_
    refine r_geti (pc := 9) C fL_X7_82 dX7_addMove_9 o_v0 ?_
    refine r_topi (fun x3 ex3 => ?_)
    have h := h x3 ex3
    refine r_if_lt (pc := 12) C (tgt := 25) dX7_addMove_12 (by decide) (fun c4 => ?_) (fun c4 => ?_)
    · have h := h.1 c4
      exact r_vret (pc := 25) C E ht dX7_addMove_25 (by decide) (by decide) h
    · have h := h.2 c4
      refine r_aload_n (pc := 15) C dX7_addMove_15 0 rfl ?_
      refine r_geti (pc := 16) C fL_X7_82 dX7_addMove_16 o_v0 ?_
      refine r_topi (fun x5 ex5 => ?_)
      have h := h x5 ex5
      refine r_sipush (pc := 19) C (v := (224 : Int32)) dX7_addMove_19 (by decide) ?_
      refine r_icmp_lt (pc := 22) C (tgt := 26) dX7_addMove_22 (by decide) (fun c6 => ?_) (fun c6 => ?_)
      · have h := h.1 c6
        refine r_aload_n (pc := 26) C dX7_addMove_26 0 rfl ?_
        obtain ⟨a7, ea7, h⟩ := h
        refine r_getr (pc := 27) C fL_X7_22 dX7_addMove_27 o_v0 ea7 ?_
        refine r_aload_n (pc := 30) C dX7_addMove_30 0 rfl ?_
        refine r_geti (pc := 31) C fL_X7_82 dX7_addMove_31 o_v0 ?_
        refine r_topi (fun x8 ex8 => ?_)
        have h := h x8 ex8
        refine r_iload_n (pc := 34) C dX7_addMove_34 1 rfl ?_
        refine r_sipush (pc := 35) C (v := (401 : Int32)) dX7_addMove_35 (by decide) ?_
        refine r_imul (pc := 38) C dX7_addMove_38 ?_
        obtain ⟨o_a7, h⟩ := h
        refine r_topi (fun x10 ex10 => ?_)
        have h := h x10 ex10
        obtain ⟨i9, h⟩ := h
        refine r_iast (pc := 39) C dX7_addMove_39 o_a7 i9 ?_
        refine r_heap (fun S11 eS11 => ?_)
        have h := h S11 eS11
        have o_a7 := ob_I eS11 o_a7
        have o_v0 := ob_I eS11 o_v0
        refine r_aload_n (pc := 40) C dX7_addMove_40 0 rfl ?_
        obtain ⟨a12, ea12, h⟩ := h
        refine r_getr (pc := 41) C fL_X7_25 dX7_addMove_41 o_v0 ea12 ?_
        refine r_aload_n (pc := 44) C dX7_addMove_44 0 rfl ?_
        refine r_geti (pc := 45) C fL_X7_82 dX7_addMove_45 o_v0 ?_
        refine r_topi (fun x13 ex13 => ?_)
        have h := h x13 ex13
        refine r_iload_n (pc := 48) C dX7_addMove_48 2 rfl ?_
        refine r_sipush (pc := 49) C (v := (401 : Int32)) dX7_addMove_49 (by decide) ?_
        refine r_imul (pc := 52) C dX7_addMove_52 ?_
        refine r_iload_n (pc := 53) C dX7_addMove_53 3 rfl ?_
        refine r_iadd (pc := 54) C dX7_addMove_54 ?_
        obtain ⟨o_a12, h⟩ := h
        refine r_topi (fun x15 ex15 => ?_)
        have h := h x15 ex15
        obtain ⟨i14, h⟩ := h
        refine r_iast (pc := 55) C dX7_addMove_55 o_a12 i14 ?_
        refine r_heap (fun S16 eS16 => ?_)
        have h := h S16 eS16
        have o_a12 := ob_I eS16 o_a12
        have o_a7 := ob_I eS16 o_a7
        have o_v0 := ob_I eS16 o_v0
        refine r_aload_n (pc := 56) C dX7_addMove_56 0 rfl ?_
        obtain ⟨a17, ea17, h⟩ := h
        refine r_getr (pc := 57) C fL_X7_28 dX7_addMove_57 o_v0 ea17 ?_
        refine r_aload_n (pc := 60) C dX7_addMove_60 0 rfl ?_
        refine r_geti (pc := 61) C fL_X7_82 dX7_addMove_61 o_v0 ?_
        refine r_topi (fun x18 ex18 => ?_)
        have h := h x18 ex18
        refine r_iload_n (pc := 64) C dX7_addMove_64 3 rfl ?_
        obtain ⟨o_a17, h⟩ := h
        obtain ⟨i19, h⟩ := h
        refine r_iast (pc := 65) C dX7_addMove_65 o_a17 i19 ?_
        refine r_heap (fun S20 eS20 => ?_)
        have h := h S20 eS20
        have o_a12 := ob_I eS20 o_a12
        have o_a17 := ob_I eS20 o_a17
        have o_a7 := ob_I eS20 o_a7
        have o_v0 := ob_I eS20 o_v0
        refine r_aload_n (pc := 66) C dX7_addMove_66 0 rfl ?_
        obtain ⟨a21, ea21, h⟩ := h
        refine r_getr (pc := 67) C fL_X7_31 dX7_addMove_67 o_v0 ea21 ?_
        refine r_aload_n (pc := 70) C dX7_addMove_70 0 rfl ?_
        refine r_geti (pc := 71) C fL_X7_82 dX7_addMove_71 o_v0 ?_
        refine r_topi (fun x22 ex22 => ?_)
        have h := h x22 ex22
        refine r_lload (pc := 74) C dX7_addMove_74 4 rfl ?_
        refine r_ldc2 (pc := 76) C (v := (512 : Int64)) dX7_addMove_76 g_857 ?_
        refine r_lmul (pc := 79) C dX7_addMove_79 ?_
        obtain ⟨o_a21, h⟩ := h
        refine r_topl (fun x24 ex24 => ?_)
        have h := h x24 ex24
        obtain ⟨i23, h⟩ := h
        refine r_last (pc := 80) C dX7_addMove_80 o_a21 i23 ?_
        refine r_heap (fun S25 eS25 => ?_)
        have h := h S25 eS25
        have o_a12 := ob_J eS25 o_a12
        have o_a17 := ob_J eS25 o_a17
        have o_a21 := ob_J eS25 o_a21
        have o_a7 := ob_J eS25 o_a7
        have o_v0 := ob_J eS25 o_v0
        refine r_aload_n (pc := 81) C dX7_addMove_81 0 rfl ?_
        obtain ⟨a26, ea26, h⟩ := h
        refine r_getr (pc := 82) C fL_X7_34 dX7_addMove_82 o_v0 ea26 ?_
        refine r_aload_n (pc := 85) C dX7_addMove_85 0 rfl ?_
        refine r_geti (pc := 86) C fL_X7_82 dX7_addMove_86 o_v0 ?_
        refine r_topi (fun x27 ex27 => ?_)
        have h := h x27 ex27
        refine r_iload (pc := 89) C dX7_addMove_89 5 rfl ?_
        obtain ⟨o_a26, h⟩ := h
        obtain ⟨i28, h⟩ := h
        refine r_iast (pc := 91) C dX7_addMove_91 o_a26 i28 ?_
        refine r_heap (fun S29 eS29 => ?_)
        have h := h S29 eS29
        have o_a12 := ob_I eS29 o_a12
        have o_a17 := ob_I eS29 o_a17
        have o_a21 := ob_I eS29 o_a21
        have o_a26 := ob_I eS29 o_a26
        have o_a7 := ob_I eS29 o_a7
        have o_v0 := ob_I eS29 o_v0
        refine r_aload_n (pc := 92) C dX7_addMove_92 0 rfl ?_
        refine r_dup (pc := 93) C dX7_addMove_93 rfl ?_
        refine r_geti (pc := 94) C fL_X7_82 dX7_addMove_94 o_v0 ?_
        refine r_topi (fun x30 ex30 => ?_)
        have h := h x30 ex30
        refine r_iconst (pc := 97) C (v := (1 : Int32)) dX7_addMove_97 (by decide) ?_
        refine r_iadd (pc := 98) C dX7_addMove_98 ?_
        refine r_topi (fun x31 ex31 => ?_)
        have h := h x31 ex31
        refine r_puti (pc := 99) C pfL_X7_82 dX7_addMove_99 o_v0 ?_
        refine r_heap (fun S32 eS32 => ?_)
        have h := h S32 eS32
        have o_a12 := ob_I eS32 o_a12
        have o_a17 := ob_I eS32 o_a17
        have o_a21 := ob_I eS32 o_a21
        have o_a26 := ob_I eS32 o_a26
        have o_a7 := ob_I eS32 o_a7
        have o_v0 := ob_I eS32 o_v0
        exact r_vret (pc := 102) C E ht dX7_addMove_102 (by decide) (by decide) h
      · have h := h.2 c6
        exact r_vret (pc := 25) C E ht dX7_addMove_25 (by decide) (by decide) h
def P_X7_addMove (v0 : Nat) (v1 : Int32) (v2 : Int32) (v3 : Int32) (v4 : Int64) (v6 : Int32) (Q : HS → Prop) (S : HS) : Prop := P_X7_addMove_0 Q v0 v1 v2 v3 v4 v6 S
theorem c_X7_addMove {l : Launch} {Ee : EE} {S : HS} {v0 : Nat} {v1 : Int32} {v2 : Int32} {v3 : Int32} {v4 : Int64} {v6 : Int32} {Q : HS → Prop} (h : P_X7_addMove v0 v1 v2 v3 v4 v6 Q S) : MV l yX7_addMove cX7_addMove 7 none rm_X7_addMove Ee S [.ref v0, .int v1, .int v2, .int v3, .long v4, .int v6] Q :=
  openV (by decide) (Nat.le_of_ble_eq_true rfl) (fun X C E ht hn hE hl => by subst hE; exact r_sub [0, 1, 2, 3, 4, 5] rfl (T_X7_addMove_0 C E ht hn h))
def rm_X7_addLeg : Room := { frames := 1, cells := 0, slots := 0, locals := 26 }
def P_X7_addLeg_82 (Q : HS → Prop) (v0 : Nat) (v1 : Nat) (v2 : Int32) (v4 : Int64) (v6 : Int32) (v7 : Int32) (S : HS) : Prop := ob S v1 5 ∧ (P_X5_startOf v1 v2 (fun x3 S1 => Gr S S1 → (P_X5_endOf v1 v2 (fun x6 S4 => Gr S1 S4 → (ob S4 v0 7 ∧ (P_X7_addMove v0 x3 x6 v7 v4 v6 (fun S7 => Gr S4 S7 → (Q S7)) S4))) S1)) S)
set_option maxRecDepth 20000 in
set_option maxHeartbeats 4000000 in
theorem T_X7_addLeg_82 {X : CX} {Q : HS → Prop} (C : Cx X cX7_addLeg RX7 9 rm_X7_addLeg) (E : ReV X rm_X7_addLeg Q) (ht : (xh X).sig.returnType = none) (hn : (xh X).name = yX7_addLeg.name) {v0 : Nat} {v1 : Nat} {v2 : Int32} {v4 : Int64} {v6 : Int32} {v7 : Int32} {S : HS} (h : P_X7_addLeg_82 Q v0 v1 v2 v4 v6 v7 S) : WS X 9 0 0 82 [(0, .ref v0), (1, .ref v1), (2, .int v2), (4, .long v4), (6, .int v6), (7, .int v7)] [] S := by
  refine r_aload_n (pc := 82) C dX7_addLeg_82 0 rfl ?_
  refine r_aload_n (pc := 83) C dX7_addLeg_83 1 rfl ?_
  refine r_iload_n (pc := 84) C dX7_addLeg_84 2 rfl ?_
  obtain ⟨o_v1, h⟩ := h
  refine r_callVi0 (pc := 85) C (rest := [.ref v0]) (a := v1) o_v1 [.int v2] yV_X5_startOf g_858 (c_X5_startOf h) dX7_addLeg_85 rfl rfl (Nat.le_of_ble_eq_true rfl) ⟨by decide, by decide⟩ ⟨by decide, by decide⟩ ⟨rfl, rfl⟩ (fun x3 S1 h g2 => ?_)
  have h := h g2
  have o_v1 := gr_ob g2 o_v1
  refine r_aload_n (pc := 88) C dX7_addLeg_88 1 rfl ?_
  refine r_iload_n (pc := 89) C dX7_addLeg_89 2 rfl ?_
  refine r_callVi0 (pc := 90) C (rest := [.int x3, .ref v0]) (a := v1) o_v1 [.int v2] yV_X5_endOf g_862 (c_X5_endOf h) dX7_addLeg_90 rfl rfl (Nat.le_of_ble_eq_true rfl) ⟨by decide, by decide⟩ ⟨by decide, by decide⟩ ⟨rfl, rfl⟩ (fun x6 S4 h g5 => ?_)
  have h := h g5
  have o_v1 := gr_ob g5 o_v1
  refine r_iload (pc := 93) C dX7_addLeg_93 5 rfl ?_
  refine r_lload (pc := 95) C dX7_addLeg_95 3 rfl ?_
  refine r_iload (pc := 97) C dX7_addLeg_97 4 rfl ?_
  obtain ⟨o_v0, h⟩ := h
  refine r_callVv0 (pc := 99) C (rest := []) (a := v0) o_v0 [.int x3, .int x6, .int v7, .long v4, .int v6] yV_X7_addMove g_866 (c_X7_addMove h) dX7_addLeg_99 rfl rfl (Nat.le_of_ble_eq_true rfl) ⟨by decide, by decide⟩ ⟨by decide, by decide⟩ ⟨rfl, rfl⟩ (fun S7 h g8 => ?_)
  have h := h g8
  have o_v0 := gr_ob g8 o_v0
  have o_v1 := gr_ob g8 o_v1
  exact r_vret (pc := 102) C E ht dX7_addLeg_102 (by decide) (by decide) h
def P_X7_addLeg_0 (Q : HS → Prop) (v0 : Nat) (v1 : Nat) (v2 : Int32) (v3 : Int32) (v4 : Int64) (v6 : Int32) (S : HS) : Prop := ob S v1 5 ∧ (P_X5_minutesAt v1 v3 (fun x3 S1 => Gr S S1 → (ob S1 v0 7 ∧ (∀ x4 : Int32, x4 = fI S1 v0 3 → (∀ x5 : Int32, x5 = x4 - (1 : Int32) → (((x5 < 0) → (P_X7_addLeg_82 Q v0 v1 v2 v4 v6 x3 S1)) ∧ ((¬ x5 < 0) → ((((224 : Int32) ≤ x5) → (P_X7_addLeg_82 Q v0 v1 v2 v4 v6 x3 S1)) ∧ ((¬ (224 : Int32) ≤ x5) → (∃ a8 : Nat, fR S1 v0 8 = some a8 ∧ (ob S1 a8 13 ∧ (vp_in x5 (hN S1 a8) ∧ ∀ x10 : Int32, x10 = fI S1 a8 x5.toNatClampNeg → (∀ x11 : Int32, x11 = x10 / (10 : Int32) → (∀ x12 : Int32, x12 = v6 / (10 : Int32) → (((¬ x11 = x12) → (P_X7_addLeg_82 Q v0 v1 v2 v4 v6 x3 S1)) ∧ ((x11 = x12) → (∃ a14 : Nat, fR S1 v0 6 = some a14 ∧ (ob S1 a14 13 ∧ (vp_in x5 (hN S1 a14) ∧ ∀ x16 : Int32, x16 = fI S1 a14 x5.toNatClampNeg → (((¬ x16 = x3) → (P_X7_addLeg_82 Q v0 v1 v2 v4 v6 x3 S1)) ∧ ((x16 = x3) → (∃ a18 : Nat, fR S1 v0 7 = some a18 ∧ (ob S1 a18 14 ∧ (vp_in x5 (hN S1 a18) ∧ ∀ x20 : Int64, x20 = fJ S1 a18 x5.toNatClampNeg → (((0 < (lg_cmp x20 (v4 * (512 : Int64)))) → (∀ S22 : HS, S22 = sI S1 v0 3 x5 → (P_X7_addLeg_82 Q v0 v1 v2 v4 v6 x3 S22))) ∧ ((¬ 0 < (lg_cmp x20 (v4 * (512 : Int64)))) → (Q S1)))))))))))))))))))))))))) S)
set_option maxRecDepth 20000 in
set_option maxHeartbeats 4000000 in
theorem T_X7_addLeg_0 {X : CX} {Q : HS → Prop} (C : Cx X cX7_addLeg RX7 9 rm_X7_addLeg) (E : ReV X rm_X7_addLeg Q) (ht : (xh X).sig.returnType = none) (hn : (xh X).name = yX7_addLeg.name) {v0 : Nat} {v1 : Nat} {v2 : Int32} {v3 : Int32} {v4 : Int64} {v6 : Int32} {S : HS} (h : P_X7_addLeg_0 Q v0 v1 v2 v3 v4 v6 S) : WS X 9 0 0 0 [(0, .ref v0), (1, .ref v1), (2, .int v2), (3, .int v3), (4, .long v4), (6, .int v6)] [] S := by
  refine r_aload_n (pc := 0) C dX7_addLeg_0 1 rfl ?_
  refine r_iload_n (pc := 1) C dX7_addLeg_1 3 rfl ?_
  obtain ⟨o_v1, h⟩ := h
  refine r_callVi0 (pc := 2) C (rest := []) (a := v1) o_v1 [.int v3] yV_X5_minutesAt g_856 (c_X5_minutesAt h) dX7_addLeg_2 rfl rfl (Nat.le_of_ble_eq_true rfl) ⟨by decide, by decide⟩ ⟨by decide, by decide⟩ ⟨rfl, rfl⟩ (fun x3 S1 h g2 => ?_)
  have h := h g2
  have o_v1 := gr_ob g2 o_v1
  refine r_istore (pc := 5) C dX7_addLeg_5 (by decide) (lv' := [(7, .int x3), (0, .ref v0), (1, .ref v1), (2, .int v2), (3, .int v3), (4, .long v4), (6, .int v6)]) rfl ?_
  refine r_aload_n (pc := 7) C dX7_addLeg_7 1 rfl ?_
  obtain ⟨o_v0, h⟩ := h
  refine r_geti (pc := 8) C fL_X7_82 dX7_addLeg_8 o_v0 ?_
  refine r_topi (fun x4 ex4 => ?_)
  have h := h x4 ex4
  refine r_iconst (pc := 11) C (v := (1 : Int32)) dX7_addLeg_11 (by decide) ?_
  refine r_isub (pc := 12) C dX7_addLeg_12 ?_
  refine r_topi (fun x5 ex5 => ?_)
  have h := h x5 ex5
  refine r_istore (pc := 13) C dX7_addLeg_13 (by decide) (lv' := [(8, .int x5), (7, .int x3), (0, .ref v0), (1, .ref v1), (2, .int v2), (3, .int v3), (4, .long v4), (6, .int v6)]) rfl ?_
  refine r_iload (pc := 15) C dX7_addLeg_15 0 rfl ?_
  refine r_if_lt (pc := 17) C (tgt := 82) dX7_addLeg_17 (by decide) (fun c6 => ?_) (fun c6 => ?_)
  · have h := h.1 c6
    exact r_sub [2, 3, 4, 6, 7, 1] rfl (T_X7_addLeg_82 C E ht hn h)
  · have h := h.2 c6
    refine r_iload (pc := 20) C dX7_addLeg_20 0 rfl ?_
    refine r_sipush (pc := 22) C (v := (224 : Int32)) dX7_addLeg_22 (by decide) ?_
    refine r_icmp_ge (pc := 25) C (tgt := 82) dX7_addLeg_25 (by decide) (fun c7 => ?_) (fun c7 => ?_)
    · have h := h.1 c7
      exact r_sub [2, 3, 4, 6, 7, 1] rfl (T_X7_addLeg_82 C E ht hn h)
    · have h := h.2 c7
      refine r_aload_n (pc := 28) C dX7_addLeg_28 2 rfl ?_
      obtain ⟨a8, ea8, h⟩ := h
      refine r_getr (pc := 29) C fL_X7_34 dX7_addLeg_29 o_v0 ea8 ?_
      refine r_iload (pc := 32) C dX7_addLeg_32 0 rfl ?_
      obtain ⟨o_a8, h⟩ := h
      obtain ⟨i9, h⟩ := h
      refine r_iald (pc := 34) C dX7_addLeg_34 o_a8 i9 ?_
      refine r_topi (fun x10 ex10 => ?_)
      have h := h x10 ex10
      refine r_bipush (pc := 35) C (v := (10 : Int32)) dX7_addLeg_35 (by decide) ?_
      refine r_idiv (pc := 37) C dX7_addLeg_37 (by decide) ?_
      refine r_topi (fun x11 ex11 => ?_)
      have h := h x11 ex11
      refine r_iload (pc := 38) C dX7_addLeg_38 7 rfl ?_
      refine r_bipush (pc := 40) C (v := (10 : Int32)) dX7_addLeg_40 (by decide) ?_
      refine r_idiv (pc := 42) C dX7_addLeg_42 (by decide) ?_
      refine r_topi (fun x12 ex12 => ?_)
      have h := h x12 ex12
      refine r_icmp_ne (pc := 43) C (tgt := 82) dX7_addLeg_43 (by decide) (fun c13 => ?_) (fun c13 => ?_)
      · have h := h.1 c13
        exact r_sub [2, 3, 4, 6, 7, 1] rfl (T_X7_addLeg_82 C E ht hn h)
      · have h := h.2 c13
        refine r_aload_n (pc := 46) C dX7_addLeg_46 2 rfl ?_
        obtain ⟨a14, ea14, h⟩ := h
        refine r_getr (pc := 47) C fL_X7_28 dX7_addLeg_47 o_v0 ea14 ?_
        refine r_iload (pc := 50) C dX7_addLeg_50 0 rfl ?_
        obtain ⟨o_a14, h⟩ := h
        obtain ⟨i15, h⟩ := h
        refine r_iald (pc := 52) C dX7_addLeg_52 o_a14 i15 ?_
        refine r_topi (fun x16 ex16 => ?_)
        have h := h x16 ex16
        refine r_iload (pc := 53) C dX7_addLeg_53 1 rfl ?_
        refine r_icmp_ne (pc := 55) C (tgt := 82) dX7_addLeg_55 (by decide) (fun c17 => ?_) (fun c17 => ?_)
        · have h := h.1 c17
          exact r_sub [2, 3, 4, 6, 7, 1] rfl (T_X7_addLeg_82 C E ht hn h)
        · have h := h.2 c17
          refine r_aload_n (pc := 58) C dX7_addLeg_58 2 rfl ?_
          obtain ⟨a18, ea18, h⟩ := h
          refine r_getr (pc := 59) C fL_X7_31 dX7_addLeg_59 o_v0 ea18 ?_
          refine r_iload (pc := 62) C dX7_addLeg_62 0 rfl ?_
          obtain ⟨o_a18, h⟩ := h
          obtain ⟨i19, h⟩ := h
          refine r_lald (pc := 64) C dX7_addLeg_64 o_a18 i19 ?_
          refine r_topl (fun x20 ex20 => ?_)
          have h := h x20 ex20
          refine r_lload (pc := 65) C dX7_addLeg_65 6 rfl ?_
          refine r_ldc2 (pc := 67) C (v := (512 : Int64)) dX7_addLeg_67 g_857 ?_
          refine r_lmul (pc := 70) C dX7_addLeg_70 ?_
          refine r_lcmp (pc := 71) C dX7_addLeg_71 ?_
          refine r_if_gt (pc := 72) C (tgt := 76) dX7_addLeg_72 (by decide) (fun c21 => ?_) (fun c21 => ?_)
          · have h := h.1 c21
            refine r_aload_n (pc := 76) C dX7_addLeg_76 2 rfl ?_
            refine r_iload (pc := 77) C dX7_addLeg_77 0 rfl ?_
            refine r_puti (pc := 79) C pfL_X7_82 dX7_addLeg_79 o_v0 ?_
            refine r_heap (fun S22 eS22 => ?_)
            have h := h S22 eS22
            have o_a14 := ob_I eS22 o_a14
            have o_a18 := ob_I eS22 o_a18
            have o_a8 := ob_I eS22 o_a8
            have o_v0 := ob_I eS22 o_v0
            have o_v1 := ob_I eS22 o_v1
            exact r_sub [2, 3, 4, 6, 7, 1] rfl (T_X7_addLeg_82 C E ht hn h)
          · have h := h.2 c21
            exact r_vret (pc := 75) C E ht dX7_addLeg_75 (by decide) (by decide) h
def P_X7_addLeg (v0 : Nat) (v1 : Nat) (v2 : Int32) (v3 : Int32) (v4 : Int64) (v6 : Int32) (Q : HS → Prop) (S : HS) : Prop := P_X7_addLeg_0 Q v0 v1 v2 v3 v4 v6 S
theorem c_X7_addLeg {l : Launch} {Ee : EE} {S : HS} {v0 : Nat} {v1 : Nat} {v2 : Int32} {v3 : Int32} {v4 : Int64} {v6 : Int32} {Q : HS → Prop} (h : P_X7_addLeg v0 v1 v2 v3 v4 v6 Q S) : MV l yX7_addLeg cX7_addLeg 9 none rm_X7_addLeg Ee S [.ref v0, .ref v1, .int v2, .int v3, .long v4, .int v6] Q :=
  openV (by decide) (Nat.le_of_ble_eq_true rfl) (fun X C E ht hn hE hl => by subst hE; exact r_sub [0, 1, 2, 3, 4, 5] rfl (T_X7_addLeg_0 C E ht hn h))
def rm_X7_keyOf : Room := { frames := 0, cells := 0, slots := 0, locals := 0 }
def P_X7_keyOf_0 (Q : Int64 → HS → Prop) (v0 : Nat) (v1 : Int32) (v2 : Int32) (S : HS) : Prop := ∀ x1 : Int32, x1 = (v1 * (401 : Int32)) + v2 → (((x1 < 0) → (Q (4611686018427387904 : Int64) S)) ∧ ((¬ x1 < 0) → (ob S v0 7 ∧ (∃ a3 : Nat, fR S v0 1 = some a3 ∧ (ob S a3 14 ∧ ((((nI (hN S a3)) ≤ x1) → (Q (4611686018427387904 : Int64) S)) ∧ ((¬ (nI (hN S a3)) ≤ x1) → (∃ a5 : Nat, fR S v0 1 = some a5 ∧ (ob S a5 14 ∧ (vp_in x1 (hN S a5) ∧ ∀ x7 : Int64, x7 = fJ S a5 x1.toNatClampNeg → (Q x7 S)))))))))))
set_option maxRecDepth 20000 in
set_option maxHeartbeats 4000000 in
theorem T_X7_keyOf_0 {X : CX} {Q : Int64 → HS → Prop} (C : Cx X cX7_keyOf RX7 4 rm_X7_keyOf) (E : ReJ X rm_X7_keyOf Q) (ht : (xh X).sig.returnType = (some .long)) (hn : (xh X).name = yX7_keyOf.name) {v0 : Nat} {v1 : Int32} {v2 : Int32} {S : HS} (h : P_X7_keyOf_0 Q v0 v1 v2 S) : WS X 4 0 0 0 [(0, .ref v0), (1, .int v1), (2, .int v2)] [] S := by
  refine r_iload_n (pc := 0) C dX7_keyOf_0 1 rfl ?_
  refine r_sipush (pc := 1) C (v := (401 : Int32)) dX7_keyOf_1 (by decide) ?_
  refine r_imul (pc := 4) C dX7_keyOf_4 ?_
  refine r_iload_n (pc := 5) C dX7_keyOf_5 2 rfl ?_
  refine r_iadd (pc := 6) C dX7_keyOf_6 ?_
  refine r_topi (fun x1 ex1 => ?_)
  have h := h x1 ex1
  refine r_istore_n (pc := 7) C dX7_keyOf_7 rfl (by decide) (lv' := [(3, .int x1), (0, .ref v0), (1, .int v1), (2, .int v2)]) rfl ?_
  refine r_iload_n (pc := 8) C dX7_keyOf_8 0 rfl ?_
  refine r_if_lt (pc := 9) C (tgt := 30) dX7_keyOf_9 (by decide) (fun c2 => ?_) (fun c2 => ?_)
  · have h := h.1 c2
    refine r_ldc2 (pc := 30) C (v := (4611686018427387904 : Int64)) dX7_keyOf_30 g_887 ?_
    exact r_lret (pc := 33) C E ht dX7_keyOf_33 (by decide) (by decide) h
  · have h := h.2 c2
    refine r_iload_n (pc := 12) C dX7_keyOf_12 0 rfl ?_
    refine r_aload_n (pc := 13) C dX7_keyOf_13 1 rfl ?_
    obtain ⟨o_v0, h⟩ := h
    obtain ⟨a3, ea3, h⟩ := h
    refine r_getr (pc := 14) C fL_X7_15 dX7_keyOf_14 o_v0 ea3 ?_
    obtain ⟨o_a3, h⟩ := h
    refine r_alen14 (pc := 17) C dX7_keyOf_17 o_a3 ?_
    refine r_icmp_ge (pc := 18) C (tgt := 30) dX7_keyOf_18 (by decide) (fun c4 => ?_) (fun c4 => ?_)
    · have h := h.1 c4
      refine r_ldc2 (pc := 30) C (v := (4611686018427387904 : Int64)) dX7_keyOf_30 g_887 ?_
      exact r_lret (pc := 33) C E ht dX7_keyOf_33 (by decide) (by decide) h
    · have h := h.2 c4
      refine r_aload_n (pc := 21) C dX7_keyOf_21 1 rfl ?_
      obtain ⟨a5, ea5, h⟩ := h
      refine r_getr (pc := 22) C fL_X7_15 dX7_keyOf_22 o_v0 ea5 ?_
      refine r_iload_n (pc := 25) C dX7_keyOf_25 0 rfl ?_
      obtain ⟨o_a5, h⟩ := h
      obtain ⟨i6, h⟩ := h
      refine r_lald (pc := 26) C dX7_keyOf_26 o_a5 i6 ?_
      refine r_topl (fun x7 ex7 => ?_)
      have h := h x7 ex7
      refine r_goto (pc := 27) C (tgt := 33) dX7_keyOf_27 (by decide) ?_
      exact r_lret (pc := 33) C E ht dX7_keyOf_33 (by decide) (by decide) h
def P_X7_keyOf (v0 : Nat) (v1 : Int32) (v2 : Int32) (Q : Int64 → HS → Prop) (S : HS) : Prop := P_X7_keyOf_0 Q v0 v1 v2 S
theorem c_X7_keyOf {l : Launch} {Ee : EE} {S : HS} {v0 : Nat} {v1 : Int32} {v2 : Int32} {Q : Int64 → HS → Prop} (h : P_X7_keyOf v0 v1 v2 Q S) : MJ l yX7_keyOf cX7_keyOf 4 (some .long) rm_X7_keyOf Ee S [.ref v0, .int v1, .int v2] Q :=
  openJ (by decide) (Nat.le_of_ble_eq_true rfl) (fun X C E ht hn hE hl => by subst hE; exact r_sub [0, 1, 2] rfl (T_X7_keyOf_0 C E ht hn h))
def rm_X7_endFrom : Room := { frames := 1, cells := 0, slots := 0, locals := 23 }
def P_X7_endFrom_0 (Q : Int32 → HS → Prop) (v0 : Nat) (v1 : Int32) (v2 : Int32) (S : HS) : Prop := ob S v0 7 ∧ (P_X7_keyOf v0 v1 v2 (fun x3 S1 => Gr S S1 → (∀ x4 : Int64, x4 = x3 - x3 / (512 : Int64) * (512 : Int64) → (Q x4.toInt32 S1))) S)
set_option maxRecDepth 20000 in
set_option maxHeartbeats 4000000 in
theorem T_X7_endFrom_0 {X : CX} {Q : Int32 → HS → Prop} (C : Cx X cX7_endFrom RX7 3 rm_X7_endFrom) (E : ReI X rm_X7_endFrom Q) (ht : (xh X).sig.returnType = (some .int)) (hn : (xh X).name = yX7_endFrom.name) {v0 : Nat} {v1 : Int32} {v2 : Int32} {S : HS} (h : P_X7_endFrom_0 Q v0 v1 v2 S) : WS X 3 0 0 0 [(0, .ref v0), (1, .int v1), (2, .int v2)] [] S := by
  refine r_aload_n (pc := 0) C dX7_endFrom_0 0 rfl ?_
  refine r_iload_n (pc := 1) C dX7_endFrom_1 1 rfl ?_
  refine r_iload_n (pc := 2) C dX7_endFrom_2 2 rfl ?_
  obtain ⟨o_v0, h⟩ := h
  refine r_callVl0 (pc := 3) C (rest := []) (a := v0) o_v0 [.int v1, .int v2] yV_X7_keyOf g_892 (c_X7_keyOf h) dX7_endFrom_3 rfl rfl (Nat.le_of_ble_eq_true rfl) ⟨by decide, by decide⟩ ⟨by decide, by decide⟩ ⟨rfl, rfl⟩ (fun x3 S1 h g2 => ?_)
  have h := h g2
  have o_v0 := gr_ob g2 o_v0
  refine r_ldc2 (pc := 6) C (v := (512 : Int64)) dX7_endFrom_6 g_857 ?_
  refine r_lrem (pc := 9) C dX7_endFrom_9 (by decide) ?_
  refine r_topl (fun x4 ex4 => ?_)
  have h := h x4 ex4
  refine r_l2i (pc := 10) C dX7_endFrom_10 ?_
  exact r_iret (pc := 11) C E ht dX7_endFrom_11 (by decide) (by decide) h
def P_X7_endFrom (v0 : Nat) (v1 : Int32) (v2 : Int32) (Q : Int32 → HS → Prop) (S : HS) : Prop := P_X7_endFrom_0 Q v0 v1 v2 S
theorem c_X7_endFrom {l : Launch} {Ee : EE} {S : HS} {v0 : Nat} {v1 : Int32} {v2 : Int32} {Q : Int32 → HS → Prop} (h : P_X7_endFrom v0 v1 v2 Q S) : MI l yX7_endFrom cX7_endFrom 3 (some .int) rm_X7_endFrom Ee S [.ref v0, .int v1, .int v2] Q :=
  openI (by decide) (Nat.le_of_ble_eq_true rfl) (fun X C E ht hn hE hl => by subst hE; exact r_sub [0, 1, 2] rfl (T_X7_endFrom_0 C E ht hn h))
def rm_X7_forget : Room := { frames := 0, cells := 0, slots := 0, locals := 0 }
def P_X7_forget_0 (Q : HS → Prop) (v0 : Nat) (S : HS) : Prop := ob S v0 7 ∧ (∀ S1 : HS, S1 = sI S v0 10 (-1 : Int32) → (Q S1))
set_option maxRecDepth 20000 in
set_option maxHeartbeats 4000000 in
theorem T_X7_forget_0 {X : CX} {Q : HS → Prop} (C : Cx X cX7_forget RX7 1 rm_X7_forget) (E : ReV X rm_X7_forget Q) (ht : (xh X).sig.returnType = none) (hn : (xh X).name = yX7_forget.name) {v0 : Nat} {S : HS} (h : P_X7_forget_0 Q v0 S) : WS X 1 0 0 0 [(0, .ref v0)] [] S := by
  refine r_aload_n (pc := 0) C dX7_forget_0 0 rfl ?_
  refine r_iconst (pc := 1) C (v := (-1 : Int32)) dX7_forget_1 (by decide) ?_
  obtain ⟨o_v0, h⟩ := h
  refine r_puti (pc := 2) C pfL_X7_41 dX7_forget_2 o_v0 ?_
  refine r_heap (fun S1 eS1 => ?_)
  have h := h S1 eS1
  have o_v0 := ob_I eS1 o_v0
  exact r_vret (pc := 5) C E ht dX7_forget_5 (by decide) (by decide) h
def P_X7_forget (v0 : Nat) (Q : HS → Prop) (S : HS) : Prop := P_X7_forget_0 Q v0 S
theorem c_X7_forget {l : Launch} {Ee : EE} {S : HS} {v0 : Nat} {Q : HS → Prop} (h : P_X7_forget v0 Q S) : MV l yX7_forget cX7_forget 1 none rm_X7_forget Ee S [.ref v0] Q :=
  openV (by decide) (Nat.le_of_ble_eq_true rfl) (fun X C E ht hn hE hl => by subst hE; exact r_sub [0] rfl (T_X7_forget_0 C E ht hn h))
def rm_X7_init : Room := { frames := 1, cells := 8, slots := 0, locals := 20 }
def P_X7_init_0 (Q : HS → Prop) (v0 : Nat) (S : HS) : Prop := ∀ a1 : Nat, a1 ∉ hL S → ∀ S2 : HS, S2 = nW S a1 13 0 → (ob S2 v0 7 ∧ (∀ S3 : HS, S3 = sR S2 v0 0 (some a1) → (∀ a4 : Nat, a4 ∉ hL S3 → ∀ S5 : HS, S5 = nW S3 a4 14 0 → (∀ S6 : HS, S6 = sR S5 v0 1 (some a4) → (∀ a7 : Nat, a7 ∉ hL S6 → ∀ S8 : HS, S8 = nW S6 a7 13 0 → (∀ S9 : HS, S9 = sR S8 v0 2 (some a7) → (∀ a10 : Nat, a10 ∉ hL S9 → ∀ S11 : HS, S11 = nW S9 a10 13 0 → (∀ S12 : HS, S12 = sR S11 v0 4 (some a10) → (∀ a13 : Nat, a13 ∉ hL S12 → ∀ S14 : HS, S14 = nW S12 a13 13 0 → (∀ S15 : HS, S15 = sR S14 v0 5 (some a13) → (∀ a16 : Nat, a16 ∉ hL S15 → ∀ S17 : HS, S17 = nW S15 a16 13 0 → (∀ S18 : HS, S18 = sR S17 v0 6 (some a16) → (∀ a19 : Nat, a19 ∉ hL S18 → ∀ S20 : HS, S20 = nW S18 a19 14 0 → (∀ S21 : HS, S21 = sR S20 v0 7 (some a19) → (∀ a22 : Nat, a22 ∉ hL S21 → ∀ S23 : HS, S23 = nW S21 a22 13 0 → (∀ S24 : HS, S24 = sR S23 v0 8 (some a22) → (∀ S25 : HS, S25 = sI S24 v0 9 (-1 : Int32) → (∀ S26 : HS, S26 = sI S25 v0 10 (-1 : Int32) → (∀ S27 : HS, S27 = sI S26 v0 11 (-1 : Int32) → (∀ S28 : HS, S28 = sI S27 v0 12 (-1 : Int32) → (Q S28)))))))))))))))))))))
set_option maxRecDepth 20000 in
set_option maxHeartbeats 4000000 in
theorem T_X7_init_0 {X : CX} {Q : HS → Prop} (C : Cx X cX7_init RX7 1 rm_X7_init) (E : ReV X rm_X7_init Q) (ht : (xh X).sig.returnType = none) (hn : (xh X).name = yX7_init.name) {v0 : Nat} {S : HS} (h : P_X7_init_0 Q v0 S) : WS X 1 0 0 0 [(0, .ref v0)] [] S := by
  refine r_aload_n (pc := 0) C dX7_init_0 0 rfl ?_
  refine r_objinit (pc := 1) C g_286 dX7_init_1 (by decide) (Nat.le_of_ble_eq_true rfl) ?_
  refine r_aload_n (pc := 4) C dX7_init_4 0 rfl ?_
  refine r_iconst (pc := 5) C (v := (0 : Int32)) dX7_init_5 (by decide) ?_
  refine r_newa13 (pc := 6) C (N := 0) g_72 dX7_init_6 (by decide) (by decide) (by decide) (by decide) (by decide) (fun a1 q43 => ?_)
  refine r_heap (fun S2 eS2 => ?_)
  have h := h a1 q43 S2 eS2
  have g44 := gr_of_new eS2 q43
  have o_a1 := ob_of_new eS2
  obtain ⟨o_v0, h⟩ := h
  refine r_putr (pc := 8) C pfL_X7_9 dX7_init_8 o_v0 ?_
  refine r_heap (fun S3 eS3 => ?_)
  have h := h S3 eS3
  have o_a1 := ob_R eS3 o_a1
  have o_v0 := ob_R eS3 o_v0
  refine r_aload_n (pc := 11) C dX7_init_11 0 rfl ?_
  refine r_iconst (pc := 12) C (v := (0 : Int32)) dX7_init_12 (by decide) ?_
  refine r_newa14 (pc := 13) C (N := 0) g_266 dX7_init_13 (by decide) (by decide) (by decide) (by decide) (by decide) (fun a4 q41 => ?_)
  refine r_heap (fun S5 eS5 => ?_)
  have h := h a4 q41 S5 eS5
  have g42 := gr_of_new eS5 q41
  have o_a4 := ob_of_new eS5
  have o_a1 := gr_ob g42 o_a1
  have o_v0 := gr_ob g42 o_v0
  refine r_putr (pc := 15) C pfL_X7_15 dX7_init_15 o_v0 ?_
  refine r_heap (fun S6 eS6 => ?_)
  have h := h S6 eS6
  have o_a1 := ob_R eS6 o_a1
  have o_a4 := ob_R eS6 o_a4
  have o_v0 := ob_R eS6 o_v0
  refine r_aload_n (pc := 18) C dX7_init_18 0 rfl ?_
  refine r_iconst (pc := 19) C (v := (0 : Int32)) dX7_init_19 (by decide) ?_
  refine r_newa13 (pc := 20) C (N := 0) g_72 dX7_init_20 (by decide) (by decide) (by decide) (by decide) (by decide) (fun a7 q39 => ?_)
  refine r_heap (fun S8 eS8 => ?_)
  have h := h a7 q39 S8 eS8
  have g40 := gr_of_new eS8 q39
  have o_a7 := ob_of_new eS8
  have o_a1 := gr_ob g40 o_a1
  have o_a4 := gr_ob g40 o_a4
  have o_v0 := gr_ob g40 o_v0
  refine r_putr (pc := 22) C pfL_X7_19 dX7_init_22 o_v0 ?_
  refine r_heap (fun S9 eS9 => ?_)
  have h := h S9 eS9
  have o_a1 := ob_R eS9 o_a1
  have o_a4 := ob_R eS9 o_a4
  have o_a7 := ob_R eS9 o_a7
  have o_v0 := ob_R eS9 o_v0
  refine r_aload_n (pc := 25) C dX7_init_25 0 rfl ?_
  refine r_iconst (pc := 26) C (v := (0 : Int32)) dX7_init_26 (by decide) ?_
  refine r_newa13 (pc := 27) C (N := 0) g_72 dX7_init_27 (by decide) (by decide) (by decide) (by decide) (by decide) (fun a10 q37 => ?_)
  refine r_heap (fun S11 eS11 => ?_)
  have h := h a10 q37 S11 eS11
  have g38 := gr_of_new eS11 q37
  have o_a10 := ob_of_new eS11
  have o_a1 := gr_ob g38 o_a1
  have o_a4 := gr_ob g38 o_a4
  have o_a7 := gr_ob g38 o_a7
  have o_v0 := gr_ob g38 o_v0
  refine r_putr (pc := 29) C pfL_X7_22 dX7_init_29 o_v0 ?_
  refine r_heap (fun S12 eS12 => ?_)
  have h := h S12 eS12
  have o_a1 := ob_R eS12 o_a1
  have o_a10 := ob_R eS12 o_a10
  have o_a4 := ob_R eS12 o_a4
  have o_a7 := ob_R eS12 o_a7
  have o_v0 := ob_R eS12 o_v0
  refine r_aload_n (pc := 32) C dX7_init_32 0 rfl ?_
  refine r_iconst (pc := 33) C (v := (0 : Int32)) dX7_init_33 (by decide) ?_
  refine r_newa13 (pc := 34) C (N := 0) g_72 dX7_init_34 (by decide) (by decide) (by decide) (by decide) (by decide) (fun a13 q35 => ?_)
  refine r_heap (fun S14 eS14 => ?_)
  have h := h a13 q35 S14 eS14
  have g36 := gr_of_new eS14 q35
  have o_a13 := ob_of_new eS14
  have o_a1 := gr_ob g36 o_a1
  have o_a10 := gr_ob g36 o_a10
  have o_a4 := gr_ob g36 o_a4
  have o_a7 := gr_ob g36 o_a7
  have o_v0 := gr_ob g36 o_v0
  refine r_putr (pc := 36) C pfL_X7_25 dX7_init_36 o_v0 ?_
  refine r_heap (fun S15 eS15 => ?_)
  have h := h S15 eS15
  have o_a1 := ob_R eS15 o_a1
  have o_a10 := ob_R eS15 o_a10
  have o_a13 := ob_R eS15 o_a13
  have o_a4 := ob_R eS15 o_a4
  have o_a7 := ob_R eS15 o_a7
  have o_v0 := ob_R eS15 o_v0
  refine r_aload_n (pc := 39) C dX7_init_39 0 rfl ?_
  refine r_iconst (pc := 40) C (v := (0 : Int32)) dX7_init_40 (by decide) ?_
  refine r_newa13 (pc := 41) C (N := 0) g_72 dX7_init_41 (by decide) (by decide) (by decide) (by decide) (by decide) (fun a16 q33 => ?_)
  refine r_heap (fun S17 eS17 => ?_)
  have h := h a16 q33 S17 eS17
  have g34 := gr_of_new eS17 q33
  have o_a16 := ob_of_new eS17
  have o_a1 := gr_ob g34 o_a1
  have o_a10 := gr_ob g34 o_a10
  have o_a13 := gr_ob g34 o_a13
  have o_a4 := gr_ob g34 o_a4
  have o_a7 := gr_ob g34 o_a7
  have o_v0 := gr_ob g34 o_v0
  refine r_putr (pc := 43) C pfL_X7_28 dX7_init_43 o_v0 ?_
  refine r_heap (fun S18 eS18 => ?_)
  have h := h S18 eS18
  have o_a1 := ob_R eS18 o_a1
  have o_a10 := ob_R eS18 o_a10
  have o_a13 := ob_R eS18 o_a13
  have o_a16 := ob_R eS18 o_a16
  have o_a4 := ob_R eS18 o_a4
  have o_a7 := ob_R eS18 o_a7
  have o_v0 := ob_R eS18 o_v0
  refine r_aload_n (pc := 46) C dX7_init_46 0 rfl ?_
  refine r_iconst (pc := 47) C (v := (0 : Int32)) dX7_init_47 (by decide) ?_
  refine r_newa14 (pc := 48) C (N := 0) g_266 dX7_init_48 (by decide) (by decide) (by decide) (by decide) (by decide) (fun a19 q31 => ?_)
  refine r_heap (fun S20 eS20 => ?_)
  have h := h a19 q31 S20 eS20
  have g32 := gr_of_new eS20 q31
  have o_a19 := ob_of_new eS20
  have o_a1 := gr_ob g32 o_a1
  have o_a10 := gr_ob g32 o_a10
  have o_a13 := gr_ob g32 o_a13
  have o_a16 := gr_ob g32 o_a16
  have o_a4 := gr_ob g32 o_a4
  have o_a7 := gr_ob g32 o_a7
  have o_v0 := gr_ob g32 o_v0
  refine r_putr (pc := 50) C pfL_X7_31 dX7_init_50 o_v0 ?_
  refine r_heap (fun S21 eS21 => ?_)
  have h := h S21 eS21
  have o_a1 := ob_R eS21 o_a1
  have o_a10 := ob_R eS21 o_a10
  have o_a13 := ob_R eS21 o_a13
  have o_a16 := ob_R eS21 o_a16
  have o_a19 := ob_R eS21 o_a19
  have o_a4 := ob_R eS21 o_a4
  have o_a7 := ob_R eS21 o_a7
  have o_v0 := ob_R eS21 o_v0
  refine r_aload_n (pc := 53) C dX7_init_53 0 rfl ?_
  refine r_iconst (pc := 54) C (v := (0 : Int32)) dX7_init_54 (by decide) ?_
  refine r_newa13 (pc := 55) C (N := 0) g_72 dX7_init_55 (by decide) (by decide) (by decide) (by decide) (by decide) (fun a22 q29 => ?_)
  refine r_heap (fun S23 eS23 => ?_)
  have h := h a22 q29 S23 eS23
  have g30 := gr_of_new eS23 q29
  have o_a22 := ob_of_new eS23
  have o_a1 := gr_ob g30 o_a1
  have o_a10 := gr_ob g30 o_a10
  have o_a13 := gr_ob g30 o_a13
  have o_a16 := gr_ob g30 o_a16
  have o_a19 := gr_ob g30 o_a19
  have o_a4 := gr_ob g30 o_a4
  have o_a7 := gr_ob g30 o_a7
  have o_v0 := gr_ob g30 o_v0
  refine r_putr (pc := 57) C pfL_X7_34 dX7_init_57 o_v0 ?_
  refine r_heap (fun S24 eS24 => ?_)
  have h := h S24 eS24
  have o_a1 := ob_R eS24 o_a1
  have o_a10 := ob_R eS24 o_a10
  have o_a13 := ob_R eS24 o_a13
  have o_a16 := ob_R eS24 o_a16
  have o_a19 := ob_R eS24 o_a19
  have o_a22 := ob_R eS24 o_a22
  have o_a4 := ob_R eS24 o_a4
  have o_a7 := ob_R eS24 o_a7
  have o_v0 := ob_R eS24 o_v0
  refine r_aload_n (pc := 60) C dX7_init_60 0 rfl ?_
  refine r_iconst (pc := 61) C (v := (-1 : Int32)) dX7_init_61 (by decide) ?_
  refine r_puti (pc := 62) C pfL_X7_37 dX7_init_62 o_v0 ?_
  refine r_heap (fun S25 eS25 => ?_)
  have h := h S25 eS25
  have o_a1 := ob_I eS25 o_a1
  have o_a10 := ob_I eS25 o_a10
  have o_a13 := ob_I eS25 o_a13
  have o_a16 := ob_I eS25 o_a16
  have o_a19 := ob_I eS25 o_a19
  have o_a22 := ob_I eS25 o_a22
  have o_a4 := ob_I eS25 o_a4
  have o_a7 := ob_I eS25 o_a7
  have o_v0 := ob_I eS25 o_v0
  refine r_aload_n (pc := 65) C dX7_init_65 0 rfl ?_
  refine r_iconst (pc := 66) C (v := (-1 : Int32)) dX7_init_66 (by decide) ?_
  refine r_puti (pc := 67) C pfL_X7_41 dX7_init_67 o_v0 ?_
  refine r_heap (fun S26 eS26 => ?_)
  have h := h S26 eS26
  have o_a1 := ob_I eS26 o_a1
  have o_a10 := ob_I eS26 o_a10
  have o_a13 := ob_I eS26 o_a13
  have o_a16 := ob_I eS26 o_a16
  have o_a19 := ob_I eS26 o_a19
  have o_a22 := ob_I eS26 o_a22
  have o_a4 := ob_I eS26 o_a4
  have o_a7 := ob_I eS26 o_a7
  have o_v0 := ob_I eS26 o_v0
  refine r_aload_n (pc := 70) C dX7_init_70 0 rfl ?_
  refine r_iconst (pc := 71) C (v := (-1 : Int32)) dX7_init_71 (by decide) ?_
  refine r_puti (pc := 72) C pfL_X7_44 dX7_init_72 o_v0 ?_
  refine r_heap (fun S27 eS27 => ?_)
  have h := h S27 eS27
  have o_a1 := ob_I eS27 o_a1
  have o_a10 := ob_I eS27 o_a10
  have o_a13 := ob_I eS27 o_a13
  have o_a16 := ob_I eS27 o_a16
  have o_a19 := ob_I eS27 o_a19
  have o_a22 := ob_I eS27 o_a22
  have o_a4 := ob_I eS27 o_a4
  have o_a7 := ob_I eS27 o_a7
  have o_v0 := ob_I eS27 o_v0
  refine r_aload_n (pc := 75) C dX7_init_75 0 rfl ?_
  refine r_iconst (pc := 76) C (v := (-1 : Int32)) dX7_init_76 (by decide) ?_
  refine r_puti (pc := 77) C pfL_X7_47 dX7_init_77 o_v0 ?_
  refine r_heap (fun S28 eS28 => ?_)
  have h := h S28 eS28
  have o_a1 := ob_I eS28 o_a1
  have o_a10 := ob_I eS28 o_a10
  have o_a13 := ob_I eS28 o_a13
  have o_a16 := ob_I eS28 o_a16
  have o_a19 := ob_I eS28 o_a19
  have o_a22 := ob_I eS28 o_a22
  have o_a4 := ob_I eS28 o_a4
  have o_a7 := ob_I eS28 o_a7
  have o_v0 := ob_I eS28 o_v0
  exact r_vret (pc := 80) C E ht dX7_init_80 (by decide) (by decide) h
def P_X7_init (v0 : Nat) (Q : HS → Prop) (S : HS) : Prop := P_X7_init_0 Q v0 S
theorem c_X7_init {l : Launch} {Ee : EE} {S : HS} {v0 : Nat} {Q : HS → Prop} (h : P_X7_init v0 Q S) : MV l yX7_init cX7_init 1 none rm_X7_init Ee S [.ref v0] Q :=
  openV (by decide) (Nat.le_of_ble_eq_true rfl) (fun X C E ht hn hE hl => by subst hE; exact r_sub [0] rfl (T_X7_init_0 C E ht hn h))
end
section
def rm_X7_isOpen : Room := { frames := 1, cells := 0, slots := 0, locals := 23 }
def P_X7_isOpen_0 (Q : Int32 → HS → Prop) (v0 : Nat) (v1 : Int32) (v2 : Int32) (S : HS) : Prop := ob S v0 7 ∧ (P_X7_keyOf v0 v1 v2 (fun x3 S1 => Gr S S1 → ((((lg_cmp x3 (4611686018427387904 : Int64)) = 0) → (Q (0 : Int32) S1)) ∧ ((¬ (lg_cmp x3 (4611686018427387904 : Int64)) = 0) → (Q (1 : Int32) S1)))) S)
set_option maxRecDepth 20000 in
set_option maxHeartbeats 4000000 in
theorem T_X7_isOpen_0 {X : CX} {Q : Int32 → HS → Prop} (C : Cx X cX7_isOpen RX7 3 rm_X7_isOpen) (E : ReI X rm_X7_isOpen (fun r S => bl r ∧ Q r S)) (ht : (xh X).sig.returnType = (some .boolean)) (hn : (xh X).name = yX7_isOpen.name) {v0 : Nat} {v1 : Int32} {v2 : Int32} {S : HS} (h : P_X7_isOpen_0 Q v0 v1 v2 S) : WS X 3 0 0 0 [(0, .ref v0), (1, .int v1), (2, .int v2)] [] S := by
  refine r_aload_n (pc := 0) C dX7_isOpen_0 0 rfl ?_
  refine r_iload_n (pc := 1) C dX7_isOpen_1 1 rfl ?_
  refine r_iload_n (pc := 2) C dX7_isOpen_2 2 rfl ?_
  obtain ⟨o_v0, h⟩ := h
  refine r_callVl0 (pc := 3) C (rest := []) (a := v0) o_v0 [.int v1, .int v2] yV_X7_keyOf g_892 (c_X7_keyOf h) dX7_isOpen_3 rfl rfl (Nat.le_of_ble_eq_true rfl) ⟨by decide, by decide⟩ ⟨by decide, by decide⟩ ⟨rfl, rfl⟩ (fun x3 S1 h g2 => ?_)
  have h := h g2
  have o_v0 := gr_ob g2 o_v0
  refine r_ldc2 (pc := 6) C (v := (4611686018427387904 : Int64)) dX7_isOpen_6 g_887 ?_
  refine r_lcmp (pc := 9) C dX7_isOpen_9 ?_
  refine r_if_eq (pc := 10) C (tgt := 17) dX7_isOpen_10 (by decide) (fun c4 => ?_) (fun c4 => ?_)
  · have h := h.1 c4
    refine r_iconst (pc := 17) C (v := (0 : Int32)) dX7_isOpen_17 (by decide) ?_
    exact r_zret (pc := 18) C E ht dX7_isOpen_18 (by decide) (by decide) (Or.inl rfl) h
  · have h := h.2 c4
    refine r_iconst (pc := 13) C (v := (1 : Int32)) dX7_isOpen_13 (by decide) ?_
    refine r_goto (pc := 14) C (tgt := 18) dX7_isOpen_14 (by decide) ?_
    exact r_zret (pc := 18) C E ht dX7_isOpen_18 (by decide) (by decide) (Or.inr rfl) h
def P_X7_isOpen (v0 : Nat) (v1 : Int32) (v2 : Int32) (Q : Int32 → HS → Prop) (S : HS) : Prop := P_X7_isOpen_0 Q v0 v1 v2 S
theorem c_X7_isOpen {l : Launch} {Ee : EE} {S : HS} {v0 : Nat} {v1 : Int32} {v2 : Int32} {Q : Int32 → HS → Prop} (h : P_X7_isOpen v0 v1 v2 Q S) : MI l yX7_isOpen cX7_isOpen 3 (some .boolean) rm_X7_isOpen Ee S [.ref v0, .int v1, .int v2] (fun r S => bl r ∧ Q r S) :=
  openI (by decide) (Nat.le_of_ble_eq_true rfl) (fun X C E ht hn hE hl => by subst hE; exact r_sub [0, 1, 2] rfl (T_X7_isOpen_0 C E ht hn h))
def rm_X7_makeRows : Room := { frames := 0, cells := 8, slots := 7937, locals := 0 }
def P_X7_makeRows_0 (Q : HS → Prop) (v0 : Nat) (S : HS) : Prop := ∀ a1 : Nat, a1 ∉ hL S → ∀ S2 : HS, S2 = nW S a1 13 401 → (ob S2 v0 7 ∧ (∀ S3 : HS, S3 = sR S2 v0 0 (some a1) → (∀ a4 : Nat, a4 ∉ hL S3 → ∀ S5 : HS, S5 = nW S3 a4 14 3208 → (∀ S6 : HS, S6 = sR S5 v0 1 (some a4) → (∀ a7 : Nat, a7 ∉ hL S6 → ∀ S8 : HS, S8 = nW S6 a7 13 3208 → (∀ S9 : HS, S9 = sR S8 v0 2 (some a7) → (∀ a10 : Nat, a10 ∉ hL S9 → ∀ S11 : HS, S11 = nW S9 a10 13 224 → (∀ S12 : HS, S12 = sR S11 v0 4 (some a10) → (∀ a13 : Nat, a13 ∉ hL S12 → ∀ S14 : HS, S14 = nW S12 a13 13 224 → (∀ S15 : HS, S15 = sR S14 v0 5 (some a13) → (∀ a16 : Nat, a16 ∉ hL S15 → ∀ S17 : HS, S17 = nW S15 a16 13 224 → (∀ S18 : HS, S18 = sR S17 v0 6 (some a16) → (∀ a19 : Nat, a19 ∉ hL S18 → ∀ S20 : HS, S20 = nW S18 a19 14 224 → (∀ S21 : HS, S21 = sR S20 v0 7 (some a19) → (∀ a22 : Nat, a22 ∉ hL S21 → ∀ S23 : HS, S23 = nW S21 a22 13 224 → (∀ S24 : HS, S24 = sR S23 v0 8 (some a22) → (Q S24)))))))))))))))))
set_option maxRecDepth 20000 in
set_option maxHeartbeats 4000000 in
theorem T_X7_makeRows_0 {X : CX} {Q : HS → Prop} (C : Cx X cX7_makeRows RX7 1 rm_X7_makeRows) (E : ReV X rm_X7_makeRows Q) (ht : (xh X).sig.returnType = none) (hn : (xh X).name = yX7_makeRows.name) {v0 : Nat} {S : HS} (h : P_X7_makeRows_0 Q v0 S) : WS X 1 0 0 0 [(0, .ref v0)] [] S := by
  refine r_aload_n (pc := 0) C dX7_makeRows_0 0 rfl ?_
  refine r_sipush (pc := 1) C (v := (401 : Int32)) dX7_makeRows_1 (by decide) ?_
  refine r_newa13 (pc := 4) C (N := 401) g_72 dX7_makeRows_4 (by decide) (by decide) (by decide) (by decide) (by decide) (fun a1 q39 => ?_)
  refine r_heap (fun S2 eS2 => ?_)
  have h := h a1 q39 S2 eS2
  have g40 := gr_of_new eS2 q39
  have o_a1 := ob_of_new eS2
  obtain ⟨o_v0, h⟩ := h
  refine r_putr (pc := 6) C pfL_X7_9 dX7_makeRows_6 o_v0 ?_
  refine r_heap (fun S3 eS3 => ?_)
  have h := h S3 eS3
  have o_a1 := ob_R eS3 o_a1
  have o_v0 := ob_R eS3 o_v0
  refine r_aload_n (pc := 9) C dX7_makeRows_9 0 rfl ?_
  refine r_sipush (pc := 10) C (v := (3208 : Int32)) dX7_makeRows_10 (by decide) ?_
  refine r_newa14 (pc := 13) C (N := 3208) g_266 dX7_makeRows_13 (by decide) (by decide) (by decide) (by decide) (by decide) (fun a4 q37 => ?_)
  refine r_heap (fun S5 eS5 => ?_)
  have h := h a4 q37 S5 eS5
  have g38 := gr_of_new eS5 q37
  have o_a4 := ob_of_new eS5
  have o_a1 := gr_ob g38 o_a1
  have o_v0 := gr_ob g38 o_v0
  refine r_putr (pc := 15) C pfL_X7_15 dX7_makeRows_15 o_v0 ?_
  refine r_heap (fun S6 eS6 => ?_)
  have h := h S6 eS6
  have o_a1 := ob_R eS6 o_a1
  have o_a4 := ob_R eS6 o_a4
  have o_v0 := ob_R eS6 o_v0
  refine r_aload_n (pc := 18) C dX7_makeRows_18 0 rfl ?_
  refine r_sipush (pc := 19) C (v := (3208 : Int32)) dX7_makeRows_19 (by decide) ?_
  refine r_newa13 (pc := 22) C (N := 3208) g_72 dX7_makeRows_22 (by decide) (by decide) (by decide) (by decide) (by decide) (fun a7 q35 => ?_)
  refine r_heap (fun S8 eS8 => ?_)
  have h := h a7 q35 S8 eS8
  have g36 := gr_of_new eS8 q35
  have o_a7 := ob_of_new eS8
  have o_a1 := gr_ob g36 o_a1
  have o_a4 := gr_ob g36 o_a4
  have o_v0 := gr_ob g36 o_v0
  refine r_putr (pc := 24) C pfL_X7_19 dX7_makeRows_24 o_v0 ?_
  refine r_heap (fun S9 eS9 => ?_)
  have h := h S9 eS9
  have o_a1 := ob_R eS9 o_a1
  have o_a4 := ob_R eS9 o_a4
  have o_a7 := ob_R eS9 o_a7
  have o_v0 := ob_R eS9 o_v0
  refine r_aload_n (pc := 27) C dX7_makeRows_27 0 rfl ?_
  refine r_sipush (pc := 28) C (v := (224 : Int32)) dX7_makeRows_28 (by decide) ?_
  refine r_newa13 (pc := 31) C (N := 224) g_72 dX7_makeRows_31 (by decide) (by decide) (by decide) (by decide) (by decide) (fun a10 q33 => ?_)
  refine r_heap (fun S11 eS11 => ?_)
  have h := h a10 q33 S11 eS11
  have g34 := gr_of_new eS11 q33
  have o_a10 := ob_of_new eS11
  have o_a1 := gr_ob g34 o_a1
  have o_a4 := gr_ob g34 o_a4
  have o_a7 := gr_ob g34 o_a7
  have o_v0 := gr_ob g34 o_v0
  refine r_putr (pc := 33) C pfL_X7_22 dX7_makeRows_33 o_v0 ?_
  refine r_heap (fun S12 eS12 => ?_)
  have h := h S12 eS12
  have o_a1 := ob_R eS12 o_a1
  have o_a10 := ob_R eS12 o_a10
  have o_a4 := ob_R eS12 o_a4
  have o_a7 := ob_R eS12 o_a7
  have o_v0 := ob_R eS12 o_v0
  refine r_aload_n (pc := 36) C dX7_makeRows_36 0 rfl ?_
  refine r_sipush (pc := 37) C (v := (224 : Int32)) dX7_makeRows_37 (by decide) ?_
  refine r_newa13 (pc := 40) C (N := 224) g_72 dX7_makeRows_40 (by decide) (by decide) (by decide) (by decide) (by decide) (fun a13 q31 => ?_)
  refine r_heap (fun S14 eS14 => ?_)
  have h := h a13 q31 S14 eS14
  have g32 := gr_of_new eS14 q31
  have o_a13 := ob_of_new eS14
  have o_a1 := gr_ob g32 o_a1
  have o_a10 := gr_ob g32 o_a10
  have o_a4 := gr_ob g32 o_a4
  have o_a7 := gr_ob g32 o_a7
  have o_v0 := gr_ob g32 o_v0
  refine r_putr (pc := 42) C pfL_X7_25 dX7_makeRows_42 o_v0 ?_
  refine r_heap (fun S15 eS15 => ?_)
  have h := h S15 eS15
  have o_a1 := ob_R eS15 o_a1
  have o_a10 := ob_R eS15 o_a10
  have o_a13 := ob_R eS15 o_a13
  have o_a4 := ob_R eS15 o_a4
  have o_a7 := ob_R eS15 o_a7
  have o_v0 := ob_R eS15 o_v0
  refine r_aload_n (pc := 45) C dX7_makeRows_45 0 rfl ?_
  refine r_sipush (pc := 46) C (v := (224 : Int32)) dX7_makeRows_46 (by decide) ?_
  refine r_newa13 (pc := 49) C (N := 224) g_72 dX7_makeRows_49 (by decide) (by decide) (by decide) (by decide) (by decide) (fun a16 q29 => ?_)
  refine r_heap (fun S17 eS17 => ?_)
  have h := h a16 q29 S17 eS17
  have g30 := gr_of_new eS17 q29
  have o_a16 := ob_of_new eS17
  have o_a1 := gr_ob g30 o_a1
  have o_a10 := gr_ob g30 o_a10
  have o_a13 := gr_ob g30 o_a13
  have o_a4 := gr_ob g30 o_a4
  have o_a7 := gr_ob g30 o_a7
  have o_v0 := gr_ob g30 o_v0
  refine r_putr (pc := 51) C pfL_X7_28 dX7_makeRows_51 o_v0 ?_
  refine r_heap (fun S18 eS18 => ?_)
  have h := h S18 eS18
  have o_a1 := ob_R eS18 o_a1
  have o_a10 := ob_R eS18 o_a10
  have o_a13 := ob_R eS18 o_a13
  have o_a16 := ob_R eS18 o_a16
  have o_a4 := ob_R eS18 o_a4
  have o_a7 := ob_R eS18 o_a7
  have o_v0 := ob_R eS18 o_v0
  refine r_aload_n (pc := 54) C dX7_makeRows_54 0 rfl ?_
  refine r_sipush (pc := 55) C (v := (224 : Int32)) dX7_makeRows_55 (by decide) ?_
  refine r_newa14 (pc := 58) C (N := 224) g_266 dX7_makeRows_58 (by decide) (by decide) (by decide) (by decide) (by decide) (fun a19 q27 => ?_)
  refine r_heap (fun S20 eS20 => ?_)
  have h := h a19 q27 S20 eS20
  have g28 := gr_of_new eS20 q27
  have o_a19 := ob_of_new eS20
  have o_a1 := gr_ob g28 o_a1
  have o_a10 := gr_ob g28 o_a10
  have o_a13 := gr_ob g28 o_a13
  have o_a16 := gr_ob g28 o_a16
  have o_a4 := gr_ob g28 o_a4
  have o_a7 := gr_ob g28 o_a7
  have o_v0 := gr_ob g28 o_v0
  refine r_putr (pc := 60) C pfL_X7_31 dX7_makeRows_60 o_v0 ?_
  refine r_heap (fun S21 eS21 => ?_)
  have h := h S21 eS21
  have o_a1 := ob_R eS21 o_a1
  have o_a10 := ob_R eS21 o_a10
  have o_a13 := ob_R eS21 o_a13
  have o_a16 := ob_R eS21 o_a16
  have o_a19 := ob_R eS21 o_a19
  have o_a4 := ob_R eS21 o_a4
  have o_a7 := ob_R eS21 o_a7
  have o_v0 := ob_R eS21 o_v0
  refine r_aload_n (pc := 63) C dX7_makeRows_63 0 rfl ?_
  refine r_sipush (pc := 64) C (v := (224 : Int32)) dX7_makeRows_64 (by decide) ?_
  refine r_newa13 (pc := 67) C (N := 224) g_72 dX7_makeRows_67 (by decide) (by decide) (by decide) (by decide) (by decide) (fun a22 q25 => ?_)
  refine r_heap (fun S23 eS23 => ?_)
  have h := h a22 q25 S23 eS23
  have g26 := gr_of_new eS23 q25
  have o_a22 := ob_of_new eS23
  have o_a1 := gr_ob g26 o_a1
  have o_a10 := gr_ob g26 o_a10
  have o_a13 := gr_ob g26 o_a13
  have o_a16 := gr_ob g26 o_a16
  have o_a19 := gr_ob g26 o_a19
  have o_a4 := gr_ob g26 o_a4
  have o_a7 := gr_ob g26 o_a7
  have o_v0 := gr_ob g26 o_v0
  refine r_putr (pc := 69) C pfL_X7_34 dX7_makeRows_69 o_v0 ?_
  refine r_heap (fun S24 eS24 => ?_)
  have h := h S24 eS24
  have o_a1 := ob_R eS24 o_a1
  have o_a10 := ob_R eS24 o_a10
  have o_a13 := ob_R eS24 o_a13
  have o_a16 := ob_R eS24 o_a16
  have o_a19 := ob_R eS24 o_a19
  have o_a22 := ob_R eS24 o_a22
  have o_a4 := ob_R eS24 o_a4
  have o_a7 := ob_R eS24 o_a7
  have o_v0 := ob_R eS24 o_v0
  exact r_vret (pc := 72) C E ht dX7_makeRows_72 (by decide) (by decide) h
def P_X7_makeRows (v0 : Nat) (Q : HS → Prop) (S : HS) : Prop := P_X7_makeRows_0 Q v0 S
theorem c_X7_makeRows {l : Launch} {Ee : EE} {S : HS} {v0 : Nat} {Q : HS → Prop} (h : P_X7_makeRows v0 Q S) : MV l yX7_makeRows cX7_makeRows 1 none rm_X7_makeRows Ee S [.ref v0] Q :=
  openV (by decide) (Nat.le_of_ble_eq_true rfl) (fun X C E ht hn hE hl => by subst hE; exact r_sub [0] rfl (T_X7_makeRows_0 C E ht hn h))
def rm_X7_meanFrom : Room := { frames := 1, cells := 0, slots := 0, locals := 23 }
def P_X7_meanFrom_0 (Q : Int64 → HS → Prop) (v0 : Nat) (v1 : Int32) (v2 : Int32) (S : HS) : Prop := ob S v0 7 ∧ (P_X7_keyOf v0 v1 v2 (fun x3 S1 => Gr S S1 → (∀ x4 : Int64, x4 = x3 / (512 : Int64) → (Q x4 S1))) S)
set_option maxRecDepth 20000 in
set_option maxHeartbeats 4000000 in
theorem T_X7_meanFrom_0 {X : CX} {Q : Int64 → HS → Prop} (C : Cx X cX7_meanFrom RX7 3 rm_X7_meanFrom) (E : ReJ X rm_X7_meanFrom Q) (ht : (xh X).sig.returnType = (some .long)) (hn : (xh X).name = yX7_meanFrom.name) {v0 : Nat} {v1 : Int32} {v2 : Int32} {S : HS} (h : P_X7_meanFrom_0 Q v0 v1 v2 S) : WS X 3 0 0 0 [(0, .ref v0), (1, .int v1), (2, .int v2)] [] S := by
  refine r_aload_n (pc := 0) C dX7_meanFrom_0 0 rfl ?_
  refine r_iload_n (pc := 1) C dX7_meanFrom_1 1 rfl ?_
  refine r_iload_n (pc := 2) C dX7_meanFrom_2 2 rfl ?_
  obtain ⟨o_v0, h⟩ := h
  refine r_callVl0 (pc := 3) C (rest := []) (a := v0) o_v0 [.int v1, .int v2] yV_X7_keyOf g_892 (c_X7_keyOf h) dX7_meanFrom_3 rfl rfl (Nat.le_of_ble_eq_true rfl) ⟨by decide, by decide⟩ ⟨by decide, by decide⟩ ⟨rfl, rfl⟩ (fun x3 S1 h g2 => ?_)
  have h := h g2
  have o_v0 := gr_ob g2 o_v0
  refine r_ldc2 (pc := 6) C (v := (512 : Int64)) dX7_meanFrom_6 g_857 ?_
  refine r_ldiv (pc := 9) C dX7_meanFrom_9 (by decide) ?_
  refine r_topl (fun x4 ex4 => ?_)
  have h := h x4 ex4
  exact r_lret (pc := 10) C E ht dX7_meanFrom_10 (by decide) (by decide) h
def P_X7_meanFrom (v0 : Nat) (v1 : Int32) (v2 : Int32) (Q : Int64 → HS → Prop) (S : HS) : Prop := P_X7_meanFrom_0 Q v0 v1 v2 S
theorem c_X7_meanFrom {l : Launch} {Ee : EE} {S : HS} {v0 : Nat} {v1 : Int32} {v2 : Int32} {Q : Int64 → HS → Prop} (h : P_X7_meanFrom v0 v1 v2 Q S) : MJ l yX7_meanFrom cX7_meanFrom 3 (some .long) rm_X7_meanFrom Ee S [.ref v0, .int v1, .int v2] Q :=
  openJ (by decide) (Nat.le_of_ble_eq_true rfl) (fun X C E ht hn hE hl => by subst hE; exact r_sub [0, 1, 2] rfl (T_X7_meanFrom_0 C E ht hn h))
def rm_X8_hasPlace : Room := { frames := 0, cells := 0, slots := 0, locals := 0 }
def P_X8_hasPlace_0 (Q : Int32 → HS → Prop) (v0 : Nat) (v1 : Int32) (S : HS) : Prop := ((v1 < 0) → (Q (0 : Int32) S)) ∧ ((¬ v1 < 0) → (ob S v0 8 ∧ (∀ x2 : Int32, x2 = fI S v0 2 → (((x2 ≤ v1) → (Q (0 : Int32) S)) ∧ ((¬ x2 ≤ v1) → (∃ a4 : Nat, fR S v0 7 = some a4 ∧ (ob S a4 13 ∧ ((((nI (hN S a4)) ≤ v1) → (Q (0 : Int32) S)) ∧ ((¬ (nI (hN S a4)) ≤ v1) → (Q (1 : Int32) S))))))))))
set_option maxRecDepth 20000 in
set_option maxHeartbeats 4000000 in
theorem T_X8_hasPlace_0 {X : CX} {Q : Int32 → HS → Prop} (C : Cx X cX8_hasPlace RX8 2 rm_X8_hasPlace) (E : ReI X rm_X8_hasPlace (fun r S => bl r ∧ Q r S)) (ht : (xh X).sig.returnType = (some .boolean)) (hn : (xh X).name = yX8_hasPlace.name) {v0 : Nat} {v1 : Int32} {S : HS} (h : P_X8_hasPlace_0 Q v0 v1 S) : WS X 2 0 0 0 [(0, .ref v0), (1, .int v1)] [] S := by
  refine r_iload_n (pc := 0) C dX8_hasPlace_0 1 rfl ?_
  refine r_if_lt (pc := 1) C (tgt := 25) dX8_hasPlace_1 (by decide) (fun c1 => ?_) (fun c1 => ?_)
  · have h := h.1 c1
    refine r_iconst (pc := 25) C (v := (0 : Int32)) dX8_hasPlace_25 (by decide) ?_
    exact r_zret (pc := 26) C E ht dX8_hasPlace_26 (by decide) (by decide) (Or.inl rfl) h
  · have h := h.2 c1
    refine r_iload_n (pc := 4) C dX8_hasPlace_4 1 rfl ?_
    refine r_aload_n (pc := 5) C dX8_hasPlace_5 0 rfl ?_
    obtain ⟨o_v0, h⟩ := h
    refine r_geti (pc := 6) C fL_X8_49 dX8_hasPlace_6 o_v0 ?_
    refine r_topi (fun x2 ex2 => ?_)
    have h := h x2 ex2
    refine r_icmp_ge (pc := 9) C (tgt := 25) dX8_hasPlace_9 (by decide) (fun c3 => ?_) (fun c3 => ?_)
    · have h := h.1 c3
      refine r_iconst (pc := 25) C (v := (0 : Int32)) dX8_hasPlace_25 (by decide) ?_
      exact r_zret (pc := 26) C E ht dX8_hasPlace_26 (by decide) (by decide) (Or.inl rfl) h
    · have h := h.2 c3
      refine r_iload_n (pc := 12) C dX8_hasPlace_12 1 rfl ?_
      refine r_aload_n (pc := 13) C dX8_hasPlace_13 0 rfl ?_
      obtain ⟨a4, ea4, h⟩ := h
      refine r_getr (pc := 14) C fL_X8_17 dX8_hasPlace_14 o_v0 ea4 ?_
      obtain ⟨o_a4, h⟩ := h
      refine r_alen13 (pc := 17) C dX8_hasPlace_17 o_a4 ?_
      refine r_icmp_ge (pc := 18) C (tgt := 25) dX8_hasPlace_18 (by decide) (fun c5 => ?_) (fun c5 => ?_)
      · have h := h.1 c5
        refine r_iconst (pc := 25) C (v := (0 : Int32)) dX8_hasPlace_25 (by decide) ?_
        exact r_zret (pc := 26) C E ht dX8_hasPlace_26 (by decide) (by decide) (Or.inl rfl) h
      · have h := h.2 c5
        refine r_iconst (pc := 21) C (v := (1 : Int32)) dX8_hasPlace_21 (by decide) ?_
        refine r_goto (pc := 22) C (tgt := 26) dX8_hasPlace_22 (by decide) ?_
        exact r_zret (pc := 26) C E ht dX8_hasPlace_26 (by decide) (by decide) (Or.inr rfl) h
def P_X8_hasPlace (v0 : Nat) (v1 : Int32) (Q : Int32 → HS → Prop) (S : HS) : Prop := P_X8_hasPlace_0 Q v0 v1 S
theorem c_X8_hasPlace {l : Launch} {Ee : EE} {S : HS} {v0 : Nat} {v1 : Int32} {Q : Int32 → HS → Prop} (h : P_X8_hasPlace v0 v1 Q S) : MI l yX8_hasPlace cX8_hasPlace 2 (some .boolean) rm_X8_hasPlace Ee S [.ref v0, .int v1] (fun r S => bl r ∧ Q r S) :=
  openI (by decide) (Nat.le_of_ble_eq_true rfl) (fun X C E ht hn hE hl => by subst hE; exact r_sub [0, 1] rfl (T_X8_hasPlace_0 C E ht hn h))
def rm_X8_canWait : Room := { frames := 1, cells := 0, slots := 0, locals := 21 }
def P_X8_canWait_0 (Q : Int32 → HS → Prop) (v0 : Nat) (v1 : Int32) (S : HS) : Prop := ob S v0 8 ∧ (P_X8_hasPlace v0 v1 (fun x3 S1 => Gr S S1 → bl x3 → (((x3 = 0) → (Q (0 : Int32) S1)) ∧ ((¬ x3 = 0) → (∃ a5 : Nat, fR S1 v0 7 = some a5 ∧ (ob S1 a5 13 ∧ (vp_in v1 (hN S1 a5) ∧ ∀ x7 : Int32, x7 = fI S1 a5 v1.toNatClampNeg → (((x7 = (-1 : Int32)) → (Q (0 : Int32) S1)) ∧ ((¬ x7 = (-1 : Int32)) → (Q (1 : Int32) S1))))))))) S)
set_option maxRecDepth 20000 in
set_option maxHeartbeats 4000000 in
theorem T_X8_canWait_0 {X : CX} {Q : Int32 → HS → Prop} (C : Cx X cX8_canWait RX8 2 rm_X8_canWait) (E : ReI X rm_X8_canWait (fun r S => bl r ∧ Q r S)) (ht : (xh X).sig.returnType = (some .boolean)) (hn : (xh X).name = yX8_canWait.name) {v0 : Nat} {v1 : Int32} {S : HS} (h : P_X8_canWait_0 Q v0 v1 S) : WS X 2 0 0 0 [(0, .ref v0), (1, .int v1)] [] S := by
  refine r_aload_n (pc := 0) C dX8_canWait_0 0 rfl ?_
  refine r_iload_n (pc := 1) C dX8_canWait_1 1 rfl ?_
  obtain ⟨o_v0, h⟩ := h
  refine r_callVi0 (pc := 2) C (rest := []) (a := v0) o_v0 [.int v1] yV_X8_hasPlace g_874 (c_X8_hasPlace h) dX8_canWait_2 rfl rfl (Nat.le_of_ble_eq_true rfl) ⟨by decide, by decide⟩ ⟨by decide, by decide⟩ ⟨rfl, rfl⟩ (fun x3 S1 h g2 => ?_)
  have bx3 := h.1
  have h := h.2 g2 bx3
  have o_v0 := gr_ob g2 o_v0
  refine r_if_eq (pc := 5) C (tgt := 22) dX8_canWait_5 (by decide) (fun c4 => ?_) (fun c4 => ?_)
  · have h := h.1 c4
    refine r_iconst (pc := 22) C (v := (0 : Int32)) dX8_canWait_22 (by decide) ?_
    exact r_zret (pc := 23) C E ht dX8_canWait_23 (by decide) (by decide) (Or.inl rfl) h
  · have h := h.2 c4
    refine r_aload_n (pc := 8) C dX8_canWait_8 0 rfl ?_
    obtain ⟨a5, ea5, h⟩ := h
    refine r_getr (pc := 9) C fL_X8_17 dX8_canWait_9 o_v0 ea5 ?_
    refine r_iload_n (pc := 12) C dX8_canWait_12 1 rfl ?_
    obtain ⟨o_a5, h⟩ := h
    obtain ⟨i6, h⟩ := h
    refine r_iald (pc := 13) C dX8_canWait_13 o_a5 i6 ?_
    refine r_topi (fun x7 ex7 => ?_)
    have h := h x7 ex7
    refine r_iconst (pc := 14) C (v := (-1 : Int32)) dX8_canWait_14 (by decide) ?_
    refine r_icmp_eq (pc := 15) C (tgt := 22) dX8_canWait_15 (by decide) (fun c8 => ?_) (fun c8 => ?_)
    · have h := h.1 c8
      refine r_iconst (pc := 22) C (v := (0 : Int32)) dX8_canWait_22 (by decide) ?_
      exact r_zret (pc := 23) C E ht dX8_canWait_23 (by decide) (by decide) (Or.inl rfl) h
    · have h := h.2 c8
      refine r_iconst (pc := 18) C (v := (1 : Int32)) dX8_canWait_18 (by decide) ?_
      refine r_goto (pc := 19) C (tgt := 23) dX8_canWait_19 (by decide) ?_
      exact r_zret (pc := 23) C E ht dX8_canWait_23 (by decide) (by decide) (Or.inr rfl) h
def P_X8_canWait (v0 : Nat) (v1 : Int32) (Q : Int32 → HS → Prop) (S : HS) : Prop := P_X8_canWait_0 Q v0 v1 S
theorem c_X8_canWait {l : Launch} {Ee : EE} {S : HS} {v0 : Nat} {v1 : Int32} {Q : Int32 → HS → Prop} (h : P_X8_canWait v0 v1 Q S) : MI l yX8_canWait cX8_canWait 2 (some .boolean) rm_X8_canWait Ee S [.ref v0, .int v1] (fun r S => bl r ∧ Q r S) :=
  openI (by decide) (Nat.le_of_ble_eq_true rfl) (fun X C E ht hn hE hl => by subst hE; exact r_sub [0, 1] rfl (T_X8_canWait_0 C E ht hn h))
def rm_X8_dripOn : Room := { frames := 2, cells := 0, slots := 0, locals := 42 }
def P_X8_dripOn_0 (Q : Int32 → HS → Prop) (v0 : Nat) (v1 : Nat) (v2 : Int32) (S : HS) : Prop := ob S v0 8 ∧ (P_X8_canWait v0 v2 (fun x3 S1 => Gr S S1 → bl x3 → (((x3 = 0) → (Q (0 : Int32) S1)) ∧ ((¬ x3 = 0) → (∃ a5 : Nat, fR S1 v0 7 = some a5 ∧ (ob S1 a5 13 ∧ (vp_in v2 (hN S1 a5) ∧ ∀ x7 : Int32, x7 = fI S1 a5 v2.toNatClampNeg → (ob S1 v1 6 ∧ (∀ x8 : Int32, x8 = fI S1 v1 2 → (P_X6_shield v1 (fun x11 S9 => Gr S1 S9 → (∀ x12 : Int32, x12 = (if x8 - x11 < (0 : Int32) then (0 : Int32) else x8 - x11) → (Q (x7 * x12) S9))) S1))))))))) S)
set_option maxRecDepth 20000 in
set_option maxHeartbeats 4000000 in
theorem T_X8_dripOn_0 {X : CX} {Q : Int32 → HS → Prop} (C : Cx X cX8_dripOn RX8 3 rm_X8_dripOn) (E : ReI X rm_X8_dripOn Q) (ht : (xh X).sig.returnType = (some .int)) (hn : (xh X).name = yX8_dripOn.name) {v0 : Nat} {v1 : Nat} {v2 : Int32} {S : HS} (h : P_X8_dripOn_0 Q v0 v1 v2 S) : WS X 3 0 0 0 [(0, .ref v0), (1, .ref v1), (2, .int v2)] [] S := by
  refine r_aload_n (pc := 0) C dX8_dripOn_0 0 rfl ?_
  refine r_iload_n (pc := 1) C dX8_dripOn_1 2 rfl ?_
  obtain ⟨o_v0, h⟩ := h
  refine r_callVi0 (pc := 2) C (rest := []) (a := v0) o_v0 [.int v2] yV_X8_canWait g_879 (c_X8_canWait h) dX8_dripOn_2 rfl rfl (Nat.le_of_ble_eq_true rfl) ⟨by decide, by decide⟩ ⟨by decide, by decide⟩ ⟨rfl, rfl⟩ (fun x3 S1 h g2 => ?_)
  have bx3 := h.1
  have h := h.2 g2 bx3
  have o_v0 := gr_ob g2 o_v0
  refine r_if_eq (pc := 5) C (tgt := 31) dX8_dripOn_5 (by decide) (fun c4 => ?_) (fun c4 => ?_)
  · have h := h.1 c4
    refine r_iconst (pc := 31) C (v := (0 : Int32)) dX8_dripOn_31 (by decide) ?_
    exact r_iret (pc := 32) C E ht dX8_dripOn_32 (by decide) (by decide) h
  · have h := h.2 c4
    refine r_aload_n (pc := 8) C dX8_dripOn_8 0 rfl ?_
    obtain ⟨a5, ea5, h⟩ := h
    refine r_getr (pc := 9) C fL_X8_17 dX8_dripOn_9 o_v0 ea5 ?_
    refine r_iload_n (pc := 12) C dX8_dripOn_12 2 rfl ?_
    obtain ⟨o_a5, h⟩ := h
    obtain ⟨i6, h⟩ := h
    refine r_iald (pc := 13) C dX8_dripOn_13 o_a5 i6 ?_
    refine r_topi (fun x7 ex7 => ?_)
    have h := h x7 ex7
    refine r_aload_n (pc := 14) C dX8_dripOn_14 1 rfl ?_
    obtain ⟨o_v1, h⟩ := h
    refine r_geti (pc := 15) C fL_X8_68 dX8_dripOn_15 o_v1 ?_
    refine r_topi (fun x8 ex8 => ?_)
    have h := h x8 ex8
    refine r_aload_n (pc := 18) C dX8_dripOn_18 1 rfl ?_
    refine r_callVi0 (pc := 19) C (rest := [.int x8, .int x7]) (a := v1) o_v1 [] yV_X6_shield g_880 (c_X6_shield h) dX8_dripOn_19 rfl rfl (Nat.le_of_ble_eq_true rfl) ⟨by decide, by decide⟩ ⟨by decide, by decide⟩ ⟨rfl, rfl⟩ (fun x11 S9 h g10 => ?_)
    have h := h g10
    have o_a5 := gr_ob g10 o_a5
    have o_v0 := gr_ob g10 o_v0
    have o_v1 := gr_ob g10 o_v1
    refine r_isub (pc := 22) C dX8_dripOn_22 ?_
    refine r_iconst (pc := 23) C (v := (0 : Int32)) dX8_dripOn_23 (by decide) ?_
    refine r_max (pc := 24) C g_881 dX8_dripOn_24 (by decide) (Nat.le_of_ble_eq_true rfl) (by decide) (by decide) ?_
    refine r_topi (fun x12 ex12 => ?_)
    have h := h x12 ex12
    refine r_imul (pc := 27) C dX8_dripOn_27 ?_
    refine r_goto (pc := 28) C (tgt := 32) dX8_dripOn_28 (by decide) ?_
    exact r_iret (pc := 32) C E ht dX8_dripOn_32 (by decide) (by decide) h
def P_X8_dripOn (v0 : Nat) (v1 : Nat) (v2 : Int32) (Q : Int32 → HS → Prop) (S : HS) : Prop := P_X8_dripOn_0 Q v0 v1 v2 S
theorem c_X8_dripOn {l : Launch} {Ee : EE} {S : HS} {v0 : Nat} {v1 : Nat} {v2 : Int32} {Q : Int32 → HS → Prop} (h : P_X8_dripOn v0 v1 v2 Q S) : MI l yX8_dripOn cX8_dripOn 3 (some .int) rm_X8_dripOn Ee S [.ref v0, .ref v1, .int v2] Q :=
  openI (by decide) (Nat.le_of_ble_eq_true rfl) (fun X C E ht hn hE hl => by subst hE; exact r_sub [0, 1, 2] rfl (T_X8_dripOn_0 C E ht hn h))
def rm_X8_hasHour : Room := { frames := 0, cells := 0, slots := 0, locals := 0 }
def P_X8_hasHour_0 (Q : Int32 → HS → Prop) (v0 : Nat) (v1 : Int32) (S : HS) : Prop := ((v1 < 0) → (Q (0 : Int32) S)) ∧ ((¬ v1 < 0) → (ob S v0 8 ∧ (∀ x2 : Int32, x2 = fI S v0 1 → (((x2 ≤ v1) → (Q (0 : Int32) S)) ∧ ((¬ x2 ≤ v1) → (∃ a4 : Nat, fR S v0 6 = some a4 ∧ (ob S a4 17 ∧ ((((nI (hN S a4)) ≤ v1) → (Q (0 : Int32) S)) ∧ ((¬ (nI (hN S a4)) ≤ v1) → (Q (1 : Int32) S))))))))))
set_option maxRecDepth 20000 in
set_option maxHeartbeats 4000000 in
theorem T_X8_hasHour_0 {X : CX} {Q : Int32 → HS → Prop} (C : Cx X cX8_hasHour RX8 2 rm_X8_hasHour) (E : ReI X rm_X8_hasHour (fun r S => bl r ∧ Q r S)) (ht : (xh X).sig.returnType = (some .boolean)) (hn : (xh X).name = yX8_hasHour.name) {v0 : Nat} {v1 : Int32} {S : HS} (h : P_X8_hasHour_0 Q v0 v1 S) : WS X 2 0 0 0 [(0, .ref v0), (1, .int v1)] [] S := by
  refine r_iload_n (pc := 0) C dX8_hasHour_0 1 rfl ?_
  refine r_if_lt (pc := 1) C (tgt := 25) dX8_hasHour_1 (by decide) (fun c1 => ?_) (fun c1 => ?_)
  · have h := h.1 c1
    refine r_iconst (pc := 25) C (v := (0 : Int32)) dX8_hasHour_25 (by decide) ?_
    exact r_zret (pc := 26) C E ht dX8_hasHour_26 (by decide) (by decide) (Or.inl rfl) h
  · have h := h.2 c1
    refine r_iload_n (pc := 4) C dX8_hasHour_4 1 rfl ?_
    refine r_aload_n (pc := 5) C dX8_hasHour_5 0 rfl ?_
    obtain ⟨o_v0, h⟩ := h
    refine r_geti (pc := 6) C fL_X8_46 dX8_hasHour_6 o_v0 ?_
    refine r_topi (fun x2 ex2 => ?_)
    have h := h x2 ex2
    refine r_icmp_ge (pc := 9) C (tgt := 25) dX8_hasHour_9 (by decide) (fun c3 => ?_) (fun c3 => ?_)
    · have h := h.1 c3
      refine r_iconst (pc := 25) C (v := (0 : Int32)) dX8_hasHour_25 (by decide) ?_
      exact r_zret (pc := 26) C E ht dX8_hasHour_26 (by decide) (by decide) (Or.inl rfl) h
    · have h := h.2 c3
      refine r_iload_n (pc := 12) C dX8_hasHour_12 1 rfl ?_
      refine r_aload_n (pc := 13) C dX8_hasHour_13 0 rfl ?_
      obtain ⟨a4, ea4, h⟩ := h
      refine r_getr (pc := 14) C fL_X8_11 dX8_hasHour_14 o_v0 ea4 ?_
      obtain ⟨o_a4, h⟩ := h
      refine r_alen17 (pc := 17) C dX8_hasHour_17 o_a4 ?_
      refine r_icmp_ge (pc := 18) C (tgt := 25) dX8_hasHour_18 (by decide) (fun c5 => ?_) (fun c5 => ?_)
      · have h := h.1 c5
        refine r_iconst (pc := 25) C (v := (0 : Int32)) dX8_hasHour_25 (by decide) ?_
        exact r_zret (pc := 26) C E ht dX8_hasHour_26 (by decide) (by decide) (Or.inl rfl) h
      · have h := h.2 c5
        refine r_iconst (pc := 21) C (v := (1 : Int32)) dX8_hasHour_21 (by decide) ?_
        refine r_goto (pc := 22) C (tgt := 26) dX8_hasHour_22 (by decide) ?_
        exact r_zret (pc := 26) C E ht dX8_hasHour_26 (by decide) (by decide) (Or.inr rfl) h
def P_X8_hasHour (v0 : Nat) (v1 : Int32) (Q : Int32 → HS → Prop) (S : HS) : Prop := P_X8_hasHour_0 Q v0 v1 S
theorem c_X8_hasHour {l : Launch} {Ee : EE} {S : HS} {v0 : Nat} {v1 : Int32} {Q : Int32 → HS → Prop} (h : P_X8_hasHour v0 v1 Q S) : MI l yX8_hasHour cX8_hasHour 2 (some .boolean) rm_X8_hasHour Ee S [.ref v0, .int v1] (fun r S => bl r ∧ Q r S) :=
  openI (by decide) (Nat.le_of_ble_eq_true rfl) (fun X C E ht hn hE hl => by subst hE; exact r_sub [0, 1] rfl (T_X8_hasHour_0 C E ht hn h))
def rm_X7_price : Room := { frames := 4, cells := 0, slots := 0, locals := 101 }
def P_X7_price_134 (Q : HS → Prop) (X51 : Nat → Nat → Nat → Int32 → Nat → Int32 → Int32 → HS → Prop) (X86 : Nat → Nat → Nat → Int32 → Nat → Int32 → Int32 → Nat → Int32 → Int32 → HS → Prop) (v0 : Nat) (v1 : Nat) (v2 : Nat) (v3 : Int32) (v4 : Nat) (v5 : Int32) (v6 : Int32) (v7 : Nat) (v8 : Int32) (v9 : Int32) (s0 : Int64) (S : HS) : Prop := ∀ x1 : Int32, x1 = v6 / (2 : Int32) → (ob S v0 7 ∧ (P_X7_addLeg v0 v7 v8 v9 s0 ((((100 : Int32) * x1) + ((10 : Int32) * v8)) + v9) (fun S2 => Gr S S2 → (∀ x5 : Int32, x5 = v9 + (1 : Int32) → (X86 v0 v1 v2 v3 v4 v5 v6 v7 v8 x5 S2))) S))
set_option maxRecDepth 20000 in
set_option maxHeartbeats 4000000 in
theorem T_X7_price_134 {X : CX} {Q : HS → Prop} (C : Cx X cX7_price RX7 12 rm_X7_price) (E : ReV X rm_X7_price Q) (ht : (xh X).sig.returnType = none) (hn : (xh X).name = yX7_price.name) {X51 : Nat → Nat → Nat → Int32 → Nat → Int32 → Int32 → HS → Prop} (hX51 : ∀ (v0 : Nat) (v1 : Nat) (v2 : Nat) (v3 : Int32) (v4 : Nat) (v5 : Int32) (v6 : Int32) (S : HS), X51 v0 v1 v2 v3 v4 v5 v6 S → WS X 12 0 0 51 [(0, .ref v0), (1, .ref v1), (2, .ref v2), (3, .int v3), (4, .ref v4), (5, .int v5), (6, .int v6)] [] S) {X86 : Nat → Nat → Nat → Int32 → Nat → Int32 → Int32 → Nat → Int32 → Int32 → HS → Prop} (hX86 : ∀ (v0 : Nat) (v1 : Nat) (v2 : Nat) (v3 : Int32) (v4 : Nat) (v5 : Int32) (v6 : Int32) (v7 : Nat) (v8 : Int32) (v9 : Int32) (S : HS), X86 v0 v1 v2 v3 v4 v5 v6 v7 v8 v9 S → WS X 12 0 0 86 [(0, .ref v0), (1, .ref v1), (2, .ref v2), (3, .int v3), (4, .ref v4), (5, .int v5), (6, .int v6), (7, .ref v7), (8, .int v8), (9, .int v9)] [] S) {v0 : Nat} {v1 : Nat} {v2 : Nat} {v3 : Int32} {v4 : Nat} {v5 : Int32} {v6 : Int32} {v7 : Nat} {v8 : Int32} {v9 : Int32} {s0 : Int64} {S : HS} (h : P_X7_price_134 Q X51 X86 v0 v1 v2 v3 v4 v5 v6 v7 v8 v9 s0 S) : WS X 12 0 0 134 [(0, .ref v0), (1, .ref v1), (2, .ref v2), (3, .int v3), (4, .ref v4), (5, .int v5), (6, .int v6), (7, .ref v7), (8, .int v8), (9, .int v9)] [.long s0] S := by
  refine r_lstore (pc := 134) C dX7_price_134 (by decide) (lv' := [(10, .long s0), (0, .ref v0), (1, .ref v1), (2, .ref v2), (3, .int v3), (4, .ref v4), (5, .int v5), (6, .int v6), (7, .ref v7), (8, .int v8), (9, .int v9)]) rfl ?_
  refine r_aload_n (pc := 136) C dX7_price_136 1 rfl ?_
  refine r_aload (pc := 137) C dX7_price_137 8 rfl ?_
  refine r_iload (pc := 139) C dX7_price_139 9 rfl ?_
  refine r_iload (pc := 141) C dX7_price_141 10 rfl ?_
  refine r_lload (pc := 143) C dX7_price_143 0 rfl ?_
  refine r_bipush (pc := 145) C (v := (100 : Int32)) dX7_price_145 (by decide) ?_
  refine r_iload (pc := 147) C dX7_price_147 7 rfl ?_
  refine r_iconst (pc := 149) C (v := (2 : Int32)) dX7_price_149 (by decide) ?_
  refine r_idiv (pc := 150) C dX7_price_150 (by decide) ?_
  refine r_topi (fun x1 ex1 => ?_)
  have h := h x1 ex1
  refine r_imul (pc := 151) C dX7_price_151 ?_
  refine r_bipush (pc := 152) C (v := (10 : Int32)) dX7_price_152 (by decide) ?_
  refine r_iload (pc := 154) C dX7_price_154 9 rfl ?_
  refine r_imul (pc := 156) C dX7_price_156 ?_
  refine r_iadd (pc := 157) C dX7_price_157 ?_
  refine r_iload (pc := 158) C dX7_price_158 10 rfl ?_
  refine r_iadd (pc := 160) C dX7_price_160 ?_
  obtain ⟨o_v0, h⟩ := h
  refine r_callVv0 (pc := 161) C (rest := []) (a := v0) o_v0 [.ref v7, .int v8, .int v9, .long s0, .int ((((100 : Int32) * x1) + ((10 : Int32) * v8)) + v9)] yV_X7_addLeg g_852 (c_X7_addLeg h) dX7_price_161 rfl rfl (Nat.le_of_ble_eq_true rfl) ⟨by decide, by decide⟩ ⟨by decide, by decide⟩ ⟨rfl, rfl⟩ (fun S2 h g3 => ?_)
  have h := h g3
  have o_v0 := gr_ob g3 o_v0
  obtain ⟨x5, ex5⟩ : ∃ z : Int32, z = v9 + (1 : Int32) := ⟨_, rfl⟩
  have h := h x5 ex5
  refine r_iinc (pc := 164) C (v := x5) (lv' := [(9, .int x5), (10, .long s0), (0, .ref v0), (1, .ref v1), (2, .ref v2), (3, .int v3), (4, .ref v4), (5, .int v5), (6, .int v6), (7, .ref v7), (8, .int v8)]) dX7_price_164 10 rfl ex5.symm (by decide) rfl ?_
  refine r_goto (pc := 167) C (tgt := 86) dX7_price_167 (by decide) ?_
  exact r_sub [2, 3, 4, 5, 6, 7, 8, 9, 10, 0] rfl (hX86 v0 v1 v2 v3 v4 v5 v6 v7 v8 x5 S2 h)
def B_X7_price_86 (Q : HS → Prop) (X51 : Nat → Nat → Nat → Int32 → Nat → Int32 → Int32 → HS → Prop) (X86 : Nat → Nat → Nat → Int32 → Nat → Int32 → Int32 → Nat → Int32 → Int32 → HS → Prop) (v0 : Nat) (v1 : Nat) (v2 : Nat) (v3 : Int32) (v4 : Nat) (v5 : Int32) (v6 : Int32) (v7 : Nat) (v8 : Int32) (v9 : Int32) (S : HS) : Prop := ob S v4 6 ∧ (∀ x1 : Int32, x1 = fI S v4 6 → (((x1 < v9) → (∀ x3 : Int32, x3 = v6 + (1 : Int32) → (X51 v0 v1 v2 v3 v4 v5 x3 S))) ∧ ((¬ x1 < v9) → (((v5 = 0) → (ob S v1 8 ∧ (∃ a5 : Nat, fR S v1 6 = some a5 ∧ (ob S a5 17 ∧ (vp_in v3 (hN S a5) ∧ ∃ a7 : Nat, fR S a5 v3.toNatClampNeg = some a7 ∧ (ob S v2 1 ∧ (P_X1_wetOf v2 v4 v7 v8 a7 v9 (fun x10 S8 => Gr S S8 → (∃ a11 : Nat, fR S8 v1 6 = some a11 ∧ (ob S8 a11 17 ∧ (vp_in v3 (hN S8 a11) ∧ ∃ a13 : Nat, fR S8 a11 v3.toNatClampNeg = some a13 ∧ (ob S8 a13 3 ∧ (∀ x14 : Int32, x14 = fI S8 a13 4 → (P_X7_price_134 Q X51 X86 v0 v1 v2 v3 v4 v5 v6 v7 v8 v9 (x10 * x14.toInt64) S8))))))) S))))))) ∧ ((¬ v5 = 0) → (P_X7_price_134 Q X51 X86 v0 v1 v2 v3 v4 v5 v6 v7 v8 v9 (0 : Int64) S))))))
def P_X7_price_86 (Q : HS → Prop) (X51 : Nat → Nat → Nat → Int32 → Nat → Int32 → Int32 → HS → Prop) (v0 : Nat) (v1 : Nat) (v2 : Nat) (v3 : Int32) (v4 : Nat) (v5 : Int32) (v6 : Int32) (v7 : Nat) (v8 : Int32) (v9 : Int32) (S : HS) : Prop := ∀ X86 : Nat → Nat → Nat → Int32 → Nat → Int32 → Int32 → Nat → Int32 → Int32 → HS → Prop, (∀ (v0 : Nat) (v1 : Nat) (v2 : Nat) (v3 : Int32) (v4 : Nat) (v5 : Int32) (v6 : Int32) (v7 : Nat) (v8 : Int32) (v9 : Int32) (S : HS), B_X7_price_86 Q X51 X86 v0 v1 v2 v3 v4 v5 v6 v7 v8 v9 S → X86 v0 v1 v2 v3 v4 v5 v6 v7 v8 v9 S) → X86 v0 v1 v2 v3 v4 v5 v6 v7 v8 v9 S
set_option maxRecDepth 20000 in
set_option maxHeartbeats 4000000 in
theorem TB_X7_price_86 {X : CX} {Q : HS → Prop} (C : Cx X cX7_price RX7 12 rm_X7_price) (E : ReV X rm_X7_price Q) (ht : (xh X).sig.returnType = none) (hn : (xh X).name = yX7_price.name) {X51 : Nat → Nat → Nat → Int32 → Nat → Int32 → Int32 → HS → Prop} (hX51 : ∀ (v0 : Nat) (v1 : Nat) (v2 : Nat) (v3 : Int32) (v4 : Nat) (v5 : Int32) (v6 : Int32) (S : HS), X51 v0 v1 v2 v3 v4 v5 v6 S → WS X 12 0 0 51 [(0, .ref v0), (1, .ref v1), (2, .ref v2), (3, .int v3), (4, .ref v4), (5, .int v5), (6, .int v6)] [] S) {X86 : Nat → Nat → Nat → Int32 → Nat → Int32 → Int32 → Nat → Int32 → Int32 → HS → Prop} (hX86 : ∀ (v0 : Nat) (v1 : Nat) (v2 : Nat) (v3 : Int32) (v4 : Nat) (v5 : Int32) (v6 : Int32) (v7 : Nat) (v8 : Int32) (v9 : Int32) (S : HS), X86 v0 v1 v2 v3 v4 v5 v6 v7 v8 v9 S → WS X 12 0 0 86 [(0, .ref v0), (1, .ref v1), (2, .ref v2), (3, .int v3), (4, .ref v4), (5, .int v5), (6, .int v6), (7, .ref v7), (8, .int v8), (9, .int v9)] [] S) {v0 : Nat} {v1 : Nat} {v2 : Nat} {v3 : Int32} {v4 : Nat} {v5 : Int32} {v6 : Int32} {v7 : Nat} {v8 : Int32} {v9 : Int32} {S : HS} (h : B_X7_price_86 Q X51 X86 v0 v1 v2 v3 v4 v5 v6 v7 v8 v9 S) : WS X 12 0 0 86 [(0, .ref v0), (1, .ref v1), (2, .ref v2), (3, .int v3), (4, .ref v4), (5, .int v5), (6, .int v6), (7, .ref v7), (8, .int v8), (9, .int v9)] [] S := by
  refine r_iload (pc := 86) C dX7_price_86 9 rfl ?_
  refine r_aload (pc := 88) C dX7_price_88 4 rfl ?_
  obtain ⟨o_v4, h⟩ := h
  refine r_geti (pc := 90) C fL_X7_107 dX7_price_90 o_v4 ?_
  refine r_topi (fun x1 ex1 => ?_)
  have h := h x1 ex1
  refine r_icmp_gt (pc := 93) C (tgt := 170) dX7_price_93 (by decide) (fun c2 => ?_) (fun c2 => ?_)
  · have h := h.1 c2
    obtain ⟨x3, ex3⟩ : ∃ z : Int32, z = v6 + (1 : Int32) := ⟨_, rfl⟩
    have h := h x3 ex3
    refine r_iinc (pc := 170) C (v := x3) (lv' := [(6, .int x3), (0, .ref v0), (1, .ref v1), (2, .ref v2), (3, .int v3), (4, .ref v4), (5, .int v5), (7, .ref v7), (8, .int v8), (9, .int v9)]) dX7_price_170 6 rfl ex3.symm (by decide) rfl ?_
    refine r_goto (pc := 173) C (tgt := 51) dX7_price_173 (by decide) ?_
    exact r_sub [1, 2, 3, 4, 5, 6, 0] rfl (hX51 v0 v1 v2 v3 v4 v5 x3 S h)
  · have h := h.2 c2
    refine r_iload (pc := 96) C dX7_price_96 5 rfl ?_
    refine r_if_eq (pc := 98) C (tgt := 105) dX7_price_98 (by decide) (fun c4 => ?_) (fun c4 => ?_)
    · have h := h.1 c4
      refine r_aload_n (pc := 105) C dX7_price_105 2 rfl ?_
      refine r_aload (pc := 106) C dX7_price_106 4 rfl ?_
      refine r_aload (pc := 108) C dX7_price_108 7 rfl ?_
      refine r_iload (pc := 110) C dX7_price_110 8 rfl ?_
      refine r_aload_n (pc := 112) C dX7_price_112 1 rfl ?_
      obtain ⟨o_v1, h⟩ := h
      obtain ⟨a5, ea5, h⟩ := h
      refine r_getr (pc := 113) C fL_X7_110 dX7_price_113 o_v1 ea5 ?_
      refine r_iload_n (pc := 116) C dX7_price_116 3 rfl ?_
      obtain ⟨o_a5, h⟩ := h
      obtain ⟨i6, a7, ea7, h⟩ := h
      refine r_aald17 (pc := 117) C dX7_price_117 o_a5 i6 ea7 ?_
      refine r_iload (pc := 118) C dX7_price_118 9 rfl ?_
      obtain ⟨o_v2, h⟩ := h
      refine r_callVl0 (pc := 120) C (rest := []) (a := v2) o_v2 [.ref v4, .ref v7, .int v8, .ref a7, .int v9] yV_X1_wetOf g_851 (c_X1_wetOf h) dX7_price_120 rfl rfl (Nat.le_of_ble_eq_true rfl) ⟨by decide, by decide⟩ ⟨by decide, by decide⟩ ⟨rfl, rfl⟩ (fun x10 S8 h g9 => ?_)
      have h := h g9
      have o_a5 := gr_ob g9 o_a5
      have o_v1 := gr_ob g9 o_v1
      have o_v2 := gr_ob g9 o_v2
      have o_v4 := gr_ob g9 o_v4
      refine r_aload_n (pc := 123) C dX7_price_123 1 rfl ?_
      obtain ⟨a11, ea11, h⟩ := h
      refine r_getr (pc := 124) C fL_X7_110 dX7_price_124 o_v1 ea11 ?_
      refine r_iload_n (pc := 127) C dX7_price_127 3 rfl ?_
      obtain ⟨o_a11, h⟩ := h
      obtain ⟨i12, a13, ea13, h⟩ := h
      refine r_aald17 (pc := 128) C dX7_price_128 o_a11 i12 ea13 ?_
      obtain ⟨o_a13, h⟩ := h
      refine r_geti (pc := 129) C fL_X7_120 dX7_price_129 o_a13 ?_
      refine r_topi (fun x14 ex14 => ?_)
      have h := h x14 ex14
      refine r_i2l (pc := 132) C dX7_price_132 ?_
      refine r_lmul (pc := 133) C dX7_price_133 ?_
      exact r_sub [0, 1, 2, 3, 4, 5, 6, 7, 8, 9] rfl (T_X7_price_134 C E ht hn hX51 hX86 h)
    · have h := h.2 c4
      refine r_lconst (pc := 101) C (v := (0 : Int64)) dX7_price_101 (by decide) ?_
      refine r_goto (pc := 102) C (tgt := 134) dX7_price_102 (by decide) ?_
      exact r_sub [0, 1, 2, 3, 4, 5, 6, 7, 8, 9] rfl (T_X7_price_134 C E ht hn hX51 hX86 h)
theorem T_X7_price_86 {X : CX} {Q : HS → Prop} (C : Cx X cX7_price RX7 12 rm_X7_price) (E : ReV X rm_X7_price Q) (ht : (xh X).sig.returnType = none) (hn : (xh X).name = yX7_price.name) {X51 : Nat → Nat → Nat → Int32 → Nat → Int32 → Int32 → HS → Prop} (hX51 : ∀ (v0 : Nat) (v1 : Nat) (v2 : Nat) (v3 : Int32) (v4 : Nat) (v5 : Int32) (v6 : Int32) (S : HS), X51 v0 v1 v2 v3 v4 v5 v6 S → WS X 12 0 0 51 [(0, .ref v0), (1, .ref v1), (2, .ref v2), (3, .int v3), (4, .ref v4), (5, .int v5), (6, .int v6)] [] S) {v0 : Nat} {v1 : Nat} {v2 : Nat} {v3 : Int32} {v4 : Nat} {v5 : Int32} {v6 : Int32} {v7 : Nat} {v8 : Int32} {v9 : Int32} {S : HS} (h : P_X7_price_86 Q X51 v0 v1 v2 v3 v4 v5 v6 v7 v8 v9 S) : WS X 12 0 0 86 [(0, .ref v0), (1, .ref v1), (2, .ref v2), (3, .int v3), (4, .ref v4), (5, .int v5), (6, .int v6), (7, .ref v7), (8, .int v8), (9, .int v9)] [] S :=
  h (fun v0 v1 v2 v3 v4 v5 v6 v7 v8 v9 S => WS X 12 0 0 86 [(0, .ref v0), (1, .ref v1), (2, .ref v2), (3, .int v3), (4, .ref v4), (5, .int v5), (6, .int v6), (7, .ref v7), (8, .int v8), (9, .int v9)] [] S) (fun v0 v1 v2 v3 v4 v5 v6 v7 v8 v9 S hh => TB_X7_price_86 C E ht hn hX51 (fun v0 v1 v2 v3 v4 v5 v6 v7 v8 v9 S z => z) hh)
def P_X7_price_245 (Q : HS → Prop) (X179 : Nat → Nat → Int32 → Nat → Int32 → Int32 → HS → Prop) (v0 : Nat) (v1 : Nat) (v3 : Int32) (v4 : Nat) (v5 : Int32) (v6 : Int32) (S : HS) : Prop := ∀ x1 : Int32, x1 = v6 + (1 : Int32) → (X179 v0 v1 v3 v4 v5 x1 S)
set_option maxRecDepth 20000 in
set_option maxHeartbeats 4000000 in
theorem T_X7_price_245 {X : CX} {Q : HS → Prop} (C : Cx X cX7_price RX7 12 rm_X7_price) (E : ReV X rm_X7_price Q) (ht : (xh X).sig.returnType = none) (hn : (xh X).name = yX7_price.name) {X179 : Nat → Nat → Int32 → Nat → Int32 → Int32 → HS → Prop} (hX179 : ∀ (v0 : Nat) (v1 : Nat) (v3 : Int32) (v4 : Nat) (v5 : Int32) (v6 : Int32) (S : HS), X179 v0 v1 v3 v4 v5 v6 S → WS X 12 0 0 179 [(0, .ref v0), (1, .ref v1), (3, .int v3), (4, .ref v4), (5, .int v5), (6, .int v6)] [] S) {v0 : Nat} {v1 : Nat} {v3 : Int32} {v4 : Nat} {v5 : Int32} {v6 : Int32} {S : HS} (h : P_X7_price_245 Q X179 v0 v1 v3 v4 v5 v6 S) : WS X 12 0 0 245 [(0, .ref v0), (1, .ref v1), (3, .int v3), (4, .ref v4), (5, .int v5), (6, .int v6)] [] S := by
  obtain ⟨x1, ex1⟩ : ∃ z : Int32, z = v6 + (1 : Int32) := ⟨_, rfl⟩
  have h := h x1 ex1
  refine r_iinc (pc := 245) C (v := x1) (lv' := [(6, .int x1), (0, .ref v0), (1, .ref v1), (3, .int v3), (4, .ref v4), (5, .int v5)]) dX7_price_245 5 rfl ex1.symm (by decide) rfl ?_
  refine r_goto (pc := 248) C (tgt := 179) dX7_price_248 (by decide) ?_
  exact r_sub [1, 2, 3, 4, 5, 0] rfl (hX179 v0 v1 v3 v4 v5 x1 S h)
def P_X7_price_230 (Q : HS → Prop) (X179 : Nat → Nat → Int32 → Nat → Int32 → Int32 → HS → Prop) (v0 : Nat) (v1 : Nat) (v3 : Int32) (v4 : Nat) (v5 : Int32) (v6 : Int32) (s0 : Int64) (S : HS) : Prop := ob S v0 7 ∧ (P_X7_addMove v0 v6 v6 (1 : Int32) s0 (-2 : Int32) (fun S1 => Gr S S1 → (P_X7_price_245 Q X179 v0 v1 v3 v4 v5 v6 S1)) S)
set_option maxRecDepth 20000 in
set_option maxHeartbeats 4000000 in
theorem T_X7_price_230 {X : CX} {Q : HS → Prop} (C : Cx X cX7_price RX7 12 rm_X7_price) (E : ReV X rm_X7_price Q) (ht : (xh X).sig.returnType = none) (hn : (xh X).name = yX7_price.name) {X179 : Nat → Nat → Int32 → Nat → Int32 → Int32 → HS → Prop} (hX179 : ∀ (v0 : Nat) (v1 : Nat) (v3 : Int32) (v4 : Nat) (v5 : Int32) (v6 : Int32) (S : HS), X179 v0 v1 v3 v4 v5 v6 S → WS X 12 0 0 179 [(0, .ref v0), (1, .ref v1), (3, .int v3), (4, .ref v4), (5, .int v5), (6, .int v6)] [] S) {v0 : Nat} {v1 : Nat} {v3 : Int32} {v4 : Nat} {v5 : Int32} {v6 : Int32} {s0 : Int64} {S : HS} (h : P_X7_price_230 Q X179 v0 v1 v3 v4 v5 v6 s0 S) : WS X 12 0 0 230 [(0, .ref v0), (1, .ref v1), (3, .int v3), (4, .ref v4), (5, .int v5), (6, .int v6)] [.long s0] S := by
  refine r_lstore (pc := 230) C dX7_price_230 (by decide) (lv' := [(7, .long s0), (0, .ref v0), (1, .ref v1), (3, .int v3), (4, .ref v4), (5, .int v5), (6, .int v6)]) rfl ?_
  refine r_aload_n (pc := 232) C dX7_price_232 1 rfl ?_
  refine r_iload (pc := 233) C dX7_price_233 6 rfl ?_
  refine r_iload (pc := 235) C dX7_price_235 6 rfl ?_
  refine r_iconst (pc := 237) C (v := (1 : Int32)) dX7_price_237 (by decide) ?_
  refine r_lload (pc := 238) C dX7_price_238 0 rfl ?_
  refine r_bipush (pc := 240) C (v := (-2 : Int32)) dX7_price_240 (by decide) ?_
  obtain ⟨o_v0, h⟩ := h
  refine r_callVv0 (pc := 242) C (rest := []) (a := v0) o_v0 [.int v6, .int v6, .int (1 : Int32), .long s0, .int (-2 : Int32)] yV_X7_addMove g_866 (c_X7_addMove h) dX7_price_242 rfl rfl (Nat.le_of_ble_eq_true rfl) ⟨by decide, by decide⟩ ⟨by decide, by decide⟩ ⟨rfl, rfl⟩ (fun S1 h g2 => ?_)
  have h := h g2
  have o_v0 := gr_ob g2 o_v0
  exact r_sub [1, 2, 3, 4, 5, 6] rfl (T_X7_price_245 C E ht hn hX179 h)
def B_X7_price_179 (Q : HS → Prop) (X179 : Nat → Nat → Int32 → Nat → Int32 → Int32 → HS → Prop) (v0 : Nat) (v1 : Nat) (v3 : Int32) (v4 : Nat) (v5 : Int32) (v6 : Int32) (S : HS) : Prop := ob S v1 8 ∧ (∀ x1 : Int32, x1 = fI S v1 2 → (((x1 ≤ v6) → (Q S)) ∧ ((¬ x1 ≤ v6) → (P_X8_canWait v1 v6 (fun x5 S3 => Gr S S3 → bl x5 → (((x5 = 0) → (P_X7_price_245 Q X179 v0 v1 v3 v4 v5 v6 S3)) ∧ ((¬ x5 = 0) → (((v5 = 0) → (P_X8_dripOn v1 v4 v6 (fun x10 S8 => Gr S3 S8 → (∃ a11 : Nat, fR S8 v1 6 = some a11 ∧ (ob S8 a11 17 ∧ (vp_in v3 (hN S8 a11) ∧ ∃ a13 : Nat, fR S8 a11 v3.toNatClampNeg = some a13 ∧ (ob S8 a13 3 ∧ (∀ x14 : Int32, x14 = fI S8 a13 4 → (P_X7_price_230 Q X179 v0 v1 v3 v4 v5 v6 ((x10.toInt64 * (2520 : Int64)) * x14.toInt64) S8))))))) S3)) ∧ ((¬ v5 = 0) → (P_X7_price_230 Q X179 v0 v1 v3 v4 v5 v6 (0 : Int64) S3)))))) S))))
def P_X7_price_179 (Q : HS → Prop) (v0 : Nat) (v1 : Nat) (v3 : Int32) (v4 : Nat) (v5 : Int32) (v6 : Int32) (S : HS) : Prop := ∀ X179 : Nat → Nat → Int32 → Nat → Int32 → Int32 → HS → Prop, (∀ (v0 : Nat) (v1 : Nat) (v3 : Int32) (v4 : Nat) (v5 : Int32) (v6 : Int32) (S : HS), B_X7_price_179 Q X179 v0 v1 v3 v4 v5 v6 S → X179 v0 v1 v3 v4 v5 v6 S) → X179 v0 v1 v3 v4 v5 v6 S
set_option maxRecDepth 20000 in
set_option maxHeartbeats 4000000 in
theorem TB_X7_price_179 {X : CX} {Q : HS → Prop} (C : Cx X cX7_price RX7 12 rm_X7_price) (E : ReV X rm_X7_price Q) (ht : (xh X).sig.returnType = none) (hn : (xh X).name = yX7_price.name) {X179 : Nat → Nat → Int32 → Nat → Int32 → Int32 → HS → Prop} (hX179 : ∀ (v0 : Nat) (v1 : Nat) (v3 : Int32) (v4 : Nat) (v5 : Int32) (v6 : Int32) (S : HS), X179 v0 v1 v3 v4 v5 v6 S → WS X 12 0 0 179 [(0, .ref v0), (1, .ref v1), (3, .int v3), (4, .ref v4), (5, .int v5), (6, .int v6)] [] S) {v0 : Nat} {v1 : Nat} {v3 : Int32} {v4 : Nat} {v5 : Int32} {v6 : Int32} {S : HS} (h : B_X7_price_179 Q X179 v0 v1 v3 v4 v5 v6 S) : WS X 12 0 0 179 [(0, .ref v0), (1, .ref v1), (3, .int v3), (4, .ref v4), (5, .int v5), (6, .int v6)] [] S := by
  refine r_iload (pc := 179) C dX7_price_179 5 rfl ?_
  refine r_aload_n (pc := 181) C dX7_price_181 1 rfl ?_
  obtain ⟨o_v1, h⟩ := h
  refine r_geti (pc := 182) C fL_X7_75 dX7_price_182 o_v1 ?_
  refine r_topi (fun x1 ex1 => ?_)
  have h := h x1 ex1
  refine r_icmp_ge (pc := 185) C (tgt := 251) dX7_price_185 (by decide) (fun c2 => ?_) (fun c2 => ?_)
  · have h := h.1 c2
    exact r_vret (pc := 251) C E ht dX7_price_251 (by decide) (by decide) h
  · have h := h.2 c2
    refine r_aload_n (pc := 188) C dX7_price_188 1 rfl ?_
    refine r_iload (pc := 189) C dX7_price_189 5 rfl ?_
    refine r_callVi0 (pc := 191) C (rest := []) (a := v1) o_v1 [.int v6] yV_X8_canWait g_870 (c_X8_canWait h) dX7_price_191 rfl rfl (Nat.le_of_ble_eq_true rfl) ⟨by decide, by decide⟩ ⟨by decide, by decide⟩ ⟨rfl, rfl⟩ (fun x5 S3 h g4 => ?_)
    have bx5 := h.1
    have h := h.2 g4 bx5
    have o_v1 := gr_ob g4 o_v1
    refine r_if_eq (pc := 194) C (tgt := 245) dX7_price_194 (by decide) (fun c6 => ?_) (fun c6 => ?_)
    · have h := h.1 c6
      exact r_sub [0, 1, 2, 3, 4, 5] rfl (T_X7_price_245 C E ht hn hX179 h)
    · have h := h.2 c6
      refine r_iload (pc := 197) C dX7_price_197 4 rfl ?_
      refine r_if_eq (pc := 199) C (tgt := 206) dX7_price_199 (by decide) (fun c7 => ?_) (fun c7 => ?_)
      · have h := h.1 c7
        refine r_aload_n (pc := 206) C dX7_price_206 1 rfl ?_
        refine r_aload (pc := 207) C dX7_price_207 3 rfl ?_
        refine r_iload (pc := 209) C dX7_price_209 5 rfl ?_
        refine r_callVi0 (pc := 211) C (rest := []) (a := v1) o_v1 [.ref v4, .int v6] yV_X8_dripOn g_875 (c_X8_dripOn h) dX7_price_211 rfl rfl (Nat.le_of_ble_eq_true rfl) ⟨by decide, by decide⟩ ⟨by decide, by decide⟩ ⟨rfl, rfl⟩ (fun x10 S8 h g9 => ?_)
        have h := h g9
        have o_v1 := gr_ob g9 o_v1
        refine r_i2l (pc := 214) C dX7_price_214 ?_
        refine r_ldc2 (pc := 215) C (v := (2520 : Int64)) dX7_price_215 g_882 ?_
        refine r_lmul (pc := 218) C dX7_price_218 ?_
        refine r_aload_n (pc := 219) C dX7_price_219 1 rfl ?_
        obtain ⟨a11, ea11, h⟩ := h
        refine r_getr (pc := 220) C fL_X7_110 dX7_price_220 o_v1 ea11 ?_
        refine r_iload_n (pc := 223) C dX7_price_223 2 rfl ?_
        obtain ⟨o_a11, h⟩ := h
        obtain ⟨i12, a13, ea13, h⟩ := h
        refine r_aald17 (pc := 224) C dX7_price_224 o_a11 i12 ea13 ?_
        obtain ⟨o_a13, h⟩ := h
        refine r_geti (pc := 225) C fL_X7_120 dX7_price_225 o_a13 ?_
        refine r_topi (fun x14 ex14 => ?_)
        have h := h x14 ex14
        refine r_i2l (pc := 228) C dX7_price_228 ?_
        refine r_lmul (pc := 229) C dX7_price_229 ?_
        exact r_sub [0, 1, 2, 3, 4, 5] rfl (T_X7_price_230 C E ht hn hX179 h)
      · have h := h.2 c7
        refine r_lconst (pc := 202) C (v := (0 : Int64)) dX7_price_202 (by decide) ?_
        refine r_goto (pc := 203) C (tgt := 230) dX7_price_203 (by decide) ?_
        exact r_sub [0, 1, 2, 3, 4, 5] rfl (T_X7_price_230 C E ht hn hX179 h)
theorem T_X7_price_179 {X : CX} {Q : HS → Prop} (C : Cx X cX7_price RX7 12 rm_X7_price) (E : ReV X rm_X7_price Q) (ht : (xh X).sig.returnType = none) (hn : (xh X).name = yX7_price.name) {v0 : Nat} {v1 : Nat} {v3 : Int32} {v4 : Nat} {v5 : Int32} {v6 : Int32} {S : HS} (h : P_X7_price_179 Q v0 v1 v3 v4 v5 v6 S) : WS X 12 0 0 179 [(0, .ref v0), (1, .ref v1), (3, .int v3), (4, .ref v4), (5, .int v5), (6, .int v6)] [] S :=
  h (fun v0 v1 v3 v4 v5 v6 S => WS X 12 0 0 179 [(0, .ref v0), (1, .ref v1), (3, .int v3), (4, .ref v4), (5, .int v5), (6, .int v6)] [] S) (fun v0 v1 v3 v4 v5 v6 S hh => TB_X7_price_179 C E ht hn (fun v0 v1 v3 v4 v5 v6 S z => z) hh)
def B_X7_price_51 (Q : HS → Prop) (X51 : Nat → Nat → Nat → Int32 → Nat → Int32 → Int32 → HS → Prop) (v0 : Nat) (v1 : Nat) (v2 : Nat) (v3 : Int32) (v4 : Nat) (v5 : Int32) (v6 : Int32) (S : HS) : Prop := ob S v1 8 ∧ (∀ x1 : Int32, x1 = fI S v1 3 → (((((2 : Int32) * x1) ≤ v6) → (P_X7_price_179 Q v0 v1 v3 v4 v5 (0 : Int32) S)) ∧ ((¬ ((2 : Int32) * x1) ≤ v6) → (∃ a3 : Nat, fR S v1 8 = some a3 ∧ (∀ x4 : Int32, x4 = v6 / (2 : Int32) → (ob S a3 18 ∧ (vp_in x4 (hN S a3) ∧ ∃ a6 : Nat, fR S a3 x4.toNatClampNeg = some a6 ∧ (∀ x7 : Int32, x7 = v6 - v6 / (2 : Int32) * (2 : Int32) → (ob S v4 6 ∧ (∀ x8 : Int32, x8 = fI S v4 5 → (P_X7_price_86 Q X51 v0 v1 v2 v3 v4 v5 v6 a6 x7 x8 S)))))))))))
def P_X7_price_51 (Q : HS → Prop) (v0 : Nat) (v1 : Nat) (v2 : Nat) (v3 : Int32) (v4 : Nat) (v5 : Int32) (v6 : Int32) (S : HS) : Prop := ∀ X51 : Nat → Nat → Nat → Int32 → Nat → Int32 → Int32 → HS → Prop, (∀ (v0 : Nat) (v1 : Nat) (v2 : Nat) (v3 : Int32) (v4 : Nat) (v5 : Int32) (v6 : Int32) (S : HS), B_X7_price_51 Q X51 v0 v1 v2 v3 v4 v5 v6 S → X51 v0 v1 v2 v3 v4 v5 v6 S) → X51 v0 v1 v2 v3 v4 v5 v6 S
set_option maxRecDepth 20000 in
set_option maxHeartbeats 4000000 in
theorem TB_X7_price_51 {X : CX} {Q : HS → Prop} (C : Cx X cX7_price RX7 12 rm_X7_price) (E : ReV X rm_X7_price Q) (ht : (xh X).sig.returnType = none) (hn : (xh X).name = yX7_price.name) {X51 : Nat → Nat → Nat → Int32 → Nat → Int32 → Int32 → HS → Prop} (hX51 : ∀ (v0 : Nat) (v1 : Nat) (v2 : Nat) (v3 : Int32) (v4 : Nat) (v5 : Int32) (v6 : Int32) (S : HS), X51 v0 v1 v2 v3 v4 v5 v6 S → WS X 12 0 0 51 [(0, .ref v0), (1, .ref v1), (2, .ref v2), (3, .int v3), (4, .ref v4), (5, .int v5), (6, .int v6)] [] S) {v0 : Nat} {v1 : Nat} {v2 : Nat} {v3 : Int32} {v4 : Nat} {v5 : Int32} {v6 : Int32} {S : HS} (h : B_X7_price_51 Q X51 v0 v1 v2 v3 v4 v5 v6 S) : WS X 12 0 0 51 [(0, .ref v0), (1, .ref v1), (2, .ref v2), (3, .int v3), (4, .ref v4), (5, .int v5), (6, .int v6)] [] S := by
  refine r_iload (pc := 51) C dX7_price_51 6 rfl ?_
  refine r_iconst (pc := 53) C (v := (2 : Int32)) dX7_price_53 (by decide) ?_
  refine r_aload_n (pc := 54) C dX7_price_54 1 rfl ?_
  obtain ⟨o_v1, h⟩ := h
  refine r_geti (pc := 55) C fL_X7_95 dX7_price_55 o_v1 ?_
  refine r_topi (fun x1 ex1 => ?_)
  have h := h x1 ex1
  refine r_imul (pc := 58) C dX7_price_58 ?_
  refine r_icmp_ge (pc := 59) C (tgt := 176) dX7_price_59 (by decide) (fun c2 => ?_) (fun c2 => ?_)
  · have h := h.1 c2
    refine r_iconst (pc := 176) C (v := (0 : Int32)) dX7_price_176 (by decide) ?_
    refine r_istore (pc := 177) C dX7_price_177 (by decide) (lv' := [(6, .int (0 : Int32)), (0, .ref v0), (1, .ref v1), (2, .ref v2), (3, .int v3), (4, .ref v4), (5, .int v5)]) rfl ?_
    exact r_sub [1, 2, 4, 5, 6, 0] rfl (T_X7_price_179 C E ht hn h)
  · have h := h.2 c2
    refine r_aload_n (pc := 62) C dX7_price_62 1 rfl ?_
    obtain ⟨a3, ea3, h⟩ := h
    refine r_getr (pc := 63) C fL_X7_98 dX7_price_63 o_v1 ea3 ?_
    refine r_iload (pc := 66) C dX7_price_66 6 rfl ?_
    refine r_iconst (pc := 68) C (v := (2 : Int32)) dX7_price_68 (by decide) ?_
    refine r_idiv (pc := 69) C dX7_price_69 (by decide) ?_
    refine r_topi (fun x4 ex4 => ?_)
    have h := h x4 ex4
    obtain ⟨o_a3, h⟩ := h
    obtain ⟨i5, a6, ea6, h⟩ := h
    refine r_aald18 (pc := 70) C dX7_price_70 o_a3 i5 ea6 ?_
    refine r_astore (pc := 71) C dX7_price_71 (by decide) (lv' := [(7, .ref a6), (0, .ref v0), (1, .ref v1), (2, .ref v2), (3, .int v3), (4, .ref v4), (5, .int v5), (6, .int v6)]) rfl ?_
    refine r_iload (pc := 73) C dX7_price_73 7 rfl ?_
    refine r_iconst (pc := 75) C (v := (2 : Int32)) dX7_price_75 (by decide) ?_
    refine r_irem (pc := 76) C dX7_price_76 (by decide) ?_
    refine r_topi (fun x7 ex7 => ?_)
    have h := h x7 ex7
    refine r_istore (pc := 77) C dX7_price_77 (by decide) (lv' := [(8, .int x7), (7, .ref a6), (0, .ref v0), (1, .ref v1), (2, .ref v2), (3, .int v3), (4, .ref v4), (5, .int v5), (6, .int v6)]) rfl ?_
    refine r_aload (pc := 79) C dX7_price_79 6 rfl ?_
    obtain ⟨o_v4, h⟩ := h
    refine r_geti (pc := 81) C fL_X7_102 dX7_price_81 o_v4 ?_
    refine r_topi (fun x8 ex8 => ?_)
    have h := h x8 ex8
    refine r_istore (pc := 84) C dX7_price_84 (by decide) (lv' := [(9, .int x8), (8, .int x7), (7, .ref a6), (0, .ref v0), (1, .ref v1), (2, .ref v2), (3, .int v3), (4, .ref v4), (5, .int v5), (6, .int v6)]) rfl ?_
    exact r_sub [3, 4, 5, 6, 7, 8, 9, 2, 1, 0] rfl (T_X7_price_86 C E ht hn hX51 h)
theorem T_X7_price_51 {X : CX} {Q : HS → Prop} (C : Cx X cX7_price RX7 12 rm_X7_price) (E : ReV X rm_X7_price Q) (ht : (xh X).sig.returnType = none) (hn : (xh X).name = yX7_price.name) {v0 : Nat} {v1 : Nat} {v2 : Nat} {v3 : Int32} {v4 : Nat} {v5 : Int32} {v6 : Int32} {S : HS} (h : P_X7_price_51 Q v0 v1 v2 v3 v4 v5 v6 S) : WS X 12 0 0 51 [(0, .ref v0), (1, .ref v1), (2, .ref v2), (3, .int v3), (4, .ref v4), (5, .int v5), (6, .int v6)] [] S :=
  h (fun v0 v1 v2 v3 v4 v5 v6 S => WS X 12 0 0 51 [(0, .ref v0), (1, .ref v1), (2, .ref v2), (3, .int v3), (4, .ref v4), (5, .int v5), (6, .int v6)] [] S) (fun v0 v1 v2 v3 v4 v5 v6 S hh => TB_X7_price_51 C E ht hn (fun v0 v1 v2 v3 v4 v5 v6 S z => z) hh)
def P_X7_price_46 (Q : HS → Prop) (v0 : Nat) (v1 : Nat) (v2 : Nat) (v3 : Int32) (v4 : Nat) (s0 : Int32) (S : HS) : Prop := P_X7_price_51 Q v0 v1 v2 v3 v4 s0 (0 : Int32) S
set_option maxRecDepth 20000 in
set_option maxHeartbeats 4000000 in
theorem T_X7_price_46 {X : CX} {Q : HS → Prop} (C : Cx X cX7_price RX7 12 rm_X7_price) (E : ReV X rm_X7_price Q) (ht : (xh X).sig.returnType = none) (hn : (xh X).name = yX7_price.name) {v0 : Nat} {v1 : Nat} {v2 : Nat} {v3 : Int32} {v4 : Nat} {s0 : Int32} {S : HS} (h : P_X7_price_46 Q v0 v1 v2 v3 v4 s0 S) : WS X 12 0 0 46 [(0, .ref v0), (1, .ref v1), (2, .ref v2), (3, .int v3), (4, .ref v4)] [.int s0] S := by
  refine r_istore (pc := 46) C dX7_price_46 (by decide) (lv' := [(5, .int s0), (0, .ref v0), (1, .ref v1), (2, .ref v2), (3, .int v3), (4, .ref v4)]) rfl ?_
  refine r_iconst (pc := 48) C (v := (0 : Int32)) dX7_price_48 (by decide) ?_
  refine r_istore (pc := 49) C dX7_price_49 (by decide) (lv' := [(6, .int (0 : Int32)), (5, .int s0), (0, .ref v0), (1, .ref v1), (2, .ref v2), (3, .int v3), (4, .ref v4)]) rfl ?_
  exact r_sub [2, 3, 4, 5, 6, 1, 0] rfl (T_X7_price_51 C E ht hn h)
def P_X7_price_0 (Q : HS → Prop) (v0 : Nat) (v1 : Nat) (v2 : Nat) (v3 : Int32) (S : HS) : Prop := ob S v0 7 ∧ (∀ S1 : HS, S1 = sI S v0 9 v3 → (∀ S2 : HS, S2 = sI S1 v0 3 (0 : Int32) → (∀ x3 : Int32, x3 = fI S2 v0 10 → (ob S2 v1 8 ∧ (P_X8_hasWalker v1 x3 (fun x6 S4 => Gr S2 S4 → bl x6 → (((¬ x6 = 0) → (∃ a8 : Nat, fR S4 v1 9 = some a8 ∧ (∀ x9 : Int32, x9 = fI S4 v0 10 → (ob S4 a8 19 ∧ (vp_in x9 (hN S4 a8) ∧ ∃ a11 : Nat, fR S4 a8 x9.toNatClampNeg = some a11 ∧ (P_X8_hasHour v1 v3 (fun x14 S12 => Gr S4 S12 → bl x14 → (((¬ x14 = 0) → (P_X7_price_46 Q v0 v1 v2 v3 a11 (0 : Int32) S12)) ∧ ((x14 = 0) → (P_X7_price_46 Q v0 v1 v2 v3 a11 (1 : Int32) S12)))) S4)))))) ∧ ((x6 = 0) → (Q S4)))) S2)))))
set_option maxRecDepth 20000 in
set_option maxHeartbeats 4000000 in
theorem T_X7_price_0 {X : CX} {Q : HS → Prop} (C : Cx X cX7_price RX7 12 rm_X7_price) (E : ReV X rm_X7_price Q) (ht : (xh X).sig.returnType = none) (hn : (xh X).name = yX7_price.name) {v0 : Nat} {v1 : Nat} {v2 : Nat} {v3 : Int32} {S : HS} (h : P_X7_price_0 Q v0 v1 v2 v3 S) : WS X 12 0 0 0 [(0, .ref v0), (1, .ref v1), (2, .ref v2), (3, .int v3)] [] S := by
  refine r_aload_n (pc := 0) C dX7_price_0 0 rfl ?_
  refine r_iload_n (pc := 1) C dX7_price_1 3 rfl ?_
  obtain ⟨o_v0, h⟩ := h
  refine r_puti (pc := 2) C pfL_X7_37 dX7_price_2 o_v0 ?_
  refine r_heap (fun S1 eS1 => ?_)
  have h := h S1 eS1
  have o_v0 := ob_I eS1 o_v0
  refine r_aload_n (pc := 5) C dX7_price_5 0 rfl ?_
  refine r_iconst (pc := 6) C (v := (0 : Int32)) dX7_price_6 (by decide) ?_
  refine r_puti (pc := 7) C pfL_X7_82 dX7_price_7 o_v0 ?_
  refine r_heap (fun S2 eS2 => ?_)
  have h := h S2 eS2
  have o_v0 := ob_I eS2 o_v0
  refine r_aload_n (pc := 10) C dX7_price_10 1 rfl ?_
  refine r_aload_n (pc := 11) C dX7_price_11 0 rfl ?_
  refine r_geti (pc := 12) C fL_X7_41 dX7_price_12 o_v0 ?_
  refine r_topi (fun x3 ex3 => ?_)
  have h := h x3 ex3
  obtain ⟨o_v1, h⟩ := h
  refine r_callVi0 (pc := 15) C (rest := []) (a := v1) o_v1 [.int x3] yV_X8_hasWalker g_849 (c_X8_hasWalker h) dX7_price_15 rfl rfl (Nat.le_of_ble_eq_true rfl) ⟨by decide, by decide⟩ ⟨by decide, by decide⟩ ⟨rfl, rfl⟩ (fun x6 S4 h g5 => ?_)
  have bx6 := h.1
  have h := h.2 g5 bx6
  have o_v0 := gr_ob g5 o_v0
  have o_v1 := gr_ob g5 o_v1
  refine r_if_ne (pc := 18) C (tgt := 22) dX7_price_18 (by decide) (fun c7 => ?_) (fun c7 => ?_)
  · have h := h.1 c7
    refine r_aload_n (pc := 22) C dX7_price_22 1 rfl ?_
    obtain ⟨a8, ea8, h⟩ := h
    refine r_getr (pc := 23) C fL_X7_89 dX7_price_23 o_v1 ea8 ?_
    refine r_aload_n (pc := 26) C dX7_price_26 0 rfl ?_
    refine r_geti (pc := 27) C fL_X7_41 dX7_price_27 o_v0 ?_
    refine r_topi (fun x9 ex9 => ?_)
    have h := h x9 ex9
    obtain ⟨o_a8, h⟩ := h
    obtain ⟨i10, a11, ea11, h⟩ := h
    refine r_aald19 (pc := 30) C dX7_price_30 o_a8 i10 ea11 ?_
    refine r_astore (pc := 31) C dX7_price_31 (by decide) (lv' := [(4, .ref a11), (0, .ref v0), (1, .ref v1), (2, .ref v2), (3, .int v3)]) rfl ?_
    refine r_aload_n (pc := 33) C dX7_price_33 2 rfl ?_
    refine r_iload_n (pc := 34) C dX7_price_34 4 rfl ?_
    refine r_callVi0 (pc := 35) C (rest := []) (a := v1) o_v1 [.int v3] yV_X8_hasHour g_850 (c_X8_hasHour h) dX7_price_35 rfl rfl (Nat.le_of_ble_eq_true rfl) ⟨by decide, by decide⟩ ⟨by decide, by decide⟩ ⟨rfl, rfl⟩ (fun x14 S12 h g13 => ?_)
    have bx14 := h.1
    have h := h.2 g13 bx14
    have o_a8 := gr_ob g13 o_a8
    have o_v0 := gr_ob g13 o_v0
    have o_v1 := gr_ob g13 o_v1
    refine r_if_ne (pc := 38) C (tgt := 45) dX7_price_38 (by decide) (fun c15 => ?_) (fun c15 => ?_)
    · have h := h.1 c15
      refine r_iconst (pc := 45) C (v := (0 : Int32)) dX7_price_45 (by decide) ?_
      exact r_sub [1, 2, 3, 4, 0] rfl (T_X7_price_46 C E ht hn h)
    · have h := h.2 c15
      refine r_iconst (pc := 41) C (v := (1 : Int32)) dX7_price_41 (by decide) ?_
      refine r_goto (pc := 42) C (tgt := 46) dX7_price_42 (by decide) ?_
      exact r_sub [1, 2, 3, 4, 0] rfl (T_X7_price_46 C E ht hn h)
  · have h := h.2 c7
    exact r_vret (pc := 21) C E ht dX7_price_21 (by decide) (by decide) h
def P_X7_price (v0 : Nat) (v1 : Nat) (v2 : Nat) (v3 : Int32) (Q : HS → Prop) (S : HS) : Prop := P_X7_price_0 Q v0 v1 v2 v3 S
theorem c_X7_price {l : Launch} {Ee : EE} {S : HS} {v0 : Nat} {v1 : Nat} {v2 : Nat} {v3 : Int32} {Q : HS → Prop} (h : P_X7_price v0 v1 v2 v3 Q S) : MV l yX7_price cX7_price 12 none rm_X7_price Ee S [.ref v0, .ref v1, .ref v2, .int v3] Q :=
  openV (by decide) (Nat.le_of_ble_eq_true rfl) (fun X C E ht hn hE hl => by subst hE; exact r_sub [0, 1, 2, 3] rfl (T_X7_price_0 C E ht hn h))
def rm_X7_reckonMinute : Room := { frames := 0, cells := 0, slots := 0, locals := 0 }
def P_X7_reckonMinute_40 (Q : HS → Prop) (X2 : Nat → Int32 → Int32 → Int32 → HS → Prop) (v0 : Nat) (v1 : Int32) (v2 : Int32) (v3 : Int32) (s0 : Nat) (s1 : Int32) (s2 : Int64) (S : HS) : Prop := ob S s0 14 ∧ (vp_in s1 (hN S s0) ∧ (∀ S2 : HS, S2 = sJ S s0 s1.toNatClampNeg s2 → (ob S2 v0 7 ∧ (∃ a3 : Nat, fR S2 v0 2 = some a3 ∧ (ob S2 a3 13 ∧ (vp_in ((v3 * (401 : Int32)) + v2) (hN S2 a3) ∧ (∀ S5 : HS, S5 = sI S2 a3 ((v3 * (401 : Int32)) + v2).toNatClampNeg (-1 : Int32) → (∀ x6 : Int32, x6 = v3 + (1 : Int32) → (X2 v0 v1 v2 x6 S5)))))))))
set_option maxRecDepth 20000 in
set_option maxHeartbeats 4000000 in
theorem T_X7_reckonMinute_40 {X : CX} {Q : HS → Prop} (C : Cx X cX7_reckonMinute RX7 9 rm_X7_reckonMinute) (E : ReV X rm_X7_reckonMinute Q) (ht : (xh X).sig.returnType = none) (hn : (xh X).name = yX7_reckonMinute.name) {X2 : Nat → Int32 → Int32 → Int32 → HS → Prop} (hX2 : ∀ (v0 : Nat) (v1 : Int32) (v2 : Int32) (v3 : Int32) (S : HS), X2 v0 v1 v2 v3 S → WS X 9 0 0 2 [(0, .ref v0), (1, .int v1), (2, .int v2), (3, .int v3)] [] S) {v0 : Nat} {v1 : Int32} {v2 : Int32} {v3 : Int32} {s0 : Nat} {s1 : Int32} {s2 : Int64} {S : HS} (h : P_X7_reckonMinute_40 Q X2 v0 v1 v2 v3 s0 s1 s2 S) : WS X 9 0 0 40 [(0, .ref v0), (1, .int v1), (2, .int v2), (3, .int v3)] [.long s2, .int s1, .ref s0] S := by
  obtain ⟨o_s0, h⟩ := h
  obtain ⟨i1, h⟩ := h
  refine r_last (pc := 40) C dX7_reckonMinute_40 o_s0 i1 ?_
  refine r_heap (fun S2 eS2 => ?_)
  have h := h S2 eS2
  have o_s0 := ob_J eS2 o_s0
  refine r_aload_n (pc := 41) C dX7_reckonMinute_41 0 rfl ?_
  obtain ⟨o_v0, h⟩ := h
  obtain ⟨a3, ea3, h⟩ := h
  refine r_getr (pc := 42) C fL_X7_19 dX7_reckonMinute_42 o_v0 ea3 ?_
  refine r_iload_n (pc := 45) C dX7_reckonMinute_45 3 rfl ?_
  refine r_sipush (pc := 46) C (v := (401 : Int32)) dX7_reckonMinute_46 (by decide) ?_
  refine r_imul (pc := 49) C dX7_reckonMinute_49 ?_
  refine r_iload_n (pc := 50) C dX7_reckonMinute_50 2 rfl ?_
  refine r_iadd (pc := 51) C dX7_reckonMinute_51 ?_
  refine r_iconst (pc := 52) C (v := (-1 : Int32)) dX7_reckonMinute_52 (by decide) ?_
  obtain ⟨o_a3, h⟩ := h
  obtain ⟨i4, h⟩ := h
  refine r_iast (pc := 53) C dX7_reckonMinute_53 o_a3 i4 ?_
  refine r_heap (fun S5 eS5 => ?_)
  have h := h S5 eS5
  have o_a3 := ob_I eS5 o_a3
  have o_s0 := ob_I eS5 o_s0
  have o_v0 := ob_I eS5 o_v0
  obtain ⟨x6, ex6⟩ : ∃ z : Int32, z = v3 + (1 : Int32) := ⟨_, rfl⟩
  have h := h x6 ex6
  refine r_iinc (pc := 54) C (v := x6) (lv' := [(3, .int x6), (0, .ref v0), (1, .int v1), (2, .int v2)]) dX7_reckonMinute_54 3 rfl ex6.symm (by decide) rfl ?_
  refine r_goto (pc := 57) C (tgt := 2) dX7_reckonMinute_57 (by decide) ?_
  exact r_sub [1, 2, 3, 0] rfl (hX2 v0 v1 v2 x6 S5 h)
def P_X7_reckonMinute_219 (Q : HS → Prop) (X62 : Nat → Int32 → Int32 → HS → Prop) (v0 : Nat) (v2 : Int32) (v3 : Int32) (S : HS) : Prop := ∀ x1 : Int32, x1 = v3 + (1 : Int32) → (X62 v0 v2 x1 S)
set_option maxRecDepth 20000 in
set_option maxHeartbeats 4000000 in
theorem T_X7_reckonMinute_219 {X : CX} {Q : HS → Prop} (C : Cx X cX7_reckonMinute RX7 9 rm_X7_reckonMinute) (E : ReV X rm_X7_reckonMinute Q) (ht : (xh X).sig.returnType = none) (hn : (xh X).name = yX7_reckonMinute.name) {X62 : Nat → Int32 → Int32 → HS → Prop} (hX62 : ∀ (v0 : Nat) (v2 : Int32) (v3 : Int32) (S : HS), X62 v0 v2 v3 S → WS X 9 0 0 62 [(0, .ref v0), (2, .int v2), (3, .int v3)] [] S) {v0 : Nat} {v2 : Int32} {v3 : Int32} {S : HS} (h : P_X7_reckonMinute_219 Q X62 v0 v2 v3 S) : WS X 9 0 0 219 [(0, .ref v0), (2, .int v2), (3, .int v3)] [] S := by
  obtain ⟨x1, ex1⟩ : ∃ z : Int32, z = v3 + (1 : Int32) := ⟨_, rfl⟩
  have h := h x1 ex1
  refine r_iinc (pc := 219) C (v := x1) (lv' := [(3, .int x1), (0, .ref v0), (2, .int v2)]) dX7_reckonMinute_219 2 rfl ex1.symm (by decide) rfl ?_
  refine r_goto (pc := 222) C (tgt := 62) dX7_reckonMinute_222 (by decide) ?_
  exact r_sub [1, 2, 0] rfl (hX62 v0 v2 x1 S h)
def P_X7_reckonMinute_117 (Q : HS → Prop) (X62 : Nat → Int32 → Int32 → HS → Prop) (v0 : Nat) (v2 : Int32) (v3 : Int32) (v4 : Int32) (v5 : Int32) (s0 : Int32) (S : HS) : Prop := ((s0 = 0) → (P_X7_reckonMinute_219 Q X62 v0 v2 v3 S)) ∧ ((¬ s0 = 0) → (((v4 < 0) → (P_X7_reckonMinute_219 Q X62 v0 v2 v3 S)) ∧ ((¬ v4 < 0) → (ob S v0 7 ∧ (∃ a3 : Nat, fR S v0 1 = some a3 ∧ (ob S a3 14 ∧ ((((nI (hN S a3)) ≤ v4) → (P_X7_reckonMinute_219 Q X62 v0 v2 v3 S)) ∧ ((¬ (nI (hN S a3)) ≤ v4) → (((v5 < 0) → (P_X7_reckonMinute_219 Q X62 v0 v2 v3 S)) ∧ ((¬ v5 < 0) → (∃ a6 : Nat, fR S v0 1 = some a6 ∧ (ob S a6 14 ∧ ((((nI (hN S a6)) ≤ v5) → (P_X7_reckonMinute_219 Q X62 v0 v2 v3 S)) ∧ ((¬ (nI (hN S a6)) ≤ v5) → (∃ a8 : Nat, fR S v0 1 = some a8 ∧ (ob S a8 14 ∧ (vp_in v5 (hN S a8) ∧ ∀ x10 : Int64, x10 = fJ S a8 v5.toNatClampNeg → ((((lg_cmp x10 (4611686018427387904 : Int64)) = 0) → (P_X7_reckonMinute_219 Q X62 v0 v2 v3 S)) ∧ ((¬ (lg_cmp x10 (4611686018427387904 : Int64)) = 0) → (∃ a12 : Nat, fR S v0 7 = some a12 ∧ (ob S a12 14 ∧ (vp_in v3 (hN S a12) ∧ ∀ x14 : Int64, x14 = fJ S a12 v3.toNatClampNeg → (∃ a15 : Nat, fR S v0 1 = some a15 ∧ (ob S a15 14 ∧ (vp_in v5 (hN S a15) ∧ ∀ x17 : Int64, x17 = fJ S a15 v5.toNatClampNeg → (∀ x18 : Int64, x18 = x14 + x17 → (∃ a19 : Nat, fR S v0 1 = some a19 ∧ (ob S a19 14 ∧ (vp_in v4 (hN S a19) ∧ ∀ x21 : Int64, x21 = fJ S a19 v4.toNatClampNeg → (((0 ≤ (lg_cmp x18 x21)) → (P_X7_reckonMinute_219 Q X62 v0 v2 v3 S)) ∧ ((¬ 0 ≤ (lg_cmp x18 x21)) → (∃ a23 : Nat, fR S v0 1 = some a23 ∧ (ob S a23 14 ∧ (vp_in v4 (hN S a23) ∧ (∀ S25 : HS, S25 = sJ S a23 v4.toNatClampNeg x18 → (∃ a26 : Nat, fR S25 v0 2 = some a26 ∧ (∃ a27 : Nat, fR S25 v0 8 = some a27 ∧ (ob S25 a27 13 ∧ (vp_in v3 (hN S25 a27) ∧ ∀ x29 : Int32, x29 = fI S25 a27 v3.toNatClampNeg → (ob S25 a26 13 ∧ (vp_in v4 (hN S25 a26) ∧ (∀ S31 : HS, S31 = sI S25 a26 v4.toNatClampNeg x29 → (P_X7_reckonMinute_219 Q X62 v0 v2 v3 S31)))))))))))))))))))))))))))))))))))))))))))
set_option maxRecDepth 20000 in
set_option maxHeartbeats 4000000 in
theorem T_X7_reckonMinute_117 {X : CX} {Q : HS → Prop} (C : Cx X cX7_reckonMinute RX7 9 rm_X7_reckonMinute) (E : ReV X rm_X7_reckonMinute Q) (ht : (xh X).sig.returnType = none) (hn : (xh X).name = yX7_reckonMinute.name) {X62 : Nat → Int32 → Int32 → HS → Prop} (hX62 : ∀ (v0 : Nat) (v2 : Int32) (v3 : Int32) (S : HS), X62 v0 v2 v3 S → WS X 9 0 0 62 [(0, .ref v0), (2, .int v2), (3, .int v3)] [] S) {v0 : Nat} {v2 : Int32} {v3 : Int32} {v4 : Int32} {v5 : Int32} {s0 : Int32} {S : HS} (h : P_X7_reckonMinute_117 Q X62 v0 v2 v3 v4 v5 s0 S) : WS X 9 0 0 117 [(0, .ref v0), (2, .int v2), (3, .int v3), (4, .int v4), (5, .int v5)] [.int s0] S := by
  refine r_istore (pc := 117) C dX7_reckonMinute_117 (by decide) (lv' := [(6, .int s0), (0, .ref v0), (2, .int v2), (3, .int v3), (4, .int v4), (5, .int v5)]) rfl ?_
  refine r_iload (pc := 119) C dX7_reckonMinute_119 0 rfl ?_
  refine r_if_eq (pc := 121) C (tgt := 219) dX7_reckonMinute_121 (by decide) (fun c1 => ?_) (fun c1 => ?_)
  · have h := h.1 c1
    exact r_sub [1, 2, 3] rfl (T_X7_reckonMinute_219 C E ht hn hX62 h)
  · have h := h.2 c1
    refine r_iload (pc := 124) C dX7_reckonMinute_124 4 rfl ?_
    refine r_if_lt (pc := 126) C (tgt := 219) dX7_reckonMinute_126 (by decide) (fun c2 => ?_) (fun c2 => ?_)
    · have h := h.1 c2
      exact r_sub [1, 2, 3] rfl (T_X7_reckonMinute_219 C E ht hn hX62 h)
    · have h := h.2 c2
      refine r_iload (pc := 129) C dX7_reckonMinute_129 4 rfl ?_
      refine r_aload_n (pc := 131) C dX7_reckonMinute_131 1 rfl ?_
      obtain ⟨o_v0, h⟩ := h
      obtain ⟨a3, ea3, h⟩ := h
      refine r_getr (pc := 132) C fL_X7_15 dX7_reckonMinute_132 o_v0 ea3 ?_
      obtain ⟨o_a3, h⟩ := h
      refine r_alen14 (pc := 135) C dX7_reckonMinute_135 o_a3 ?_
      refine r_icmp_ge (pc := 136) C (tgt := 219) dX7_reckonMinute_136 (by decide) (fun c4 => ?_) (fun c4 => ?_)
      · have h := h.1 c4
        exact r_sub [1, 2, 3] rfl (T_X7_reckonMinute_219 C E ht hn hX62 h)
      · have h := h.2 c4
        refine r_iload (pc := 139) C dX7_reckonMinute_139 5 rfl ?_
        refine r_if_lt (pc := 141) C (tgt := 219) dX7_reckonMinute_141 (by decide) (fun c5 => ?_) (fun c5 => ?_)
        · have h := h.1 c5
          exact r_sub [1, 2, 3] rfl (T_X7_reckonMinute_219 C E ht hn hX62 h)
        · have h := h.2 c5
          refine r_iload (pc := 144) C dX7_reckonMinute_144 5 rfl ?_
          refine r_aload_n (pc := 146) C dX7_reckonMinute_146 1 rfl ?_
          obtain ⟨a6, ea6, h⟩ := h
          refine r_getr (pc := 147) C fL_X7_15 dX7_reckonMinute_147 o_v0 ea6 ?_
          obtain ⟨o_a6, h⟩ := h
          refine r_alen14 (pc := 150) C dX7_reckonMinute_150 o_a6 ?_
          refine r_icmp_ge (pc := 151) C (tgt := 219) dX7_reckonMinute_151 (by decide) (fun c7 => ?_) (fun c7 => ?_)
          · have h := h.1 c7
            exact r_sub [1, 2, 3] rfl (T_X7_reckonMinute_219 C E ht hn hX62 h)
          · have h := h.2 c7
            refine r_aload_n (pc := 154) C dX7_reckonMinute_154 1 rfl ?_
            obtain ⟨a8, ea8, h⟩ := h
            refine r_getr (pc := 155) C fL_X7_15 dX7_reckonMinute_155 o_v0 ea8 ?_
            refine r_iload (pc := 158) C dX7_reckonMinute_158 5 rfl ?_
            obtain ⟨o_a8, h⟩ := h
            obtain ⟨i9, h⟩ := h
            refine r_lald (pc := 160) C dX7_reckonMinute_160 o_a8 i9 ?_
            refine r_topl (fun x10 ex10 => ?_)
            have h := h x10 ex10
            refine r_ldc2 (pc := 161) C (v := (4611686018427387904 : Int64)) dX7_reckonMinute_161 g_887 ?_
            refine r_lcmp (pc := 164) C dX7_reckonMinute_164 ?_
            refine r_if_eq (pc := 165) C (tgt := 219) dX7_reckonMinute_165 (by decide) (fun c11 => ?_) (fun c11 => ?_)
            · have h := h.1 c11
              exact r_sub [1, 2, 3] rfl (T_X7_reckonMinute_219 C E ht hn hX62 h)
            · have h := h.2 c11
              refine r_aload_n (pc := 168) C dX7_reckonMinute_168 1 rfl ?_
              obtain ⟨a12, ea12, h⟩ := h
              refine r_getr (pc := 169) C fL_X7_31 dX7_reckonMinute_169 o_v0 ea12 ?_
              refine r_iload_n (pc := 172) C dX7_reckonMinute_172 3 rfl ?_
              obtain ⟨o_a12, h⟩ := h
              obtain ⟨i13, h⟩ := h
              refine r_lald (pc := 173) C dX7_reckonMinute_173 o_a12 i13 ?_
              refine r_topl (fun x14 ex14 => ?_)
              have h := h x14 ex14
              refine r_aload_n (pc := 174) C dX7_reckonMinute_174 1 rfl ?_
              obtain ⟨a15, ea15, h⟩ := h
              refine r_getr (pc := 175) C fL_X7_15 dX7_reckonMinute_175 o_v0 ea15 ?_
              refine r_iload (pc := 178) C dX7_reckonMinute_178 5 rfl ?_
              obtain ⟨o_a15, h⟩ := h
              obtain ⟨i16, h⟩ := h
              refine r_lald (pc := 180) C dX7_reckonMinute_180 o_a15 i16 ?_
              refine r_topl (fun x17 ex17 => ?_)
              have h := h x17 ex17
              refine r_ladd (pc := 181) C dX7_reckonMinute_181 ?_
              refine r_topl (fun x18 ex18 => ?_)
              have h := h x18 ex18
              refine r_lstore (pc := 182) C dX7_reckonMinute_182 (by decide) (lv' := [(7, .long x18), (6, .int s0), (0, .ref v0), (2, .int v2), (3, .int v3), (4, .int v4), (5, .int v5)]) rfl ?_
              refine r_lload (pc := 184) C dX7_reckonMinute_184 0 rfl ?_
              refine r_aload_n (pc := 186) C dX7_reckonMinute_186 2 rfl ?_
              obtain ⟨a19, ea19, h⟩ := h
              refine r_getr (pc := 187) C fL_X7_15 dX7_reckonMinute_187 o_v0 ea19 ?_
              refine r_iload (pc := 190) C dX7_reckonMinute_190 5 rfl ?_
              obtain ⟨o_a19, h⟩ := h
              obtain ⟨i20, h⟩ := h
              refine r_lald (pc := 192) C dX7_reckonMinute_192 o_a19 i20 ?_
              refine r_topl (fun x21 ex21 => ?_)
              have h := h x21 ex21
              refine r_lcmp (pc := 193) C dX7_reckonMinute_193 ?_
              refine r_if_ge (pc := 194) C (tgt := 219) dX7_reckonMinute_194 (by decide) (fun c22 => ?_) (fun c22 => ?_)
              · have h := h.1 c22
                exact r_sub [2, 3, 4] rfl (T_X7_reckonMinute_219 C E ht hn hX62 h)
              · have h := h.2 c22
                refine r_aload_n (pc := 197) C dX7_reckonMinute_197 2 rfl ?_
                obtain ⟨a23, ea23, h⟩ := h
                refine r_getr (pc := 198) C fL_X7_15 dX7_reckonMinute_198 o_v0 ea23 ?_
                refine r_iload (pc := 201) C dX7_reckonMinute_201 5 rfl ?_
                refine r_lload (pc := 203) C dX7_reckonMinute_203 0 rfl ?_
                obtain ⟨o_a23, h⟩ := h
                obtain ⟨i24, h⟩ := h
                refine r_last (pc := 205) C dX7_reckonMinute_205 o_a23 i24 ?_
                refine r_heap (fun S25 eS25 => ?_)
                have h := h S25 eS25
                have o_a12 := ob_J eS25 o_a12
                have o_a15 := ob_J eS25 o_a15
                have o_a19 := ob_J eS25 o_a19
                have o_a23 := ob_J eS25 o_a23
                have o_a3 := ob_J eS25 o_a3
                have o_a6 := ob_J eS25 o_a6
                have o_a8 := ob_J eS25 o_a8
                have o_v0 := ob_J eS25 o_v0
                refine r_aload_n (pc := 206) C dX7_reckonMinute_206 2 rfl ?_
                obtain ⟨a26, ea26, h⟩ := h
                refine r_getr (pc := 207) C fL_X7_19 dX7_reckonMinute_207 o_v0 ea26 ?_
                refine r_iload (pc := 210) C dX7_reckonMinute_210 5 rfl ?_
                refine r_aload_n (pc := 212) C dX7_reckonMinute_212 2 rfl ?_
                obtain ⟨a27, ea27, h⟩ := h
                refine r_getr (pc := 213) C fL_X7_34 dX7_reckonMinute_213 o_v0 ea27 ?_
                refine r_iload_n (pc := 216) C dX7_reckonMinute_216 4 rfl ?_
                obtain ⟨o_a27, h⟩ := h
                obtain ⟨i28, h⟩ := h
                refine r_iald (pc := 217) C dX7_reckonMinute_217 o_a27 i28 ?_
                refine r_topi (fun x29 ex29 => ?_)
                have h := h x29 ex29
                obtain ⟨o_a26, h⟩ := h
                obtain ⟨i30, h⟩ := h
                refine r_iast (pc := 218) C dX7_reckonMinute_218 o_a26 i30 ?_
                refine r_heap (fun S31 eS31 => ?_)
                have h := h S31 eS31
                have o_a12 := ob_I eS31 o_a12
                have o_a15 := ob_I eS31 o_a15
                have o_a19 := ob_I eS31 o_a19
                have o_a23 := ob_I eS31 o_a23
                have o_a26 := ob_I eS31 o_a26
                have o_a27 := ob_I eS31 o_a27
                have o_a3 := ob_I eS31 o_a3
                have o_a6 := ob_I eS31 o_a6
                have o_a8 := ob_I eS31 o_a8
                have o_v0 := ob_I eS31 o_v0
                exact r_sub [2, 3, 4] rfl (T_X7_reckonMinute_219 C E ht hn hX62 h)
def B_X7_reckonMinute_62 (Q : HS → Prop) (X62 : Nat → Int32 → Int32 → HS → Prop) (v0 : Nat) (v2 : Int32) (v3 : Int32) (S : HS) : Prop := ob S v0 7 ∧ (∀ x1 : Int32, x1 = fI S v0 3 → (((x1 ≤ v3) → (Q S)) ∧ ((¬ x1 ≤ v3) → ((((224 : Int32) ≤ v3) → (Q S)) ∧ ((¬ (224 : Int32) ≤ v3) → (∃ a4 : Nat, fR S v0 4 = some a4 ∧ (ob S a4 13 ∧ (vp_in v3 (hN S a4) ∧ ∀ x6 : Int32, x6 = fI S a4 v3.toNatClampNeg → (∀ x7 : Int32, x7 = x6 + v2 → (∃ a8 : Nat, fR S v0 5 = some a8 ∧ (ob S a8 13 ∧ (vp_in v3 (hN S a8) ∧ ∀ x10 : Int32, x10 = fI S a8 v3.toNatClampNeg → (∀ x11 : Int32, x11 = x10 + v2 → (∃ a12 : Nat, fR S v0 6 = some a12 ∧ (ob S a12 13 ∧ (vp_in v3 (hN S a12) ∧ ∀ x14 : Int32, x14 = fI S a12 v3.toNatClampNeg → (∀ x15 : Int32, x15 = fI S v0 12 → ((((x15 - v2) < x14) → (P_X7_reckonMinute_117 Q X62 v0 v2 v3 x7 x11 (0 : Int32) S)) ∧ ((¬ (x15 - v2) < x14) → (P_X7_reckonMinute_117 Q X62 v0 v2 v3 x7 x11 (1 : Int32) S))))))))))))))))))))
def P_X7_reckonMinute_62 (Q : HS → Prop) (v0 : Nat) (v2 : Int32) (v3 : Int32) (S : HS) : Prop := ∀ X62 : Nat → Int32 → Int32 → HS → Prop, (∀ (v0 : Nat) (v2 : Int32) (v3 : Int32) (S : HS), B_X7_reckonMinute_62 Q X62 v0 v2 v3 S → X62 v0 v2 v3 S) → X62 v0 v2 v3 S
set_option maxRecDepth 20000 in
set_option maxHeartbeats 4000000 in
theorem TB_X7_reckonMinute_62 {X : CX} {Q : HS → Prop} (C : Cx X cX7_reckonMinute RX7 9 rm_X7_reckonMinute) (E : ReV X rm_X7_reckonMinute Q) (ht : (xh X).sig.returnType = none) (hn : (xh X).name = yX7_reckonMinute.name) {X62 : Nat → Int32 → Int32 → HS → Prop} (hX62 : ∀ (v0 : Nat) (v2 : Int32) (v3 : Int32) (S : HS), X62 v0 v2 v3 S → WS X 9 0 0 62 [(0, .ref v0), (2, .int v2), (3, .int v3)] [] S) {v0 : Nat} {v2 : Int32} {v3 : Int32} {S : HS} (h : B_X7_reckonMinute_62 Q X62 v0 v2 v3 S) : WS X 9 0 0 62 [(0, .ref v0), (2, .int v2), (3, .int v3)] [] S := by
  refine r_iload_n (pc := 62) C dX7_reckonMinute_62 2 rfl ?_
  refine r_aload_n (pc := 63) C dX7_reckonMinute_63 0 rfl ?_
  obtain ⟨o_v0, h⟩ := h
  refine r_geti (pc := 64) C fL_X7_82 dX7_reckonMinute_64 o_v0 ?_
  refine r_topi (fun x1 ex1 => ?_)
  have h := h x1 ex1
  refine r_icmp_ge (pc := 67) C (tgt := 225) dX7_reckonMinute_67 (by decide) (fun c2 => ?_) (fun c2 => ?_)
  · have h := h.1 c2
    exact r_vret (pc := 225) C E ht dX7_reckonMinute_225 (by decide) (by decide) h
  · have h := h.2 c2
    refine r_iload_n (pc := 70) C dX7_reckonMinute_70 2 rfl ?_
    refine r_sipush (pc := 71) C (v := (224 : Int32)) dX7_reckonMinute_71 (by decide) ?_
    refine r_icmp_ge (pc := 74) C (tgt := 225) dX7_reckonMinute_74 (by decide) (fun c3 => ?_) (fun c3 => ?_)
    · have h := h.1 c3
      exact r_vret (pc := 225) C E ht dX7_reckonMinute_225 (by decide) (by decide) h
    · have h := h.2 c3
      refine r_aload_n (pc := 77) C dX7_reckonMinute_77 0 rfl ?_
      obtain ⟨a4, ea4, h⟩ := h
      refine r_getr (pc := 78) C fL_X7_22 dX7_reckonMinute_78 o_v0 ea4 ?_
      refine r_iload_n (pc := 81) C dX7_reckonMinute_81 2 rfl ?_
      obtain ⟨o_a4, h⟩ := h
      obtain ⟨i5, h⟩ := h
      refine r_iald (pc := 82) C dX7_reckonMinute_82 o_a4 i5 ?_
      refine r_topi (fun x6 ex6 => ?_)
      have h := h x6 ex6
      refine r_iload_n (pc := 83) C dX7_reckonMinute_83 1 rfl ?_
      refine r_iadd (pc := 84) C dX7_reckonMinute_84 ?_
      refine r_topi (fun x7 ex7 => ?_)
      have h := h x7 ex7
      refine r_istore (pc := 85) C dX7_reckonMinute_85 (by decide) (lv' := [(4, .int x7), (0, .ref v0), (2, .int v2), (3, .int v3)]) rfl ?_
      refine r_aload_n (pc := 87) C dX7_reckonMinute_87 1 rfl ?_
      obtain ⟨a8, ea8, h⟩ := h
      refine r_getr (pc := 88) C fL_X7_25 dX7_reckonMinute_88 o_v0 ea8 ?_
      refine r_iload_n (pc := 91) C dX7_reckonMinute_91 3 rfl ?_
      obtain ⟨o_a8, h⟩ := h
      obtain ⟨i9, h⟩ := h
      refine r_iald (pc := 92) C dX7_reckonMinute_92 o_a8 i9 ?_
      refine r_topi (fun x10 ex10 => ?_)
      have h := h x10 ex10
      refine r_iload_n (pc := 93) C dX7_reckonMinute_93 2 rfl ?_
      refine r_iadd (pc := 94) C dX7_reckonMinute_94 ?_
      refine r_topi (fun x11 ex11 => ?_)
      have h := h x11 ex11
      refine r_istore (pc := 95) C dX7_reckonMinute_95 (by decide) (lv' := [(5, .int x11), (4, .int x7), (0, .ref v0), (2, .int v2), (3, .int v3)]) rfl ?_
      refine r_aload_n (pc := 97) C dX7_reckonMinute_97 2 rfl ?_
      obtain ⟨a12, ea12, h⟩ := h
      refine r_getr (pc := 98) C fL_X7_28 dX7_reckonMinute_98 o_v0 ea12 ?_
      refine r_iload_n (pc := 101) C dX7_reckonMinute_101 4 rfl ?_
      obtain ⟨o_a12, h⟩ := h
      obtain ⟨i13, h⟩ := h
      refine r_iald (pc := 102) C dX7_reckonMinute_102 o_a12 i13 ?_
      refine r_topi (fun x14 ex14 => ?_)
      have h := h x14 ex14
      refine r_aload_n (pc := 103) C dX7_reckonMinute_103 2 rfl ?_
      refine r_geti (pc := 104) C fL_X7_47 dX7_reckonMinute_104 o_v0 ?_
      refine r_topi (fun x15 ex15 => ?_)
      have h := h x15 ex15
      refine r_iload_n (pc := 107) C dX7_reckonMinute_107 3 rfl ?_
      refine r_isub (pc := 108) C dX7_reckonMinute_108 ?_
      refine r_icmp_gt (pc := 109) C (tgt := 116) dX7_reckonMinute_109 (by decide) (fun c16 => ?_) (fun c16 => ?_)
      · have h := h.1 c16
        refine r_iconst (pc := 116) C (v := (0 : Int32)) dX7_reckonMinute_116 (by decide) ?_
        exact r_sub [2, 3, 4, 1, 0] rfl (T_X7_reckonMinute_117 C E ht hn hX62 h)
      · have h := h.2 c16
        refine r_iconst (pc := 112) C (v := (1 : Int32)) dX7_reckonMinute_112 (by decide) ?_
        refine r_goto (pc := 113) C (tgt := 117) dX7_reckonMinute_113 (by decide) ?_
        exact r_sub [2, 3, 4, 1, 0] rfl (T_X7_reckonMinute_117 C E ht hn hX62 h)
theorem T_X7_reckonMinute_62 {X : CX} {Q : HS → Prop} (C : Cx X cX7_reckonMinute RX7 9 rm_X7_reckonMinute) (E : ReV X rm_X7_reckonMinute Q) (ht : (xh X).sig.returnType = none) (hn : (xh X).name = yX7_reckonMinute.name) {v0 : Nat} {v2 : Int32} {v3 : Int32} {S : HS} (h : P_X7_reckonMinute_62 Q v0 v2 v3 S) : WS X 9 0 0 62 [(0, .ref v0), (2, .int v2), (3, .int v3)] [] S :=
  h (fun v0 v2 v3 S => WS X 9 0 0 62 [(0, .ref v0), (2, .int v2), (3, .int v3)] [] S) (fun v0 v2 v3 S hh => TB_X7_reckonMinute_62 C E ht hn (fun v0 v2 v3 S z => z) hh)
def P_X7_reckonMinute_60 (Q : HS → Prop) (v0 : Nat) (v2 : Int32) (S : HS) : Prop := P_X7_reckonMinute_62 Q v0 v2 (0 : Int32) S
set_option maxRecDepth 20000 in
set_option maxHeartbeats 4000000 in
theorem T_X7_reckonMinute_60 {X : CX} {Q : HS → Prop} (C : Cx X cX7_reckonMinute RX7 9 rm_X7_reckonMinute) (E : ReV X rm_X7_reckonMinute Q) (ht : (xh X).sig.returnType = none) (hn : (xh X).name = yX7_reckonMinute.name) {v0 : Nat} {v2 : Int32} {S : HS} (h : P_X7_reckonMinute_60 Q v0 v2 S) : WS X 9 0 0 60 [(0, .ref v0), (2, .int v2)] [] S := by
  refine r_iconst (pc := 60) C (v := (0 : Int32)) dX7_reckonMinute_60 (by decide) ?_
  refine r_istore_n (pc := 61) C dX7_reckonMinute_61 rfl (by decide) (lv' := [(3, .int (0 : Int32)), (0, .ref v0), (2, .int v2)]) rfl ?_
  exact r_sub [1, 2, 0] rfl (T_X7_reckonMinute_62 C E ht hn h)
def B_X7_reckonMinute_2 (Q : HS → Prop) (X2 : Nat → Int32 → Int32 → Int32 → HS → Prop) (v0 : Nat) (v1 : Int32) (v2 : Int32) (v3 : Int32) (S : HS) : Prop := ((v1 ≤ v3) → (P_X7_reckonMinute_60 Q v0 v2 S)) ∧ ((¬ v1 ≤ v3) → ((((8 : Int32) ≤ v3) → (P_X7_reckonMinute_60 Q v0 v2 S)) ∧ ((¬ (8 : Int32) ≤ v3) → (ob S v0 7 ∧ (∃ a3 : Nat, fR S v0 1 = some a3 ∧ (∀ x4 : Int32, x4 = fI S v0 11 → (((¬ v3 = x4) → (P_X7_reckonMinute_40 Q X2 v0 v1 v2 v3 a3 ((v3 * (401 : Int32)) + v2) (4611686018427387904 : Int64) S)) ∧ ((v3 = x4) → (P_X7_reckonMinute_40 Q X2 v0 v1 v2 v3 a3 ((v3 * (401 : Int32)) + v2) v2.toInt64 S)))))))))
def P_X7_reckonMinute_2 (Q : HS → Prop) (v0 : Nat) (v1 : Int32) (v2 : Int32) (v3 : Int32) (S : HS) : Prop := ∀ X2 : Nat → Int32 → Int32 → Int32 → HS → Prop, (∀ (v0 : Nat) (v1 : Int32) (v2 : Int32) (v3 : Int32) (S : HS), B_X7_reckonMinute_2 Q X2 v0 v1 v2 v3 S → X2 v0 v1 v2 v3 S) → X2 v0 v1 v2 v3 S
set_option maxRecDepth 20000 in
set_option maxHeartbeats 4000000 in
theorem TB_X7_reckonMinute_2 {X : CX} {Q : HS → Prop} (C : Cx X cX7_reckonMinute RX7 9 rm_X7_reckonMinute) (E : ReV X rm_X7_reckonMinute Q) (ht : (xh X).sig.returnType = none) (hn : (xh X).name = yX7_reckonMinute.name) {X2 : Nat → Int32 → Int32 → Int32 → HS → Prop} (hX2 : ∀ (v0 : Nat) (v1 : Int32) (v2 : Int32) (v3 : Int32) (S : HS), X2 v0 v1 v2 v3 S → WS X 9 0 0 2 [(0, .ref v0), (1, .int v1), (2, .int v2), (3, .int v3)] [] S) {v0 : Nat} {v1 : Int32} {v2 : Int32} {v3 : Int32} {S : HS} (h : B_X7_reckonMinute_2 Q X2 v0 v1 v2 v3 S) : WS X 9 0 0 2 [(0, .ref v0), (1, .int v1), (2, .int v2), (3, .int v3)] [] S := by
  refine r_iload_n (pc := 2) C dX7_reckonMinute_2 3 rfl ?_
  refine r_iload_n (pc := 3) C dX7_reckonMinute_3 1 rfl ?_
  refine r_icmp_ge (pc := 4) C (tgt := 60) dX7_reckonMinute_4 (by decide) (fun c1 => ?_) (fun c1 => ?_)
  · have h := h.1 c1
    exact r_sub [0, 2] rfl (T_X7_reckonMinute_60 C E ht hn h)
  · have h := h.2 c1
    refine r_iload_n (pc := 7) C dX7_reckonMinute_7 3 rfl ?_
    refine r_bipush (pc := 8) C (v := (8 : Int32)) dX7_reckonMinute_8 (by decide) ?_
    refine r_icmp_ge (pc := 10) C (tgt := 60) dX7_reckonMinute_10 (by decide) (fun c2 => ?_) (fun c2 => ?_)
    · have h := h.1 c2
      exact r_sub [0, 2] rfl (T_X7_reckonMinute_60 C E ht hn h)
    · have h := h.2 c2
      refine r_aload_n (pc := 13) C dX7_reckonMinute_13 0 rfl ?_
      obtain ⟨o_v0, h⟩ := h
      obtain ⟨a3, ea3, h⟩ := h
      refine r_getr (pc := 14) C fL_X7_15 dX7_reckonMinute_14 o_v0 ea3 ?_
      refine r_iload_n (pc := 17) C dX7_reckonMinute_17 3 rfl ?_
      refine r_sipush (pc := 18) C (v := (401 : Int32)) dX7_reckonMinute_18 (by decide) ?_
      refine r_imul (pc := 21) C dX7_reckonMinute_21 ?_
      refine r_iload_n (pc := 22) C dX7_reckonMinute_22 2 rfl ?_
      refine r_iadd (pc := 23) C dX7_reckonMinute_23 ?_
      refine r_iload_n (pc := 24) C dX7_reckonMinute_24 3 rfl ?_
      refine r_aload_n (pc := 25) C dX7_reckonMinute_25 0 rfl ?_
      refine r_geti (pc := 26) C fL_X7_44 dX7_reckonMinute_26 o_v0 ?_
      refine r_topi (fun x4 ex4 => ?_)
      have h := h x4 ex4
      refine r_icmp_ne (pc := 29) C (tgt := 37) dX7_reckonMinute_29 (by decide) (fun c5 => ?_) (fun c5 => ?_)
      · have h := h.1 c5
        refine r_ldc2 (pc := 37) C (v := (4611686018427387904 : Int64)) dX7_reckonMinute_37 g_887 ?_
        exact r_sub [0, 1, 2, 3] rfl (T_X7_reckonMinute_40 C E ht hn hX2 h)
      · have h := h.2 c5
        refine r_iload_n (pc := 32) C dX7_reckonMinute_32 2 rfl ?_
        refine r_i2l (pc := 33) C dX7_reckonMinute_33 ?_
        refine r_goto (pc := 34) C (tgt := 40) dX7_reckonMinute_34 (by decide) ?_
        exact r_sub [0, 1, 2, 3] rfl (T_X7_reckonMinute_40 C E ht hn hX2 h)
theorem T_X7_reckonMinute_2 {X : CX} {Q : HS → Prop} (C : Cx X cX7_reckonMinute RX7 9 rm_X7_reckonMinute) (E : ReV X rm_X7_reckonMinute Q) (ht : (xh X).sig.returnType = none) (hn : (xh X).name = yX7_reckonMinute.name) {v0 : Nat} {v1 : Int32} {v2 : Int32} {v3 : Int32} {S : HS} (h : P_X7_reckonMinute_2 Q v0 v1 v2 v3 S) : WS X 9 0 0 2 [(0, .ref v0), (1, .int v1), (2, .int v2), (3, .int v3)] [] S :=
  h (fun v0 v1 v2 v3 S => WS X 9 0 0 2 [(0, .ref v0), (1, .int v1), (2, .int v2), (3, .int v3)] [] S) (fun v0 v1 v2 v3 S hh => TB_X7_reckonMinute_2 C E ht hn (fun v0 v1 v2 v3 S z => z) hh)
def P_X7_reckonMinute_0 (Q : HS → Prop) (v0 : Nat) (v1 : Int32) (v2 : Int32) (S : HS) : Prop := P_X7_reckonMinute_2 Q v0 v1 v2 (0 : Int32) S
set_option maxRecDepth 20000 in
set_option maxHeartbeats 4000000 in
theorem T_X7_reckonMinute_0 {X : CX} {Q : HS → Prop} (C : Cx X cX7_reckonMinute RX7 9 rm_X7_reckonMinute) (E : ReV X rm_X7_reckonMinute Q) (ht : (xh X).sig.returnType = none) (hn : (xh X).name = yX7_reckonMinute.name) {v0 : Nat} {v1 : Int32} {v2 : Int32} {S : HS} (h : P_X7_reckonMinute_0 Q v0 v1 v2 S) : WS X 9 0 0 0 [(0, .ref v0), (1, .int v1), (2, .int v2)] [] S := by
  refine r_iconst (pc := 0) C (v := (0 : Int32)) dX7_reckonMinute_0 (by decide) ?_
  refine r_istore_n (pc := 1) C dX7_reckonMinute_1 rfl (by decide) (lv' := [(3, .int (0 : Int32)), (0, .ref v0), (1, .int v1), (2, .int v2)]) rfl ?_
  exact r_sub [1, 2, 3, 0] rfl (T_X7_reckonMinute_2 C E ht hn h)
def P_X7_reckonMinute (v0 : Nat) (v1 : Int32) (v2 : Int32) (Q : HS → Prop) (S : HS) : Prop := P_X7_reckonMinute_0 Q v0 v1 v2 S
theorem c_X7_reckonMinute {l : Launch} {Ee : EE} {S : HS} {v0 : Nat} {v1 : Int32} {v2 : Int32} {Q : HS → Prop} (h : P_X7_reckonMinute v0 v1 v2 Q S) : MV l yX7_reckonMinute cX7_reckonMinute 9 none rm_X7_reckonMinute Ee S [.ref v0, .int v1, .int v2] Q :=
  openV (by decide) (Nat.le_of_ble_eq_true rfl) (fun X C E ht hn hE hl => by subst hE; exact r_sub [0, 1, 2] rfl (T_X7_reckonMinute_0 C E ht hn h))
def rm_X8_hourOf : Room := { frames := 0, cells := 0, slots := 0, locals := 0 }
def P_X8_hourOf_0 (Q : Int32 → HS → Prop) (v0 : Nat) (v1 : Int32) (S : HS) : Prop := ob S v0 8 ∧ (∀ x1 : Int32, x1 = fI S v0 0 → (((x1 ≤ 0) → (Q (0 : Int32) S)) ∧ ((¬ x1 ≤ 0) → (∀ x3 : Int32, x3 = fI S v0 0 → (¬ x3 = 0 ∧ ∀ x5 : Int32, x5 = v1 / x3 → (Q x5 S))))))
set_option maxRecDepth 20000 in
set_option maxHeartbeats 4000000 in
theorem T_X8_hourOf_0 {X : CX} {Q : Int32 → HS → Prop} (C : Cx X cX8_hourOf RX8 2 rm_X8_hourOf) (E : ReI X rm_X8_hourOf Q) (ht : (xh X).sig.returnType = (some .int)) (hn : (xh X).name = yX8_hourOf.name) {v0 : Nat} {v1 : Int32} {S : HS} (h : P_X8_hourOf_0 Q v0 v1 S) : WS X 2 0 0 0 [(0, .ref v0), (1, .int v1)] [] S := by
  refine r_aload_n (pc := 0) C dX8_hourOf_0 0 rfl ?_
  obtain ⟨o_v0, h⟩ := h
  refine r_geti (pc := 1) C fL_X8_42 dX8_hourOf_1 o_v0 ?_
  refine r_topi (fun x1 ex1 => ?_)
  have h := h x1 ex1
  refine r_if_le (pc := 4) C (tgt := 16) dX8_hourOf_4 (by decide) (fun c2 => ?_) (fun c2 => ?_)
  · have h := h.1 c2
    refine r_iconst (pc := 16) C (v := (0 : Int32)) dX8_hourOf_16 (by decide) ?_
    exact r_iret (pc := 17) C E ht dX8_hourOf_17 (by decide) (by decide) h
  · have h := h.2 c2
    refine r_iload_n (pc := 7) C dX8_hourOf_7 1 rfl ?_
    refine r_aload_n (pc := 8) C dX8_hourOf_8 0 rfl ?_
    refine r_geti (pc := 9) C fL_X8_42 dX8_hourOf_9 o_v0 ?_
    refine r_topi (fun x3 ex3 => ?_)
    have h := h x3 ex3
    obtain ⟨q4, h⟩ := h
    refine r_idiv (pc := 12) C dX8_hourOf_12 q4 ?_
    refine r_topi (fun x5 ex5 => ?_)
    have h := h x5 ex5
    refine r_goto (pc := 13) C (tgt := 17) dX8_hourOf_13 (by decide) ?_
    exact r_iret (pc := 17) C E ht dX8_hourOf_17 (by decide) (by decide) h
def P_X8_hourOf (v0 : Nat) (v1 : Int32) (Q : Int32 → HS → Prop) (S : HS) : Prop := P_X8_hourOf_0 Q v0 v1 S
theorem c_X8_hourOf {l : Launch} {Ee : EE} {S : HS} {v0 : Nat} {v1 : Int32} {Q : Int32 → HS → Prop} (h : P_X8_hourOf v0 v1 Q S) : MI l yX8_hourOf cX8_hourOf 2 (some .int) rm_X8_hourOf Ee S [.ref v0, .int v1] Q :=
  openI (by decide) (Nat.le_of_ble_eq_true rfl) (fun X C E ht hn hE hl => by subst hE; exact r_sub [0, 1] rfl (T_X8_hourOf_0 C E ht hn h))
def rm_X7_reckon : Room := { frames := 5, cells := 8, slots := 7937, locals := 132 }
def P_X7_reckon_120 (Q : HS → Prop) (X76 : Nat → Nat → Nat → Int32 → Int32 → HS → Prop) (v0 : Nat) (v1 : Nat) (v2 : Nat) (v6 : Int32) (v7 : Int32) (S : HS) : Prop := ob S v1 8 ∧ (∀ x1 : Int32, x1 = fI S v1 2 → (ob S v0 7 ∧ (P_X7_reckonMinute v0 x1 v7 (fun S2 => Gr S S2 → (∀ S5 : HS, S5 = sI S2 v0 13 v7 → (∀ x6 : Int32, x6 = v7 + (-1 : Int32) → (X76 v0 v1 v2 v6 x6 S5)))) S)))
set_option maxRecDepth 20000 in
set_option maxHeartbeats 4000000 in
theorem T_X7_reckon_120 {X : CX} {Q : HS → Prop} (C : Cx X cX7_reckon RX7 9 rm_X7_reckon) (E : ReV X rm_X7_reckon Q) (ht : (xh X).sig.returnType = none) (hn : (xh X).name = yX7_reckon.name) {X76 : Nat → Nat → Nat → Int32 → Int32 → HS → Prop} (hX76 : ∀ (v0 : Nat) (v1 : Nat) (v2 : Nat) (v6 : Int32) (v7 : Int32) (S : HS), X76 v0 v1 v2 v6 v7 S → WS X 9 8 7937 76 [(0, .ref v0), (1, .ref v1), (2, .ref v2), (6, .int v6), (7, .int v7)] [] S) {v0 : Nat} {v1 : Nat} {v2 : Nat} {v6 : Int32} {v7 : Int32} {S : HS} (h : P_X7_reckon_120 Q X76 v0 v1 v2 v6 v7 S) : WS X 9 8 7937 120 [(0, .ref v0), (1, .ref v1), (2, .ref v2), (6, .int v6), (7, .int v7)] [] S := by
  refine r_aload_n (pc := 120) C dX7_reckon_120 0 rfl ?_
  refine r_aload_n (pc := 121) C dX7_reckon_121 1 rfl ?_
  obtain ⟨o_v1, h⟩ := h
  refine r_geti (pc := 122) C fL_X7_75 dX7_reckon_122 o_v1 ?_
  refine r_topi (fun x1 ex1 => ?_)
  have h := h x1 ex1
  refine r_iload (pc := 125) C dX7_reckon_125 4 rfl ?_
  obtain ⟨o_v0, h⟩ := h
  refine r_callVv0 (pc := 127) C (rest := []) (a := v0) o_v0 [.int x1, .int v7] yV_X7_reckonMinute g_883 (c_X7_reckonMinute h) dX7_reckon_127 rfl rfl (Nat.le_of_ble_eq_true rfl) ⟨by decide, by decide⟩ ⟨by decide, by decide⟩ ⟨rfl, rfl⟩ (fun S2 h g3 => ?_)
  have h := h g3
  have o_v0 := gr_ob g3 o_v0
  have o_v1 := gr_ob g3 o_v1
  refine r_aload_n (pc := 130) C dX7_reckon_130 0 rfl ?_
  refine r_iload (pc := 131) C dX7_reckon_131 4 rfl ?_
  refine r_puti (pc := 133) C pfL_X7_53 dX7_reckon_133 o_v0 ?_
  refine r_heap (fun S5 eS5 => ?_)
  have h := h S5 eS5
  have o_v0 := ob_I eS5 o_v0
  have o_v1 := ob_I eS5 o_v1
  obtain ⟨x6, ex6⟩ : ∃ z : Int32, z = v7 + (-1 : Int32) := ⟨_, rfl⟩
  have h := h x6 ex6
  refine r_iinc (pc := 136) C (v := x6) (lv' := [(7, .int x6), (0, .ref v0), (1, .ref v1), (2, .ref v2), (6, .int v6)]) dX7_reckon_136 4 rfl ex6.symm (by decide) rfl ?_
  refine r_goto (pc := 139) C (tgt := 76) dX7_reckon_139 (by decide) ?_
  exact r_sub [1, 2, 3, 4, 0] rfl (hX76 v0 v1 v2 v6 x6 S5 h)
def B_X7_reckon_76 (Q : HS → Prop) (X76 : Nat → Nat → Nat → Int32 → Int32 → HS → Prop) (v0 : Nat) (v1 : Nat) (v2 : Nat) (v6 : Int32) (v7 : Int32) (S : HS) : Prop := ((v7 < v6) → (Q S)) ∧ ((¬ v7 < v6) → (((v7 < 0) → (Q S)) ∧ ((¬ v7 < 0) → (ob S v1 8 ∧ (P_X8_hourOf v1 v7 (fun x5 S3 => Gr S S3 → (∀ x6 : Int32, x6 = fI S3 v1 1 → (∀ x7 : Int32, x7 = (if x6 < x5 then x6 else x5) → (ob S3 v0 7 ∧ (∀ x8 : Int32, x8 = fI S3 v0 9 → (((x7 = x8) → (P_X7_reckon_120 Q X76 v0 v1 v2 v6 v7 S3)) ∧ ((¬ x7 = x8) → (P_X7_price v0 v1 v2 x7 (fun S10 => Gr S3 S10 → (P_X7_reckon_120 Q X76 v0 v1 v2 v6 v7 S10)) S3)))))))) S)))))
def P_X7_reckon_76 (Q : HS → Prop) (v0 : Nat) (v1 : Nat) (v2 : Nat) (v6 : Int32) (v7 : Int32) (S : HS) : Prop := ∀ X76 : Nat → Nat → Nat → Int32 → Int32 → HS → Prop, (∀ (v0 : Nat) (v1 : Nat) (v2 : Nat) (v6 : Int32) (v7 : Int32) (S : HS), B_X7_reckon_76 Q X76 v0 v1 v2 v6 v7 S → X76 v0 v1 v2 v6 v7 S) → X76 v0 v1 v2 v6 v7 S
set_option maxRecDepth 20000 in
set_option maxHeartbeats 4000000 in
theorem TB_X7_reckon_76 {X : CX} {Q : HS → Prop} (C : Cx X cX7_reckon RX7 9 rm_X7_reckon) (E : ReV X rm_X7_reckon Q) (ht : (xh X).sig.returnType = none) (hn : (xh X).name = yX7_reckon.name) {X76 : Nat → Nat → Nat → Int32 → Int32 → HS → Prop} (hX76 : ∀ (v0 : Nat) (v1 : Nat) (v2 : Nat) (v6 : Int32) (v7 : Int32) (S : HS), X76 v0 v1 v2 v6 v7 S → WS X 9 8 7937 76 [(0, .ref v0), (1, .ref v1), (2, .ref v2), (6, .int v6), (7, .int v7)] [] S) {v0 : Nat} {v1 : Nat} {v2 : Nat} {v6 : Int32} {v7 : Int32} {S : HS} (h : B_X7_reckon_76 Q X76 v0 v1 v2 v6 v7 S) : WS X 9 8 7937 76 [(0, .ref v0), (1, .ref v1), (2, .ref v2), (6, .int v6), (7, .int v7)] [] S := by
  refine r_iload (pc := 76) C dX7_reckon_76 4 rfl ?_
  refine r_iload (pc := 78) C dX7_reckon_78 3 rfl ?_
  refine r_icmp_lt (pc := 80) C (tgt := 142) dX7_reckon_80 (by decide) (fun c1 => ?_) (fun c1 => ?_)
  · have h := h.1 c1
    exact r_vret (pc := 142) C E ht dX7_reckon_142 (by decide) (by decide) h
  · have h := h.2 c1
    refine r_iload (pc := 83) C dX7_reckon_83 4 rfl ?_
    refine r_if_lt (pc := 85) C (tgt := 142) dX7_reckon_85 (by decide) (fun c2 => ?_) (fun c2 => ?_)
    · have h := h.1 c2
      exact r_vret (pc := 142) C E ht dX7_reckon_142 (by decide) (by decide) h
    · have h := h.2 c2
      refine r_aload_n (pc := 88) C dX7_reckon_88 1 rfl ?_
      refine r_iload (pc := 89) C dX7_reckon_89 4 rfl ?_
      obtain ⟨o_v1, h⟩ := h
      refine r_callVi0 (pc := 91) C (rest := []) (a := v1) o_v1 [.int v7] yV_X8_hourOf g_840 (c_X8_hourOf h) dX7_reckon_91 rfl rfl (Nat.le_of_ble_eq_true rfl) ⟨by decide, by decide⟩ ⟨by decide, by decide⟩ ⟨rfl, rfl⟩ (fun x5 S3 h g4 => ?_)
      have h := h g4
      have o_v1 := gr_ob g4 o_v1
      refine r_aload_n (pc := 94) C dX7_reckon_94 1 rfl ?_
      refine r_geti (pc := 95) C fL_X7_62 dX7_reckon_95 o_v1 ?_
      refine r_topi (fun x6 ex6 => ?_)
      have h := h x6 ex6
      refine r_min (pc := 98) C g_844 dX7_reckon_98 (by decide) (Nat.le_of_ble_eq_true rfl) (by decide) (by decide) ?_
      refine r_topi (fun x7 ex7 => ?_)
      have h := h x7 ex7
      refine r_istore (pc := 101) C dX7_reckon_101 (by decide) (lv' := [(8, .int x7), (0, .ref v0), (1, .ref v1), (2, .ref v2), (6, .int v6), (7, .int v7)]) rfl ?_
      refine r_iload (pc := 103) C dX7_reckon_103 0 rfl ?_
      refine r_aload_n (pc := 105) C dX7_reckon_105 1 rfl ?_
      obtain ⟨o_v0, h⟩ := h
      refine r_geti (pc := 106) C fL_X7_37 dX7_reckon_106 o_v0 ?_
      refine r_topi (fun x8 ex8 => ?_)
      have h := h x8 ex8
      refine r_icmp_eq (pc := 109) C (tgt := 120) dX7_reckon_109 (by decide) (fun c9 => ?_) (fun c9 => ?_)
      · have h := h.1 c9
        exact r_sub [1, 2, 3, 4, 5] rfl (T_X7_reckon_120 C E ht hn hX76 h)
      · have h := h.2 c9
        refine r_aload_n (pc := 112) C dX7_reckon_112 1 rfl ?_
        refine r_aload_n (pc := 113) C dX7_reckon_113 2 rfl ?_
        refine r_aload_n (pc := 114) C dX7_reckon_114 3 rfl ?_
        refine r_iload (pc := 115) C dX7_reckon_115 0 rfl ?_
        refine r_callVv0 (pc := 117) C (rest := []) (a := v0) o_v0 [.ref v1, .ref v2, .int x7] yV_X7_price g_845 (c_X7_price h) dX7_reckon_117 rfl rfl (Nat.le_of_ble_eq_true rfl) ⟨by decide, by decide⟩ ⟨by decide, by decide⟩ ⟨rfl, rfl⟩ (fun S10 h g11 => ?_)
        have h := h g11
        have o_v0 := gr_ob g11 o_v0
        have o_v1 := gr_ob g11 o_v1
        exact r_sub [1, 2, 3, 4, 5] rfl (T_X7_reckon_120 C E ht hn hX76 h)
theorem T_X7_reckon_76 {X : CX} {Q : HS → Prop} (C : Cx X cX7_reckon RX7 9 rm_X7_reckon) (E : ReV X rm_X7_reckon Q) (ht : (xh X).sig.returnType = none) (hn : (xh X).name = yX7_reckon.name) {v0 : Nat} {v1 : Nat} {v2 : Nat} {v6 : Int32} {v7 : Int32} {S : HS} (h : P_X7_reckon_76 Q v0 v1 v2 v6 v7 S) : WS X 9 8 7937 76 [(0, .ref v0), (1, .ref v1), (2, .ref v2), (6, .int v6), (7, .int v7)] [] S :=
  h (fun v0 v1 v2 v6 v7 S => WS X 9 8 7937 76 [(0, .ref v0), (1, .ref v1), (2, .ref v2), (6, .int v6), (7, .int v7)] [] S) (fun v0 v1 v2 v6 v7 S hh => TB_X7_reckon_76 C E ht hn (fun v0 v1 v2 v6 v7 S z => z) hh)
def P_X7_reckon_68 (Q : HS → Prop) (v0 : Nat) (v1 : Nat) (v2 : Nat) (v6 : Int32) (S : HS) : Prop := ob S v0 7 ∧ (∀ x1 : Int32, x1 = fI S v0 13 → (∀ x2 : Int32, x2 = x1 - (1 : Int32) → (P_X7_reckon_76 Q v0 v1 v2 v6 x2 S)))
set_option maxRecDepth 20000 in
set_option maxHeartbeats 4000000 in
theorem T_X7_reckon_68 {X : CX} {Q : HS → Prop} (C : Cx X cX7_reckon RX7 9 rm_X7_reckon) (E : ReV X rm_X7_reckon Q) (ht : (xh X).sig.returnType = none) (hn : (xh X).name = yX7_reckon.name) {v0 : Nat} {v1 : Nat} {v2 : Nat} {v6 : Int32} {S : HS} (h : P_X7_reckon_68 Q v0 v1 v2 v6 S) : WS X 9 8 7937 68 [(0, .ref v0), (1, .ref v1), (2, .ref v2), (6, .int v6)] [] S := by
  refine r_aload_n (pc := 68) C dX7_reckon_68 0 rfl ?_
  obtain ⟨o_v0, h⟩ := h
  refine r_geti (pc := 69) C fL_X7_53 dX7_reckon_69 o_v0 ?_
  refine r_topi (fun x1 ex1 => ?_)
  have h := h x1 ex1
  refine r_iconst (pc := 72) C (v := (1 : Int32)) dX7_reckon_72 (by decide) ?_
  refine r_isub (pc := 73) C dX7_reckon_73 ?_
  refine r_topi (fun x2 ex2 => ?_)
  have h := h x2 ex2
  refine r_istore (pc := 74) C dX7_reckon_74 (by decide) (lv' := [(7, .int x2), (0, .ref v0), (1, .ref v1), (2, .ref v2), (6, .int v6)]) rfl ?_
  exact r_sub [1, 2, 3, 4, 0] rfl (T_X7_reckon_76 C E ht hn h)
def P_X7_reckon_38 (Q : HS → Prop) (v0 : Nat) (v1 : Nat) (v2 : Nat) (v3 : Int32) (v4 : Int32) (v5 : Int32) (v6 : Int32) (S : HS) : Prop := ob S v0 7 ∧ (∀ S1 : HS, S1 = sI S v0 10 v3 → (∀ S2 : HS, S2 = sI S1 v0 11 v4 → (∀ S3 : HS, S3 = sI S2 v0 12 v5 → (∀ x4 : Int32, x4 = v5 + (1 : Int32) → (∀ S5 : HS, S5 = sI S3 v0 13 x4 → (∀ S6 : HS, S6 = sI S5 v0 9 (-1 : Int32) → (P_X7_reckon_68 Q v0 v1 v2 v6 S6)))))))
set_option maxRecDepth 20000 in
set_option maxHeartbeats 4000000 in
theorem T_X7_reckon_38 {X : CX} {Q : HS → Prop} (C : Cx X cX7_reckon RX7 9 rm_X7_reckon) (E : ReV X rm_X7_reckon Q) (ht : (xh X).sig.returnType = none) (hn : (xh X).name = yX7_reckon.name) {v0 : Nat} {v1 : Nat} {v2 : Nat} {v3 : Int32} {v4 : Int32} {v5 : Int32} {v6 : Int32} {S : HS} (h : P_X7_reckon_38 Q v0 v1 v2 v3 v4 v5 v6 S) : WS X 9 8 7937 38 [(0, .ref v0), (1, .ref v1), (2, .ref v2), (3, .int v3), (4, .int v4), (5, .int v5), (6, .int v6)] [] S := by
  refine r_aload_n (pc := 38) C dX7_reckon_38 0 rfl ?_
  refine r_iload_n (pc := 39) C dX7_reckon_39 3 rfl ?_
  obtain ⟨o_v0, h⟩ := h
  refine r_puti (pc := 40) C pfL_X7_41 dX7_reckon_40 o_v0 ?_
  refine r_heap (fun S1 eS1 => ?_)
  have h := h S1 eS1
  have o_v0 := ob_I eS1 o_v0
  refine r_aload_n (pc := 43) C dX7_reckon_43 0 rfl ?_
  refine r_iload (pc := 44) C dX7_reckon_44 4 rfl ?_
  refine r_puti (pc := 46) C pfL_X7_44 dX7_reckon_46 o_v0 ?_
  refine r_heap (fun S2 eS2 => ?_)
  have h := h S2 eS2
  have o_v0 := ob_I eS2 o_v0
  refine r_aload_n (pc := 49) C dX7_reckon_49 0 rfl ?_
  refine r_iload (pc := 50) C dX7_reckon_50 5 rfl ?_
  refine r_puti (pc := 52) C pfL_X7_47 dX7_reckon_52 o_v0 ?_
  refine r_heap (fun S3 eS3 => ?_)
  have h := h S3 eS3
  have o_v0 := ob_I eS3 o_v0
  refine r_aload_n (pc := 55) C dX7_reckon_55 0 rfl ?_
  refine r_iload (pc := 56) C dX7_reckon_56 5 rfl ?_
  refine r_iconst (pc := 58) C (v := (1 : Int32)) dX7_reckon_58 (by decide) ?_
  refine r_iadd (pc := 59) C dX7_reckon_59 ?_
  refine r_topi (fun x4 ex4 => ?_)
  have h := h x4 ex4
  refine r_puti (pc := 60) C pfL_X7_53 dX7_reckon_60 o_v0 ?_
  refine r_heap (fun S5 eS5 => ?_)
  have h := h S5 eS5
  have o_v0 := ob_I eS5 o_v0
  refine r_aload_n (pc := 63) C dX7_reckon_63 0 rfl ?_
  refine r_iconst (pc := 64) C (v := (-1 : Int32)) dX7_reckon_64 (by decide) ?_
  refine r_puti (pc := 65) C pfL_X7_37 dX7_reckon_65 o_v0 ?_
  refine r_heap (fun S6 eS6 => ?_)
  have h := h S6 eS6
  have o_v0 := ob_I eS6 o_v0
  exact r_sub [0, 1, 2, 6] rfl (T_X7_reckon_68 C E ht hn h)
def P_X7_reckon_12 (Q : HS → Prop) (v0 : Nat) (v1 : Nat) (v2 : Nat) (v3 : Int32) (v4 : Int32) (v5 : Int32) (v6 : Int32) (S : HS) : Prop := ob S v0 7 ∧ (∀ x1 : Int32, x1 = fI S v0 10 → (((¬ v3 = x1) → (P_X7_reckon_38 Q v0 v1 v2 v3 v4 v5 v6 S)) ∧ ((v3 = x1) → (∀ x3 : Int32, x3 = fI S v0 11 → (((¬ v4 = x3) → (P_X7_reckon_38 Q v0 v1 v2 v3 v4 v5 v6 S)) ∧ ((v4 = x3) → (∀ x5 : Int32, x5 = fI S v0 12 → (((v5 = x5) → (P_X7_reckon_68 Q v0 v1 v2 v6 S)) ∧ ((¬ v5 = x5) → (P_X7_reckon_38 Q v0 v1 v2 v3 v4 v5 v6 S))))))))))
set_option maxRecDepth 20000 in
set_option maxHeartbeats 4000000 in
theorem T_X7_reckon_12 {X : CX} {Q : HS → Prop} (C : Cx X cX7_reckon RX7 9 rm_X7_reckon) (E : ReV X rm_X7_reckon Q) (ht : (xh X).sig.returnType = none) (hn : (xh X).name = yX7_reckon.name) {v0 : Nat} {v1 : Nat} {v2 : Nat} {v3 : Int32} {v4 : Int32} {v5 : Int32} {v6 : Int32} {S : HS} (h : P_X7_reckon_12 Q v0 v1 v2 v3 v4 v5 v6 S) : WS X 9 8 7937 12 [(0, .ref v0), (1, .ref v1), (2, .ref v2), (3, .int v3), (4, .int v4), (5, .int v5), (6, .int v6)] [] S := by
  refine r_iload_n (pc := 12) C dX7_reckon_12 3 rfl ?_
  refine r_aload_n (pc := 13) C dX7_reckon_13 0 rfl ?_
  obtain ⟨o_v0, h⟩ := h
  refine r_geti (pc := 14) C fL_X7_41 dX7_reckon_14 o_v0 ?_
  refine r_topi (fun x1 ex1 => ?_)
  have h := h x1 ex1
  refine r_icmp_ne (pc := 17) C (tgt := 38) dX7_reckon_17 (by decide) (fun c2 => ?_) (fun c2 => ?_)
  · have h := h.1 c2
    exact r_sub [0, 1, 2, 3, 4, 5, 6] rfl (T_X7_reckon_38 C E ht hn h)
  · have h := h.2 c2
    refine r_iload (pc := 20) C dX7_reckon_20 4 rfl ?_
    refine r_aload_n (pc := 22) C dX7_reckon_22 0 rfl ?_
    refine r_geti (pc := 23) C fL_X7_44 dX7_reckon_23 o_v0 ?_
    refine r_topi (fun x3 ex3 => ?_)
    have h := h x3 ex3
    refine r_icmp_ne (pc := 26) C (tgt := 38) dX7_reckon_26 (by decide) (fun c4 => ?_) (fun c4 => ?_)
    · have h := h.1 c4
      exact r_sub [0, 1, 2, 3, 4, 5, 6] rfl (T_X7_reckon_38 C E ht hn h)
    · have h := h.2 c4
      refine r_iload (pc := 29) C dX7_reckon_29 5 rfl ?_
      refine r_aload_n (pc := 31) C dX7_reckon_31 0 rfl ?_
      refine r_geti (pc := 32) C fL_X7_47 dX7_reckon_32 o_v0 ?_
      refine r_topi (fun x5 ex5 => ?_)
      have h := h x5 ex5
      refine r_icmp_eq (pc := 35) C (tgt := 68) dX7_reckon_35 (by decide) (fun c6 => ?_) (fun c6 => ?_)
      · have h := h.1 c6
        exact r_sub [0, 1, 2, 6] rfl (T_X7_reckon_68 C E ht hn h)
      · have h := h.2 c6
        exact r_sub [0, 1, 2, 3, 4, 5, 6] rfl (T_X7_reckon_38 C E ht hn h)
def P_X7_reckon_0 (Q : HS → Prop) (v0 : Nat) (v1 : Nat) (v2 : Nat) (v3 : Int32) (v4 : Int32) (v5 : Int32) (v6 : Int32) (S : HS) : Prop := ob S v0 7 ∧ (∃ a1 : Nat, fR S v0 1 = some a1 ∧ (ob S a1 14 ∧ (((¬ (nI (hN S a1)) = 0) → (P_X7_reckon_12 Q v0 v1 v2 v3 v4 v5 v6 S)) ∧ (((nI (hN S a1)) = 0) → (P_X7_makeRows v0 (fun S3 => Gr S S3 → (P_X7_reckon_12 Q v0 v1 v2 v3 v4 v5 v6 S3)) S)))))
set_option maxRecDepth 20000 in
set_option maxHeartbeats 4000000 in
theorem T_X7_reckon_0 {X : CX} {Q : HS → Prop} (C : Cx X cX7_reckon RX7 9 rm_X7_reckon) (E : ReV X rm_X7_reckon Q) (ht : (xh X).sig.returnType = none) (hn : (xh X).name = yX7_reckon.name) {v0 : Nat} {v1 : Nat} {v2 : Nat} {v3 : Int32} {v4 : Int32} {v5 : Int32} {v6 : Int32} {S : HS} (h : P_X7_reckon_0 Q v0 v1 v2 v3 v4 v5 v6 S) : WS X 9 0 0 0 [(0, .ref v0), (1, .ref v1), (2, .ref v2), (3, .int v3), (4, .int v4), (5, .int v5), (6, .int v6)] [] S := by
  refine r_aload_n (pc := 0) C dX7_reckon_0 0 rfl ?_
  obtain ⟨o_v0, h⟩ := h
  obtain ⟨a1, ea1, h⟩ := h
  refine r_getr (pc := 1) C fL_X7_15 dX7_reckon_1 o_v0 ea1 ?_
  obtain ⟨o_a1, h⟩ := h
  refine r_alen14 (pc := 4) C dX7_reckon_4 o_a1 ?_
  refine r_if_ne (pc := 5) C (tgt := 12) dX7_reckon_5 (by decide) (fun c2 => ?_) (fun c2 => ?_)
  · have h := h.1 c2
    refine r_wide (k' := 8) (n' := 7937) (by decide) (by decide) ?_
    exact r_sub [0, 1, 2, 3, 4, 5, 6] rfl (T_X7_reckon_12 C E ht hn h)
  · have h := h.2 c2
    refine r_aload_n (pc := 8) C dX7_reckon_8 0 rfl ?_
    refine r_callVv (pc := 9) C (rest := []) (a := v0) o_v0 [] yV_X7_makeRows g_836 (c_X7_makeRows h) dX7_reckon_9 rfl rfl (Nat.le_of_ble_eq_true rfl) ⟨by decide, by decide⟩ ⟨by decide, by decide⟩ (fun S3 h g4 => ?_)
    have h := h g4
    have o_a1 := gr_ob g4 o_a1
    have o_v0 := gr_ob g4 o_v0
    exact r_sub [0, 1, 2, 3, 4, 5, 6] rfl (T_X7_reckon_12 C E ht hn h)
def P_X7_reckon (v0 : Nat) (v1 : Nat) (v2 : Nat) (v3 : Int32) (v4 : Int32) (v5 : Int32) (v6 : Int32) (Q : HS → Prop) (S : HS) : Prop := P_X7_reckon_0 Q v0 v1 v2 v3 v4 v5 v6 S
theorem c_X7_reckon {l : Launch} {Ee : EE} {S : HS} {v0 : Nat} {v1 : Nat} {v2 : Nat} {v3 : Int32} {v4 : Int32} {v5 : Int32} {v6 : Int32} {Q : HS → Prop} (h : P_X7_reckon v0 v1 v2 v3 v4 v5 v6 Q S) : MV l yX7_reckon cX7_reckon 9 none rm_X7_reckon Ee S [.ref v0, .ref v1, .ref v2, .int v3, .int v4, .int v5, .int v6] Q :=
  openV (by decide) (Nat.le_of_ble_eq_true rfl) (fun X C E ht hn hE hl => by subst hE; exact r_sub [0, 1, 2, 3, 4, 5, 6] rfl (T_X7_reckon_0 C E ht hn h))
def rm_X7_trace : Room := { frames := 1, cells := 0, slots := 0, locals := 21 }
def P_X7_trace_143 (Q : Int32 → HS → Prop) (X9 : Nat → Nat → Int32 → Int32 → Int32 → HS → Prop) (v0 : Nat) (v1 : Nat) (v4 : Int32) (v5 : Int32) (v6 : Int32) (S : HS) : Prop := ∀ x1 : Int32, x1 = v6 + (1 : Int32) → (X9 v0 v1 v4 v5 x1 S)
set_option maxRecDepth 20000 in
set_option maxHeartbeats 4000000 in
theorem T_X7_trace_143 {X : CX} {Q : Int32 → HS → Prop} (C : Cx X cX7_trace RX7 10 rm_X7_trace) (E : ReI X rm_X7_trace Q) (ht : (xh X).sig.returnType = (some .int)) (hn : (xh X).name = yX7_trace.name) {X9 : Nat → Nat → Int32 → Int32 → Int32 → HS → Prop} (hX9 : ∀ (v0 : Nat) (v1 : Nat) (v4 : Int32) (v5 : Int32) (v6 : Int32) (S : HS), X9 v0 v1 v4 v5 v6 S → WS X 10 0 0 9 [(0, .ref v0), (1, .ref v1), (4, .int v4), (5, .int v5), (6, .int v6)] [] S) {v0 : Nat} {v1 : Nat} {v4 : Int32} {v5 : Int32} {v6 : Int32} {S : HS} (h : P_X7_trace_143 Q X9 v0 v1 v4 v5 v6 S) : WS X 10 0 0 143 [(0, .ref v0), (1, .ref v1), (4, .int v4), (5, .int v5), (6, .int v6)] [] S := by
  obtain ⟨x1, ex1⟩ : ∃ z : Int32, z = v6 + (1 : Int32) := ⟨_, rfl⟩
  have h := h x1 ex1
  refine r_iinc (pc := 143) C (v := x1) (lv' := [(6, .int x1), (0, .ref v0), (1, .ref v1), (4, .int v4), (5, .int v5)]) dX7_trace_143 4 rfl ex1.symm (by decide) rfl ?_
  refine r_goto (pc := 146) C (tgt := 9) dX7_trace_146 (by decide) ?_
  exact r_sub [1, 2, 3, 4, 0] rfl (hX9 v0 v1 v4 v5 x1 S h)
def P_X7_trace_56 (Q : Int32 → HS → Prop) (X9 : Nat → Nat → Int32 → Int32 → Int32 → HS → Prop) (v0 : Nat) (v1 : Nat) (v4 : Int32) (v5 : Int32) (v6 : Int32) (s0 : Int32) (S : HS) : Prop := ((¬ s0 = (-1 : Int32)) → (ob S v0 7 ∧ (∃ a2 : Nat, fR S v0 0 = some a2 ∧ (ob S a2 13 ∧ (vp_in v6 (hN S a2) ∧ (∀ S4 : HS, S4 = sI S a2 v6.toNatClampNeg s0 → (((¬ s0 = (-2 : Int32)) → (∀ x6 : Int32, x6 = s0 / (100 : Int32) → (ob S4 v1 8 ∧ (P_X8_hasRoad v1 x6 (fun x9 S7 => Gr S4 S7 → bl x9 → (((x9 = 0) → (P_X7_trace_143 Q X9 v0 v1 v4 v5 v6 S7)) ∧ ((¬ x9 = 0) → (∃ a11 : Nat, fR S7 v1 8 = some a11 ∧ (∀ x12 : Int32, x12 = s0 / (100 : Int32) → (ob S7 a11 18 ∧ (vp_in x12 (hN S7 a11) ∧ ∃ a14 : Nat, fR S7 a11 x12.toNatClampNeg = some a14 ∧ (∀ x15 : Int32, x15 = s0 / (10 : Int32) → (∀ x16 : Int32, x16 = x15 - x15 / (10 : Int32) * (10 : Int32) → (ob S7 a14 5 ∧ (P_X5_endOf a14 x16 (fun x19 S17 => Gr S7 S17 → (∀ x20 : Int32, x20 = s0 - s0 / (10 : Int32) * (10 : Int32) → (P_X5_minutesAt a14 x20 (fun x23 S21 => Gr S17 S21 → (∀ x24 : Int32, x24 = v5 + x23 → (P_X7_trace_143 Q X9 v0 v1 x19 x24 v6 S21))) S17))) S7))))))))))) S4)))) ∧ ((s0 = (-2 : Int32)) → (∀ x25 : Int32, x25 = v5 + (1 : Int32) → (P_X7_trace_143 Q X9 v0 v1 v4 x25 v6 S4)))))))))) ∧ ((s0 = (-1 : Int32)) → (Q v6 S))
set_option maxRecDepth 20000 in
set_option maxHeartbeats 4000000 in
theorem T_X7_trace_56 {X : CX} {Q : Int32 → HS → Prop} (C : Cx X cX7_trace RX7 10 rm_X7_trace) (E : ReI X rm_X7_trace Q) (ht : (xh X).sig.returnType = (some .int)) (hn : (xh X).name = yX7_trace.name) {X9 : Nat → Nat → Int32 → Int32 → Int32 → HS → Prop} (hX9 : ∀ (v0 : Nat) (v1 : Nat) (v4 : Int32) (v5 : Int32) (v6 : Int32) (S : HS), X9 v0 v1 v4 v5 v6 S → WS X 10 0 0 9 [(0, .ref v0), (1, .ref v1), (4, .int v4), (5, .int v5), (6, .int v6)] [] S) {v0 : Nat} {v1 : Nat} {v4 : Int32} {v5 : Int32} {v6 : Int32} {s0 : Int32} {S : HS} (h : P_X7_trace_56 Q X9 v0 v1 v4 v5 v6 s0 S) : WS X 10 0 0 56 [(0, .ref v0), (1, .ref v1), (4, .int v4), (5, .int v5), (6, .int v6)] [.int s0] S := by
  refine r_istore (pc := 56) C dX7_trace_56 (by decide) (lv' := [(8, .int s0), (0, .ref v0), (1, .ref v1), (4, .int v4), (5, .int v5), (6, .int v6)]) rfl ?_
  refine r_iload (pc := 58) C dX7_trace_58 0 rfl ?_
  refine r_iconst (pc := 60) C (v := (-1 : Int32)) dX7_trace_60 (by decide) ?_
  refine r_icmp_ne (pc := 61) C (tgt := 67) dX7_trace_61 (by decide) (fun c1 => ?_) (fun c1 => ?_)
  · have h := h.1 c1
    refine r_aload_n (pc := 67) C dX7_trace_67 1 rfl ?_
    obtain ⟨o_v0, h⟩ := h
    obtain ⟨a2, ea2, h⟩ := h
    refine r_getr (pc := 68) C fL_X7_9 dX7_trace_68 o_v0 ea2 ?_
    refine r_iload (pc := 71) C dX7_trace_71 5 rfl ?_
    refine r_iload (pc := 73) C dX7_trace_73 0 rfl ?_
    obtain ⟨o_a2, h⟩ := h
    obtain ⟨i3, h⟩ := h
    refine r_iast (pc := 75) C dX7_trace_75 o_a2 i3 ?_
    refine r_heap (fun S4 eS4 => ?_)
    have h := h S4 eS4
    have o_a2 := ob_I eS4 o_a2
    have o_v0 := ob_I eS4 o_v0
    refine r_iload (pc := 76) C dX7_trace_76 0 rfl ?_
    refine r_bipush (pc := 78) C (v := (-2 : Int32)) dX7_trace_78 (by decide) ?_
    refine r_icmp_ne (pc := 80) C (tgt := 89) dX7_trace_80 (by decide) (fun c5 => ?_) (fun c5 => ?_)
    · have h := h.1 c5
      refine r_aload_n (pc := 89) C dX7_trace_89 2 rfl ?_
      refine r_iload (pc := 90) C dX7_trace_90 0 rfl ?_
      refine r_bipush (pc := 92) C (v := (100 : Int32)) dX7_trace_92 (by decide) ?_
      refine r_idiv (pc := 94) C dX7_trace_94 (by decide) ?_
      refine r_topi (fun x6 ex6 => ?_)
      have h := h x6 ex6
      obtain ⟨o_v1, h⟩ := h
      refine r_callVi0 (pc := 95) C (rest := []) (a := v1) o_v1 [.int x6] yV_X8_hasRoad g_916 (c_X8_hasRoad h) dX7_trace_95 rfl rfl (Nat.le_of_ble_eq_true rfl) ⟨by decide, by decide⟩ ⟨by decide, by decide⟩ ⟨rfl, rfl⟩ (fun x9 S7 h g8 => ?_)
      have bx9 := h.1
      have h := h.2 g8 bx9
      have o_a2 := gr_ob g8 o_a2
      have o_v0 := gr_ob g8 o_v0
      have o_v1 := gr_ob g8 o_v1
      refine r_if_eq (pc := 98) C (tgt := 143) dX7_trace_98 (by decide) (fun c10 => ?_) (fun c10 => ?_)
      · have h := h.1 c10
        exact r_sub [1, 2, 3, 4, 5] rfl (T_X7_trace_143 C E ht hn hX9 h)
      · have h := h.2 c10
        refine r_aload_n (pc := 101) C dX7_trace_101 2 rfl ?_
        obtain ⟨a11, ea11, h⟩ := h
        refine r_getr (pc := 102) C fL_X7_98 dX7_trace_102 o_v1 ea11 ?_
        refine r_iload (pc := 105) C dX7_trace_105 0 rfl ?_
        refine r_bipush (pc := 107) C (v := (100 : Int32)) dX7_trace_107 (by decide) ?_
        refine r_idiv (pc := 109) C dX7_trace_109 (by decide) ?_
        refine r_topi (fun x12 ex12 => ?_)
        have h := h x12 ex12
        obtain ⟨o_a11, h⟩ := h
        obtain ⟨i13, a14, ea14, h⟩ := h
        refine r_aald18 (pc := 110) C dX7_trace_110 o_a11 i13 ea14 ?_
        refine r_astore (pc := 111) C dX7_trace_111 (by decide) (lv' := [(9, .ref a14), (8, .int s0), (0, .ref v0), (1, .ref v1), (4, .int v4), (5, .int v5), (6, .int v6)]) rfl ?_
        refine r_aload (pc := 113) C dX7_trace_113 0 rfl ?_
        refine r_iload (pc := 115) C dX7_trace_115 1 rfl ?_
        refine r_bipush (pc := 117) C (v := (10 : Int32)) dX7_trace_117 (by decide) ?_
        refine r_idiv (pc := 119) C dX7_trace_119 (by decide) ?_
        refine r_topi (fun x15 ex15 => ?_)
        have h := h x15 ex15
        refine r_bipush (pc := 120) C (v := (10 : Int32)) dX7_trace_120 (by decide) ?_
        refine r_irem (pc := 122) C dX7_trace_122 (by decide) ?_
        refine r_topi (fun x16 ex16 => ?_)
        have h := h x16 ex16
        obtain ⟨o_a14, h⟩ := h
        refine r_callVi0 (pc := 123) C (rest := []) (a := a14) o_a14 [.int x16] yV_X5_endOf g_862 (c_X5_endOf h) dX7_trace_123 rfl rfl (Nat.le_of_ble_eq_true rfl) ⟨by decide, by decide⟩ ⟨by decide, by decide⟩ ⟨rfl, rfl⟩ (fun x19 S17 h g18 => ?_)
        have h := h g18
        have o_a11 := gr_ob g18 o_a11
        have o_a14 := gr_ob g18 o_a14
        have o_a2 := gr_ob g18 o_a2
        have o_v0 := gr_ob g18 o_v0
        have o_v1 := gr_ob g18 o_v1
        refine r_istore (pc := 126) C dX7_trace_126 (by decide) (lv' := [(4, .int x19), (9, .ref a14), (8, .int s0), (0, .ref v0), (1, .ref v1), (5, .int v5), (6, .int v6)]) rfl ?_
        refine r_iload (pc := 128) C dX7_trace_128 5 rfl ?_
        refine r_aload (pc := 130) C dX7_trace_130 1 rfl ?_
        refine r_iload (pc := 132) C dX7_trace_132 2 rfl ?_
        refine r_bipush (pc := 134) C (v := (10 : Int32)) dX7_trace_134 (by decide) ?_
        refine r_irem (pc := 136) C dX7_trace_136 (by decide) ?_
        refine r_topi (fun x20 ex20 => ?_)
        have h := h x20 ex20
        refine r_callVi0 (pc := 137) C (rest := [.int v5]) (a := a14) o_a14 [.int x20] yV_X5_minutesAt g_856 (c_X5_minutesAt h) dX7_trace_137 rfl rfl (Nat.le_of_ble_eq_true rfl) ⟨by decide, by decide⟩ ⟨by decide, by decide⟩ ⟨rfl, rfl⟩ (fun x23 S21 h g22 => ?_)
        have h := h g22
        have o_a11 := gr_ob g22 o_a11
        have o_a14 := gr_ob g22 o_a14
        have o_a2 := gr_ob g22 o_a2
        have o_v0 := gr_ob g22 o_v0
        have o_v1 := gr_ob g22 o_v1
        refine r_iadd (pc := 140) C dX7_trace_140 ?_
        refine r_topi (fun x24 ex24 => ?_)
        have h := h x24 ex24
        refine r_istore (pc := 141) C dX7_trace_141 (by decide) (lv' := [(5, .int x24), (4, .int x19), (9, .ref a14), (8, .int s0), (0, .ref v0), (1, .ref v1), (6, .int v6)]) rfl ?_
        exact r_sub [4, 5, 1, 0, 6] rfl (T_X7_trace_143 C E ht hn hX9 h)
    · have h := h.2 c5
      obtain ⟨x25, ex25⟩ : ∃ z : Int32, z = v5 + (1 : Int32) := ⟨_, rfl⟩
      have h := h x25 ex25
      refine r_iinc (pc := 83) C (v := x25) (lv' := [(5, .int x25), (8, .int s0), (0, .ref v0), (1, .ref v1), (4, .int v4), (6, .int v6)]) dX7_trace_83 4 rfl ex25.symm (by decide) rfl ?_
      refine r_goto (pc := 86) C (tgt := 143) dX7_trace_86 (by decide) ?_
      exact r_sub [2, 3, 4, 0, 5] rfl (T_X7_trace_143 C E ht hn hX9 h)
  · have h := h.2 c1
    refine r_iload (pc := 64) C dX7_trace_64 5 rfl ?_
    exact r_iret (pc := 66) C E ht dX7_trace_66 (by decide) (by decide) h
def P_X7_trace_55 (Q : Int32 → HS → Prop) (X9 : Nat → Nat → Int32 → Int32 → Int32 → HS → Prop) (v0 : Nat) (v1 : Nat) (v4 : Int32) (v5 : Int32) (v6 : Int32) (S : HS) : Prop := P_X7_trace_56 Q X9 v0 v1 v4 v5 v6 (-1 : Int32) S
set_option maxRecDepth 20000 in
set_option maxHeartbeats 4000000 in
theorem T_X7_trace_55 {X : CX} {Q : Int32 → HS → Prop} (C : Cx X cX7_trace RX7 10 rm_X7_trace) (E : ReI X rm_X7_trace Q) (ht : (xh X).sig.returnType = (some .int)) (hn : (xh X).name = yX7_trace.name) {X9 : Nat → Nat → Int32 → Int32 → Int32 → HS → Prop} (hX9 : ∀ (v0 : Nat) (v1 : Nat) (v4 : Int32) (v5 : Int32) (v6 : Int32) (S : HS), X9 v0 v1 v4 v5 v6 S → WS X 10 0 0 9 [(0, .ref v0), (1, .ref v1), (4, .int v4), (5, .int v5), (6, .int v6)] [] S) {v0 : Nat} {v1 : Nat} {v4 : Int32} {v5 : Int32} {v6 : Int32} {S : HS} (h : P_X7_trace_55 Q X9 v0 v1 v4 v5 v6 S) : WS X 10 0 0 55 [(0, .ref v0), (1, .ref v1), (4, .int v4), (5, .int v5), (6, .int v6)] [] S := by
  refine r_iconst (pc := 55) C (v := (-1 : Int32)) dX7_trace_55 (by decide) ?_
  exact r_sub [0, 1, 2, 3, 4] rfl (T_X7_trace_56 C E ht hn hX9 h)
def B_X7_trace_9 (Q : Int32 → HS → Prop) (X9 : Nat → Nat → Int32 → Int32 → Int32 → HS → Prop) (v0 : Nat) (v1 : Nat) (v4 : Int32) (v5 : Int32) (v6 : Int32) (S : HS) : Prop := ob S v0 7 ∧ (∃ a1 : Nat, fR S v0 0 = some a1 ∧ (ob S a1 13 ∧ ((((nI (hN S a1)) ≤ v6) → (∃ a3 : Nat, fR S v0 0 = some a3 ∧ (ob S a3 13 ∧ (Q (nI (hN S a3)) S)))) ∧ ((¬ (nI (hN S a1)) ≤ v6) → (∀ x4 : Int32, x4 = (v4 * (401 : Int32)) + v5 → (((x4 < 0) → (P_X7_trace_55 Q X9 v0 v1 v4 v5 v6 S)) ∧ ((¬ x4 < 0) → (∃ a6 : Nat, fR S v0 2 = some a6 ∧ (ob S a6 13 ∧ ((((nI (hN S a6)) ≤ x4) → (P_X7_trace_55 Q X9 v0 v1 v4 v5 v6 S)) ∧ ((¬ (nI (hN S a6)) ≤ x4) → (∃ a8 : Nat, fR S v0 2 = some a8 ∧ (ob S a8 13 ∧ (vp_in x4 (hN S a8) ∧ ∀ x10 : Int32, x10 = fI S a8 x4.toNatClampNeg → (P_X7_trace_56 Q X9 v0 v1 v4 v5 v6 x10 S)))))))))))))))
def P_X7_trace_9 (Q : Int32 → HS → Prop) (v0 : Nat) (v1 : Nat) (v4 : Int32) (v5 : Int32) (v6 : Int32) (S : HS) : Prop := ∀ X9 : Nat → Nat → Int32 → Int32 → Int32 → HS → Prop, (∀ (v0 : Nat) (v1 : Nat) (v4 : Int32) (v5 : Int32) (v6 : Int32) (S : HS), B_X7_trace_9 Q X9 v0 v1 v4 v5 v6 S → X9 v0 v1 v4 v5 v6 S) → X9 v0 v1 v4 v5 v6 S
set_option maxRecDepth 20000 in
set_option maxHeartbeats 4000000 in
theorem TB_X7_trace_9 {X : CX} {Q : Int32 → HS → Prop} (C : Cx X cX7_trace RX7 10 rm_X7_trace) (E : ReI X rm_X7_trace Q) (ht : (xh X).sig.returnType = (some .int)) (hn : (xh X).name = yX7_trace.name) {X9 : Nat → Nat → Int32 → Int32 → Int32 → HS → Prop} (hX9 : ∀ (v0 : Nat) (v1 : Nat) (v4 : Int32) (v5 : Int32) (v6 : Int32) (S : HS), X9 v0 v1 v4 v5 v6 S → WS X 10 0 0 9 [(0, .ref v0), (1, .ref v1), (4, .int v4), (5, .int v5), (6, .int v6)] [] S) {v0 : Nat} {v1 : Nat} {v4 : Int32} {v5 : Int32} {v6 : Int32} {S : HS} (h : B_X7_trace_9 Q X9 v0 v1 v4 v5 v6 S) : WS X 10 0 0 9 [(0, .ref v0), (1, .ref v1), (4, .int v4), (5, .int v5), (6, .int v6)] [] S := by
  refine r_iload (pc := 9) C dX7_trace_9 4 rfl ?_
  refine r_aload_n (pc := 11) C dX7_trace_11 0 rfl ?_
  obtain ⟨o_v0, h⟩ := h
  obtain ⟨a1, ea1, h⟩ := h
  refine r_getr (pc := 12) C fL_X7_9 dX7_trace_12 o_v0 ea1 ?_
  obtain ⟨o_a1, h⟩ := h
  refine r_alen13 (pc := 15) C dX7_trace_15 o_a1 ?_
  refine r_icmp_ge (pc := 16) C (tgt := 149) dX7_trace_16 (by decide) (fun c2 => ?_) (fun c2 => ?_)
  · have h := h.1 c2
    refine r_aload_n (pc := 149) C dX7_trace_149 0 rfl ?_
    obtain ⟨a3, ea3, h⟩ := h
    refine r_getr (pc := 150) C fL_X7_9 dX7_trace_150 o_v0 ea3 ?_
    obtain ⟨o_a3, h⟩ := h
    refine r_alen13 (pc := 153) C dX7_trace_153 o_a3 ?_
    exact r_iret (pc := 154) C E ht dX7_trace_154 (by decide) (by decide) h
  · have h := h.2 c2
    refine r_iload (pc := 19) C dX7_trace_19 2 rfl ?_
    refine r_sipush (pc := 21) C (v := (401 : Int32)) dX7_trace_21 (by decide) ?_
    refine r_imul (pc := 24) C dX7_trace_24 ?_
    refine r_iload (pc := 25) C dX7_trace_25 3 rfl ?_
    refine r_iadd (pc := 27) C dX7_trace_27 ?_
    refine r_topi (fun x4 ex4 => ?_)
    have h := h x4 ex4
    refine r_istore (pc := 28) C dX7_trace_28 (by decide) (lv' := [(7, .int x4), (0, .ref v0), (1, .ref v1), (4, .int v4), (5, .int v5), (6, .int v6)]) rfl ?_
    refine r_iload (pc := 30) C dX7_trace_30 0 rfl ?_
    refine r_if_lt (pc := 32) C (tgt := 55) dX7_trace_32 (by decide) (fun c5 => ?_) (fun c5 => ?_)
    · have h := h.1 c5
      exact r_sub [1, 2, 3, 4, 5] rfl (T_X7_trace_55 C E ht hn hX9 h)
    · have h := h.2 c5
      refine r_iload (pc := 35) C dX7_trace_35 0 rfl ?_
      refine r_aload_n (pc := 37) C dX7_trace_37 1 rfl ?_
      obtain ⟨a6, ea6, h⟩ := h
      refine r_getr (pc := 38) C fL_X7_19 dX7_trace_38 o_v0 ea6 ?_
      obtain ⟨o_a6, h⟩ := h
      refine r_alen13 (pc := 41) C dX7_trace_41 o_a6 ?_
      refine r_icmp_ge (pc := 42) C (tgt := 55) dX7_trace_42 (by decide) (fun c7 => ?_) (fun c7 => ?_)
      · have h := h.1 c7
        exact r_sub [1, 2, 3, 4, 5] rfl (T_X7_trace_55 C E ht hn hX9 h)
      · have h := h.2 c7
        refine r_aload_n (pc := 45) C dX7_trace_45 1 rfl ?_
        obtain ⟨a8, ea8, h⟩ := h
        refine r_getr (pc := 46) C fL_X7_19 dX7_trace_46 o_v0 ea8 ?_
        refine r_iload (pc := 49) C dX7_trace_49 0 rfl ?_
        obtain ⟨o_a8, h⟩ := h
        obtain ⟨i9, h⟩ := h
        refine r_iald (pc := 51) C dX7_trace_51 o_a8 i9 ?_
        refine r_topi (fun x10 ex10 => ?_)
        have h := h x10 ex10
        refine r_goto (pc := 52) C (tgt := 56) dX7_trace_52 (by decide) ?_
        exact r_sub [1, 2, 3, 4, 5] rfl (T_X7_trace_56 C E ht hn hX9 h)
theorem T_X7_trace_9 {X : CX} {Q : Int32 → HS → Prop} (C : Cx X cX7_trace RX7 10 rm_X7_trace) (E : ReI X rm_X7_trace Q) (ht : (xh X).sig.returnType = (some .int)) (hn : (xh X).name = yX7_trace.name) {v0 : Nat} {v1 : Nat} {v4 : Int32} {v5 : Int32} {v6 : Int32} {S : HS} (h : P_X7_trace_9 Q v0 v1 v4 v5 v6 S) : WS X 10 0 0 9 [(0, .ref v0), (1, .ref v1), (4, .int v4), (5, .int v5), (6, .int v6)] [] S :=
  h (fun v0 v1 v4 v5 v6 S => WS X 10 0 0 9 [(0, .ref v0), (1, .ref v1), (4, .int v4), (5, .int v5), (6, .int v6)] [] S) (fun v0 v1 v4 v5 v6 S hh => TB_X7_trace_9 C E ht hn (fun v0 v1 v4 v5 v6 S z => z) hh)
def P_X7_trace_0 (Q : Int32 → HS → Prop) (v0 : Nat) (v1 : Nat) (v2 : Int32) (v3 : Int32) (S : HS) : Prop := P_X7_trace_9 Q v0 v1 v2 v3 (0 : Int32) S
set_option maxRecDepth 20000 in
set_option maxHeartbeats 4000000 in
theorem T_X7_trace_0 {X : CX} {Q : Int32 → HS → Prop} (C : Cx X cX7_trace RX7 10 rm_X7_trace) (E : ReI X rm_X7_trace Q) (ht : (xh X).sig.returnType = (some .int)) (hn : (xh X).name = yX7_trace.name) {v0 : Nat} {v1 : Nat} {v2 : Int32} {v3 : Int32} {S : HS} (h : P_X7_trace_0 Q v0 v1 v2 v3 S) : WS X 10 0 0 0 [(0, .ref v0), (1, .ref v1), (2, .int v2), (3, .int v3)] [] S := by
  refine r_iload_n (pc := 0) C dX7_trace_0 2 rfl ?_
  refine r_istore (pc := 1) C dX7_trace_1 (by decide) (lv' := [(4, .int v2), (0, .ref v0), (1, .ref v1), (2, .int v2), (3, .int v3)]) rfl ?_
  refine r_iload_n (pc := 3) C dX7_trace_3 4 rfl ?_
  refine r_istore (pc := 4) C dX7_trace_4 (by decide) (lv' := [(5, .int v3), (4, .int v2), (0, .ref v0), (1, .ref v1), (2, .int v2), (3, .int v3)]) rfl ?_
  refine r_iconst (pc := 6) C (v := (0 : Int32)) dX7_trace_6 (by decide) ?_
  refine r_istore (pc := 7) C dX7_trace_7 (by decide) (lv' := [(6, .int (0 : Int32)), (5, .int v3), (4, .int v2), (0, .ref v0), (1, .ref v1), (2, .int v2), (3, .int v3)]) rfl ?_
  exact r_sub [3, 4, 2, 1, 0] rfl (T_X7_trace_9 C E ht hn h)
def P_X7_trace (v0 : Nat) (v1 : Nat) (v2 : Int32) (v3 : Int32) (Q : Int32 → HS → Prop) (S : HS) : Prop := P_X7_trace_0 Q v0 v1 v2 v3 S
theorem c_X7_trace {l : Launch} {Ee : EE} {S : HS} {v0 : Nat} {v1 : Nat} {v2 : Int32} {v3 : Int32} {Q : Int32 → HS → Prop} (h : P_X7_trace v0 v1 v2 v3 Q S) : MI l yX7_trace cX7_trace 10 (some .int) rm_X7_trace Ee S [.ref v0, .ref v1, .int v2, .int v3] Q :=
  openI (by decide) (Nat.le_of_ble_eq_true rfl) (fun X C E ht hn hE hl => by subst hE; exact r_sub [0, 1, 2, 3] rfl (T_X7_trace_0 C E ht hn h))
end
