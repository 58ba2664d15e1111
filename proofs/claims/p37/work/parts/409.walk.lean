def rm_X1_countFits : Room := { frames := 5, cells := 0, slots := 0, locals := 129 }
def P_X1_countFits_29 (Q : Int32 → HS → Prop) (X5 : Nat → Nat → Int32 → Int32 → Int32 → HS → Prop) (v0 : Nat) (v1 : Nat) (v2 : Int32) (v3 : Int32) (v4 : Int32) (S : HS) : Prop := ∀ x1 : Int32, x1 = v4 + (1 : Int32) → (X5 v0 v1 v2 v3 x1 S)
set_option maxRecDepth 20000 in
set_option maxHeartbeats 4000000 in
theorem T_X1_countFits_29 {X : CX} {Q : Int32 → HS → Prop} (C : Cx X cX1_countFits RX1 5 rm_X1_countFits) (E : ReI X rm_X1_countFits Q) (ht : (xh X).sig.returnType = (some .int)) (hn : (xh X).name = yX1_countFits.name) {X5 : Nat → Nat → Int32 → Int32 → Int32 → HS → Prop} (hX5 : ∀ (v0 : Nat) (v1 : Nat) (v2 : Int32) (v3 : Int32) (v4 : Int32) (S : HS), X5 v0 v1 v2 v3 v4 S → WS X 5 0 0 5 [(0, .ref v0), (1, .ref v1), (2, .int v2), (3, .int v3), (4, .int v4)] [] S) {v0 : Nat} {v1 : Nat} {v2 : Int32} {v3 : Int32} {v4 : Int32} {S : HS} (h : P_X1_countFits_29 Q X5 v0 v1 v2 v3 v4 S) : WS X 5 0 0 29 [(0, .ref v0), (1, .ref v1), (2, .int v2), (3, .int v3), (4, .int v4)] [] S := by
  obtain ⟨x1, ex1⟩ : ∃ z : Int32, z = v4 + (1 : Int32) := ⟨_, rfl⟩
  have h := h x1 ex1
  refine r_iinc (pc := 29) C (v := x1) (lv' := [(4, .int x1), (0, .ref v0), (1, .ref v1), (2, .int v2), (3, .int v3)]) dX1_countFits_29 4 rfl ex1.symm (by decide) rfl ?_
  refine r_goto (pc := 32) C (tgt := 5) dX1_countFits_32 (by decide) ?_
  exact r_sub [1, 2, 3, 4, 0] rfl (hX5 v0 v1 v2 v3 x1 S h)
def B_X1_countFits_5 (Q : Int32 → HS → Prop) (X5 : Nat → Nat → Int32 → Int32 → Int32 → HS → Prop) (v0 : Nat) (v1 : Nat) (v2 : Int32) (v3 : Int32) (v4 : Int32) (S : HS) : Prop := P_X1_legsOf v1 (fun x3 S1 => Gr S S1 → (((x3 ≤ v4) → (Q v3 S1)) ∧ ((¬ x3 ≤ v4) → (ob S1 v0 1 ∧ (P_X1_fitCode v0 v1 v2 v4 (fun x7 S5 => Gr S1 S5 → (((x7 = (-1 : Int32)) → (P_X1_countFits_29 Q X5 v0 v1 v2 v3 v4 S5)) ∧ ((¬ x7 = (-1 : Int32)) → (∀ x9 : Int32, x9 = v3 + (1 : Int32) → (P_X1_countFits_29 Q X5 v0 v1 v2 x9 v4 S5))))) S1))))) S
def P_X1_countFits_5 (Q : Int32 → HS → Prop) (v0 : Nat) (v1 : Nat) (v2 : Int32) (v3 : Int32) (v4 : Int32) (S : HS) : Prop := ∀ X5 : Nat → Nat → Int32 → Int32 → Int32 → HS → Prop, (∀ (v0 : Nat) (v1 : Nat) (v2 : Int32) (v3 : Int32) (v4 : Int32) (S : HS), B_X1_countFits_5 Q X5 v0 v1 v2 v3 v4 S → X5 v0 v1 v2 v3 v4 S) → X5 v0 v1 v2 v3 v4 S
set_option maxRecDepth 20000 in
set_option maxHeartbeats 4000000 in
theorem TB_X1_countFits_5 {X : CX} {Q : Int32 → HS → Prop} (C : Cx X cX1_countFits RX1 5 rm_X1_countFits) (E : ReI X rm_X1_countFits Q) (ht : (xh X).sig.returnType = (some .int)) (hn : (xh X).name = yX1_countFits.name) {X5 : Nat → Nat → Int32 → Int32 → Int32 → HS → Prop} (hX5 : ∀ (v0 : Nat) (v1 : Nat) (v2 : Int32) (v3 : Int32) (v4 : Int32) (S : HS), X5 v0 v1 v2 v3 v4 S → WS X 5 0 0 5 [(0, .ref v0), (1, .ref v1), (2, .int v2), (3, .int v3), (4, .int v4)] [] S) {v0 : Nat} {v1 : Nat} {v2 : Int32} {v3 : Int32} {v4 : Int32} {S : HS} (h : B_X1_countFits_5 Q X5 v0 v1 v2 v3 v4 S) : WS X 5 0 0 5 [(0, .ref v0), (1, .ref v1), (2, .int v2), (3, .int v3), (4, .int v4)] [] S := by
  refine r_iload (pc := 5) C dX1_countFits_5 4 rfl ?_
  refine r_aload_n (pc := 7) C dX1_countFits_7 1 rfl ?_
  refine r_callSi0 (pc := 8) C (rest := [.int v4]) rfl [.ref v1] yS_X1_legsOf g_937 (c_X1_legsOf h) dX1_countFits_8 rfl rfl (Nat.le_of_ble_eq_true rfl) ⟨by decide, by decide⟩ ⟨by decide, by decide⟩ ⟨rfl, rfl⟩ (fun x3 S1 h g2 => ?_)
  have h := h g2
  refine r_icmp_ge (pc := 11) C (tgt := 35) dX1_countFits_11 (by decide) (fun c4 => ?_) (fun c4 => ?_)
  · have h := h.1 c4
    refine r_iload_n (pc := 35) C dX1_countFits_35 3 rfl ?_
    exact r_iret (pc := 36) C E ht dX1_countFits_36 (by decide) (by decide) h
  · have h := h.2 c4
    refine r_aload_n (pc := 14) C dX1_countFits_14 0 rfl ?_
    refine r_aload_n (pc := 15) C dX1_countFits_15 1 rfl ?_
    refine r_iload_n (pc := 16) C dX1_countFits_16 2 rfl ?_
    refine r_iload (pc := 17) C dX1_countFits_17 4 rfl ?_
    obtain ⟨o_v0, h⟩ := h
    refine r_callVi0 (pc := 19) C (rest := []) (a := v0) o_v0 [.ref v1, .int v2, .int v4] yV_X1_fitCode g_940 (c_X1_fitCode h) dX1_countFits_19 rfl rfl (Nat.le_of_ble_eq_true rfl) ⟨by decide, by decide⟩ ⟨by decide, by decide⟩ ⟨rfl, rfl⟩ (fun x7 S5 h g6 => ?_)
    have h := h g6
    have o_v0 := gr_ob g6 o_v0
    refine r_iconst (pc := 22) C (v := (-1 : Int32)) dX1_countFits_22 (by decide) ?_
    refine r_icmp_eq (pc := 23) C (tgt := 29) dX1_countFits_23 (by decide) (fun c8 => ?_) (fun c8 => ?_)
    · have h := h.1 c8
      exact r_sub [0, 1, 2, 3, 4] rfl (T_X1_countFits_29 C E ht hn hX5 h)
    · have h := h.2 c8
      obtain ⟨x9, ex9⟩ : ∃ z : Int32, z = v3 + (1 : Int32) := ⟨_, rfl⟩
      have h := h x9 ex9
      refine r_iinc (pc := 26) C (v := x9) (lv' := [(3, .int x9), (0, .ref v0), (1, .ref v1), (2, .int v2), (4, .int v4)]) dX1_countFits_26 3 rfl ex9.symm (by decide) rfl ?_
      exact r_sub [1, 2, 3, 0, 4] rfl (T_X1_countFits_29 C E ht hn hX5 h)
theorem T_X1_countFits_5 {X : CX} {Q : Int32 → HS → Prop} (C : Cx X cX1_countFits RX1 5 rm_X1_countFits) (E : ReI X rm_X1_countFits Q) (ht : (xh X).sig.returnType = (some .int)) (hn : (xh X).name = yX1_countFits.name) {v0 : Nat} {v1 : Nat} {v2 : Int32} {v3 : Int32} {v4 : Int32} {S : HS} (h : P_X1_countFits_5 Q v0 v1 v2 v3 v4 S) : WS X 5 0 0 5 [(0, .ref v0), (1, .ref v1), (2, .int v2), (3, .int v3), (4, .int v4)] [] S :=
  h (fun v0 v1 v2 v3 v4 S => WS X 5 0 0 5 [(0, .ref v0), (1, .ref v1), (2, .int v2), (3, .int v3), (4, .int v4)] [] S) (fun v0 v1 v2 v3 v4 S hh => TB_X1_countFits_5 C E ht hn (fun v0 v1 v2 v3 v4 S z => z) hh)
def P_X1_countFits_0 (Q : Int32 → HS → Prop) (v0 : Nat) (v1 : Nat) (v2 : Int32) (S : HS) : Prop := P_X1_countFits_5 Q v0 v1 v2 (0 : Int32) (0 : Int32) S
set_option maxRecDepth 20000 in
set_option maxHeartbeats 4000000 in
theorem T_X1_countFits_0 {X : CX} {Q : Int32 → HS → Prop} (C : Cx X cX1_countFits RX1 5 rm_X1_countFits) (E : ReI X rm_X1_countFits Q) (ht : (xh X).sig.returnType = (some .int)) (hn : (xh X).name = yX1_countFits.name) {v0 : Nat} {v1 : Nat} {v2 : Int32} {S : HS} (h : P_X1_countFits_0 Q v0 v1 v2 S) : WS X 5 0 0 0 [(0, .ref v0), (1, .ref v1), (2, .int v2)] [] S := by
  refine r_iconst (pc := 0) C (v := (0 : Int32)) dX1_countFits_0 (by decide) ?_
  refine r_istore_n (pc := 1) C dX1_countFits_1 rfl (by decide) (lv' := [(3, .int (0 : Int32)), (0, .ref v0), (1, .ref v1), (2, .int v2)]) rfl ?_
  refine r_iconst (pc := 2) C (v := (0 : Int32)) dX1_countFits_2 (by decide) ?_
  refine r_istore (pc := 3) C dX1_countFits_3 (by decide) (lv' := [(4, .int (0 : Int32)), (3, .int (0 : Int32)), (0, .ref v0), (1, .ref v1), (2, .int v2)]) rfl ?_
  exact r_sub [2, 3, 4, 1, 0] rfl (T_X1_countFits_5 C E ht hn h)
def P_X1_countFits (v0 : Nat) (v1 : Nat) (v2 : Int32) (Q : Int32 → HS → Prop) (S : HS) : Prop := P_X1_countFits_0 Q v0 v1 v2 S
theorem c_X1_countFits {l : Launch} {Ee : EE} {S : HS} {v0 : Nat} {v1 : Nat} {v2 : Int32} {Q : Int32 → HS → Prop} (h : P_X1_countFits v0 v1 v2 Q S) : MI l yX1_countFits cX1_countFits 5 (some .int) rm_X1_countFits Ee S [.ref v0, .ref v1, .int v2] Q :=
  openI (by decide) (Nat.le_of_ble_eq_true rfl) (fun X C E ht hn hE hl => by subst hE; exact r_sub [0, 1, 2] rfl (T_X1_countFits_0 C E ht hn h))
def rm_X1_findFit : Room := { frames := 5, cells := 0, slots := 0, locals := 129 }
def P_X1_findFit_48 (Q : Int32 → HS → Prop) (X6 : Nat → Nat → Int32 → Int32 → Int32 → HS → Prop) (v0 : Nat) (v1 : Nat) (v2 : Int32) (v4 : Int32) (v5 : Int32) (S : HS) : Prop := ∀ x1 : Int32, x1 = v5 + (1 : Int32) → (X6 v0 v1 v2 v4 x1 S)
set_option maxRecDepth 20000 in
set_option maxHeartbeats 4000000 in
theorem T_X1_findFit_48 {X : CX} {Q : Int32 → HS → Prop} (C : Cx X cX1_findFit RX1 7 rm_X1_findFit) (E : ReI X rm_X1_findFit Q) (ht : (xh X).sig.returnType = (some .int)) (hn : (xh X).name = yX1_findFit.name) {X6 : Nat → Nat → Int32 → Int32 → Int32 → HS → Prop} (hX6 : ∀ (v0 : Nat) (v1 : Nat) (v2 : Int32) (v4 : Int32) (v5 : Int32) (S : HS), X6 v0 v1 v2 v4 v5 S → WS X 7 0 0 6 [(0, .ref v0), (1, .ref v1), (2, .int v2), (4, .int v4), (5, .int v5)] [] S) {v0 : Nat} {v1 : Nat} {v2 : Int32} {v4 : Int32} {v5 : Int32} {S : HS} (h : P_X1_findFit_48 Q X6 v0 v1 v2 v4 v5 S) : WS X 7 0 0 48 [(0, .ref v0), (1, .ref v1), (2, .int v2), (4, .int v4), (5, .int v5)] [] S := by
  obtain ⟨x1, ex1⟩ : ∃ z : Int32, z = v5 + (1 : Int32) := ⟨_, rfl⟩
  have h := h x1 ex1
  refine r_iinc (pc := 48) C (v := x1) (lv' := [(5, .int x1), (0, .ref v0), (1, .ref v1), (2, .int v2), (4, .int v4)]) dX1_findFit_48 4 rfl ex1.symm (by decide) rfl ?_
  refine r_goto (pc := 51) C (tgt := 6) dX1_findFit_51 (by decide) ?_
  exact r_sub [1, 2, 3, 4, 0] rfl (hX6 v0 v1 v2 v4 x1 S h)
def P_X1_findFit_39 (Q : Int32 → HS → Prop) (X6 : Nat → Nat → Int32 → Int32 → Int32 → HS → Prop) (v0 : Nat) (v1 : Nat) (v2 : Int32) (v4 : Int32) (v5 : Int32) (v6 : Int32) (S : HS) : Prop := ((v6 = (-1 : Int32)) → (P_X1_findFit_48 Q X6 v0 v1 v2 v4 v5 S)) ∧ ((¬ v6 = (-1 : Int32)) → (∀ x2 : Int32, x2 = v4 + (-1 : Int32) → (P_X1_findFit_48 Q X6 v0 v1 v2 x2 v5 S)))
set_option maxRecDepth 20000 in
set_option maxHeartbeats 4000000 in
theorem T_X1_findFit_39 {X : CX} {Q : Int32 → HS → Prop} (C : Cx X cX1_findFit RX1 7 rm_X1_findFit) (E : ReI X rm_X1_findFit Q) (ht : (xh X).sig.returnType = (some .int)) (hn : (xh X).name = yX1_findFit.name) {X6 : Nat → Nat → Int32 → Int32 → Int32 → HS → Prop} (hX6 : ∀ (v0 : Nat) (v1 : Nat) (v2 : Int32) (v4 : Int32) (v5 : Int32) (S : HS), X6 v0 v1 v2 v4 v5 S → WS X 7 0 0 6 [(0, .ref v0), (1, .ref v1), (2, .int v2), (4, .int v4), (5, .int v5)] [] S) {v0 : Nat} {v1 : Nat} {v2 : Int32} {v4 : Int32} {v5 : Int32} {v6 : Int32} {S : HS} (h : P_X1_findFit_39 Q X6 v0 v1 v2 v4 v5 v6 S) : WS X 7 0 0 39 [(0, .ref v0), (1, .ref v1), (2, .int v2), (4, .int v4), (5, .int v5), (6, .int v6)] [] S := by
  refine r_iload (pc := 39) C dX1_findFit_39 5 rfl ?_
  refine r_iconst (pc := 41) C (v := (-1 : Int32)) dX1_findFit_41 (by decide) ?_
  refine r_icmp_eq (pc := 42) C (tgt := 48) dX1_findFit_42 (by decide) (fun c1 => ?_) (fun c1 => ?_)
  · have h := h.1 c1
    exact r_sub [0, 1, 2, 3, 4] rfl (T_X1_findFit_48 C E ht hn hX6 h)
  · have h := h.2 c1
    obtain ⟨x2, ex2⟩ : ∃ z : Int32, z = v4 + (-1 : Int32) := ⟨_, rfl⟩
    have h := h x2 ex2
    refine r_iinc (pc := 45) C (v := x2) (lv' := [(4, .int x2), (0, .ref v0), (1, .ref v1), (2, .int v2), (5, .int v5), (6, .int v6)]) dX1_findFit_45 3 rfl ex2.symm (by decide) rfl ?_
    exact r_sub [1, 2, 3, 0, 4] rfl (T_X1_findFit_48 C E ht hn hX6 h)
def B_X1_findFit_6 (Q : Int32 → HS → Prop) (X6 : Nat → Nat → Int32 → Int32 → Int32 → HS → Prop) (v0 : Nat) (v1 : Nat) (v2 : Int32) (v4 : Int32) (v5 : Int32) (S : HS) : Prop := P_X1_legsOf v1 (fun x3 S1 => Gr S S1 → (((x3 ≤ v5) → (Q (-1 : Int32) S1)) ∧ ((¬ x3 ≤ v5) → (ob S1 v0 1 ∧ (P_X1_fitCode v0 v1 v2 v5 (fun x7 S5 => Gr S1 S5 → (((x7 = (-1 : Int32)) → (P_X1_findFit_39 Q X6 v0 v1 v2 v4 v5 x7 S5)) ∧ ((¬ x7 = (-1 : Int32)) → (((¬ v4 = 0) → (P_X1_findFit_39 Q X6 v0 v1 v2 v4 v5 x7 S5)) ∧ ((v4 = 0) → (Q x7 S5)))))) S1))))) S
def P_X1_findFit_6 (Q : Int32 → HS → Prop) (v0 : Nat) (v1 : Nat) (v2 : Int32) (v4 : Int32) (v5 : Int32) (S : HS) : Prop := ∀ X6 : Nat → Nat → Int32 → Int32 → Int32 → HS → Prop, (∀ (v0 : Nat) (v1 : Nat) (v2 : Int32) (v4 : Int32) (v5 : Int32) (S : HS), B_X1_findFit_6 Q X6 v0 v1 v2 v4 v5 S → X6 v0 v1 v2 v4 v5 S) → X6 v0 v1 v2 v4 v5 S
set_option maxRecDepth 20000 in
set_option maxHeartbeats 4000000 in
theorem TB_X1_findFit_6 {X : CX} {Q : Int32 → HS → Prop} (C : Cx X cX1_findFit RX1 7 rm_X1_findFit) (E : ReI X rm_X1_findFit Q) (ht : (xh X).sig.returnType = (some .int)) (hn : (xh X).name = yX1_findFit.name) {X6 : Nat → Nat → Int32 → Int32 → Int32 → HS → Prop} (hX6 : ∀ (v0 : Nat) (v1 : Nat) (v2 : Int32) (v4 : Int32) (v5 : Int32) (S : HS), X6 v0 v1 v2 v4 v5 S → WS X 7 0 0 6 [(0, .ref v0), (1, .ref v1), (2, .int v2), (4, .int v4), (5, .int v5)] [] S) {v0 : Nat} {v1 : Nat} {v2 : Int32} {v4 : Int32} {v5 : Int32} {S : HS} (h : B_X1_findFit_6 Q X6 v0 v1 v2 v4 v5 S) : WS X 7 0 0 6 [(0, .ref v0), (1, .ref v1), (2, .int v2), (4, .int v4), (5, .int v5)] [] S := by
  refine r_iload (pc := 6) C dX1_findFit_6 4 rfl ?_
  refine r_aload_n (pc := 8) C dX1_findFit_8 1 rfl ?_
  refine r_callSi0 (pc := 9) C (rest := [.int v5]) rfl [.ref v1] yS_X1_legsOf g_937 (c_X1_legsOf h) dX1_findFit_9 rfl rfl (Nat.le_of_ble_eq_true rfl) ⟨by decide, by decide⟩ ⟨by decide, by decide⟩ ⟨rfl, rfl⟩ (fun x3 S1 h g2 => ?_)
  have h := h g2
  refine r_icmp_ge (pc := 12) C (tgt := 54) dX1_findFit_12 (by decide) (fun c4 => ?_) (fun c4 => ?_)
  · have h := h.1 c4
    refine r_iconst (pc := 54) C (v := (-1 : Int32)) dX1_findFit_54 (by decide) ?_
    exact r_iret (pc := 55) C E ht dX1_findFit_55 (by decide) (by decide) h
  · have h := h.2 c4
    refine r_aload_n (pc := 15) C dX1_findFit_15 0 rfl ?_
    refine r_aload_n (pc := 16) C dX1_findFit_16 1 rfl ?_
    refine r_iload_n (pc := 17) C dX1_findFit_17 2 rfl ?_
    refine r_iload (pc := 18) C dX1_findFit_18 4 rfl ?_
    obtain ⟨o_v0, h⟩ := h
    refine r_callVi0 (pc := 20) C (rest := []) (a := v0) o_v0 [.ref v1, .int v2, .int v5] yV_X1_fitCode g_940 (c_X1_fitCode h) dX1_findFit_20 rfl rfl (Nat.le_of_ble_eq_true rfl) ⟨by decide, by decide⟩ ⟨by decide, by decide⟩ ⟨rfl, rfl⟩ (fun x7 S5 h g6 => ?_)
    have h := h g6
    have o_v0 := gr_ob g6 o_v0
    refine r_istore (pc := 23) C dX1_findFit_23 (by decide) (lv' := [(6, .int x7), (0, .ref v0), (1, .ref v1), (2, .int v2), (4, .int v4), (5, .int v5)]) rfl ?_
    refine r_iload (pc := 25) C dX1_findFit_25 0 rfl ?_
    refine r_iconst (pc := 27) C (v := (-1 : Int32)) dX1_findFit_27 (by decide) ?_
    refine r_icmp_eq (pc := 28) C (tgt := 39) dX1_findFit_28 (by decide) (fun c8 => ?_) (fun c8 => ?_)
    · have h := h.1 c8
      exact r_sub [1, 2, 3, 4, 5, 0] rfl (T_X1_findFit_39 C E ht hn hX6 h)
    · have h := h.2 c8
      refine r_iload (pc := 31) C dX1_findFit_31 4 rfl ?_
      refine r_if_ne (pc := 33) C (tgt := 39) dX1_findFit_33 (by decide) (fun c9 => ?_) (fun c9 => ?_)
      · have h := h.1 c9
        exact r_sub [1, 2, 3, 4, 5, 0] rfl (T_X1_findFit_39 C E ht hn hX6 h)
      · have h := h.2 c9
        refine r_iload (pc := 36) C dX1_findFit_36 0 rfl ?_
        exact r_iret (pc := 38) C E ht dX1_findFit_38 (by decide) (by decide) h
theorem T_X1_findFit_6 {X : CX} {Q : Int32 → HS → Prop} (C : Cx X cX1_findFit RX1 7 rm_X1_findFit) (E : ReI X rm_X1_findFit Q) (ht : (xh X).sig.returnType = (some .int)) (hn : (xh X).name = yX1_findFit.name) {v0 : Nat} {v1 : Nat} {v2 : Int32} {v4 : Int32} {v5 : Int32} {S : HS} (h : P_X1_findFit_6 Q v0 v1 v2 v4 v5 S) : WS X 7 0 0 6 [(0, .ref v0), (1, .ref v1), (2, .int v2), (4, .int v4), (5, .int v5)] [] S :=
  h (fun v0 v1 v2 v4 v5 S => WS X 7 0 0 6 [(0, .ref v0), (1, .ref v1), (2, .int v2), (4, .int v4), (5, .int v5)] [] S) (fun v0 v1 v2 v4 v5 S hh => TB_X1_findFit_6 C E ht hn (fun v0 v1 v2 v4 v5 S z => z) hh)
def P_X1_findFit_0 (Q : Int32 → HS → Prop) (v0 : Nat) (v1 : Nat) (v2 : Int32) (v3 : Int32) (S : HS) : Prop := P_X1_findFit_6 Q v0 v1 v2 v3 (0 : Int32) S
set_option maxRecDepth 20000 in
set_option maxHeartbeats 4000000 in
theorem T_X1_findFit_0 {X : CX} {Q : Int32 → HS → Prop} (C : Cx X cX1_findFit RX1 7 rm_X1_findFit) (E : ReI X rm_X1_findFit Q) (ht : (xh X).sig.returnType = (some .int)) (hn : (xh X).name = yX1_findFit.name) {v0 : Nat} {v1 : Nat} {v2 : Int32} {v3 : Int32} {S : HS} (h : P_X1_findFit_0 Q v0 v1 v2 v3 S) : WS X 7 0 0 0 [(0, .ref v0), (1, .ref v1), (2, .int v2), (3, .int v3)] [] S := by
  refine r_iload_n (pc := 0) C dX1_findFit_0 3 rfl ?_
  refine r_istore (pc := 1) C dX1_findFit_1 (by decide) (lv' := [(4, .int v3), (0, .ref v0), (1, .ref v1), (2, .int v2), (3, .int v3)]) rfl ?_
  refine r_iconst (pc := 3) C (v := (0 : Int32)) dX1_findFit_3 (by decide) ?_
  refine r_istore (pc := 4) C dX1_findFit_4 (by decide) (lv' := [(5, .int (0 : Int32)), (4, .int v3), (0, .ref v0), (1, .ref v1), (2, .int v2), (3, .int v3)]) rfl ?_
  exact r_sub [2, 3, 4, 1, 0] rfl (T_X1_findFit_6 C E ht hn h)
def P_X1_findFit (v0 : Nat) (v1 : Nat) (v2 : Int32) (v3 : Int32) (Q : Int32 → HS → Prop) (S : HS) : Prop := P_X1_findFit_0 Q v0 v1 v2 v3 S
theorem c_X1_findFit {l : Launch} {Ee : EE} {S : HS} {v0 : Nat} {v1 : Nat} {v2 : Int32} {v3 : Int32} {Q : Int32 → HS → Prop} (h : P_X1_findFit v0 v1 v2 v3 Q S) : MI l yX1_findFit cX1_findFit 7 (some .int) rm_X1_findFit Ee S [.ref v0, .ref v1, .int v2, .int v3] Q :=
  openI (by decide) (Nat.le_of_ble_eq_true rfl) (fun X C E ht hn hE hl => by subst hE; exact r_sub [0, 1, 2, 3] rfl (T_X1_findFit_0 C E ht hn h))
def rm_X1_init : Room := { frames := 1, cells := 2, slots := 10, locals := 20 }
def P_X1_init_0 (Q : HS → Prop) (v0 : Nat) (S : HS) : Prop := ∀ a1 : Nat, a1 ∉ hL S → ∀ S2 : HS, S2 = nW S a1 14 5 → (ob S2 v0 1 ∧ (∀ S3 : HS, S3 = sR S2 v0 0 (some a1) → (∀ a4 : Nat, a4 ∉ hL S3 → ∀ S5 : HS, S5 = nW S3 a4 14 5 → (∀ S6 : HS, S6 = sR S5 v0 1 (some a4) → (Q S6)))))
set_option maxRecDepth 20000 in
set_option maxHeartbeats 4000000 in
theorem T_X1_init_0 {X : CX} {Q : HS → Prop} (C : Cx X cX1_init RX1 1 rm_X1_init) (E : ReV X rm_X1_init Q) (ht : (xh X).sig.returnType = none) (hn : (xh X).name = yX1_init.name) {v0 : Nat} {S : HS} (h : P_X1_init_0 Q v0 S) : WS X 1 0 0 0 [(0, .ref v0)] [] S := by
  refine r_aload_n (pc := 0) C dX1_init_0 0 rfl ?_
  refine r_objinit (pc := 1) C g_272 dX1_init_1 (by decide) (Nat.le_of_ble_eq_true rfl) ?_
  refine r_aload_n (pc := 4) C dX1_init_4 0 rfl ?_
  refine r_iconst (pc := 5) C (v := (5 : Int32)) dX1_init_5 (by decide) ?_
  refine r_newa14 (pc := 6) C (N := 5) g_266 dX1_init_6 (by decide) (by decide) (by decide) (by decide) (by decide) (fun a1 q9 => ?_)
  refine r_heap (fun S2 eS2 => ?_)
  have h := h a1 q9 S2 eS2
  have g10 := gr_of_new eS2 q9
  have o_a1 := ob_of_new eS2
  obtain ⟨o_v0, h⟩ := h
  refine r_putFr (pc := 8) C pfL_X1_9 hn dX1_init_8 o_v0 ?_
  refine r_heap (fun S3 eS3 => ?_)
  have h := h S3 eS3
  have o_a1 := ob_R eS3 o_a1
  have o_v0 := ob_R eS3 o_v0
  refine r_aload_n (pc := 11) C dX1_init_11 0 rfl ?_
  refine r_iconst (pc := 12) C (v := (5 : Int32)) dX1_init_12 (by decide) ?_
  refine r_newa14 (pc := 13) C (N := 5) g_266 dX1_init_13 (by decide) (by decide) (by decide) (by decide) (by decide) (fun a4 q7 => ?_)
  refine r_heap (fun S5 eS5 => ?_)
  have h := h a4 q7 S5 eS5
  have g8 := gr_of_new eS5 q7
  have o_a4 := ob_of_new eS5
  have o_a1 := gr_ob g8 o_a1
  have o_v0 := gr_ob g8 o_v0
  refine r_putFr (pc := 15) C pfL_X1_15 hn dX1_init_15 o_v0 ?_
  refine r_heap (fun S6 eS6 => ?_)
  have h := h S6 eS6
  have o_a1 := ob_R eS6 o_a1
  have o_a4 := ob_R eS6 o_a4
  have o_v0 := ob_R eS6 o_v0
  exact r_vret (pc := 18) C E ht dX1_init_18 (by decide) (by decide) h
def P_X1_init (v0 : Nat) (Q : HS → Prop) (S : HS) : Prop := P_X1_init_0 Q v0 S
theorem c_X1_init {l : Launch} {Ee : EE} {S : HS} {v0 : Nat} {Q : HS → Prop} (h : P_X1_init v0 Q S) : MV l yX1_init cX1_init 1 none rm_X1_init Ee S [.ref v0] Q :=
  openV (by decide) (Nat.le_of_ble_eq_true rfl) (fun X C E ht hn hE hl => by subst hE; exact r_sub [0] rfl (T_X1_init_0 C E ht hn h))
def rm_X1_leastWet : Room := { frames := 5, cells := 0, slots := 0, locals := 131 }
def P_X1_leastWet_0 (Q : Int64 → HS → Prop) (v0 : Nat) (v1 : Nat) (v2 : Nat) (v3 : Int32) (v4 : Nat) (S : HS) : Prop := ob S v0 1 ∧ (P_X1_bestSpeed v0 v1 v2 v3 v4 (fun x3 S1 => Gr S S1 → (P_X1_wetOf v0 v1 v2 v3 v4 x3 (fun x6 S4 => Gr S1 S4 → (Q x6 S4)) S1)) S)
set_option maxRecDepth 20000 in
set_option maxHeartbeats 4000000 in
theorem T_X1_leastWet_0 {X : CX} {Q : Int64 → HS → Prop} (C : Cx X cX1_leastWet RX1 5 rm_X1_leastWet) (E : ReJ X rm_X1_leastWet Q) (ht : (xh X).sig.returnType = (some .long)) (hn : (xh X).name = yX1_leastWet.name) {v0 : Nat} {v1 : Nat} {v2 : Nat} {v3 : Int32} {v4 : Nat} {S : HS} (h : P_X1_leastWet_0 Q v0 v1 v2 v3 v4 S) : WS X 5 0 0 0 [(0, .ref v0), (1, .ref v1), (2, .ref v2), (3, .int v3), (4, .ref v4)] [] S := by
  refine r_aload_n (pc := 0) C dX1_leastWet_0 0 rfl ?_
  refine r_aload_n (pc := 1) C dX1_leastWet_1 1 rfl ?_
  refine r_aload_n (pc := 2) C dX1_leastWet_2 2 rfl ?_
  refine r_iload_n (pc := 3) C dX1_leastWet_3 3 rfl ?_
  refine r_aload (pc := 4) C dX1_leastWet_4 4 rfl ?_
  refine r_aload_n (pc := 6) C dX1_leastWet_6 0 rfl ?_
  refine r_aload_n (pc := 7) C dX1_leastWet_7 1 rfl ?_
  refine r_aload_n (pc := 8) C dX1_leastWet_8 2 rfl ?_
  refine r_iload_n (pc := 9) C dX1_leastWet_9 3 rfl ?_
  refine r_aload (pc := 10) C dX1_leastWet_10 4 rfl ?_
  obtain ⟨o_v0, h⟩ := h
  refine r_callVi0 (pc := 12) C (rest := [.ref v4, .int v3, .ref v2, .ref v1, .ref v0]) (a := v0) o_v0 [.ref v1, .ref v2, .int v3, .ref v4] yV_X1_bestSpeed g_774 (c_X1_bestSpeed h) dX1_leastWet_12 rfl rfl (Nat.le_of_ble_eq_true rfl) ⟨by decide, by decide⟩ ⟨by decide, by decide⟩ ⟨rfl, rfl⟩ (fun x3 S1 h g2 => ?_)
  have h := h g2
  have o_v0 := gr_ob g2 o_v0
  refine r_callVl0 (pc := 15) C (rest := []) (a := v0) o_v0 [.ref v1, .ref v2, .int v3, .ref v4, .int x3] yV_X1_wetOf g_765 (c_X1_wetOf h) dX1_leastWet_15 rfl rfl (Nat.le_of_ble_eq_true rfl) ⟨by decide, by decide⟩ ⟨by decide, by decide⟩ ⟨rfl, rfl⟩ (fun x6 S4 h g5 => ?_)
  have h := h g5
  have o_v0 := gr_ob g5 o_v0
  exact r_lret (pc := 18) C E ht dX1_leastWet_18 (by decide) (by decide) h
def P_X1_leastWet (v0 : Nat) (v1 : Nat) (v2 : Nat) (v3 : Int32) (v4 : Nat) (Q : Int64 → HS → Prop) (S : HS) : Prop := P_X1_leastWet_0 Q v0 v1 v2 v3 v4 S
theorem c_X1_leastWet {l : Launch} {Ee : EE} {S : HS} {v0 : Nat} {v1 : Nat} {v2 : Nat} {v3 : Int32} {v4 : Nat} {Q : Int64 → HS → Prop} (h : P_X1_leastWet v0 v1 v2 v3 v4 Q S) : MJ l yX1_leastWet cX1_leastWet 5 (some .long) rm_X1_leastWet Ee S [.ref v0, .ref v1, .ref v2, .int v3, .ref v4] Q :=
  openJ (by decide) (Nat.le_of_ble_eq_true rfl) (fun X C E ht hn hE hl => by subst hE; exact r_sub [0, 1, 2, 3, 4] rfl (T_X1_leastWet_0 C E ht hn h))
def rm_X1_wetInLee : Room := { frames := 3, cells := 0, slots := 0, locals := 74 }
def P_X1_wetInLee_0 (Q : Int64 → HS → Prop) (v0 : Nat) (v1 : Nat) (v2 : Nat) (S : HS) : Prop := ob S v2 6 ∧ (∀ x1 : Int32, x1 = fI S v2 3 → (ob S v0 1 ∧ (P_X1_soak v0 v1 (0 : Int32) x1 (fun x4 S2 => Gr S S2 → (ob S2 v1 6 ∧ (∀ x5 : Int32, x5 = fI S2 v1 3 → (P_X1_soak v0 v2 x5 (0 : Int32) (fun x8 S6 => Gr S2 S6 → (Q (x4 + x8) S6)) S2)))) S)))
set_option maxRecDepth 20000 in
set_option maxHeartbeats 4000000 in
theorem T_X1_wetInLee_0 {X : CX} {Q : Int64 → HS → Prop} (C : Cx X cX1_wetInLee RX1 3 rm_X1_wetInLee) (E : ReJ X rm_X1_wetInLee Q) (ht : (xh X).sig.returnType = (some .long)) (hn : (xh X).name = yX1_wetInLee.name) {v0 : Nat} {v1 : Nat} {v2 : Nat} {S : HS} (h : P_X1_wetInLee_0 Q v0 v1 v2 S) : WS X 3 0 0 0 [(0, .ref v0), (1, .ref v1), (2, .ref v2)] [] S := by
  refine r_aload_n (pc := 0) C dX1_wetInLee_0 0 rfl ?_
  refine r_aload_n (pc := 1) C dX1_wetInLee_1 1 rfl ?_
  refine r_iconst (pc := 2) C (v := (0 : Int32)) dX1_wetInLee_2 (by decide) ?_
  refine r_aload_n (pc := 3) C dX1_wetInLee_3 2 rfl ?_
  obtain ⟨o_v2, h⟩ := h
  refine r_geti (pc := 4) C fL_X1_63 dX1_wetInLee_4 o_v2 ?_
  refine r_topi (fun x1 ex1 => ?_)
  have h := h x1 ex1
  obtain ⟨o_v0, h⟩ := h
  refine r_callVl0 (pc := 7) C (rest := []) (a := v0) o_v0 [.ref v1, .int (0 : Int32), .int x1] yV_X1_soak g_708 (c_X1_soak h) dX1_wetInLee_7 rfl rfl (Nat.le_of_ble_eq_true rfl) ⟨by decide, by decide⟩ ⟨by decide, by decide⟩ ⟨rfl, rfl⟩ (fun x4 S2 h g3 => ?_)
  have h := h g3
  have o_v0 := gr_ob g3 o_v0
  have o_v2 := gr_ob g3 o_v2
  refine r_aload_n (pc := 10) C dX1_wetInLee_10 0 rfl ?_
  refine r_aload_n (pc := 11) C dX1_wetInLee_11 2 rfl ?_
  refine r_aload_n (pc := 12) C dX1_wetInLee_12 1 rfl ?_
  obtain ⟨o_v1, h⟩ := h
  refine r_geti (pc := 13) C fL_X1_63 dX1_wetInLee_13 o_v1 ?_
  refine r_topi (fun x5 ex5 => ?_)
  have h := h x5 ex5
  refine r_iconst (pc := 16) C (v := (0 : Int32)) dX1_wetInLee_16 (by decide) ?_
  refine r_callVl0 (pc := 17) C (rest := [.long x4]) (a := v0) o_v0 [.ref v2, .int x5, .int (0 : Int32)] yV_X1_soak g_708 (c_X1_soak h) dX1_wetInLee_17 rfl rfl (Nat.le_of_ble_eq_true rfl) ⟨by decide, by decide⟩ ⟨by decide, by decide⟩ ⟨rfl, rfl⟩ (fun x8 S6 h g7 => ?_)
  have h := h g7
  have o_v0 := gr_ob g7 o_v0
  have o_v1 := gr_ob g7 o_v1
  have o_v2 := gr_ob g7 o_v2
  refine r_ladd (pc := 20) C dX1_wetInLee_20 ?_
  exact r_lret (pc := 21) C E ht dX1_wetInLee_21 (by decide) (by decide) h
def P_X1_wetInLee (v0 : Nat) (v1 : Nat) (v2 : Nat) (Q : Int64 → HS → Prop) (S : HS) : Prop := P_X1_wetInLee_0 Q v0 v1 v2 S
theorem c_X1_wetInLee {l : Launch} {Ee : EE} {S : HS} {v0 : Nat} {v1 : Nat} {v2 : Nat} {Q : Int64 → HS → Prop} (h : P_X1_wetInLee v0 v1 v2 Q S) : MJ l yX1_wetInLee cX1_wetInLee 3 (some .long) rm_X1_wetInLee Ee S [.ref v0, .ref v1, .ref v2] Q :=
  openJ (by decide) (Nat.le_of_ble_eq_true rfl) (fun X C E ht hn hE hl => by subst hE; exact r_sub [0, 1, 2] rfl (T_X1_wetInLee_0 C E ht hn h))
def rm_X1_worstSpeed : Room := { frames := 4, cells := 0, slots := 0, locals := 101 }
def P_X1_worstSpeed_55 (Q : Int32 → HS → Prop) (X17 : Nat → Nat → Nat → Int32 → Nat → Int32 → Int64 → Int32 → HS → Prop) (v0 : Nat) (v1 : Nat) (v2 : Nat) (v3 : Int32) (v4 : Nat) (v5 : Int32) (v6 : Int64) (v8 : Int32) (S : HS) : Prop := ∀ x1 : Int32, x1 = v8 + (1 : Int32) → (X17 v0 v1 v2 v3 v4 v5 v6 x1 S)
set_option maxRecDepth 20000 in
set_option maxHeartbeats 4000000 in
theorem T_X1_worstSpeed_55 {X : CX} {Q : Int32 → HS → Prop} (C : Cx X cX1_worstSpeed RX1 11 rm_X1_worstSpeed) (E : ReI X rm_X1_worstSpeed Q) (ht : (xh X).sig.returnType = (some .int)) (hn : (xh X).name = yX1_worstSpeed.name) {X17 : Nat → Nat → Nat → Int32 → Nat → Int32 → Int64 → Int32 → HS → Prop} (hX17 : ∀ (v0 : Nat) (v1 : Nat) (v2 : Nat) (v3 : Int32) (v4 : Nat) (v5 : Int32) (v6 : Int64) (v8 : Int32) (S : HS), X17 v0 v1 v2 v3 v4 v5 v6 v8 S → WS X 11 0 0 17 [(0, .ref v0), (1, .ref v1), (2, .ref v2), (3, .int v3), (4, .ref v4), (5, .int v5), (6, .long v6), (8, .int v8)] [] S) {v0 : Nat} {v1 : Nat} {v2 : Nat} {v3 : Int32} {v4 : Nat} {v5 : Int32} {v6 : Int64} {v8 : Int32} {S : HS} (h : P_X1_worstSpeed_55 Q X17 v0 v1 v2 v3 v4 v5 v6 v8 S) : WS X 11 0 0 55 [(0, .ref v0), (1, .ref v1), (2, .ref v2), (3, .int v3), (4, .ref v4), (5, .int v5), (6, .long v6), (8, .int v8)] [] S := by
  obtain ⟨x1, ex1⟩ : ∃ z : Int32, z = v8 + (1 : Int32) := ⟨_, rfl⟩
  have h := h x1 ex1
  refine r_iinc (pc := 55) C (v := x1) (lv' := [(8, .int x1), (0, .ref v0), (1, .ref v1), (2, .ref v2), (3, .int v3), (4, .ref v4), (5, .int v5), (6, .long v6)]) dX1_worstSpeed_55 7 rfl ex1.symm (by decide) rfl ?_
  refine r_goto (pc := 58) C (tgt := 17) dX1_worstSpeed_58 (by decide) ?_
  exact r_sub [1, 2, 3, 4, 5, 6, 7, 0] rfl (hX17 v0 v1 v2 v3 v4 v5 v6 x1 S h)
def B_X1_worstSpeed_17 (Q : Int32 → HS → Prop) (X17 : Nat → Nat → Nat → Int32 → Nat → Int32 → Int64 → Int32 → HS → Prop) (v0 : Nat) (v1 : Nat) (v2 : Nat) (v3 : Int32) (v4 : Nat) (v5 : Int32) (v6 : Int64) (v8 : Int32) (S : HS) : Prop := ob S v1 6 ∧ (∀ x1 : Int32, x1 = fI S v1 6 → (((x1 < v8) → (Q v5 S)) ∧ ((¬ x1 < v8) → (ob S v0 1 ∧ (P_X1_wetOf v0 v1 v2 v3 v4 v8 (fun x5 S3 => Gr S S3 → ((((lg_cmp x5 v6) ≤ 0) → (P_X1_worstSpeed_55 Q X17 v0 v1 v2 v3 v4 v5 v6 v8 S3)) ∧ ((¬ (lg_cmp x5 v6) ≤ 0) → (P_X1_worstSpeed_55 Q X17 v0 v1 v2 v3 v4 v8 x5 v8 S3)))) S)))))
def P_X1_worstSpeed_17 (Q : Int32 → HS → Prop) (v0 : Nat) (v1 : Nat) (v2 : Nat) (v3 : Int32) (v4 : Nat) (v5 : Int32) (v6 : Int64) (v8 : Int32) (S : HS) : Prop := ∀ X17 : Nat → Nat → Nat → Int32 → Nat → Int32 → Int64 → Int32 → HS → Prop, (∀ (v0 : Nat) (v1 : Nat) (v2 : Nat) (v3 : Int32) (v4 : Nat) (v5 : Int32) (v6 : Int64) (v8 : Int32) (S : HS), B_X1_worstSpeed_17 Q X17 v0 v1 v2 v3 v4 v5 v6 v8 S → X17 v0 v1 v2 v3 v4 v5 v6 v8 S) → X17 v0 v1 v2 v3 v4 v5 v6 v8 S
set_option maxRecDepth 20000 in
set_option maxHeartbeats 4000000 in
theorem TB_X1_worstSpeed_17 {X : CX} {Q : Int32 → HS → Prop} (C : Cx X cX1_worstSpeed RX1 11 rm_X1_worstSpeed) (E : ReI X rm_X1_worstSpeed Q) (ht : (xh X).sig.returnType = (some .int)) (hn : (xh X).name = yX1_worstSpeed.name) {X17 : Nat → Nat → Nat → Int32 → Nat → Int32 → Int64 → Int32 → HS → Prop} (hX17 : ∀ (v0 : Nat) (v1 : Nat) (v2 : Nat) (v3 : Int32) (v4 : Nat) (v5 : Int32) (v6 : Int64) (v8 : Int32) (S : HS), X17 v0 v1 v2 v3 v4 v5 v6 v8 S → WS X 11 0 0 17 [(0, .ref v0), (1, .ref v1), (2, .ref v2), (3, .int v3), (4, .ref v4), (5, .int v5), (6, .long v6), (8, .int v8)] [] S) {v0 : Nat} {v1 : Nat} {v2 : Nat} {v3 : Int32} {v4 : Nat} {v5 : Int32} {v6 : Int64} {v8 : Int32} {S : HS} (h : B_X1_worstSpeed_17 Q X17 v0 v1 v2 v3 v4 v5 v6 v8 S) : WS X 11 0 0 17 [(0, .ref v0), (1, .ref v1), (2, .ref v2), (3, .int v3), (4, .ref v4), (5, .int v5), (6, .long v6), (8, .int v8)] [] S := by
  refine r_iload (pc := 17) C dX1_worstSpeed_17 7 rfl ?_
  refine r_aload_n (pc := 19) C dX1_worstSpeed_19 1 rfl ?_
  obtain ⟨o_v1, h⟩ := h
  refine r_geti (pc := 20) C fL_X1_86 dX1_worstSpeed_20 o_v1 ?_
  refine r_topi (fun x1 ex1 => ?_)
  have h := h x1 ex1
  refine r_icmp_gt (pc := 23) C (tgt := 61) dX1_worstSpeed_23 (by decide) (fun c2 => ?_) (fun c2 => ?_)
  · have h := h.1 c2
    refine r_iload (pc := 61) C dX1_worstSpeed_61 5 rfl ?_
    exact r_iret (pc := 63) C E ht dX1_worstSpeed_63 (by decide) (by decide) h
  · have h := h.2 c2
    refine r_aload_n (pc := 26) C dX1_worstSpeed_26 0 rfl ?_
    refine r_aload_n (pc := 27) C dX1_worstSpeed_27 1 rfl ?_
    refine r_aload_n (pc := 28) C dX1_worstSpeed_28 2 rfl ?_
    refine r_iload_n (pc := 29) C dX1_worstSpeed_29 3 rfl ?_
    refine r_aload (pc := 30) C dX1_worstSpeed_30 4 rfl ?_
    refine r_iload (pc := 32) C dX1_worstSpeed_32 7 rfl ?_
    obtain ⟨o_v0, h⟩ := h
    refine r_callVl0 (pc := 34) C (rest := []) (a := v0) o_v0 [.ref v1, .ref v2, .int v3, .ref v4, .int v8] yV_X1_wetOf g_765 (c_X1_wetOf h) dX1_worstSpeed_34 rfl rfl (Nat.le_of_ble_eq_true rfl) ⟨by decide, by decide⟩ ⟨by decide, by decide⟩ ⟨rfl, rfl⟩ (fun x5 S3 h g4 => ?_)
    have h := h g4
    have o_v0 := gr_ob g4 o_v0
    have o_v1 := gr_ob g4 o_v1
    refine r_lstore (pc := 37) C dX1_worstSpeed_37 (by decide) (lv' := [(9, .long x5), (0, .ref v0), (1, .ref v1), (2, .ref v2), (3, .int v3), (4, .ref v4), (5, .int v5), (6, .long v6), (8, .int v8)]) rfl ?_
    refine r_lload (pc := 39) C dX1_worstSpeed_39 0 rfl ?_
    refine r_lload (pc := 41) C dX1_worstSpeed_41 7 rfl ?_
    refine r_lcmp (pc := 43) C dX1_worstSpeed_43 ?_
    refine r_if_le (pc := 44) C (tgt := 55) dX1_worstSpeed_44 (by decide) (fun c6 => ?_) (fun c6 => ?_)
    · have h := h.1 c6
      exact r_sub [1, 2, 3, 4, 5, 6, 7, 8] rfl (T_X1_worstSpeed_55 C E ht hn hX17 h)
    · have h := h.2 c6
      refine r_lload (pc := 47) C dX1_worstSpeed_47 0 rfl ?_
      refine r_lstore (pc := 49) C dX1_worstSpeed_49 (by decide) (lv' := [(6, .long x5), (9, .long x5), (0, .ref v0), (1, .ref v1), (2, .ref v2), (3, .int v3), (4, .ref v4), (5, .int v5), (8, .int v8)]) rfl ?_
      refine r_iload (pc := 51) C dX1_worstSpeed_51 8 rfl ?_
      refine r_istore (pc := 53) C dX1_worstSpeed_53 (by decide) (lv' := [(5, .int v8), (6, .long x5), (9, .long x5), (0, .ref v0), (1, .ref v1), (2, .ref v2), (3, .int v3), (4, .ref v4), (8, .int v8)]) rfl ?_
      exact r_sub [3, 4, 5, 6, 7, 0, 1, 8] rfl (T_X1_worstSpeed_55 C E ht hn hX17 h)
theorem T_X1_worstSpeed_17 {X : CX} {Q : Int32 → HS → Prop} (C : Cx X cX1_worstSpeed RX1 11 rm_X1_worstSpeed) (E : ReI X rm_X1_worstSpeed Q) (ht : (xh X).sig.returnType = (some .int)) (hn : (xh X).name = yX1_worstSpeed.name) {v0 : Nat} {v1 : Nat} {v2 : Nat} {v3 : Int32} {v4 : Nat} {v5 : Int32} {v6 : Int64} {v8 : Int32} {S : HS} (h : P_X1_worstSpeed_17 Q v0 v1 v2 v3 v4 v5 v6 v8 S) : WS X 11 0 0 17 [(0, .ref v0), (1, .ref v1), (2, .ref v2), (3, .int v3), (4, .ref v4), (5, .int v5), (6, .long v6), (8, .int v8)] [] S :=
  h (fun v0 v1 v2 v3 v4 v5 v6 v8 S => WS X 11 0 0 17 [(0, .ref v0), (1, .ref v1), (2, .ref v2), (3, .int v3), (4, .ref v4), (5, .int v5), (6, .long v6), (8, .int v8)] [] S) (fun v0 v1 v2 v3 v4 v5 v6 v8 S hh => TB_X1_worstSpeed_17 C E ht hn (fun v0 v1 v2 v3 v4 v5 v6 v8 S z => z) hh)
def P_X1_worstSpeed_0 (Q : Int32 → HS → Prop) (v0 : Nat) (v1 : Nat) (v2 : Nat) (v3 : Int32) (v4 : Nat) (S : HS) : Prop := ob S v1 6 ∧ (∀ x1 : Int32, x1 = fI S v1 5 → (∀ x2 : Int32, x2 = fI S v1 5 → (P_X1_worstSpeed_17 Q v0 v1 v2 v3 v4 x1 (-1 : Int64) x2 S)))
set_option maxRecDepth 20000 in
set_option maxHeartbeats 4000000 in
theorem T_X1_worstSpeed_0 {X : CX} {Q : Int32 → HS → Prop} (C : Cx X cX1_worstSpeed RX1 11 rm_X1_worstSpeed) (E : ReI X rm_X1_worstSpeed Q) (ht : (xh X).sig.returnType = (some .int)) (hn : (xh X).name = yX1_worstSpeed.name) {v0 : Nat} {v1 : Nat} {v2 : Nat} {v3 : Int32} {v4 : Nat} {S : HS} (h : P_X1_worstSpeed_0 Q v0 v1 v2 v3 v4 S) : WS X 11 0 0 0 [(0, .ref v0), (1, .ref v1), (2, .ref v2), (3, .int v3), (4, .ref v4)] [] S := by
  refine r_aload_n (pc := 0) C dX1_worstSpeed_0 1 rfl ?_
  obtain ⟨o_v1, h⟩ := h
  refine r_geti (pc := 1) C fL_X1_81 dX1_worstSpeed_1 o_v1 ?_
  refine r_topi (fun x1 ex1 => ?_)
  have h := h x1 ex1
  refine r_istore (pc := 4) C dX1_worstSpeed_4 (by decide) (lv' := [(5, .int x1), (0, .ref v0), (1, .ref v1), (2, .ref v2), (3, .int v3), (4, .ref v4)]) rfl ?_
  refine r_ldc2 (pc := 6) C (v := (-1 : Int64)) dX1_worstSpeed_6 g_783 ?_
  refine r_lstore (pc := 9) C dX1_worstSpeed_9 (by decide) (lv' := [(6, .long (-1 : Int64)), (5, .int x1), (0, .ref v0), (1, .ref v1), (2, .ref v2), (3, .int v3), (4, .ref v4)]) rfl ?_
  refine r_aload_n (pc := 11) C dX1_worstSpeed_11 3 rfl ?_
  refine r_geti (pc := 12) C fL_X1_81 dX1_worstSpeed_12 o_v1 ?_
  refine r_topi (fun x2 ex2 => ?_)
  have h := h x2 ex2
  refine r_istore (pc := 15) C dX1_worstSpeed_15 (by decide) (lv' := [(8, .int x2), (6, .long (-1 : Int64)), (5, .int x1), (0, .ref v0), (1, .ref v1), (2, .ref v2), (3, .int v3), (4, .ref v4)]) rfl ?_
  exact r_sub [3, 4, 5, 6, 7, 2, 1, 0] rfl (T_X1_worstSpeed_17 C E ht hn h)
def P_X1_worstSpeed (v0 : Nat) (v1 : Nat) (v2 : Nat) (v3 : Int32) (v4 : Nat) (Q : Int32 → HS → Prop) (S : HS) : Prop := P_X1_worstSpeed_0 Q v0 v1 v2 v3 v4 S
theorem c_X1_worstSpeed {l : Launch} {Ee : EE} {S : HS} {v0 : Nat} {v1 : Nat} {v2 : Nat} {v3 : Int32} {v4 : Nat} {Q : Int32 → HS → Prop} (h : P_X1_worstSpeed v0 v1 v2 v3 v4 Q S) : MI l yX1_worstSpeed cX1_worstSpeed 11 (some .int) rm_X1_worstSpeed Ee S [.ref v0, .ref v1, .ref v2, .int v3, .ref v4] Q :=
  openI (by decide) (Nat.le_of_ble_eq_true rfl) (fun X C E ht hn hE hl => by subst hE; exact r_sub [0, 1, 2, 3, 4] rfl (T_X1_worstSpeed_0 C E ht hn h))
def rm_X2_addFaces : Room := { frames := 0, cells := 0, slots := 0, locals := 0 }
def B_X2_addFaces_2 (Q : HS → Prop) (X2 : Nat → Nat → Int32 → HS → Prop) (v0 : Nat) (v1 : Nat) (v2 : Int32) (S : HS) : Prop := (((5 : Int32) ≤ v2) → (Q S)) ∧ ((¬ (5 : Int32) ≤ v2) → (ob S v1 14 ∧ ((((nI (hN S v1)) ≤ v2) → (Q S)) ∧ ((¬ (nI (hN S v1)) ≤ v2) → (ob S v0 2 ∧ (∃ a3 : Nat, fR S v0 2 = some a3 ∧ (ob S a3 14 ∧ (vp_in v2 (hN S a3) ∧ ∀ x5 : Int64, x5 = fJ S a3 v2.toNatClampNeg → (vp_in v2 (hN S v1) ∧ ∀ x7 : Int64, x7 = fJ S v1 v2.toNatClampNeg → (∀ x9 : Int64, x9 = x5 + x7 → (vp_in v2 (hN S a3) ∧ (∀ S10 : HS, S10 = sJ S a3 v2.toNatClampNeg x9 → (∀ x11 : Int32, x11 = v2 + (1 : Int32) → (X2 v0 v1 x11 S10))))))))))))))
def P_X2_addFaces_2 (Q : HS → Prop) (v0 : Nat) (v1 : Nat) (v2 : Int32) (S : HS) : Prop := ∀ X2 : Nat → Nat → Int32 → HS → Prop, (∀ (v0 : Nat) (v1 : Nat) (v2 : Int32) (S : HS), B_X2_addFaces_2 Q X2 v0 v1 v2 S → X2 v0 v1 v2 S) → X2 v0 v1 v2 S
set_option maxRecDepth 20000 in
set_option maxHeartbeats 4000000 in
theorem TB_X2_addFaces_2 {X : CX} {Q : HS → Prop} (C : Cx X cX2_addFaces RX2 3 rm_X2_addFaces) (E : ReV X rm_X2_addFaces Q) (ht : (xh X).sig.returnType = none) (hn : (xh X).name = yX2_addFaces.name) {X2 : Nat → Nat → Int32 → HS → Prop} (hX2 : ∀ (v0 : Nat) (v1 : Nat) (v2 : Int32) (S : HS), X2 v0 v1 v2 S → WS X 3 0 0 2 [(0, .ref v0), (1, .ref v1), (2, .int v2)] [] S) {v0 : Nat} {v1 : Nat} {v2 : Int32} {S : HS} (h : B_X2_addFaces_2 Q X2 v0 v1 v2 S) : WS X 3 0 0 2 [(0, .ref v0), (1, .ref v1), (2, .int v2)] [] S := by
  refine r_iload_n (pc := 2) C dX2_addFaces_2 2 rfl ?_
  refine r_iconst (pc := 3) C (v := (5 : Int32)) dX2_addFaces_3 (by decide) ?_
  refine r_icmp_ge (pc := 4) C (tgt := 31) dX2_addFaces_4 (by decide) (fun c1 => ?_) (fun c1 => ?_)
  · have h := h.1 c1
    exact r_vret (pc := 31) C E ht dX2_addFaces_31 (by decide) (by decide) h
  · have h := h.2 c1
    refine r_iload_n (pc := 7) C dX2_addFaces_7 2 rfl ?_
    refine r_aload_n (pc := 8) C dX2_addFaces_8 1 rfl ?_
    obtain ⟨o_v1, h⟩ := h
    refine r_alen14 (pc := 9) C dX2_addFaces_9 o_v1 ?_
    refine r_icmp_ge (pc := 10) C (tgt := 31) dX2_addFaces_10 (by decide) (fun c2 => ?_) (fun c2 => ?_)
    · have h := h.1 c2
      exact r_vret (pc := 31) C E ht dX2_addFaces_31 (by decide) (by decide) h
    · have h := h.2 c2
      refine r_aload_n (pc := 13) C dX2_addFaces_13 0 rfl ?_
      obtain ⟨o_v0, h⟩ := h
      obtain ⟨a3, ea3, h⟩ := h
      refine r_getr (pc := 14) C fL_X2_9 dX2_addFaces_14 o_v0 ea3 ?_
      refine r_iload_n (pc := 17) C dX2_addFaces_17 2 rfl ?_
      refine r_dup2 (pc := 18) C dX2_addFaces_18 rfl rfl ?_
      obtain ⟨o_a3, h⟩ := h
      obtain ⟨i4, h⟩ := h
      refine r_lald (pc := 19) C dX2_addFaces_19 o_a3 i4 ?_
      refine r_topl (fun x5 ex5 => ?_)
      have h := h x5 ex5
      refine r_aload_n (pc := 20) C dX2_addFaces_20 1 rfl ?_
      refine r_iload_n (pc := 21) C dX2_addFaces_21 2 rfl ?_
      obtain ⟨i6, h⟩ := h
      refine r_lald (pc := 22) C dX2_addFaces_22 o_v1 i6 ?_
      refine r_topl (fun x7 ex7 => ?_)
      have h := h x7 ex7
      refine r_ladd (pc := 23) C dX2_addFaces_23 ?_
      refine r_topl (fun x9 ex9 => ?_)
      have h := h x9 ex9
      obtain ⟨i8, h⟩ := h
      refine r_last (pc := 24) C dX2_addFaces_24 o_a3 i8 ?_
      refine r_heap (fun S10 eS10 => ?_)
      have h := h S10 eS10
      have o_a3 := ob_J eS10 o_a3
      have o_v0 := ob_J eS10 o_v0
      have o_v1 := ob_J eS10 o_v1
      obtain ⟨x11, ex11⟩ : ∃ z : Int32, z = v2 + (1 : Int32) := ⟨_, rfl⟩
      have h := h x11 ex11
      refine r_iinc (pc := 25) C (v := x11) (lv' := [(2, .int x11), (0, .ref v0), (1, .ref v1)]) dX2_addFaces_25 2 rfl ex11.symm (by decide) rfl ?_
      refine r_goto (pc := 28) C (tgt := 2) dX2_addFaces_28 (by decide) ?_
      exact r_sub [1, 2, 0] rfl (hX2 v0 v1 x11 S10 h)
theorem T_X2_addFaces_2 {X : CX} {Q : HS → Prop} (C : Cx X cX2_addFaces RX2 3 rm_X2_addFaces) (E : ReV X rm_X2_addFaces Q) (ht : (xh X).sig.returnType = none) (hn : (xh X).name = yX2_addFaces.name) {v0 : Nat} {v1 : Nat} {v2 : Int32} {S : HS} (h : P_X2_addFaces_2 Q v0 v1 v2 S) : WS X 3 0 0 2 [(0, .ref v0), (1, .ref v1), (2, .int v2)] [] S :=
  h (fun v0 v1 v2 S => WS X 3 0 0 2 [(0, .ref v0), (1, .ref v1), (2, .int v2)] [] S) (fun v0 v1 v2 S hh => TB_X2_addFaces_2 C E ht hn (fun v0 v1 v2 S z => z) hh)
def P_X2_addFaces_0 (Q : HS → Prop) (v0 : Nat) (v1 : Nat) (S : HS) : Prop := P_X2_addFaces_2 Q v0 v1 (0 : Int32) S
set_option maxRecDepth 20000 in
set_option maxHeartbeats 4000000 in
theorem T_X2_addFaces_0 {X : CX} {Q : HS → Prop} (C : Cx X cX2_addFaces RX2 3 rm_X2_addFaces) (E : ReV X rm_X2_addFaces Q) (ht : (xh X).sig.returnType = none) (hn : (xh X).name = yX2_addFaces.name) {v0 : Nat} {v1 : Nat} {S : HS} (h : P_X2_addFaces_0 Q v0 v1 S) : WS X 3 0 0 0 [(0, .ref v0), (1, .ref v1)] [] S := by
  refine r_iconst (pc := 0) C (v := (0 : Int32)) dX2_addFaces_0 (by decide) ?_
  refine r_istore_n (pc := 1) C dX2_addFaces_1 rfl (by decide) (lv' := [(2, .int (0 : Int32)), (0, .ref v0), (1, .ref v1)]) rfl ?_
  exact r_sub [1, 2, 0] rfl (T_X2_addFaces_2 C E ht hn h)
def P_X2_addFaces (v0 : Nat) (v1 : Nat) (Q : HS → Prop) (S : HS) : Prop := P_X2_addFaces_0 Q v0 v1 S
theorem c_X2_addFaces {l : Launch} {Ee : EE} {S : HS} {v0 : Nat} {v1 : Nat} {Q : HS → Prop} (h : P_X2_addFaces v0 v1 Q S) : MV l yX2_addFaces cX2_addFaces 3 none rm_X2_addFaces Ee S [.ref v0, .ref v1] Q :=
  openV (by decide) (Nat.le_of_ble_eq_true rfl) (fun X C E ht hn hE hl => by subst hE; exact r_sub [0, 1] rfl (T_X2_addFaces_0 C E ht hn h))
def rm_X2_allGot : Room := { frames := 0, cells := 0, slots := 0, locals := 0 }
def B_X2_allGot_4 (Q : Int64 → HS → Prop) (X4 : Nat → Int64 → Int32 → HS → Prop) (v0 : Nat) (v1 : Int64) (v3 : Int32) (S : HS) : Prop := (((5 : Int32) ≤ v3) → (Q v1 S)) ∧ ((¬ (5 : Int32) ≤ v3) → (ob S v0 2 ∧ (∃ a2 : Nat, fR S v0 2 = some a2 ∧ (ob S a2 14 ∧ (vp_in v3 (hN S a2) ∧ ∀ x4 : Int64, x4 = fJ S a2 v3.toNatClampNeg → (∀ x5 : Int64, x5 = v1 + x4 → (∀ x6 : Int32, x6 = v3 + (1 : Int32) → (X4 v0 x5 x6 S))))))))
def P_X2_allGot_4 (Q : Int64 → HS → Prop) (v0 : Nat) (v1 : Int64) (v3 : Int32) (S : HS) : Prop := ∀ X4 : Nat → Int64 → Int32 → HS → Prop, (∀ (v0 : Nat) (v1 : Int64) (v3 : Int32) (S : HS), B_X2_allGot_4 Q X4 v0 v1 v3 S → X4 v0 v1 v3 S) → X4 v0 v1 v3 S
set_option maxRecDepth 20000 in
set_option maxHeartbeats 4000000 in
theorem TB_X2_allGot_4 {X : CX} {Q : Int64 → HS → Prop} (C : Cx X cX2_allGot RX2 4 rm_X2_allGot) (E : ReJ X rm_X2_allGot Q) (ht : (xh X).sig.returnType = (some .long)) (hn : (xh X).name = yX2_allGot.name) {X4 : Nat → Int64 → Int32 → HS → Prop} (hX4 : ∀ (v0 : Nat) (v1 : Int64) (v3 : Int32) (S : HS), X4 v0 v1 v3 S → WS X 4 0 0 4 [(0, .ref v0), (1, .long v1), (3, .int v3)] [] S) {v0 : Nat} {v1 : Int64} {v3 : Int32} {S : HS} (h : B_X2_allGot_4 Q X4 v0 v1 v3 S) : WS X 4 0 0 4 [(0, .ref v0), (1, .long v1), (3, .int v3)] [] S := by
  refine r_iload_n (pc := 4) C dX2_allGot_4 2 rfl ?_
  refine r_iconst (pc := 5) C (v := (5 : Int32)) dX2_allGot_5 (by decide) ?_
  refine r_icmp_ge (pc := 6) C (tgt := 24) dX2_allGot_6 (by decide) (fun c1 => ?_) (fun c1 => ?_)
  · have h := h.1 c1
    refine r_lload_n (pc := 24) C dX2_allGot_24 1 rfl ?_
    exact r_lret (pc := 25) C E ht dX2_allGot_25 (by decide) (by decide) h
  · have h := h.2 c1
    refine r_lload_n (pc := 9) C dX2_allGot_9 1 rfl ?_
    refine r_aload_n (pc := 10) C dX2_allGot_10 0 rfl ?_
    obtain ⟨o_v0, h⟩ := h
    obtain ⟨a2, ea2, h⟩ := h
    refine r_getr (pc := 11) C fL_X2_9 dX2_allGot_11 o_v0 ea2 ?_
    refine r_iload_n (pc := 14) C dX2_allGot_14 2 rfl ?_
    obtain ⟨o_a2, h⟩ := h
    obtain ⟨i3, h⟩ := h
    refine r_lald (pc := 15) C dX2_allGot_15 o_a2 i3 ?_
    refine r_topl (fun x4 ex4 => ?_)
    have h := h x4 ex4
    refine r_ladd (pc := 16) C dX2_allGot_16 ?_
    refine r_topl (fun x5 ex5 => ?_)
    have h := h x5 ex5
    refine r_lstore_n (pc := 17) C dX2_allGot_17 rfl (by decide) (lv' := [(1, .long x5), (0, .ref v0), (3, .int v3)]) rfl ?_
    obtain ⟨x6, ex6⟩ : ∃ z : Int32, z = v3 + (1 : Int32) := ⟨_, rfl⟩
    have h := h x6 ex6
    refine r_iinc (pc := 18) C (v := x6) (lv' := [(3, .int x6), (1, .long x5), (0, .ref v0)]) dX2_allGot_18 2 rfl ex6.symm (by decide) rfl ?_
    refine r_goto (pc := 21) C (tgt := 4) dX2_allGot_21 (by decide) ?_
    exact r_sub [2, 1, 0] rfl (hX4 v0 x5 x6 S h)
theorem T_X2_allGot_4 {X : CX} {Q : Int64 → HS → Prop} (C : Cx X cX2_allGot RX2 4 rm_X2_allGot) (E : ReJ X rm_X2_allGot Q) (ht : (xh X).sig.returnType = (some .long)) (hn : (xh X).name = yX2_allGot.name) {v0 : Nat} {v1 : Int64} {v3 : Int32} {S : HS} (h : P_X2_allGot_4 Q v0 v1 v3 S) : WS X 4 0 0 4 [(0, .ref v0), (1, .long v1), (3, .int v3)] [] S :=
  h (fun v0 v1 v3 S => WS X 4 0 0 4 [(0, .ref v0), (1, .long v1), (3, .int v3)] [] S) (fun v0 v1 v3 S hh => TB_X2_allGot_4 C E ht hn (fun v0 v1 v3 S z => z) hh)
def P_X2_allGot_0 (Q : Int64 → HS → Prop) (v0 : Nat) (S : HS) : Prop := P_X2_allGot_4 Q v0 (0 : Int64) (0 : Int32) S
set_option maxRecDepth 20000 in
set_option maxHeartbeats 4000000 in
theorem T_X2_allGot_0 {X : CX} {Q : Int64 → HS → Prop} (C : Cx X cX2_allGot RX2 4 rm_X2_allGot) (E : ReJ X rm_X2_allGot Q) (ht : (xh X).sig.returnType = (some .long)) (hn : (xh X).name = yX2_allGot.name) {v0 : Nat} {S : HS} (h : P_X2_allGot_0 Q v0 S) : WS X 4 0 0 0 [(0, .ref v0)] [] S := by
  refine r_lconst (pc := 0) C (v := (0 : Int64)) dX2_allGot_0 (by decide) ?_
  refine r_lstore_n (pc := 1) C dX2_allGot_1 rfl (by decide) (lv' := [(1, .long (0 : Int64)), (0, .ref v0)]) rfl ?_
  refine r_iconst (pc := 2) C (v := (0 : Int32)) dX2_allGot_2 (by decide) ?_
  refine r_istore_n (pc := 3) C dX2_allGot_3 rfl (by decide) (lv' := [(3, .int (0 : Int32)), (1, .long (0 : Int64)), (0, .ref v0)]) rfl ?_
  exact r_sub [2, 1, 0] rfl (T_X2_allGot_4 C E ht hn h)
def P_X2_allGot (v0 : Nat) (Q : Int64 → HS → Prop) (S : HS) : Prop := P_X2_allGot_0 Q v0 S
theorem c_X2_allGot {l : Launch} {Ee : EE} {S : HS} {v0 : Nat} {Q : Int64 → HS → Prop} (h : P_X2_allGot v0 Q S) : MJ l yX2_allGot cX2_allGot 4 (some .long) rm_X2_allGot Ee S [.ref v0] Q :=
  openJ (by decide) (Nat.le_of_ble_eq_true rfl) (fun X C E ht hn hE hl => by subst hE; exact r_sub [0] rfl (T_X2_allGot_0 C E ht hn h))
def rm_X3_init : Room := { frames := 1, cells := 0, slots := 0, locals := 20 }
def P_X3_init_0 (Q : HS → Prop) (v0 : Nat) (S : HS) : Prop := Q S
set_option maxRecDepth 20000 in
set_option maxHeartbeats 4000000 in
theorem T_X3_init_0 {X : CX} {Q : HS → Prop} (C : Cx X cX3_init RX3 1 rm_X3_init) (E : ReV X rm_X3_init Q) (ht : (xh X).sig.returnType = none) (hn : (xh X).name = yX3_init.name) {v0 : Nat} {S : HS} (h : P_X3_init_0 Q v0 S) : WS X 1 0 0 0 [(0, .ref v0)] [] S := by
  refine r_aload_n (pc := 0) C dX3_init_0 0 rfl ?_
  refine r_objinit (pc := 1) C g_46 dX3_init_1 (by decide) (Nat.le_of_ble_eq_true rfl) ?_
  exact r_vret (pc := 4) C E ht dX3_init_4 (by decide) (by decide) h
def P_X3_init (v0 : Nat) (Q : HS → Prop) (S : HS) : Prop := P_X3_init_0 Q v0 S
theorem c_X3_init {l : Launch} {Ee : EE} {S : HS} {v0 : Nat} {Q : HS → Prop} (h : P_X3_init v0 Q S) : MV l yX3_init cX3_init 1 none rm_X3_init Ee S [.ref v0] Q :=
  openV (by decide) (Nat.le_of_ble_eq_true rfl) (fun X C E ht hn hE hl => by subst hE; exact r_sub [0] rfl (T_X3_init_0 C E ht hn h))
def rm_X4_fail : Room := { frames := 0, cells := 0, slots := 0, locals := 0 }
def P_X4_fail_0 (Q : Int32 → HS → Prop) (v0 : Nat) (v1 : Int32) (S : HS) : Prop := ob S v0 4 ∧ (∀ S1 : HS, S1 = sI S v0 0 v1 → (∀ x2 : Int32, x2 = fI S1 v0 7 → (∀ S3 : HS, S3 = sI S1 v0 1 x2 → (Q (0 : Int32) S3))))
set_option maxRecDepth 20000 in
set_option maxHeartbeats 4000000 in
theorem T_X4_fail_0 {X : CX} {Q : Int32 → HS → Prop} (C : Cx X cX4_fail RX4 2 rm_X4_fail) (E : ReI X rm_X4_fail (fun r S => bl r ∧ Q r S)) (ht : (xh X).sig.returnType = (some .boolean)) (hn : (xh X).name = yX4_fail.name) {v0 : Nat} {v1 : Int32} {S : HS} (h : P_X4_fail_0 Q v0 v1 S) : WS X 2 0 0 0 [(0, .ref v0), (1, .int v1)] [] S := by
  refine r_aload_n (pc := 0) C dX4_fail_0 0 rfl ?_
  refine r_iload_n (pc := 1) C dX4_fail_1 1 rfl ?_
  obtain ⟨o_v0, h⟩ := h
  refine r_puti (pc := 2) C pfL_X4_110 dX4_fail_2 o_v0 ?_
  refine r_heap (fun S1 eS1 => ?_)
  have h := h S1 eS1
  have o_v0 := ob_I eS1 o_v0
  refine r_aload_n (pc := 5) C dX4_fail_5 0 rfl ?_
  refine r_aload_n (pc := 6) C dX4_fail_6 0 rfl ?_
  refine r_geti (pc := 7) C fL_X4_125 dX4_fail_7 o_v0 ?_
  refine r_topi (fun x2 ex2 => ?_)
  have h := h x2 ex2
  refine r_puti (pc := 10) C pfL_X4_113 dX4_fail_10 o_v0 ?_
  refine r_heap (fun S3 eS3 => ?_)
  have h := h S3 eS3
  have o_v0 := ob_I eS3 o_v0
  refine r_iconst (pc := 13) C (v := (0 : Int32)) dX4_fail_13 (by decide) ?_
  exact r_zret (pc := 14) C E ht dX4_fail_14 (by decide) (by decide) (Or.inl rfl) h
def P_X4_fail (v0 : Nat) (v1 : Int32) (Q : Int32 → HS → Prop) (S : HS) : Prop := P_X4_fail_0 Q v0 v1 S
theorem c_X4_fail {l : Launch} {Ee : EE} {S : HS} {v0 : Nat} {v1 : Int32} {Q : Int32 → HS → Prop} (h : P_X4_fail v0 v1 Q S) : MI l yX4_fail cX4_fail 2 (some .boolean) rm_X4_fail Ee S [.ref v0, .int v1] (fun r S => bl r ∧ Q r S) :=
  openI (by decide) (Nat.le_of_ble_eq_true rfl) (fun X C E ht hn hE hl => by subst hE; exact r_sub [0, 1] rfl (T_X4_fail_0 C E ht hn h))
def rm_X4_sortAt : Room := { frames := 0, cells := 0, slots := 0, locals := 0 }
def P_X4_sortAt_58 (Q : Int32 → HS → Prop) (v2 : Int32) (S : HS) : Prop := (v2.toInt = 32 → (Q (5 : Int32) S)) ∧ (v2.toInt = 44 → (Q (4 : Int32) S)) ∧ (v2.toInt = 59 → (Q (3 : Int32) S)) ∧ (¬ v2.toInt = 32 ∧ ¬ v2.toInt = 44 ∧ ¬ v2.toInt = 59 → (Q (6 : Int32) S))
set_option maxRecDepth 20000 in
set_option maxHeartbeats 4000000 in
theorem T_X4_sortAt_58 {X : CX} {Q : Int32 → HS → Prop} (C : Cx X cX4_sortAt RX4 3 rm_X4_sortAt) (E : ReI X rm_X4_sortAt Q) (ht : (xh X).sig.returnType = (some .int)) (hn : (xh X).name = yX4_sortAt.name) {v2 : Int32} {S : HS} (h : P_X4_sortAt_58 Q v2 S) : WS X 3 0 0 58 [(2, .int v2)] [] S := by
  refine r_iload_n (pc := 58) C dX4_sortAt_58 0 rfl ?_
  by_cases w0 : v2.toInt = 32
  · refine r_lookup (pc := 59) C (tgt := 92) (off := 33) dX4_sortAt_59 rfl (by rw [w0]; rfl) (by decide) ?_
    have h := h.1 w0
    refine r_iconst (pc := 92) C (v := (5 : Int32)) dX4_sortAt_92 (by decide) ?_
    exact r_iret (pc := 93) C E ht dX4_sortAt_93 (by decide) (by decide) h
  by_cases w1 : v2.toInt = 44
  · refine r_lookup (pc := 59) C (tgt := 96) (off := 37) dX4_sortAt_59 rfl (by rw [w1]; rfl) (by decide) ?_
    have h := h.2.1 w1
    refine r_iconst (pc := 96) C (v := (4 : Int32)) dX4_sortAt_96 (by decide) ?_
    exact r_iret (pc := 97) C E ht dX4_sortAt_97 (by decide) (by decide) h
  by_cases w2 : v2.toInt = 59
  · refine r_lookup (pc := 59) C (tgt := 94) (off := 35) dX4_sortAt_59 rfl (by rw [w2]; rfl) (by decide) ?_
    have h := h.2.2.1 w2
    refine r_iconst (pc := 94) C (v := (3 : Int32)) dX4_sortAt_94 (by decide) ?_
    exact r_iret (pc := 95) C E ht dX4_sortAt_95 (by decide) (by decide) h
  refine r_lookup (pc := 59) C (tgt := 98) (off := 39) dX4_sortAt_59 rfl (by simp [Op.lookupswitch.offset]; rw [if_neg (fun q => w0 (Eq.symm q)), if_neg (fun q => w1 (Eq.symm q)), if_neg (fun q => w2 (Eq.symm q))]) (by decide) ?_
  have h := h.2.2.2 ⟨w0, w1, w2⟩
  refine r_bipush (pc := 98) C (v := (6 : Int32)) dX4_sortAt_98 (by decide) ?_
  exact r_iret (pc := 100) C E ht dX4_sortAt_100 (by decide) (by decide) h
def P_X4_sortAt_44 (Q : Int32 → HS → Prop) (v2 : Int32) (S : HS) : Prop := ((v2 < (48 : Int32)) → (P_X4_sortAt_58 Q v2 S)) ∧ ((¬ v2 < (48 : Int32)) → ((((57 : Int32) < v2) → (P_X4_sortAt_58 Q v2 S)) ∧ ((¬ (57 : Int32) < v2) → (Q (2 : Int32) S))))
set_option maxRecDepth 20000 in
set_option maxHeartbeats 4000000 in
theorem T_X4_sortAt_44 {X : CX} {Q : Int32 → HS → Prop} (C : Cx X cX4_sortAt RX4 3 rm_X4_sortAt) (E : ReI X rm_X4_sortAt Q) (ht : (xh X).sig.returnType = (some .int)) (hn : (xh X).name = yX4_sortAt.name) {v2 : Int32} {S : HS} (h : P_X4_sortAt_44 Q v2 S) : WS X 3 0 0 44 [(2, .int v2)] [] S := by
  refine r_iload_n (pc := 44) C dX4_sortAt_44 0 rfl ?_
  refine r_bipush (pc := 45) C (v := (48 : Int32)) dX4_sortAt_45 (by decide) ?_
  refine r_icmp_lt (pc := 47) C (tgt := 58) dX4_sortAt_47 (by decide) (fun c1 => ?_) (fun c1 => ?_)
  · have h := h.1 c1
    exact r_sub [0] rfl (T_X4_sortAt_58 C E ht hn h)
  · have h := h.2 c1
    refine r_iload_n (pc := 50) C dX4_sortAt_50 0 rfl ?_
    refine r_bipush (pc := 51) C (v := (57 : Int32)) dX4_sortAt_51 (by decide) ?_
    refine r_icmp_gt (pc := 53) C (tgt := 58) dX4_sortAt_53 (by decide) (fun c2 => ?_) (fun c2 => ?_)
    · have h := h.1 c2
      exact r_sub [0] rfl (T_X4_sortAt_58 C E ht hn h)
    · have h := h.2 c2
      refine r_iconst (pc := 56) C (v := (2 : Int32)) dX4_sortAt_56 (by decide) ?_
      exact r_iret (pc := 57) C E ht dX4_sortAt_57 (by decide) (by decide) h
def P_X4_sortAt_0 (Q : Int32 → HS → Prop) (v0 : Nat) (v1 : Int32) (S : HS) : Prop := ((v1 < 0) → (Q (0 : Int32) S)) ∧ ((¬ v1 < 0) → (ob S v0 4 ∧ (∀ x2 : Int32, x2 = fI S v0 3 → (((x2 ≤ v1) → (Q (0 : Int32) S)) ∧ ((¬ x2 ≤ v1) → (∃ a4 : Nat, fR S v0 2 = some a4 ∧ (ob S a4 12 ∧ (((v1 < (nI (hN S a4))) → (∃ a6 : Nat, fR S v0 2 = some a6 ∧ (ob S a6 12 ∧ (vp_in v1 (hN S a6) ∧ ∀ x8 : Int32, x8 = fI S a6 v1.toNatClampNeg → (((x8 < (97 : Int32)) → (P_X4_sortAt_44 Q x8 S)) ∧ ((¬ x8 < (97 : Int32)) → ((((122 : Int32) < x8) → (P_X4_sortAt_44 Q x8 S)) ∧ ((¬ (122 : Int32) < x8) → (Q (1 : Int32) S))))))))) ∧ ((¬ v1 < (nI (hN S a4))) → (Q (0 : Int32) S))))))))))
set_option maxRecDepth 20000 in
set_option maxHeartbeats 4000000 in
theorem T_X4_sortAt_0 {X : CX} {Q : Int32 → HS → Prop} (C : Cx X cX4_sortAt RX4 3 rm_X4_sortAt) (E : ReI X rm_X4_sortAt Q) (ht : (xh X).sig.returnType = (some .int)) (hn : (xh X).name = yX4_sortAt.name) {v0 : Nat} {v1 : Int32} {S : HS} (h : P_X4_sortAt_0 Q v0 v1 S) : WS X 3 0 0 0 [(0, .ref v0), (1, .int v1)] [] S := by
  refine r_iload_n (pc := 0) C dX4_sortAt_0 1 rfl ?_
  refine r_if_lt (pc := 1) C (tgt := 21) dX4_sortAt_1 (by decide) (fun c1 => ?_) (fun c1 => ?_)
  · have h := h.1 c1
    refine r_iconst (pc := 21) C (v := (0 : Int32)) dX4_sortAt_21 (by decide) ?_
    exact r_iret (pc := 22) C E ht dX4_sortAt_22 (by decide) (by decide) h
  · have h := h.2 c1
    refine r_iload_n (pc := 4) C dX4_sortAt_4 1 rfl ?_
    refine r_aload_n (pc := 5) C dX4_sortAt_5 0 rfl ?_
    obtain ⟨o_v0, h⟩ := h
    refine r_geti (pc := 6) C fL_X4_104 dX4_sortAt_6 o_v0 ?_
    refine r_topi (fun x2 ex2 => ?_)
    have h := h x2 ex2
    refine r_icmp_ge (pc := 9) C (tgt := 21) dX4_sortAt_9 (by decide) (fun c3 => ?_) (fun c3 => ?_)
    · have h := h.1 c3
      refine r_iconst (pc := 21) C (v := (0 : Int32)) dX4_sortAt_21 (by decide) ?_
      exact r_iret (pc := 22) C E ht dX4_sortAt_22 (by decide) (by decide) h
    · have h := h.2 c3
      refine r_iload_n (pc := 12) C dX4_sortAt_12 1 rfl ?_
      refine r_aload_n (pc := 13) C dX4_sortAt_13 0 rfl ?_
      obtain ⟨a4, ea4, h⟩ := h
      refine r_getr (pc := 14) C fL_X4_9 dX4_sortAt_14 o_v0 ea4 ?_
      obtain ⟨o_a4, h⟩ := h
      refine r_alen12 (pc := 17) C dX4_sortAt_17 o_a4 ?_
      refine r_icmp_lt (pc := 18) C (tgt := 23) dX4_sortAt_18 (by decide) (fun c5 => ?_) (fun c5 => ?_)
      · have h := h.1 c5
        refine r_aload_n (pc := 23) C dX4_sortAt_23 0 rfl ?_
        obtain ⟨a6, ea6, h⟩ := h
        refine r_getr (pc := 24) C fL_X4_9 dX4_sortAt_24 o_v0 ea6 ?_
        refine r_iload_n (pc := 27) C dX4_sortAt_27 1 rfl ?_
        obtain ⟨o_a6, h⟩ := h
        obtain ⟨i7, h⟩ := h
        refine r_bald (pc := 28) C dX4_sortAt_28 o_a6 i7 ?_
        refine r_topi (fun x8 ex8 => ?_)
        have h := h x8 ex8
        refine r_istore_n (pc := 29) C dX4_sortAt_29 rfl (by decide) (lv' := [(2, .int x8), (0, .ref v0), (1, .int v1)]) rfl ?_
        refine r_iload_n (pc := 30) C dX4_sortAt_30 0 rfl ?_
        refine r_bipush (pc := 31) C (v := (97 : Int32)) dX4_sortAt_31 (by decide) ?_
        refine r_icmp_lt (pc := 33) C (tgt := 44) dX4_sortAt_33 (by decide) (fun c9 => ?_) (fun c9 => ?_)
        · have h := h.1 c9
          exact r_sub [0] rfl (T_X4_sortAt_44 C E ht hn h)
        · have h := h.2 c9
          refine r_iload_n (pc := 36) C dX4_sortAt_36 0 rfl ?_
          refine r_bipush (pc := 37) C (v := (122 : Int32)) dX4_sortAt_37 (by decide) ?_
          refine r_icmp_gt (pc := 39) C (tgt := 44) dX4_sortAt_39 (by decide) (fun c10 => ?_) (fun c10 => ?_)
          · have h := h.1 c10
            exact r_sub [0] rfl (T_X4_sortAt_44 C E ht hn h)
          · have h := h.2 c10
            refine r_iconst (pc := 42) C (v := (1 : Int32)) dX4_sortAt_42 (by decide) ?_
            exact r_iret (pc := 43) C E ht dX4_sortAt_43 (by decide) (by decide) h
      · have h := h.2 c5
        refine r_iconst (pc := 21) C (v := (0 : Int32)) dX4_sortAt_21 (by decide) ?_
        exact r_iret (pc := 22) C E ht dX4_sortAt_22 (by decide) (by decide) h
def P_X4_sortAt (v0 : Nat) (v1 : Int32) (Q : Int32 → HS → Prop) (S : HS) : Prop := P_X4_sortAt_0 Q v0 v1 S
theorem c_X4_sortAt {l : Launch} {Ee : EE} {S : HS} {v0 : Nat} {v1 : Int32} {Q : Int32 → HS → Prop} (h : P_X4_sortAt v0 v1 Q S) : MI l yX4_sortAt cX4_sortAt 3 (some .int) rm_X4_sortAt Ee S [.ref v0, .int v1] Q :=
  openI (by decide) (Nat.le_of_ble_eq_true rfl) (fun X C E ht hn hE hl => by subst hE; exact r_sub [0, 1] rfl (T_X4_sortAt_0 C E ht hn h))
def rm_X4_next : Room := { frames := 1, cells := 0, slots := 0, locals := 22 }
def P_X4_next_201 (Q : HS → Prop) (X118 : Nat → Int32 → Int32 → Int32 → Int32 → HS → Prop) (v0 : Nat) (v1 : Int32) (v2 : Int32) (v3 : Int32) (v4 : Int32) (S : HS) : Prop := ob S v0 4 ∧ (∀ x1 : Int32, x1 = fI S v0 4 → (∀ x2 : Int32, x2 = x1 + (1 : Int32) → (∀ S3 : HS, S3 = sI S v0 4 x2 → (∀ x4 : Int32, x4 = v4 + (1 : Int32) → (X118 v0 v1 v2 v3 x4 S3)))))
set_option maxRecDepth 20000 in
set_option maxHeartbeats 4000000 in
theorem T_X4_next_201 {X : CX} {Q : HS → Prop} (C : Cx X cX4_next RX4 5 rm_X4_next) (E : ReV X rm_X4_next Q) (ht : (xh X).sig.returnType = none) (hn : (xh X).name = yX4_next.name) {X118 : Nat → Int32 → Int32 → Int32 → Int32 → HS → Prop} (hX118 : ∀ (v0 : Nat) (v1 : Int32) (v2 : Int32) (v3 : Int32) (v4 : Int32) (S : HS), X118 v0 v1 v2 v3 v4 S → WS X 5 0 0 118 [(0, .ref v0), (1, .int v1), (2, .int v2), (3, .int v3), (4, .int v4)] [] S) {v0 : Nat} {v1 : Int32} {v2 : Int32} {v3 : Int32} {v4 : Int32} {S : HS} (h : P_X4_next_201 Q X118 v0 v1 v2 v3 v4 S) : WS X 5 0 0 201 [(0, .ref v0), (1, .int v1), (2, .int v2), (3, .int v3), (4, .int v4)] [] S := by
  refine r_aload_n (pc := 201) C dX4_next_201 0 rfl ?_
  refine r_dup (pc := 202) C dX4_next_202 rfl ?_
  obtain ⟨o_v0, h⟩ := h
  refine r_geti (pc := 203) C fL_X4_107 dX4_next_203 o_v0 ?_
  refine r_topi (fun x1 ex1 => ?_)
  have h := h x1 ex1
  refine r_iconst (pc := 206) C (v := (1 : Int32)) dX4_next_206 (by decide) ?_
  refine r_iadd (pc := 207) C dX4_next_207 ?_
  refine r_topi (fun x2 ex2 => ?_)
  have h := h x2 ex2
  refine r_puti (pc := 208) C pfL_X4_107 dX4_next_208 o_v0 ?_
  refine r_heap (fun S3 eS3 => ?_)
  have h := h S3 eS3
  have o_v0 := ob_I eS3 o_v0
  obtain ⟨x4, ex4⟩ : ∃ z : Int32, z = v4 + (1 : Int32) := ⟨_, rfl⟩
  have h := h x4 ex4
  refine r_iinc (pc := 211) C (v := x4) (lv' := [(4, .int x4), (0, .ref v0), (1, .int v1), (2, .int v2), (3, .int v3)]) dX4_next_211 4 rfl ex4.symm (by decide) rfl ?_
  refine r_goto (pc := 214) C (tgt := 118) dX4_next_214 (by decide) ?_
  exact r_sub [1, 2, 3, 4, 0] rfl (hX118 v0 v1 v2 v3 x4 S3 h)
def P_X4_next_195 (Q : HS → Prop) (X118 : Nat → Int32 → Int32 → Int32 → Int32 → HS → Prop) (v0 : Nat) (v1 : Int32) (v2 : Int32) (v3 : Int32) (v4 : Int32) (s0 : Nat) (s1 : Int64) (s2 : Int32) (s3 : Int32) (S : HS) : Prop := ob S s0 4 ∧ (∀ x1 : Int64, x1 = s1 + ((s2 &&& s3).toInt64) → (∀ S2 : HS, S2 = sJ S s0 8 x1 → (P_X4_next_201 Q X118 v0 v1 v2 v3 v4 S2)))
set_option maxRecDepth 20000 in
set_option maxHeartbeats 4000000 in
theorem T_X4_next_195 {X : CX} {Q : HS → Prop} (C : Cx X cX4_next RX4 5 rm_X4_next) (E : ReV X rm_X4_next Q) (ht : (xh X).sig.returnType = none) (hn : (xh X).name = yX4_next.name) {X118 : Nat → Int32 → Int32 → Int32 → Int32 → HS → Prop} (hX118 : ∀ (v0 : Nat) (v1 : Int32) (v2 : Int32) (v3 : Int32) (v4 : Int32) (S : HS), X118 v0 v1 v2 v3 v4 S → WS X 5 0 0 118 [(0, .ref v0), (1, .int v1), (2, .int v2), (3, .int v3), (4, .int v4)] [] S) {v0 : Nat} {v1 : Int32} {v2 : Int32} {v3 : Int32} {v4 : Int32} {s0 : Nat} {s1 : Int64} {s2 : Int32} {s3 : Int32} {S : HS} (h : P_X4_next_195 Q X118 v0 v1 v2 v3 v4 s0 s1 s2 s3 S) : WS X 5 0 0 195 [(0, .ref v0), (1, .int v1), (2, .int v2), (3, .int v3), (4, .int v4)] [.int s3, .int s2, .long s1, .ref s0] S := by
  refine r_iand (pc := 195) C dX4_next_195 ?_
  refine r_i2l (pc := 196) C dX4_next_196 ?_
  refine r_ladd (pc := 197) C dX4_next_197 ?_
  obtain ⟨o_s0, h⟩ := h
  refine r_topl (fun x1 ex1 => ?_)
  have h := h x1 ex1
  refine r_putl (pc := 198) C pfL_X4_132 dX4_next_198 o_s0 ?_
  refine r_heap (fun S2 eS2 => ?_)
  have h := h S2 eS2
  have o_s0 := ob_J eS2 o_s0
  exact r_sub [0, 1, 2, 3, 4] rfl (T_X4_next_201 C E ht hn hX118 h)
def P_X4_next_240 (Q : HS → Prop) (v0 : Nat) (v1 : Int32) (S : HS) : Prop := ((¬ v1 = 0) → (Q S)) ∧ ((v1 = 0) → (ob S v0 4 ∧ (∀ x2 : Int32, x2 = fI S v0 6 → (((x2 = 0) → (Q S)) ∧ ((¬ x2 = 0) → (∀ x4 : Int32, x4 = fI S v0 4 → (∀ x5 : Int32, x5 = x4 + (1 : Int32) → (∀ S6 : HS, S6 = sI S v0 4 x5 → (Q S6)))))))))
set_option maxRecDepth 20000 in
set_option maxHeartbeats 4000000 in
theorem T_X4_next_240 {X : CX} {Q : HS → Prop} (C : Cx X cX4_next RX4 5 rm_X4_next) (E : ReV X rm_X4_next Q) (ht : (xh X).sig.returnType = none) (hn : (xh X).name = yX4_next.name) {v0 : Nat} {v1 : Int32} {S : HS} (h : P_X4_next_240 Q v0 v1 S) : WS X 5 0 0 240 [(0, .ref v0), (1, .int v1)] [] S := by
  refine r_iload_n (pc := 240) C dX4_next_240 1 rfl ?_
  refine r_if_ne (pc := 241) C (tgt := 261) dX4_next_241 (by decide) (fun c1 => ?_) (fun c1 => ?_)
  · have h := h.1 c1
    exact r_vret (pc := 261) C E ht dX4_next_261 (by decide) (by decide) h
  · have h := h.2 c1
    refine r_aload_n (pc := 244) C dX4_next_244 0 rfl ?_
    obtain ⟨o_v0, h⟩ := h
    refine r_geti (pc := 245) C fL_X4_92 dX4_next_245 o_v0 ?_
    refine r_topi (fun x2 ex2 => ?_)
    have h := h x2 ex2
    refine r_if_eq (pc := 248) C (tgt := 261) dX4_next_248 (by decide) (fun c3 => ?_) (fun c3 => ?_)
    · have h := h.1 c3
      exact r_vret (pc := 261) C E ht dX4_next_261 (by decide) (by decide) h
    · have h := h.2 c3
      refine r_aload_n (pc := 251) C dX4_next_251 0 rfl ?_
      refine r_dup (pc := 252) C dX4_next_252 rfl ?_
      refine r_geti (pc := 253) C fL_X4_107 dX4_next_253 o_v0 ?_
      refine r_topi (fun x4 ex4 => ?_)
      have h := h x4 ex4
      refine r_iconst (pc := 256) C (v := (1 : Int32)) dX4_next_256 (by decide) ?_
      refine r_iadd (pc := 257) C dX4_next_257 ?_
      refine r_topi (fun x5 ex5 => ?_)
      have h := h x5 ex5
      refine r_puti (pc := 258) C pfL_X4_107 dX4_next_258 o_v0 ?_
      refine r_heap (fun S6 eS6 => ?_)
      have h := h S6 eS6
      have o_v0 := ob_I eS6 o_v0
      exact r_vret (pc := 261) C E ht dX4_next_261 (by decide) (by decide) h
def P_X4_next_217 (Q : HS → Prop) (v0 : Nat) (v1 : Int32) (v2 : Int32) (S : HS) : Prop := ((v1 = 0) → (P_X4_next_240 Q v0 v1 S)) ∧ ((¬ v1 = 0) → (ob S v0 4 ∧ (∀ x2 : Int32, x2 = fI S v0 4 → (∀ x3 : Int32, x3 = fI S v0 7 → ((((x2 - x3) ≤ v2) → (P_X4_next_240 Q v0 v1 S)) ∧ ((¬ (x2 - x3) ≤ v2) → (∀ S5 : HS, S5 = sI S v0 6 (6 : Int32) → (P_X4_next_240 Q v0 v1 S5))))))))
set_option maxRecDepth 20000 in
set_option maxHeartbeats 4000000 in
theorem T_X4_next_217 {X : CX} {Q : HS → Prop} (C : Cx X cX4_next RX4 5 rm_X4_next) (E : ReV X rm_X4_next Q) (ht : (xh X).sig.returnType = none) (hn : (xh X).name = yX4_next.name) {v0 : Nat} {v1 : Int32} {v2 : Int32} {S : HS} (h : P_X4_next_217 Q v0 v1 v2 S) : WS X 5 0 0 217 [(0, .ref v0), (1, .int v1), (2, .int v2)] [] S := by
  refine r_iload_n (pc := 217) C dX4_next_217 1 rfl ?_
  refine r_if_eq (pc := 218) C (tgt := 240) dX4_next_218 (by decide) (fun c1 => ?_) (fun c1 => ?_)
  · have h := h.1 c1
    exact r_sub [0, 1] rfl (T_X4_next_240 C E ht hn h)
  · have h := h.2 c1
    refine r_aload_n (pc := 221) C dX4_next_221 0 rfl ?_
    obtain ⟨o_v0, h⟩ := h
    refine r_geti (pc := 222) C fL_X4_107 dX4_next_222 o_v0 ?_
    refine r_topi (fun x2 ex2 => ?_)
    have h := h x2 ex2
    refine r_aload_n (pc := 225) C dX4_next_225 0 rfl ?_
    refine r_geti (pc := 226) C fL_X4_125 dX4_next_226 o_v0 ?_
    refine r_topi (fun x3 ex3 => ?_)
    have h := h x3 ex3
    refine r_isub (pc := 229) C dX4_next_229 ?_
    refine r_iload_n (pc := 230) C dX4_next_230 2 rfl ?_
    refine r_icmp_le (pc := 231) C (tgt := 240) dX4_next_231 (by decide) (fun c4 => ?_) (fun c4 => ?_)
    · have h := h.1 c4
      exact r_sub [0, 1] rfl (T_X4_next_240 C E ht hn h)
    · have h := h.2 c4
      refine r_aload_n (pc := 234) C dX4_next_234 0 rfl ?_
      refine r_bipush (pc := 235) C (v := (6 : Int32)) dX4_next_235 (by decide) ?_
      refine r_puti (pc := 237) C pfL_X4_92 dX4_next_237 o_v0 ?_
      refine r_heap (fun S5 eS5 => ?_)
      have h := h S5 eS5
      have o_v0 := ob_I eS5 o_v0
      exact r_sub [0, 1] rfl (T_X4_next_240 C E ht hn h)
def B_X4_next_118 (Q : HS → Prop) (X118 : Nat → Int32 → Int32 → Int32 → Int32 → HS → Prop) (v0 : Nat) (v1 : Int32) (v2 : Int32) (v3 : Int32) (v4 : Int32) (S : HS) : Prop := ((v1 = 0) → (P_X4_next_217 Q v0 v1 v2 S)) ∧ ((¬ v1 = 0) → ((((900 : Int32) ≤ v4) → (P_X4_next_217 Q v0 v1 v2 S)) ∧ ((¬ (900 : Int32) ≤ v4) → (ob S v0 4 ∧ (∀ x3 : Int32, x3 = fI S v0 4 → (P_X4_sortAt v0 x3 (fun x6 S4 => Gr S S4 → (∀ x7 : Int32, x7 = fI S4 v0 6 → (((¬ x6 = x7) → (P_X4_next_217 Q v0 v1 v2 S4)) ∧ ((x6 = x7) → (((v2 ≤ v4) → (P_X4_next_201 Q X118 v0 v1 v2 v3 v4 S4)) ∧ ((¬ v2 ≤ v4) → (∀ x10 : Int32, x10 = fI S4 v0 4 → (∃ a11 : Nat, fR S4 v0 2 = some a11 ∧ (ob S4 a11 12 ∧ ((((nI (hN S4 a11)) ≤ x10) → (P_X4_next_201 Q X118 v0 v1 v2 v3 v4 S4)) ∧ ((¬ (nI (hN S4 a11)) ≤ x10) → (∀ x13 : Int64, x13 = fJ S4 v0 8 → (∃ a14 : Nat, fR S4 v0 2 = some a14 ∧ (∀ x15 : Int32, x15 = fI S4 v0 4 → (ob S4 a14 12 ∧ (vp_in x15 (hN S4 a14) ∧ ∀ x17 : Int32, x17 = fI S4 a14 x15.toNatClampNeg → (∀ x18 : Int32, x18 = fI S4 v0 6 → (((¬ x18 = (1 : Int32)) → (P_X4_next_195 Q X118 v0 v1 v2 v3 v4 v0 (x13 * v3.toInt64) x17 (15 : Int32) S4)) ∧ ((x18 = (1 : Int32)) → (P_X4_next_195 Q X118 v0 v1 v2 v3 v4 v0 (x13 * v3.toInt64) x17 (31 : Int32) S4)))))))))))))))))))) S))))))
def P_X4_next_118 (Q : HS → Prop) (v0 : Nat) (v1 : Int32) (v2 : Int32) (v3 : Int32) (v4 : Int32) (S : HS) : Prop := ∀ X118 : Nat → Int32 → Int32 → Int32 → Int32 → HS → Prop, (∀ (v0 : Nat) (v1 : Int32) (v2 : Int32) (v3 : Int32) (v4 : Int32) (S : HS), B_X4_next_118 Q X118 v0 v1 v2 v3 v4 S → X118 v0 v1 v2 v3 v4 S) → X118 v0 v1 v2 v3 v4 S
set_option maxRecDepth 20000 in
set_option maxHeartbeats 4000000 in
theorem TB_X4_next_118 {X : CX} {Q : HS → Prop} (C : Cx X cX4_next RX4 5 rm_X4_next) (E : ReV X rm_X4_next Q) (ht : (xh X).sig.returnType = none) (hn : (xh X).name = yX4_next.name) {X118 : Nat → Int32 → Int32 → Int32 → Int32 → HS → Prop} (hX118 : ∀ (v0 : Nat) (v1 : Int32) (v2 : Int32) (v3 : Int32) (v4 : Int32) (S : HS), X118 v0 v1 v2 v3 v4 S → WS X 5 0 0 118 [(0, .ref v0), (1, .int v1), (2, .int v2), (3, .int v3), (4, .int v4)] [] S) {v0 : Nat} {v1 : Int32} {v2 : Int32} {v3 : Int32} {v4 : Int32} {S : HS} (h : B_X4_next_118 Q X118 v0 v1 v2 v3 v4 S) : WS X 5 0 0 118 [(0, .ref v0), (1, .int v1), (2, .int v2), (3, .int v3), (4, .int v4)] [] S := by
  refine r_iload_n (pc := 118) C dX4_next_118 1 rfl ?_
  refine r_if_eq (pc := 119) C (tgt := 217) dX4_next_119 (by decide) (fun c1 => ?_) (fun c1 => ?_)
  · have h := h.1 c1
    exact r_sub [0, 1, 2] rfl (T_X4_next_217 C E ht hn h)
  · have h := h.2 c1
    refine r_iload (pc := 122) C dX4_next_122 4 rfl ?_
    refine r_sipush (pc := 124) C (v := (900 : Int32)) dX4_next_124 (by decide) ?_
    refine r_icmp_ge (pc := 127) C (tgt := 217) dX4_next_127 (by decide) (fun c2 => ?_) (fun c2 => ?_)
    · have h := h.1 c2
      exact r_sub [0, 1, 2] rfl (T_X4_next_217 C E ht hn h)
    · have h := h.2 c2
      refine r_aload_n (pc := 130) C dX4_next_130 0 rfl ?_
      refine r_aload_n (pc := 131) C dX4_next_131 0 rfl ?_
      obtain ⟨o_v0, h⟩ := h
      refine r_geti (pc := 132) C fL_X4_107 dX4_next_132 o_v0 ?_
      refine r_topi (fun x3 ex3 => ?_)
      have h := h x3 ex3
      refine r_callVi0 (pc := 135) C (rest := []) (a := v0) o_v0 [.int x3] yV_X4_sortAt g_453 (c_X4_sortAt h) dX4_next_135 rfl rfl (Nat.le_of_ble_eq_true rfl) ⟨by decide, by decide⟩ ⟨by decide, by decide⟩ ⟨rfl, rfl⟩ (fun x6 S4 h g5 => ?_)
      have h := h g5
      have o_v0 := gr_ob g5 o_v0
      refine r_aload_n (pc := 138) C dX4_next_138 0 rfl ?_
      refine r_geti (pc := 139) C fL_X4_92 dX4_next_139 o_v0 ?_
      refine r_topi (fun x7 ex7 => ?_)
      have h := h x7 ex7
      refine r_icmp_ne (pc := 142) C (tgt := 217) dX4_next_142 (by decide) (fun c8 => ?_) (fun c8 => ?_)
      · have h := h.1 c8
        exact r_sub [0, 1, 2] rfl (T_X4_next_217 C E ht hn h)
      · have h := h.2 c8
        refine r_iload (pc := 145) C dX4_next_145 4 rfl ?_
        refine r_iload_n (pc := 147) C dX4_next_147 2 rfl ?_
        refine r_icmp_ge (pc := 148) C (tgt := 201) dX4_next_148 (by decide) (fun c9 => ?_) (fun c9 => ?_)
        · have h := h.1 c9
          exact r_sub [0, 1, 2, 3, 4] rfl (T_X4_next_201 C E ht hn hX118 h)
        · have h := h.2 c9
          refine r_aload_n (pc := 151) C dX4_next_151 0 rfl ?_
          refine r_geti (pc := 152) C fL_X4_107 dX4_next_152 o_v0 ?_
          refine r_topi (fun x10 ex10 => ?_)
          have h := h x10 ex10
          refine r_aload_n (pc := 155) C dX4_next_155 0 rfl ?_
          obtain ⟨a11, ea11, h⟩ := h
          refine r_getr (pc := 156) C fL_X4_9 dX4_next_156 o_v0 ea11 ?_
          obtain ⟨o_a11, h⟩ := h
          refine r_alen12 (pc := 159) C dX4_next_159 o_a11 ?_
          refine r_icmp_ge (pc := 160) C (tgt := 201) dX4_next_160 (by decide) (fun c12 => ?_) (fun c12 => ?_)
          · have h := h.1 c12
            exact r_sub [0, 1, 2, 3, 4] rfl (T_X4_next_201 C E ht hn hX118 h)
          · have h := h.2 c12
            refine r_aload_n (pc := 163) C dX4_next_163 0 rfl ?_
            refine r_aload_n (pc := 164) C dX4_next_164 0 rfl ?_
            refine r_getl (pc := 165) C fL_X4_132 dX4_next_165 o_v0 ?_
            refine r_topl (fun x13 ex13 => ?_)
            have h := h x13 ex13
            refine r_iload_n (pc := 168) C dX4_next_168 3 rfl ?_
            refine r_i2l (pc := 169) C dX4_next_169 ?_
            refine r_lmul (pc := 170) C dX4_next_170 ?_
            refine r_aload_n (pc := 171) C dX4_next_171 0 rfl ?_
            obtain ⟨a14, ea14, h⟩ := h
            refine r_getr (pc := 172) C fL_X4_9 dX4_next_172 o_v0 ea14 ?_
            refine r_aload_n (pc := 175) C dX4_next_175 0 rfl ?_
            refine r_geti (pc := 176) C fL_X4_107 dX4_next_176 o_v0 ?_
            refine r_topi (fun x15 ex15 => ?_)
            have h := h x15 ex15
            obtain ⟨o_a14, h⟩ := h
            obtain ⟨i16, h⟩ := h
            refine r_bald (pc := 179) C dX4_next_179 o_a14 i16 ?_
            refine r_topi (fun x17 ex17 => ?_)
            have h := h x17 ex17
            refine r_aload_n (pc := 180) C dX4_next_180 0 rfl ?_
            refine r_geti (pc := 181) C fL_X4_92 dX4_next_181 o_v0 ?_
            refine r_topi (fun x18 ex18 => ?_)
            have h := h x18 ex18
            refine r_iconst (pc := 184) C (v := (1 : Int32)) dX4_next_184 (by decide) ?_
            refine r_icmp_ne (pc := 185) C (tgt := 193) dX4_next_185 (by decide) (fun c19 => ?_) (fun c19 => ?_)
            · have h := h.1 c19
              refine r_bipush (pc := 193) C (v := (15 : Int32)) dX4_next_193 (by decide) ?_
              exact r_sub [0, 1, 2, 3, 4] rfl (T_X4_next_195 C E ht hn hX118 h)
            · have h := h.2 c19
              refine r_bipush (pc := 188) C (v := (31 : Int32)) dX4_next_188 (by decide) ?_
              refine r_goto (pc := 190) C (tgt := 195) dX4_next_190 (by decide) ?_
              exact r_sub [0, 1, 2, 3, 4] rfl (T_X4_next_195 C E ht hn hX118 h)
theorem T_X4_next_118 {X : CX} {Q : HS → Prop} (C : Cx X cX4_next RX4 5 rm_X4_next) (E : ReV X rm_X4_next Q) (ht : (xh X).sig.returnType = none) (hn : (xh X).name = yX4_next.name) {v0 : Nat} {v1 : Int32} {v2 : Int32} {v3 : Int32} {v4 : Int32} {S : HS} (h : P_X4_next_118 Q v0 v1 v2 v3 v4 S) : WS X 5 0 0 118 [(0, .ref v0), (1, .int v1), (2, .int v2), (3, .int v3), (4, .int v4)] [] S :=
  h (fun v0 v1 v2 v3 v4 S => WS X 5 0 0 118 [(0, .ref v0), (1, .int v1), (2, .int v2), (3, .int v3), (4, .int v4)] [] S) (fun v0 v1 v2 v3 v4 S hh => TB_X4_next_118 C E ht hn (fun v0 v1 v2 v3 v4 S z => z) hh)
def P_X4_next_114 (Q : HS → Prop) (v0 : Nat) (v1 : Int32) (v2 : Int32) (s0 : Int32) (S : HS) : Prop := P_X4_next_118 Q v0 v1 v2 s0 (0 : Int32) S
set_option maxRecDepth 20000 in
set_option maxHeartbeats 4000000 in
theorem T_X4_next_114 {X : CX} {Q : HS → Prop} (C : Cx X cX4_next RX4 5 rm_X4_next) (E : ReV X rm_X4_next Q) (ht : (xh X).sig.returnType = none) (hn : (xh X).name = yX4_next.name) {v0 : Nat} {v1 : Int32} {v2 : Int32} {s0 : Int32} {S : HS} (h : P_X4_next_114 Q v0 v1 v2 s0 S) : WS X 5 0 0 114 [(0, .ref v0), (1, .int v1), (2, .int v2)] [.int s0] S := by
  refine r_istore_n (pc := 114) C dX4_next_114 rfl (by decide) (lv' := [(3, .int s0), (0, .ref v0), (1, .int v1), (2, .int v2)]) rfl ?_
  refine r_iconst (pc := 115) C (v := (0 : Int32)) dX4_next_115 (by decide) ?_
  refine r_istore (pc := 116) C dX4_next_116 (by decide) (lv' := [(4, .int (0 : Int32)), (3, .int s0), (0, .ref v0), (1, .int v1), (2, .int v2)]) rfl ?_
  exact r_sub [2, 3, 4, 1, 0] rfl (T_X4_next_118 C E ht hn h)
def P_X4_next_98 (Q : HS → Prop) (v0 : Nat) (v1 : Int32) (s0 : Int32) (S : HS) : Prop := ob S v0 4 ∧ (∀ x1 : Int32, x1 = fI S v0 6 → (((¬ x1 = (1 : Int32)) → (P_X4_next_114 Q v0 v1 s0 (10 : Int32) S)) ∧ ((x1 = (1 : Int32)) → (P_X4_next_114 Q v0 v1 s0 (32 : Int32) S))))
set_option maxRecDepth 20000 in
set_option maxHeartbeats 4000000 in
theorem T_X4_next_98 {X : CX} {Q : HS → Prop} (C : Cx X cX4_next RX4 5 rm_X4_next) (E : ReV X rm_X4_next Q) (ht : (xh X).sig.returnType = none) (hn : (xh X).name = yX4_next.name) {v0 : Nat} {v1 : Int32} {s0 : Int32} {S : HS} (h : P_X4_next_98 Q v0 v1 s0 S) : WS X 5 0 0 98 [(0, .ref v0), (1, .int v1)] [.int s0] S := by
  refine r_istore_n (pc := 98) C dX4_next_98 rfl (by decide) (lv' := [(2, .int s0), (0, .ref v0), (1, .int v1)]) rfl ?_
  refine r_aload_n (pc := 99) C dX4_next_99 1 rfl ?_
  obtain ⟨o_v0, h⟩ := h
  refine r_geti (pc := 100) C fL_X4_92 dX4_next_100 o_v0 ?_
  refine r_topi (fun x1 ex1 => ?_)
  have h := h x1 ex1
  refine r_iconst (pc := 103) C (v := (1 : Int32)) dX4_next_103 (by decide) ?_
  refine r_icmp_ne (pc := 104) C (tgt := 112) dX4_next_104 (by decide) (fun c2 => ?_) (fun c2 => ?_)
  · have h := h.1 c2
    refine r_bipush (pc := 112) C (v := (10 : Int32)) dX4_next_112 (by decide) ?_
    exact r_sub [1, 2, 0] rfl (T_X4_next_114 C E ht hn h)
  · have h := h.2 c2
    refine r_bipush (pc := 107) C (v := (32 : Int32)) dX4_next_107 (by decide) ?_
    refine r_goto (pc := 109) C (tgt := 114) dX4_next_109 (by decide) ?_
    exact r_sub [1, 2, 0] rfl (T_X4_next_114 C E ht hn h)
def P_X4_next_83 (Q : HS → Prop) (v0 : Nat) (s0 : Int32) (S : HS) : Prop := ob S v0 4 ∧ (∀ x1 : Int32, x1 = fI S v0 6 → (((¬ x1 = (1 : Int32)) → (P_X4_next_98 Q v0 s0 (3 : Int32) S)) ∧ ((x1 = (1 : Int32)) → (P_X4_next_98 Q v0 s0 (8 : Int32) S))))
set_option maxRecDepth 20000 in
set_option maxHeartbeats 4000000 in
theorem T_X4_next_83 {X : CX} {Q : HS → Prop} (C : Cx X cX4_next RX4 5 rm_X4_next) (E : ReV X rm_X4_next Q) (ht : (xh X).sig.returnType = none) (hn : (xh X).name = yX4_next.name) {v0 : Nat} {s0 : Int32} {S : HS} (h : P_X4_next_83 Q v0 s0 S) : WS X 5 0 0 83 [(0, .ref v0)] [.int s0] S := by
  refine r_istore_n (pc := 83) C dX4_next_83 rfl (by decide) (lv' := [(1, .int s0), (0, .ref v0)]) rfl ?_
  refine r_aload_n (pc := 84) C dX4_next_84 1 rfl ?_
  obtain ⟨o_v0, h⟩ := h
  refine r_geti (pc := 85) C fL_X4_92 dX4_next_85 o_v0 ?_
  refine r_topi (fun x1 ex1 => ?_)
  have h := h x1 ex1
  refine r_iconst (pc := 88) C (v := (1 : Int32)) dX4_next_88 (by decide) ?_
  refine r_icmp_ne (pc := 89) C (tgt := 97) dX4_next_89 (by decide) (fun c2 => ?_) (fun c2 => ?_)
  · have h := h.1 c2
    refine r_iconst (pc := 97) C (v := (3 : Int32)) dX4_next_97 (by decide) ?_
    exact r_sub [1, 0] rfl (T_X4_next_98 C E ht hn h)
  · have h := h.2 c2
    refine r_bipush (pc := 92) C (v := (8 : Int32)) dX4_next_92 (by decide) ?_
    refine r_goto (pc := 94) C (tgt := 98) dX4_next_94 (by decide) ?_
    exact r_sub [1, 0] rfl (T_X4_next_98 C E ht hn h)
def P_X4_next_78 (Q : HS → Prop) (v0 : Nat) (S : HS) : Prop := P_X4_next_83 Q v0 (1 : Int32) S
set_option maxRecDepth 20000 in
set_option maxHeartbeats 4000000 in
theorem T_X4_next_78 {X : CX} {Q : HS → Prop} (C : Cx X cX4_next RX4 5 rm_X4_next) (E : ReV X rm_X4_next Q) (ht : (xh X).sig.returnType = none) (hn : (xh X).name = yX4_next.name) {v0 : Nat} {S : HS} (h : P_X4_next_78 Q v0 S) : WS X 5 0 0 78 [(0, .ref v0)] [] S := by
  refine r_iconst (pc := 78) C (v := (1 : Int32)) dX4_next_78 (by decide) ?_
  refine r_goto (pc := 79) C (tgt := 83) dX4_next_79 (by decide) ?_
  exact r_sub [0] rfl (T_X4_next_83 C E ht hn h)
def P_X4_next_37 (Q : HS → Prop) (v0 : Nat) (S : HS) : Prop := ob S v0 4 ∧ (∀ x1 : Int32, x1 = fI S v0 4 → (∀ S2 : HS, S2 = sI S v0 7 x1 → (∀ x3 : Int32, x3 = fI S2 v0 4 → (P_X4_sortAt v0 x3 (fun x6 S4 => Gr S2 S4 → (∀ S7 : HS, S7 = sI S4 v0 6 x6 → (∀ S8 : HS, S8 = sJ S7 v0 8 (0 : Int64) → (∀ x9 : Int32, x9 = fI S8 v0 6 → (((x9 = (1 : Int32)) → (P_X4_next_78 Q v0 S8)) ∧ ((¬ x9 = (1 : Int32)) → (∀ x11 : Int32, x11 = fI S8 v0 6 → (((¬ x11 = (2 : Int32)) → (P_X4_next_83 Q v0 (0 : Int32) S8)) ∧ ((x11 = (2 : Int32)) → (P_X4_next_78 Q v0 S8)))))))))) S2))))
set_option maxRecDepth 20000 in
set_option maxHeartbeats 4000000 in
theorem T_X4_next_37 {X : CX} {Q : HS → Prop} (C : Cx X cX4_next RX4 5 rm_X4_next) (E : ReV X rm_X4_next Q) (ht : (xh X).sig.returnType = none) (hn : (xh X).name = yX4_next.name) {v0 : Nat} {S : HS} (h : P_X4_next_37 Q v0 S) : WS X 5 0 0 37 [(0, .ref v0)] [] S := by
  refine r_aload_n (pc := 37) C dX4_next_37 0 rfl ?_
  refine r_aload_n (pc := 38) C dX4_next_38 0 rfl ?_
  obtain ⟨o_v0, h⟩ := h
  refine r_geti (pc := 39) C fL_X4_107 dX4_next_39 o_v0 ?_
  refine r_topi (fun x1 ex1 => ?_)
  have h := h x1 ex1
  refine r_puti (pc := 42) C pfL_X4_125 dX4_next_42 o_v0 ?_
  refine r_heap (fun S2 eS2 => ?_)
  have h := h S2 eS2
  have o_v0 := ob_I eS2 o_v0
  refine r_aload_n (pc := 45) C dX4_next_45 0 rfl ?_
  refine r_aload_n (pc := 46) C dX4_next_46 0 rfl ?_
  refine r_aload_n (pc := 47) C dX4_next_47 0 rfl ?_
  refine r_geti (pc := 48) C fL_X4_107 dX4_next_48 o_v0 ?_
  refine r_topi (fun x3 ex3 => ?_)
  have h := h x3 ex3
  refine r_callVi0 (pc := 51) C (rest := [.ref v0]) (a := v0) o_v0 [.int x3] yV_X4_sortAt g_453 (c_X4_sortAt h) dX4_next_51 rfl rfl (Nat.le_of_ble_eq_true rfl) ⟨by decide, by decide⟩ ⟨by decide, by decide⟩ ⟨rfl, rfl⟩ (fun x6 S4 h g5 => ?_)
  have h := h g5
  have o_v0 := gr_ob g5 o_v0
  refine r_puti (pc := 54) C pfL_X4_92 dX4_next_54 o_v0 ?_
  refine r_heap (fun S7 eS7 => ?_)
  have h := h S7 eS7
  have o_v0 := ob_I eS7 o_v0
  refine r_aload_n (pc := 57) C dX4_next_57 0 rfl ?_
  refine r_lconst (pc := 58) C (v := (0 : Int64)) dX4_next_58 (by decide) ?_
  refine r_putl (pc := 59) C pfL_X4_132 dX4_next_59 o_v0 ?_
  refine r_heap (fun S8 eS8 => ?_)
  have h := h S8 eS8
  have o_v0 := ob_J eS8 o_v0
  refine r_aload_n (pc := 62) C dX4_next_62 0 rfl ?_
  refine r_geti (pc := 63) C fL_X4_92 dX4_next_63 o_v0 ?_
  refine r_topi (fun x9 ex9 => ?_)
  have h := h x9 ex9
  refine r_iconst (pc := 66) C (v := (1 : Int32)) dX4_next_66 (by decide) ?_
  refine r_icmp_eq (pc := 67) C (tgt := 78) dX4_next_67 (by decide) (fun c10 => ?_) (fun c10 => ?_)
  · have h := h.1 c10
    exact r_sub [0] rfl (T_X4_next_78 C E ht hn h)
  · have h := h.2 c10
    refine r_aload_n (pc := 70) C dX4_next_70 0 rfl ?_
    refine r_geti (pc := 71) C fL_X4_92 dX4_next_71 o_v0 ?_
    refine r_topi (fun x11 ex11 => ?_)
    have h := h x11 ex11
    refine r_iconst (pc := 74) C (v := (2 : Int32)) dX4_next_74 (by decide) ?_
    refine r_icmp_ne (pc := 75) C (tgt := 82) dX4_next_75 (by decide) (fun c12 => ?_) (fun c12 => ?_)
    · have h := h.1 c12
      refine r_iconst (pc := 82) C (v := (0 : Int32)) dX4_next_82 (by decide) ?_
      exact r_sub [0] rfl (T_X4_next_83 C E ht hn h)
    · have h := h.2 c12
      exact r_sub [0] rfl (T_X4_next_78 C E ht hn h)
def B_X4_next_2 (Q : HS → Prop) (X2 : Nat → Int32 → HS → Prop) (v0 : Nat) (v1 : Int32) (S : HS) : Prop := (((900 : Int32) ≤ v1) → (P_X4_next_37 Q v0 S)) ∧ ((¬ (900 : Int32) ≤ v1) → (ob S v0 4 ∧ (∀ x2 : Int32, x2 = fI S v0 4 → (P_X4_sortAt v0 x2 (fun x5 S3 => Gr S S3 → (((¬ x5 = (5 : Int32)) → (P_X4_next_37 Q v0 S3)) ∧ ((x5 = (5 : Int32)) → (∀ x7 : Int32, x7 = fI S3 v0 4 → (∀ x8 : Int32, x8 = x7 + (1 : Int32) → (∀ S9 : HS, S9 = sI S3 v0 4 x8 → (∀ x10 : Int32, x10 = v1 + (1 : Int32) → (X2 v0 x10 S9)))))))) S))))
def P_X4_next_2 (Q : HS → Prop) (v0 : Nat) (v1 : Int32) (S : HS) : Prop := ∀ X2 : Nat → Int32 → HS → Prop, (∀ (v0 : Nat) (v1 : Int32) (S : HS), B_X4_next_2 Q X2 v0 v1 S → X2 v0 v1 S) → X2 v0 v1 S
set_option maxRecDepth 20000 in
set_option maxHeartbeats 4000000 in
theorem TB_X4_next_2 {X : CX} {Q : HS → Prop} (C : Cx X cX4_next RX4 5 rm_X4_next) (E : ReV X rm_X4_next Q) (ht : (xh X).sig.returnType = none) (hn : (xh X).name = yX4_next.name) {X2 : Nat → Int32 → HS → Prop} (hX2 : ∀ (v0 : Nat) (v1 : Int32) (S : HS), X2 v0 v1 S → WS X 5 0 0 2 [(0, .ref v0), (1, .int v1)] [] S) {v0 : Nat} {v1 : Int32} {S : HS} (h : B_X4_next_2 Q X2 v0 v1 S) : WS X 5 0 0 2 [(0, .ref v0), (1, .int v1)] [] S := by
  refine r_iload_n (pc := 2) C dX4_next_2 1 rfl ?_
  refine r_sipush (pc := 3) C (v := (900 : Int32)) dX4_next_3 (by decide) ?_
  refine r_icmp_ge (pc := 6) C (tgt := 37) dX4_next_6 (by decide) (fun c1 => ?_) (fun c1 => ?_)
  · have h := h.1 c1
    exact r_sub [0] rfl (T_X4_next_37 C E ht hn h)
  · have h := h.2 c1
    refine r_aload_n (pc := 9) C dX4_next_9 0 rfl ?_
    refine r_aload_n (pc := 10) C dX4_next_10 0 rfl ?_
    obtain ⟨o_v0, h⟩ := h
    refine r_geti (pc := 11) C fL_X4_107 dX4_next_11 o_v0 ?_
    refine r_topi (fun x2 ex2 => ?_)
    have h := h x2 ex2
    refine r_callVi0 (pc := 14) C (rest := []) (a := v0) o_v0 [.int x2] yV_X4_sortAt g_453 (c_X4_sortAt h) dX4_next_14 rfl rfl (Nat.le_of_ble_eq_true rfl) ⟨by decide, by decide⟩ ⟨by decide, by decide⟩ ⟨rfl, rfl⟩ (fun x5 S3 h g4 => ?_)
    have h := h g4
    have o_v0 := gr_ob g4 o_v0
    refine r_iconst (pc := 17) C (v := (5 : Int32)) dX4_next_17 (by decide) ?_
    refine r_icmp_ne (pc := 18) C (tgt := 37) dX4_next_18 (by decide) (fun c6 => ?_) (fun c6 => ?_)
    · have h := h.1 c6
      exact r_sub [0] rfl (T_X4_next_37 C E ht hn h)
    · have h := h.2 c6
      refine r_aload_n (pc := 21) C dX4_next_21 0 rfl ?_
      refine r_dup (pc := 22) C dX4_next_22 rfl ?_
      refine r_geti (pc := 23) C fL_X4_107 dX4_next_23 o_v0 ?_
      refine r_topi (fun x7 ex7 => ?_)
      have h := h x7 ex7
      refine r_iconst (pc := 26) C (v := (1 : Int32)) dX4_next_26 (by decide) ?_
      refine r_iadd (pc := 27) C dX4_next_27 ?_
      refine r_topi (fun x8 ex8 => ?_)
      have h := h x8 ex8
      refine r_puti (pc := 28) C pfL_X4_107 dX4_next_28 o_v0 ?_
      refine r_heap (fun S9 eS9 => ?_)
      have h := h S9 eS9
      have o_v0 := ob_I eS9 o_v0
      obtain ⟨x10, ex10⟩ : ∃ z : Int32, z = v1 + (1 : Int32) := ⟨_, rfl⟩
      have h := h x10 ex10
      refine r_iinc (pc := 31) C (v := x10) (lv' := [(1, .int x10), (0, .ref v0)]) dX4_next_31 1 rfl ex10.symm (by decide) rfl ?_
      refine r_goto (pc := 34) C (tgt := 2) dX4_next_34 (by decide) ?_
      exact r_sub [1, 0] rfl (hX2 v0 x10 S9 h)
theorem T_X4_next_2 {X : CX} {Q : HS → Prop} (C : Cx X cX4_next RX4 5 rm_X4_next) (E : ReV X rm_X4_next Q) (ht : (xh X).sig.returnType = none) (hn : (xh X).name = yX4_next.name) {v0 : Nat} {v1 : Int32} {S : HS} (h : P_X4_next_2 Q v0 v1 S) : WS X 5 0 0 2 [(0, .ref v0), (1, .int v1)] [] S :=
  h (fun v0 v1 S => WS X 5 0 0 2 [(0, .ref v0), (1, .int v1)] [] S) (fun v0 v1 S hh => TB_X4_next_2 C E ht hn (fun v0 v1 S z => z) hh)
def P_X4_next_0 (Q : HS → Prop) (v0 : Nat) (S : HS) : Prop := P_X4_next_2 Q v0 (0 : Int32) S
set_option maxRecDepth 20000 in
set_option maxHeartbeats 4000000 in
theorem T_X4_next_0 {X : CX} {Q : HS → Prop} (C : Cx X cX4_next RX4 5 rm_X4_next) (E : ReV X rm_X4_next Q) (ht : (xh X).sig.returnType = none) (hn : (xh X).name = yX4_next.name) {v0 : Nat} {S : HS} (h : P_X4_next_0 Q v0 S) : WS X 5 0 0 0 [(0, .ref v0)] [] S := by
  refine r_iconst (pc := 0) C (v := (0 : Int32)) dX4_next_0 (by decide) ?_
  refine r_istore_n (pc := 1) C dX4_next_1 rfl (by decide) (lv' := [(1, .int (0 : Int32)), (0, .ref v0)]) rfl ?_
  exact r_sub [1, 0] rfl (T_X4_next_2 C E ht hn h)
def P_X4_next (v0 : Nat) (Q : HS → Prop) (S : HS) : Prop := P_X4_next_0 Q v0 S
theorem c_X4_next {l : Launch} {Ee : EE} {S : HS} {v0 : Nat} {Q : HS → Prop} (h : P_X4_next v0 Q S) : MV l yX4_next cX4_next 5 none rm_X4_next Ee S [.ref v0] Q :=
  openV (by decide) (Nat.le_of_ble_eq_true rfl) (fun X C E ht hn hE hl => by subst hE; exact r_sub [0] rfl (T_X4_next_0 C E ht hn h))
def rm_X4_whole : Room := { frames := 2, cells := 0, slots := 0, locals := 46 }
def P_X4_whole_34 (Q : Int32 → HS → Prop) (v0 : Nat) (S : HS) : Prop := ob S v0 4 ∧ (P_X4_fail v0 (4 : Int32) (fun x3 S1 => Gr S S1 → bl x3 → (bl x3 ∧ Q x3 S1)) S)
set_option maxRecDepth 20000 in
set_option maxHeartbeats 4000000 in
theorem T_X4_whole_34 {X : CX} {Q : Int32 → HS → Prop} (C : Cx X cX4_whole RX4 3 rm_X4_whole) (E : ReI X rm_X4_whole (fun r S => bl r ∧ Q r S)) (ht : (xh X).sig.returnType = (some .boolean)) (hn : (xh X).name = yX4_whole.name) {v0 : Nat} {S : HS} (h : P_X4_whole_34 Q v0 S) : WS X 3 0 0 34 [(0, .ref v0)] [] S := by
  refine r_aload_n (pc := 34) C dX4_whole_34 0 rfl ?_
  refine r_iconst (pc := 35) C (v := (4 : Int32)) dX4_whole_35 (by decide) ?_
  obtain ⟨o_v0, h⟩ := h
  refine r_callVi0 (pc := 36) C (rest := []) (a := v0) o_v0 [.int (4 : Int32)] yV_X4_fail g_519 (c_X4_fail h) dX4_whole_36 rfl rfl (Nat.le_of_ble_eq_true rfl) ⟨by decide, by decide⟩ ⟨by decide, by decide⟩ ⟨rfl, rfl⟩ (fun x3 S1 h g2 => ?_)
  have bx3 := h.1
  have h := h.2 g2 bx3
  have o_v0 := gr_ob g2 o_v0
  exact r_zret (pc := 39) C E ht dX4_whole_39 (by decide) (by decide) h.1 h.2
def P_X4_whole_0 (Q : Int32 → HS → Prop) (v0 : Nat) (v1 : Int32) (v2 : Int32) (S : HS) : Prop := ob S v0 4 ∧ (∀ x1 : Int32, x1 = fI S v0 6 → (((x1 = (2 : Int32)) → (∀ x3 : Int64, x3 = fJ S v0 8 → ((((lg_cmp x3 v1.toInt64) < 0) → (P_X4_whole_34 Q v0 S)) ∧ ((¬ (lg_cmp x3 v1.toInt64) < 0) → (∀ x5 : Int64, x5 = fJ S v0 8 → ((((lg_cmp x5 v2.toInt64) ≤ 0) → (∀ x7 : Int64, x7 = fJ S v0 8 → (∀ x8 : Int32, x8 = x7.toInt32 → (∀ S9 : HS, S9 = sI S v0 9 x8 → (P_X4_next v0 (fun S10 => Gr S9 S10 → (Q (1 : Int32) S10)) S9))))) ∧ ((¬ (lg_cmp x5 v2.toInt64) ≤ 0) → (P_X4_whole_34 Q v0 S)))))))) ∧ ((¬ x1 = (2 : Int32)) → (P_X4_fail v0 (1 : Int32) (fun x15 S13 => Gr S S13 → bl x15 → (bl x15 ∧ Q x15 S13)) S))))
set_option maxRecDepth 20000 in
set_option maxHeartbeats 4000000 in
theorem T_X4_whole_0 {X : CX} {Q : Int32 → HS → Prop} (C : Cx X cX4_whole RX4 3 rm_X4_whole) (E : ReI X rm_X4_whole (fun r S => bl r ∧ Q r S)) (ht : (xh X).sig.returnType = (some .boolean)) (hn : (xh X).name = yX4_whole.name) {v0 : Nat} {v1 : Int32} {v2 : Int32} {S : HS} (h : P_X4_whole_0 Q v0 v1 v2 S) : WS X 3 0 0 0 [(0, .ref v0), (1, .int v1), (2, .int v2)] [] S := by
  refine r_aload_n (pc := 0) C dX4_whole_0 0 rfl ?_
  obtain ⟨o_v0, h⟩ := h
  refine r_geti (pc := 1) C fL_X4_92 dX4_whole_1 o_v0 ?_
  refine r_topi (fun x1 ex1 => ?_)
  have h := h x1 ex1
  refine r_iconst (pc := 4) C (v := (2 : Int32)) dX4_whole_4 (by decide) ?_
  refine r_icmp_eq (pc := 5) C (tgt := 14) dX4_whole_5 (by decide) (fun c2 => ?_) (fun c2 => ?_)
  · have h := h.1 c2
    refine r_aload_n (pc := 14) C dX4_whole_14 0 rfl ?_
    refine r_getl (pc := 15) C fL_X4_132 dX4_whole_15 o_v0 ?_
    refine r_topl (fun x3 ex3 => ?_)
    have h := h x3 ex3
    refine r_iload_n (pc := 18) C dX4_whole_18 1 rfl ?_
    refine r_i2l (pc := 19) C dX4_whole_19 ?_
    refine r_lcmp (pc := 20) C dX4_whole_20 ?_
    refine r_if_lt (pc := 21) C (tgt := 34) dX4_whole_21 (by decide) (fun c4 => ?_) (fun c4 => ?_)
    · have h := h.1 c4
      exact r_sub [0] rfl (T_X4_whole_34 C E ht hn h)
    · have h := h.2 c4
      refine r_aload_n (pc := 24) C dX4_whole_24 0 rfl ?_
      refine r_getl (pc := 25) C fL_X4_132 dX4_whole_25 o_v0 ?_
      refine r_topl (fun x5 ex5 => ?_)
      have h := h x5 ex5
      refine r_iload_n (pc := 28) C dX4_whole_28 2 rfl ?_
      refine r_i2l (pc := 29) C dX4_whole_29 ?_
      refine r_lcmp (pc := 30) C dX4_whole_30 ?_
      refine r_if_le (pc := 31) C (tgt := 40) dX4_whole_31 (by decide) (fun c6 => ?_) (fun c6 => ?_)
      · have h := h.1 c6
        refine r_aload_n (pc := 40) C dX4_whole_40 0 rfl ?_
        refine r_aload_n (pc := 41) C dX4_whole_41 0 rfl ?_
        refine r_getl (pc := 42) C fL_X4_132 dX4_whole_42 o_v0 ?_
        refine r_topl (fun x7 ex7 => ?_)
        have h := h x7 ex7
        refine r_l2i (pc := 45) C dX4_whole_45 ?_
        refine r_topi (fun x8 ex8 => ?_)
        have h := h x8 ex8
        refine r_puti (pc := 46) C pfL_X4_147 dX4_whole_46 o_v0 ?_
        refine r_heap (fun S9 eS9 => ?_)
        have h := h S9 eS9
        have o_v0 := ob_I eS9 o_v0
        refine r_aload_n (pc := 49) C dX4_whole_49 0 rfl ?_
        refine r_callVv0 (pc := 50) C (rest := []) (a := v0) o_v0 [] yV_X4_next g_449 (c_X4_next h) dX4_whole_50 rfl rfl (Nat.le_of_ble_eq_true rfl) ⟨by decide, by decide⟩ ⟨by decide, by decide⟩ ⟨rfl, rfl⟩ (fun S10 h g11 => ?_)
        have h := h g11
        have o_v0 := gr_ob g11 o_v0
        refine r_iconst (pc := 53) C (v := (1 : Int32)) dX4_whole_53 (by decide) ?_
        exact r_zret (pc := 54) C E ht dX4_whole_54 (by decide) (by decide) (Or.inr rfl) h
      · have h := h.2 c6
        exact r_sub [0] rfl (T_X4_whole_34 C E ht hn h)
  · have h := h.2 c2
    refine r_aload_n (pc := 8) C dX4_whole_8 0 rfl ?_
    refine r_iconst (pc := 9) C (v := (1 : Int32)) dX4_whole_9 (by decide) ?_
    refine r_callVi0 (pc := 10) C (rest := []) (a := v0) o_v0 [.int (1 : Int32)] yV_X4_fail g_519 (c_X4_fail h) dX4_whole_10 rfl rfl (Nat.le_of_ble_eq_true rfl) ⟨by decide, by decide⟩ ⟨by decide, by decide⟩ ⟨rfl, rfl⟩ (fun x15 S13 h g14 => ?_)
    have bx15 := h.1
    have h := h.2 g14 bx15
    have o_v0 := gr_ob g14 o_v0
    exact r_zret (pc := 13) C E ht dX4_whole_13 (by decide) (by decide) h.1 h.2
def P_X4_whole (v0 : Nat) (v1 : Int32) (v2 : Int32) (Q : Int32 → HS → Prop) (S : HS) : Prop := P_X4_whole_0 Q v0 v1 v2 S
theorem c_X4_whole {l : Launch} {Ee : EE} {S : HS} {v0 : Nat} {v1 : Int32} {v2 : Int32} {Q : Int32 → HS → Prop} (h : P_X4_whole v0 v1 v2 Q S) : MI l yX4_whole cX4_whole 3 (some .boolean) rm_X4_whole Ee S [.ref v0, .int v1, .int v2] (fun r S => bl r ∧ Q r S) :=
  openI (by decide) (Nat.le_of_ble_eq_true rfl) (fun X C E ht hn hE hl => by subst hE; exact r_sub [0, 1, 2] rfl (T_X4_whole_0 C E ht hn h))
def rm_X4_is : Room := { frames := 5, cells := 0, slots := 0, locals := 120 }
def B_X4_is_15 (Q : Int32 → HS → Prop) (X15 : Nat → Nat → Int64 → Int32 → HS → Prop) (v0 : Nat) (v1 : Nat) (v2 : Int64) (v4 : Int32) (S : HS) : Prop := v1 < 54 ∧ ∀ x1 : Int32, x1 = nI (sLen.getD v1 0) → (((x1 ≤ v4) → (ob S v0 4 ∧ (∀ x3 : Int64, x3 = fJ S v0 8 → (((¬ (lg_cmp x3 v2) = 0) → (Q (0 : Int32) S)) ∧ (((lg_cmp x3 v2) = 0) → (Q (1 : Int32) S)))))) ∧ ((¬ x1 ≤ v4) → (v1 < 54 ∧ vp_in v4 (sLen.getD v1 0) ∧ ∀ x5 : Int32, x5 = sch v1 v4 → (∀ x6 : Int64, x6 = (v2 * (32 : Int64)) + ((x5 &&& (31 : Int32)).toInt64) → (∀ x7 : Int32, x7 = v4 + (1 : Int32) → (X15 v0 v1 x6 x7 S))))))
def P_X4_is_15 (Q : Int32 → HS → Prop) (v0 : Nat) (v1 : Nat) (v2 : Int64) (v4 : Int32) (S : HS) : Prop := ∀ X15 : Nat → Nat → Int64 → Int32 → HS → Prop, (∀ (v0 : Nat) (v1 : Nat) (v2 : Int64) (v4 : Int32) (S : HS), B_X4_is_15 Q X15 v0 v1 v2 v4 S → X15 v0 v1 v2 v4 S) → X15 v0 v1 v2 v4 S
set_option maxRecDepth 20000 in
set_option maxHeartbeats 4000000 in
theorem TB_X4_is_15 {X : CX} {Q : Int32 → HS → Prop} (C : Cx X cX4_is RX4 5 rm_X4_is) (E : ReI X rm_X4_is (fun r S => bl r ∧ Q r S)) (ht : (xh X).sig.returnType = (some .boolean)) (hn : (xh X).name = yX4_is.name) {X15 : Nat → Nat → Int64 → Int32 → HS → Prop} (hX15 : ∀ (v0 : Nat) (v1 : Nat) (v2 : Int64) (v4 : Int32) (S : HS), X15 v0 v1 v2 v4 S → WS X 5 0 0 15 [(0, .ref v0), (1, .ref (eK (xE X) v1)), (2, .long v2), (4, .int v4)] [] S) {v0 : Nat} {v1 : Nat} {v2 : Int64} {v4 : Int32} {S : HS} (h : B_X4_is_15 Q X15 v0 v1 v2 v4 S) : WS X 5 0 0 15 [(0, .ref v0), (1, .ref (eK (xE X) v1)), (2, .long v2), (4, .int v4)] [] S := by
  refine r_iload (pc := 15) C dX4_is_15 3 rfl ?_
  refine r_aload_n (pc := 17) C dX4_is_17 1 rfl ?_
  obtain ⟨hw, h⟩ := h
  refine r_slen (pc := 18) C g_462 dX4_is_18 hw (by decide) (by decide) (by decide) (by decide) (Nat.le_of_ble_eq_true rfl) ?_
  refine r_topi (fun x1 ex1 => ?_)
  have h := h x1 ex1
  refine r_icmp_ge (pc := 21) C (tgt := 47) dX4_is_21 (by decide) (fun c2 => ?_) (fun c2 => ?_)
  · have h := h.1 c2
    refine r_aload_n (pc := 47) C dX4_is_47 0 rfl ?_
    obtain ⟨o_v0, h⟩ := h
    refine r_getl (pc := 48) C fL_X4_132 dX4_is_48 o_v0 ?_
    refine r_topl (fun x3 ex3 => ?_)
    have h := h x3 ex3
    refine r_lload_n (pc := 51) C dX4_is_51 2 rfl ?_
    refine r_lcmp (pc := 52) C dX4_is_52 ?_
    refine r_if_ne (pc := 53) C (tgt := 60) dX4_is_53 (by decide) (fun c4 => ?_) (fun c4 => ?_)
    · have h := h.1 c4
      refine r_iconst (pc := 60) C (v := (0 : Int32)) dX4_is_60 (by decide) ?_
      exact r_zret (pc := 61) C E ht dX4_is_61 (by decide) (by decide) (Or.inl rfl) h
    · have h := h.2 c4
      refine r_iconst (pc := 56) C (v := (1 : Int32)) dX4_is_56 (by decide) ?_
      refine r_goto (pc := 57) C (tgt := 61) dX4_is_57 (by decide) ?_
      exact r_zret (pc := 61) C E ht dX4_is_61 (by decide) (by decide) (Or.inr rfl) h
  · have h := h.2 c2
    refine r_lload_n (pc := 24) C dX4_is_24 2 rfl ?_
    refine r_ldc2 (pc := 25) C (v := (32 : Int64)) dX4_is_25 g_472 ?_
    refine r_lmul (pc := 28) C dX4_is_28 ?_
    refine r_aload_n (pc := 29) C dX4_is_29 1 rfl ?_
    refine r_iload (pc := 30) C dX4_is_30 3 rfl ?_
    obtain ⟨hw, hw2, h⟩ := h
    refine r_schar (pc := 32) C g_473 dX4_is_32 hw hw2 (by decide) (by decide) (by decide) (by decide) (Nat.le_of_ble_eq_true rfl) ?_
    refine r_topi (fun x5 ex5 => ?_)
    have h := h x5 ex5
    refine r_bipush (pc := 35) C (v := (31 : Int32)) dX4_is_35 (by decide) ?_
    refine r_iand (pc := 37) C dX4_is_37 ?_
    refine r_i2l (pc := 38) C dX4_is_38 ?_
    refine r_ladd (pc := 39) C dX4_is_39 ?_
    refine r_topl (fun x6 ex6 => ?_)
    have h := h x6 ex6
    refine r_lstore_n (pc := 40) C dX4_is_40 rfl (by decide) (lv' := [(2, .long x6), (0, .ref v0), (1, .ref (eK (xE X) v1)), (4, .int v4)]) rfl ?_
    obtain ⟨x7, ex7⟩ : ∃ z : Int32, z = v4 + (1 : Int32) := ⟨_, rfl⟩
    have h := h x7 ex7
    refine r_iinc (pc := 41) C (v := x7) (lv' := [(4, .int x7), (2, .long x6), (0, .ref v0), (1, .ref (eK (xE X) v1))]) dX4_is_41 3 rfl ex7.symm (by decide) rfl ?_
    refine r_goto (pc := 44) C (tgt := 15) dX4_is_44 (by decide) ?_
    exact r_sub [2, 3, 1, 0] rfl (hX15 v0 v1 x6 x7 S h)
theorem T_X4_is_15 {X : CX} {Q : Int32 → HS → Prop} (C : Cx X cX4_is RX4 5 rm_X4_is) (E : ReI X rm_X4_is (fun r S => bl r ∧ Q r S)) (ht : (xh X).sig.returnType = (some .boolean)) (hn : (xh X).name = yX4_is.name) {v0 : Nat} {v1 : Nat} {v2 : Int64} {v4 : Int32} {S : HS} (h : P_X4_is_15 Q v0 v1 v2 v4 S) : WS X 5 0 0 15 [(0, .ref v0), (1, .ref (eK (xE X) v1)), (2, .long v2), (4, .int v4)] [] S :=
  h (fun v0 v1 v2 v4 S => WS X 5 0 0 15 [(0, .ref v0), (1, .ref (eK (xE X) v1)), (2, .long v2), (4, .int v4)] [] S) (fun v0 v1 v2 v4 S hh => TB_X4_is_15 C E ht hn (fun v0 v1 v2 v4 S z => z) hh)
def P_X4_is_0 (Q : Int32 → HS → Prop) (v0 : Nat) (v1 : Nat) (S : HS) : Prop := ob S v0 4 ∧ (∀ x1 : Int32, x1 = fI S v0 6 → (((x1 = (1 : Int32)) → (P_X4_is_15 Q v0 v1 (0 : Int64) (0 : Int32) S)) ∧ ((¬ x1 = (1 : Int32)) → (Q (0 : Int32) S))))
set_option maxRecDepth 20000 in
set_option maxHeartbeats 4000000 in
theorem T_X4_is_0 {X : CX} {Q : Int32 → HS → Prop} (C : Cx X cX4_is RX4 5 rm_X4_is) (E : ReI X rm_X4_is (fun r S => bl r ∧ Q r S)) (ht : (xh X).sig.returnType = (some .boolean)) (hn : (xh X).name = yX4_is.name) {v0 : Nat} {v1 : Nat} {S : HS} (h : P_X4_is_0 Q v0 v1 S) : WS X 5 0 0 0 [(0, .ref v0), (1, .ref (eK (xE X) v1))] [] S := by
  refine r_aload_n (pc := 0) C dX4_is_0 0 rfl ?_
  obtain ⟨o_v0, h⟩ := h
  refine r_geti (pc := 1) C fL_X4_92 dX4_is_1 o_v0 ?_
  refine r_topi (fun x1 ex1 => ?_)
  have h := h x1 ex1
  refine r_iconst (pc := 4) C (v := (1 : Int32)) dX4_is_4 (by decide) ?_
  refine r_icmp_eq (pc := 5) C (tgt := 10) dX4_is_5 (by decide) (fun c2 => ?_) (fun c2 => ?_)
  · have h := h.1 c2
    refine r_lconst (pc := 10) C (v := (0 : Int64)) dX4_is_10 (by decide) ?_
    refine r_lstore_n (pc := 11) C dX4_is_11 rfl (by decide) (lv' := [(2, .long (0 : Int64)), (0, .ref v0), (1, .ref (eK (xE X) v1))]) rfl ?_
    refine r_iconst (pc := 12) C (v := (0 : Int32)) dX4_is_12 (by decide) ?_
    refine r_istore (pc := 13) C dX4_is_13 (by decide) (lv' := [(4, .int (0 : Int32)), (2, .long (0 : Int64)), (0, .ref v0), (1, .ref (eK (xE X) v1))]) rfl ?_
    exact r_sub [2, 3, 1, 0] rfl (T_X4_is_15 C E ht hn h)
  · have h := h.2 c2
    refine r_iconst (pc := 8) C (v := (0 : Int32)) dX4_is_8 (by decide) ?_
    exact r_zret (pc := 9) C E ht dX4_is_9 (by decide) (by decide) (Or.inl rfl) h
def P_X4_is (v0 : Nat) (v1 : Nat) (Q : Int32 → HS → Prop) (S : HS) : Prop := P_X4_is_0 Q v0 v1 S
theorem c_X4_is {l : Launch} {Ee : EE} {S : HS} {v0 : Nat} {v1 : Nat} {Q : Int32 → HS → Prop} (h : P_X4_is v0 v1 Q S) : MI l yX4_is cX4_is 5 (some .boolean) rm_X4_is Ee S [.ref v0, .ref (eK Ee v1)] (fun r S => bl r ∧ Q r S) :=
  openI (by decide) (Nat.le_of_ble_eq_true rfl) (fun X C E ht hn hE hl => by subst hE; exact r_sub [0, 1] rfl (T_X4_is_0 C E ht hn h))
def rm_X4_word : Room := { frames := 6, cells := 0, slots := 0, locals := 144 }
def P_X4_word_0 (Q : Int32 → HS → Prop) (v0 : Nat) (v1 : Nat) (S : HS) : Prop := ob S v0 4 ∧ (P_X4_is v0 v1 (fun x3 S1 => Gr S S1 → bl x3 → (((¬ x3 = 0) → (P_X4_next v0 (fun S5 => Gr S1 S5 → (Q (1 : Int32) S5)) S1)) ∧ ((x3 = 0) → (P_X4_fail v0 (1 : Int32) (fun x10 S8 => Gr S1 S8 → bl x10 → (bl x10 ∧ Q x10 S8)) S1)))) S)
set_option maxRecDepth 20000 in
set_option maxHeartbeats 4000000 in
theorem T_X4_word_0 {X : CX} {Q : Int32 → HS → Prop} (C : Cx X cX4_word RX4 2 rm_X4_word) (E : ReI X rm_X4_word (fun r S => bl r ∧ Q r S)) (ht : (xh X).sig.returnType = (some .boolean)) (hn : (xh X).name = yX4_word.name) {v0 : Nat} {v1 : Nat} {S : HS} (h : P_X4_word_0 Q v0 v1 S) : WS X 2 0 0 0 [(0, .ref v0), (1, .ref (eK (xE X) v1))] [] S := by
  refine r_aload_n (pc := 0) C dX4_word_0 0 rfl ?_
  refine r_aload_n (pc := 1) C dX4_word_1 1 rfl ?_
  obtain ⟨o_v0, h⟩ := h
  refine r_callVi0 (pc := 2) C (rest := []) (a := v0) o_v0 [.ref (eK (xE X) v1)] yV_X4_is g_458 (c_X4_is h) dX4_word_2 rfl rfl (Nat.le_of_ble_eq_true rfl) ⟨by decide, by decide⟩ ⟨by decide, by decide⟩ ⟨rfl, rfl⟩ (fun x3 S1 h g2 => ?_)
  have bx3 := h.1
  have h := h.2 g2 bx3
  have o_v0 := gr_ob g2 o_v0
  refine r_if_ne (pc := 5) C (tgt := 14) dX4_word_5 (by decide) (fun c4 => ?_) (fun c4 => ?_)
  · have h := h.1 c4
    refine r_aload_n (pc := 14) C dX4_word_14 0 rfl ?_
    refine r_callVv0 (pc := 15) C (rest := []) (a := v0) o_v0 [] yV_X4_next g_449 (c_X4_next h) dX4_word_15 rfl rfl (Nat.le_of_ble_eq_true rfl) ⟨by decide, by decide⟩ ⟨by decide, by decide⟩ ⟨rfl, rfl⟩ (fun S5 h g6 => ?_)
    have h := h g6
    have o_v0 := gr_ob g6 o_v0
    refine r_iconst (pc := 18) C (v := (1 : Int32)) dX4_word_18 (by decide) ?_
    exact r_zret (pc := 19) C E ht dX4_word_19 (by decide) (by decide) (Or.inr rfl) h
  · have h := h.2 c4
    refine r_aload_n (pc := 8) C dX4_word_8 0 rfl ?_
    refine r_iconst (pc := 9) C (v := (1 : Int32)) dX4_word_9 (by decide) ?_
    refine r_callVi0 (pc := 10) C (rest := []) (a := v0) o_v0 [.int (1 : Int32)] yV_X4_fail g_519 (c_X4_fail h) dX4_word_10 rfl rfl (Nat.le_of_ble_eq_true rfl) ⟨by decide, by decide⟩ ⟨by decide, by decide⟩ ⟨rfl, rfl⟩ (fun x10 S8 h g9 => ?_)
    have bx10 := h.1
    have h := h.2 g9 bx10
    have o_v0 := gr_ob g9 o_v0
    exact r_zret (pc := 13) C E ht dX4_word_13 (by decide) (by decide) h.1 h.2
def P_X4_word (v0 : Nat) (v1 : Nat) (Q : Int32 → HS → Prop) (S : HS) : Prop := P_X4_word_0 Q v0 v1 S
theorem c_X4_word {l : Launch} {Ee : EE} {S : HS} {v0 : Nat} {v1 : Nat} {Q : Int32 → HS → Prop} (h : P_X4_word v0 v1 Q S) : MI l yX4_word cX4_word 2 (some .boolean) rm_X4_word Ee S [.ref v0, .ref (eK Ee v1)] (fun r S => bl r ∧ Q r S) :=
  openI (by decide) (Nat.le_of_ble_eq_true rfl) (fun X C E ht hn hE hl => by subst hE; exact r_sub [0, 1] rfl (T_X4_word_0 C E ht hn h))
def rm_X4_wordAndWhole : Room := { frames := 7, cells := 0, slots := 0, locals := 165 }
def P_X4_wordAndWhole_0 (Q : Int32 → HS → Prop) (v0 : Nat) (v1 : Nat) (v2 : Int32) (v3 : Int32) (S : HS) : Prop := ob S v0 4 ∧ (P_X4_word v0 v1 (fun x3 S1 => Gr S S1 → bl x3 → (((x3 = 0) → (Q (0 : Int32) S1)) ∧ ((¬ x3 = 0) → (P_X4_whole v0 v2 v3 (fun x7 S5 => Gr S1 S5 → bl x7 → (((x7 = 0) → (Q (0 : Int32) S5)) ∧ ((¬ x7 = 0) → (Q (1 : Int32) S5)))) S1)))) S)
set_option maxRecDepth 20000 in
set_option maxHeartbeats 4000000 in
theorem T_X4_wordAndWhole_0 {X : CX} {Q : Int32 → HS → Prop} (C : Cx X cX4_wordAndWhole RX4 4 rm_X4_wordAndWhole) (E : ReI X rm_X4_wordAndWhole (fun r S => bl r ∧ Q r S)) (ht : (xh X).sig.returnType = (some .boolean)) (hn : (xh X).name = yX4_wordAndWhole.name) {v0 : Nat} {v1 : Nat} {v2 : Int32} {v3 : Int32} {S : HS} (h : P_X4_wordAndWhole_0 Q v0 v1 v2 v3 S) : WS X 4 0 0 0 [(0, .ref v0), (1, .ref (eK (xE X) v1)), (2, .int v2), (3, .int v3)] [] S := by
  refine r_aload_n (pc := 0) C dX4_wordAndWhole_0 0 rfl ?_
  refine r_aload_n (pc := 1) C dX4_wordAndWhole_1 1 rfl ?_
  obtain ⟨o_v0, h⟩ := h
  refine r_callVi0 (pc := 2) C (rest := []) (a := v0) o_v0 [.ref (eK (xE X) v1)] yV_X4_word g_528 (c_X4_word h) dX4_wordAndWhole_2 rfl rfl (Nat.le_of_ble_eq_true rfl) ⟨by decide, by decide⟩ ⟨by decide, by decide⟩ ⟨rfl, rfl⟩ (fun x3 S1 h g2 => ?_)
  have bx3 := h.1
  have h := h.2 g2 bx3
  have o_v0 := gr_ob g2 o_v0
  refine r_if_eq (pc := 5) C (tgt := 21) dX4_wordAndWhole_5 (by decide) (fun c4 => ?_) (fun c4 => ?_)
  · have h := h.1 c4
    refine r_iconst (pc := 21) C (v := (0 : Int32)) dX4_wordAndWhole_21 (by decide) ?_
    exact r_zret (pc := 22) C E ht dX4_wordAndWhole_22 (by decide) (by decide) (Or.inl rfl) h
  · have h := h.2 c4
    refine r_aload_n (pc := 8) C dX4_wordAndWhole_8 0 rfl ?_
    refine r_iload_n (pc := 9) C dX4_wordAndWhole_9 2 rfl ?_
    refine r_iload_n (pc := 10) C dX4_wordAndWhole_10 3 rfl ?_
    refine r_callVi0 (pc := 11) C (rest := []) (a := v0) o_v0 [.int v2, .int v3] yV_X4_whole g_532 (c_X4_whole h) dX4_wordAndWhole_11 rfl rfl (Nat.le_of_ble_eq_true rfl) ⟨by decide, by decide⟩ ⟨by decide, by decide⟩ ⟨rfl, rfl⟩ (fun x7 S5 h g6 => ?_)
    have bx7 := h.1
    have h := h.2 g6 bx7
    have o_v0 := gr_ob g6 o_v0
    refine r_if_eq (pc := 14) C (tgt := 21) dX4_wordAndWhole_14 (by decide) (fun c8 => ?_) (fun c8 => ?_)
    · have h := h.1 c8
      refine r_iconst (pc := 21) C (v := (0 : Int32)) dX4_wordAndWhole_21 (by decide) ?_
      exact r_zret (pc := 22) C E ht dX4_wordAndWhole_22 (by decide) (by decide) (Or.inl rfl) h
    · have h := h.2 c8
      refine r_iconst (pc := 17) C (v := (1 : Int32)) dX4_wordAndWhole_17 (by decide) ?_
      refine r_goto (pc := 18) C (tgt := 22) dX4_wordAndWhole_18 (by decide) ?_
      exact r_zret (pc := 22) C E ht dX4_wordAndWhole_22 (by decide) (by decide) (Or.inr rfl) h
def P_X4_wordAndWhole (v0 : Nat) (v1 : Nat) (v2 : Int32) (v3 : Int32) (Q : Int32 → HS → Prop) (S : HS) : Prop := P_X4_wordAndWhole_0 Q v0 v1 v2 v3 S
theorem c_X4_wordAndWhole {l : Launch} {Ee : EE} {S : HS} {v0 : Nat} {v1 : Nat} {v2 : Int32} {v3 : Int32} {Q : Int32 → HS → Prop} (h : P_X4_wordAndWhole v0 v1 v2 v3 Q S) : MI l yX4_wordAndWhole cX4_wordAndWhole 4 (some .boolean) rm_X4_wordAndWhole Ee S [.ref v0, .ref (eK Ee v1), .int v2, .int v3] (fun r S => bl r ∧ Q r S) :=
  openI (by decide) (Nat.le_of_ble_eq_true rfl) (fun X C E ht hn hE hl => by subst hE; exact r_sub [0, 1, 2, 3] rfl (T_X4_wordAndWhole_0 C E ht hn h))
def rm_X6_shape : Room := { frames := 0, cells := 0, slots := 0, locals := 0 }
def P_X6_shape_16 (Q : HS → Prop) (v0 : Nat) (v1 : Int32) (v2 : Int32) (v3 : Int32) (s0 : Int32) (S : HS) : Prop := ob S v0 6 ∧ (∀ x1 : Int32, x1 = v1 * (v2 + s0) → (∀ S2 : HS, S2 = sI S v0 2 x1 → (∀ x3 : Int32, x3 = v1 * (v3 - s0) → (∀ S4 : HS, S4 = sI S2 v0 3 x3 → (∀ x5 : Int32, x5 = (v2 + s0) * (v3 - s0) → (∀ S6 : HS, S6 = sI S4 v0 4 x5 → (Q S6)))))))
set_option maxRecDepth 20000 in
set_option maxHeartbeats 4000000 in
theorem T_X6_shape_16 {X : CX} {Q : HS → Prop} (C : Cx X cX6_shape RX6 5 rm_X6_shape) (E : ReV X rm_X6_shape Q) (ht : (xh X).sig.returnType = none) (hn : (xh X).name = yX6_shape.name) {v0 : Nat} {v1 : Int32} {v2 : Int32} {v3 : Int32} {s0 : Int32} {S : HS} (h : P_X6_shape_16 Q v0 v1 v2 v3 s0 S) : WS X 5 0 0 16 [(0, .ref v0), (1, .int v1), (2, .int v2), (3, .int v3)] [.int s0] S := by
  refine r_istore (pc := 16) C dX6_shape_16 (by decide) (lv' := [(4, .int s0), (0, .ref v0), (1, .int v1), (2, .int v2), (3, .int v3)]) rfl ?_
  refine r_aload_n (pc := 18) C dX6_shape_18 1 rfl ?_
  refine r_iload_n (pc := 19) C dX6_shape_19 2 rfl ?_
  refine r_iload_n (pc := 20) C dX6_shape_20 3 rfl ?_
  refine r_iload (pc := 21) C dX6_shape_21 0 rfl ?_
  refine r_iadd (pc := 23) C dX6_shape_23 ?_
  refine r_imul (pc := 24) C dX6_shape_24 ?_
  obtain ⟨o_v0, h⟩ := h
  refine r_topi (fun x1 ex1 => ?_)
  have h := h x1 ex1
  refine r_puti (pc := 25) C pfL_X6_18 dX6_shape_25 o_v0 ?_
  refine r_heap (fun S2 eS2 => ?_)
  have h := h S2 eS2
  have o_v0 := ob_I eS2 o_v0
  refine r_aload_n (pc := 28) C dX6_shape_28 1 rfl ?_
  refine r_iload_n (pc := 29) C dX6_shape_29 2 rfl ?_
  refine r_iload_n (pc := 30) C dX6_shape_30 4 rfl ?_
  refine r_iload (pc := 31) C dX6_shape_31 0 rfl ?_
  refine r_isub (pc := 33) C dX6_shape_33 ?_
  refine r_imul (pc := 34) C dX6_shape_34 ?_
  refine r_topi (fun x3 ex3 => ?_)
  have h := h x3 ex3
  refine r_puti (pc := 35) C pfL_X6_21 dX6_shape_35 o_v0 ?_
  refine r_heap (fun S4 eS4 => ?_)
  have h := h S4 eS4
  have o_v0 := ob_I eS4 o_v0
  refine r_aload_n (pc := 38) C dX6_shape_38 1 rfl ?_
  refine r_iload_n (pc := 39) C dX6_shape_39 3 rfl ?_
  refine r_iload (pc := 40) C dX6_shape_40 0 rfl ?_
  refine r_iadd (pc := 42) C dX6_shape_42 ?_
  refine r_iload_n (pc := 43) C dX6_shape_43 4 rfl ?_
  refine r_iload (pc := 44) C dX6_shape_44 0 rfl ?_
  refine r_isub (pc := 46) C dX6_shape_46 ?_
  refine r_imul (pc := 47) C dX6_shape_47 ?_
  refine r_topi (fun x5 ex5 => ?_)
  have h := h x5 ex5
  refine r_puti (pc := 48) C pfL_X6_24 dX6_shape_48 o_v0 ?_
  refine r_heap (fun S6 eS6 => ?_)
  have h := h S6 eS6
  have o_v0 := ob_I eS6 o_v0
  exact r_vret (pc := 51) C E ht dX6_shape_51 (by decide) (by decide) h
def P_X6_shape_0 (Q : HS → Prop) (v0 : Nat) (v1 : Int32) (v2 : Int32) (v3 : Int32) (S : HS) : Prop := ob S v0 6 ∧ (∀ x1 : Int32, x1 = fI S v0 0 → (((¬ x1 = (1 : Int32)) → (P_X6_shape_16 Q v0 v1 v2 v3 (0 : Int32) S)) ∧ ((x1 = (1 : Int32)) → (∀ x3 : Int32, x3 = fI S v0 1 → (P_X6_shape_16 Q v0 v1 v2 v3 x3 S)))))
set_option maxRecDepth 20000 in
set_option maxHeartbeats 4000000 in
theorem T_X6_shape_0 {X : CX} {Q : HS → Prop} (C : Cx X cX6_shape RX6 5 rm_X6_shape) (E : ReV X rm_X6_shape Q) (ht : (xh X).sig.returnType = none) (hn : (xh X).name = yX6_shape.name) {v0 : Nat} {v1 : Int32} {v2 : Int32} {v3 : Int32} {S : HS} (h : P_X6_shape_0 Q v0 v1 v2 v3 S) : WS X 5 0 0 0 [(0, .ref v0), (1, .int v1), (2, .int v2), (3, .int v3)] [] S := by
  refine r_aload_n (pc := 0) C dX6_shape_0 0 rfl ?_
  obtain ⟨o_v0, h⟩ := h
  refine r_geti (pc := 1) C fL_X6_9 dX6_shape_1 o_v0 ?_
  refine r_topi (fun x1 ex1 => ?_)
  have h := h x1 ex1
  refine r_iconst (pc := 4) C (v := (1 : Int32)) dX6_shape_4 (by decide) ?_
  refine r_icmp_ne (pc := 5) C (tgt := 15) dX6_shape_5 (by decide) (fun c2 => ?_) (fun c2 => ?_)
  · have h := h.1 c2
    refine r_iconst (pc := 15) C (v := (0 : Int32)) dX6_shape_15 (by decide) ?_
    exact r_sub [0, 1, 2, 3] rfl (T_X6_shape_16 C E ht hn h)
  · have h := h.2 c2
    refine r_aload_n (pc := 8) C dX6_shape_8 0 rfl ?_
    refine r_geti (pc := 9) C fL_X6_15 dX6_shape_9 o_v0 ?_
    refine r_topi (fun x3 ex3 => ?_)
    have h := h x3 ex3
    refine r_goto (pc := 12) C (tgt := 16) dX6_shape_12 (by decide) ?_
    exact r_sub [0, 1, 2, 3] rfl (T_X6_shape_16 C E ht hn h)
def P_X6_shape (v0 : Nat) (v1 : Int32) (v2 : Int32) (v3 : Int32) (Q : HS → Prop) (S : HS) : Prop := P_X6_shape_0 Q v0 v1 v2 v3 S
theorem c_X6_shape {l : Launch} {Ee : EE} {S : HS} {v0 : Nat} {v1 : Int32} {v2 : Int32} {v3 : Int32} {Q : HS → Prop} (h : P_X6_shape v0 v1 v2 v3 Q S) : MV l yX6_shape cX6_shape 5 none rm_X6_shape Ee S [.ref v0, .int v1, .int v2, .int v3] Q :=
  openV (by decide) (Nat.le_of_ble_eq_true rfl) (fun X C E ht hn hE hl => by subst hE; exact r_sub [0, 1, 2, 3] rfl (T_X6_shape_0 C E ht hn h))
def rm_X4_bodyOf : Room := { frames := 8, cells := 0, slots := 0, locals := 188 }
def P_X4_bodyOf_58 (Q : Int32 → HS → Prop) (v0 : Nat) (v1 : Nat) (v2 : Int32) (v3 : Int32) (s0 : Int32) (S : HS) : Prop := ob S v0 4 ∧ (P_X4_wordAndWhole v0 24 s0 (9 : Int32) (fun x3 S1 => Gr S S1 → bl x3 → (((¬ x3 = 0) → (∀ x5 : Int32, x5 = fI S1 v0 9 → (ob S1 v1 6 ∧ (P_X6_shape v1 v2 v3 x5 (fun S6 => Gr S1 S6 → (Q (1 : Int32) S6)) S1)))) ∧ ((x3 = 0) → (Q (0 : Int32) S1)))) S)
set_option maxRecDepth 20000 in
set_option maxHeartbeats 4000000 in
theorem T_X4_bodyOf_58 {X : CX} {Q : Int32 → HS → Prop} (C : Cx X cX4_bodyOf RX4 5 rm_X4_bodyOf) (E : ReI X rm_X4_bodyOf (fun r S => bl r ∧ Q r S)) (ht : (xh X).sig.returnType = (some .boolean)) (hn : (xh X).name = yX4_bodyOf.name) {v0 : Nat} {v1 : Nat} {v2 : Int32} {v3 : Int32} {s0 : Int32} {S : HS} (h : P_X4_bodyOf_58 Q v0 v1 v2 v3 s0 S) : WS X 5 0 0 58 [(0, .ref v0), (1, .ref v1), (2, .int v2), (3, .int v3)] [.int s0] S := by
  refine r_istore (pc := 58) C dX4_bodyOf_58 (by decide) (lv' := [(4, .int s0), (0, .ref v0), (1, .ref v1), (2, .int v2), (3, .int v3)]) rfl ?_
  refine r_aload_n (pc := 60) C dX4_bodyOf_60 1 rfl ?_
  refine r_ldsw (pc := 61) C 24 rfl dX4_bodyOf_61 ?_
  refine r_iload (pc := 64) C dX4_bodyOf_64 0 rfl ?_
  refine r_bipush (pc := 66) C (v := (9 : Int32)) dX4_bodyOf_66 (by decide) ?_
  obtain ⟨o_v0, h⟩ := h
  refine r_callVi0 (pc := 68) C (rest := []) (a := v0) o_v0 [.ref (eK (xE X) 24), .int s0, .int (9 : Int32)] yV_X4_wordAndWhole g_524 (c_X4_wordAndWhole h) dX4_bodyOf_68 rfl rfl (Nat.le_of_ble_eq_true rfl) ⟨by decide, by decide⟩ ⟨by decide, by decide⟩ ⟨rfl, rfl⟩ (fun x3 S1 h g2 => ?_)
  have bx3 := h.1
  have h := h.2 g2 bx3
  have o_v0 := gr_ob g2 o_v0
  refine r_if_ne (pc := 71) C (tgt := 76) dX4_bodyOf_71 (by decide) (fun c4 => ?_) (fun c4 => ?_)
  · have h := h.1 c4
    refine r_aload_n (pc := 76) C dX4_bodyOf_76 2 rfl ?_
    refine r_iload_n (pc := 77) C dX4_bodyOf_77 3 rfl ?_
    refine r_iload_n (pc := 78) C dX4_bodyOf_78 4 rfl ?_
    refine r_aload_n (pc := 79) C dX4_bodyOf_79 1 rfl ?_
    refine r_geti (pc := 80) C fL_X4_147 dX4_bodyOf_80 o_v0 ?_
    refine r_topi (fun x5 ex5 => ?_)
    have h := h x5 ex5
    obtain ⟨o_v1, h⟩ := h
    refine r_callVv0 (pc := 83) C (rest := []) (a := v1) o_v1 [.int v2, .int v3, .int x5] yV_X6_shape g_607 (c_X6_shape h) dX4_bodyOf_83 rfl rfl (Nat.le_of_ble_eq_true rfl) ⟨by decide, by decide⟩ ⟨by decide, by decide⟩ ⟨rfl, rfl⟩ (fun S6 h g7 => ?_)
    have h := h g7
    have o_v0 := gr_ob g7 o_v0
    have o_v1 := gr_ob g7 o_v1
    refine r_iconst (pc := 86) C (v := (1 : Int32)) dX4_bodyOf_86 (by decide) ?_
    exact r_zret (pc := 87) C E ht dX4_bodyOf_87 (by decide) (by decide) (Or.inr rfl) h
  · have h := h.2 c4
    refine r_iconst (pc := 74) C (v := (0 : Int32)) dX4_bodyOf_74 (by decide) ?_
    exact r_zret (pc := 75) C E ht dX4_bodyOf_75 (by decide) (by decide) (Or.inl rfl) h
def P_X4_bodyOf_0 (Q : Int32 → HS → Prop) (v0 : Nat) (v1 : Nat) (S : HS) : Prop := ob S v0 4 ∧ (P_X4_wordAndWhole v0 22 (1 : Int32) (9 : Int32) (fun x3 S1 => Gr S S1 → bl x3 → (((¬ x3 = 0) → (∀ x5 : Int32, x5 = fI S1 v0 9 → (P_X4_wordAndWhole v0 23 (1 : Int32) (9 : Int32) (fun x8 S6 => Gr S1 S6 → bl x8 → (((¬ x8 = 0) → (∀ x10 : Int32, x10 = fI S6 v0 9 → (ob S6 v1 6 ∧ (∀ x11 : Int32, x11 = fI S6 v1 0 → (((¬ x11 = (1 : Int32)) → (P_X4_bodyOf_58 Q v0 v1 x5 x10 (1 : Int32) S6)) ∧ ((x11 = (1 : Int32)) → (∀ x13 : Int32, x13 = fI S6 v1 1 → (P_X4_bodyOf_58 Q v0 v1 x5 x10 (x13 + (1 : Int32)) S6)))))))) ∧ ((x8 = 0) → (Q (0 : Int32) S6)))) S1))) ∧ ((x3 = 0) → (Q (0 : Int32) S1)))) S)
set_option maxRecDepth 20000 in
set_option maxHeartbeats 4000000 in
theorem T_X4_bodyOf_0 {X : CX} {Q : Int32 → HS → Prop} (C : Cx X cX4_bodyOf RX4 5 rm_X4_bodyOf) (E : ReI X rm_X4_bodyOf (fun r S => bl r ∧ Q r S)) (ht : (xh X).sig.returnType = (some .boolean)) (hn : (xh X).name = yX4_bodyOf.name) {v0 : Nat} {v1 : Nat} {S : HS} (h : P_X4_bodyOf_0 Q v0 v1 S) : WS X 5 0 0 0 [(0, .ref v0), (1, .ref v1)] [] S := by
  refine r_aload_n (pc := 0) C dX4_bodyOf_0 0 rfl ?_
  refine r_ldsw (pc := 1) C 22 rfl dX4_bodyOf_1 ?_
  refine r_iconst (pc := 4) C (v := (1 : Int32)) dX4_bodyOf_4 (by decide) ?_
  refine r_bipush (pc := 5) C (v := (9 : Int32)) dX4_bodyOf_5 (by decide) ?_
  obtain ⟨o_v0, h⟩ := h
  refine r_callVi0 (pc := 7) C (rest := []) (a := v0) o_v0 [.ref (eK (xE X) 22), .int (1 : Int32), .int (9 : Int32)] yV_X4_wordAndWhole g_524 (c_X4_wordAndWhole h) dX4_bodyOf_7 rfl rfl (Nat.le_of_ble_eq_true rfl) ⟨by decide, by decide⟩ ⟨by decide, by decide⟩ ⟨rfl, rfl⟩ (fun x3 S1 h g2 => ?_)
  have bx3 := h.1
  have h := h.2 g2 bx3
  have o_v0 := gr_ob g2 o_v0
  refine r_if_ne (pc := 10) C (tgt := 15) dX4_bodyOf_10 (by decide) (fun c4 => ?_) (fun c4 => ?_)
  · have h := h.1 c4
    refine r_aload_n (pc := 15) C dX4_bodyOf_15 0 rfl ?_
    refine r_geti (pc := 16) C fL_X4_147 dX4_bodyOf_16 o_v0 ?_
    refine r_topi (fun x5 ex5 => ?_)
    have h := h x5 ex5
    refine r_istore_n (pc := 19) C dX4_bodyOf_19 rfl (by decide) (lv' := [(2, .int x5), (0, .ref v0), (1, .ref v1)]) rfl ?_
    refine r_aload_n (pc := 20) C dX4_bodyOf_20 1 rfl ?_
    refine r_ldsw (pc := 21) C 23 rfl dX4_bodyOf_21 ?_
    refine r_iconst (pc := 24) C (v := (1 : Int32)) dX4_bodyOf_24 (by decide) ?_
    refine r_bipush (pc := 25) C (v := (9 : Int32)) dX4_bodyOf_25 (by decide) ?_
    refine r_callVi0 (pc := 27) C (rest := []) (a := v0) o_v0 [.ref (eK (xE X) 23), .int (1 : Int32), .int (9 : Int32)] yV_X4_wordAndWhole g_524 (c_X4_wordAndWhole h) dX4_bodyOf_27 rfl rfl (Nat.le_of_ble_eq_true rfl) ⟨by decide, by decide⟩ ⟨by decide, by decide⟩ ⟨rfl, rfl⟩ (fun x8 S6 h g7 => ?_)
    have bx8 := h.1
    have h := h.2 g7 bx8
    have o_v0 := gr_ob g7 o_v0
    refine r_if_ne (pc := 30) C (tgt := 35) dX4_bodyOf_30 (by decide) (fun c9 => ?_) (fun c9 => ?_)
    · have h := h.1 c9
      refine r_aload_n (pc := 35) C dX4_bodyOf_35 1 rfl ?_
      refine r_geti (pc := 36) C fL_X4_147 dX4_bodyOf_36 o_v0 ?_
      refine r_topi (fun x10 ex10 => ?_)
      have h := h x10 ex10
      refine r_istore_n (pc := 39) C dX4_bodyOf_39 rfl (by decide) (lv' := [(3, .int x10), (2, .int x5), (0, .ref v0), (1, .ref v1)]) rfl ?_
      refine r_aload_n (pc := 40) C dX4_bodyOf_40 3 rfl ?_
      obtain ⟨o_v1, h⟩ := h
      refine r_geti (pc := 41) C fL_X4_264 dX4_bodyOf_41 o_v1 ?_
      refine r_topi (fun x11 ex11 => ?_)
      have h := h x11 ex11
      refine r_iconst (pc := 44) C (v := (1 : Int32)) dX4_bodyOf_44 (by decide) ?_
      refine r_icmp_ne (pc := 45) C (tgt := 57) dX4_bodyOf_45 (by decide) (fun c12 => ?_) (fun c12 => ?_)
      · have h := h.1 c12
        refine r_iconst (pc := 57) C (v := (1 : Int32)) dX4_bodyOf_57 (by decide) ?_
        exact r_sub [2, 3, 1, 0] rfl (T_X4_bodyOf_58 C E ht hn h)
      · have h := h.2 c12
        refine r_aload_n (pc := 48) C dX4_bodyOf_48 3 rfl ?_
        refine r_geti (pc := 49) C fL_X4_273 dX4_bodyOf_49 o_v1 ?_
        refine r_topi (fun x13 ex13 => ?_)
        have h := h x13 ex13
        refine r_iconst (pc := 52) C (v := (1 : Int32)) dX4_bodyOf_52 (by decide) ?_
        refine r_iadd (pc := 53) C dX4_bodyOf_53 ?_
        refine r_goto (pc := 54) C (tgt := 58) dX4_bodyOf_54 (by decide) ?_
        exact r_sub [2, 3, 1, 0] rfl (T_X4_bodyOf_58 C E ht hn h)
    · have h := h.2 c9
      refine r_iconst (pc := 33) C (v := (0 : Int32)) dX4_bodyOf_33 (by decide) ?_
      exact r_zret (pc := 34) C E ht dX4_bodyOf_34 (by decide) (by decide) (Or.inl rfl) h
  · have h := h.2 c4
    refine r_iconst (pc := 13) C (v := (0 : Int32)) dX4_bodyOf_13 (by decide) ?_
    exact r_zret (pc := 14) C E ht dX4_bodyOf_14 (by decide) (by decide) (Or.inl rfl) h
def P_X4_bodyOf (v0 : Nat) (v1 : Nat) (Q : Int32 → HS → Prop) (S : HS) : Prop := P_X4_bodyOf_0 Q v0 v1 S
theorem c_X4_bodyOf {l : Launch} {Ee : EE} {S : HS} {v0 : Nat} {v1 : Nat} {Q : Int32 → HS → Prop} (h : P_X4_bodyOf v0 v1 Q S) : MI l yX4_bodyOf cX4_bodyOf 5 (some .boolean) rm_X4_bodyOf Ee S [.ref v0, .ref v1] (fun r S => bl r ∧ Q r S) :=
  openI (by decide) (Nat.le_of_ble_eq_true rfl) (fun X C E ht hn hE hl => by subst hE; exact r_sub [0, 1] rfl (T_X4_bodyOf_0 C E ht hn h))
def rm_X4_canBeName : Room := { frames := 6, cells := 0, slots := 0, locals := 144 }
def P_X4_canBeName_86 (Q : Int32 → HS → Prop) (v0 : Nat) (s0 : Int32) (S : HS) : Prop := ob S v0 4 ∧ (∀ x1 : Int32, x1 = fI S v0 6 → (((¬ x1 = (1 : Int32)) → (Q (0 : Int32) S)) ∧ ((x1 = (1 : Int32)) → (((¬ s0 = 0) → (Q (0 : Int32) S)) ∧ ((s0 = 0) → (Q (1 : Int32) S))))))
set_option maxRecDepth 20000 in
set_option maxHeartbeats 4000000 in
theorem T_X4_canBeName_86 {X : CX} {Q : Int32 → HS → Prop} (C : Cx X cX4_canBeName RX4 2 rm_X4_canBeName) (E : ReI X rm_X4_canBeName (fun r S => bl r ∧ Q r S)) (ht : (xh X).sig.returnType = (some .boolean)) (hn : (xh X).name = yX4_canBeName.name) {v0 : Nat} {s0 : Int32} {S : HS} (h : P_X4_canBeName_86 Q v0 s0 S) : WS X 2 0 0 86 [(0, .ref v0)] [.int s0] S := by
  refine r_istore_n (pc := 86) C dX4_canBeName_86 rfl (by decide) (lv' := [(1, .int s0), (0, .ref v0)]) rfl ?_
  refine r_aload_n (pc := 87) C dX4_canBeName_87 1 rfl ?_
  obtain ⟨o_v0, h⟩ := h
  refine r_geti (pc := 88) C fL_X4_92 dX4_canBeName_88 o_v0 ?_
  refine r_topi (fun x1 ex1 => ?_)
  have h := h x1 ex1
  refine r_iconst (pc := 91) C (v := (1 : Int32)) dX4_canBeName_91 (by decide) ?_
  refine r_icmp_ne (pc := 92) C (tgt := 103) dX4_canBeName_92 (by decide) (fun c2 => ?_) (fun c2 => ?_)
  · have h := h.1 c2
    refine r_iconst (pc := 103) C (v := (0 : Int32)) dX4_canBeName_103 (by decide) ?_
    exact r_zret (pc := 104) C E ht dX4_canBeName_104 (by decide) (by decide) (Or.inl rfl) h
  · have h := h.2 c2
    refine r_iload_n (pc := 95) C dX4_canBeName_95 0 rfl ?_
    refine r_if_ne (pc := 96) C (tgt := 103) dX4_canBeName_96 (by decide) (fun c3 => ?_) (fun c3 => ?_)
    · have h := h.1 c3
      refine r_iconst (pc := 103) C (v := (0 : Int32)) dX4_canBeName_103 (by decide) ?_
      exact r_zret (pc := 104) C E ht dX4_canBeName_104 (by decide) (by decide) (Or.inl rfl) h
    · have h := h.2 c3
      refine r_iconst (pc := 99) C (v := (1 : Int32)) dX4_canBeName_99 (by decide) ?_
      refine r_goto (pc := 100) C (tgt := 104) dX4_canBeName_100 (by decide) ?_
      exact r_zret (pc := 104) C E ht dX4_canBeName_104 (by decide) (by decide) (Or.inr rfl) h
def P_X4_canBeName_81 (Q : Int32 → HS → Prop) (v0 : Nat) (S : HS) : Prop := P_X4_canBeName_86 Q v0 (1 : Int32) S
set_option maxRecDepth 20000 in
set_option maxHeartbeats 4000000 in
theorem T_X4_canBeName_81 {X : CX} {Q : Int32 → HS → Prop} (C : Cx X cX4_canBeName RX4 2 rm_X4_canBeName) (E : ReI X rm_X4_canBeName (fun r S => bl r ∧ Q r S)) (ht : (xh X).sig.returnType = (some .boolean)) (hn : (xh X).name = yX4_canBeName.name) {v0 : Nat} {S : HS} (h : P_X4_canBeName_81 Q v0 S) : WS X 2 0 0 81 [(0, .ref v0)] [] S := by
  refine r_iconst (pc := 81) C (v := (1 : Int32)) dX4_canBeName_81 (by decide) ?_
  refine r_goto (pc := 82) C (tgt := 86) dX4_canBeName_82 (by decide) ?_
  exact r_sub [0] rfl (T_X4_canBeName_86 C E ht hn h)
def P_X4_canBeName_0 (Q : Int32 → HS → Prop) (v0 : Nat) (S : HS) : Prop := ob S v0 4 ∧ (P_X4_is v0 0 (fun x3 S1 => Gr S S1 → bl x3 → (((¬ x3 = 0) → (P_X4_canBeName_81 Q v0 S1)) ∧ ((x3 = 0) → (P_X4_is v0 2 (fun x7 S5 => Gr S1 S5 → bl x7 → (((¬ x7 = 0) → (P_X4_canBeName_81 Q v0 S5)) ∧ ((x7 = 0) → (P_X4_is v0 11 (fun x11 S9 => Gr S5 S9 → bl x11 → (((¬ x11 = 0) → (P_X4_canBeName_81 Q v0 S9)) ∧ ((x11 = 0) → (P_X4_is v0 12 (fun x15 S13 => Gr S9 S13 → bl x15 → (((¬ x15 = 0) → (P_X4_canBeName_81 Q v0 S13)) ∧ ((x15 = 0) → (P_X4_is v0 13 (fun x19 S17 => Gr S13 S17 → bl x19 → (((¬ x19 = 0) → (P_X4_canBeName_81 Q v0 S17)) ∧ ((x19 = 0) → (P_X4_is v0 14 (fun x23 S21 => Gr S17 S21 → bl x23 → (((¬ x23 = 0) → (P_X4_canBeName_81 Q v0 S21)) ∧ ((x23 = 0) → (P_X4_is v0 15 (fun x27 S25 => Gr S21 S25 → bl x27 → (((¬ x27 = 0) → (P_X4_canBeName_81 Q v0 S25)) ∧ ((x27 = 0) → (P_X4_is v0 16 (fun x31 S29 => Gr S25 S29 → bl x31 → (((¬ x31 = 0) → (P_X4_canBeName_81 Q v0 S29)) ∧ ((x31 = 0) → (P_X4_is v0 17 (fun x35 S33 => Gr S29 S33 → bl x35 → (((x35 = 0) → (P_X4_canBeName_86 Q v0 (0 : Int32) S33)) ∧ ((¬ x35 = 0) → (P_X4_canBeName_81 Q v0 S33)))) S29)))) S25)))) S21)))) S17)))) S13)))) S9)))) S5)))) S1)))) S)
set_option maxRecDepth 20000 in
set_option maxHeartbeats 4000000 in
theorem T_X4_canBeName_0 {X : CX} {Q : Int32 → HS → Prop} (C : Cx X cX4_canBeName RX4 2 rm_X4_canBeName) (E : ReI X rm_X4_canBeName (fun r S => bl r ∧ Q r S)) (ht : (xh X).sig.returnType = (some .boolean)) (hn : (xh X).name = yX4_canBeName.name) {v0 : Nat} {S : HS} (h : P_X4_canBeName_0 Q v0 S) : WS X 2 0 0 0 [(0, .ref v0)] [] S := by
  refine r_aload_n (pc := 0) C dX4_canBeName_0 0 rfl ?_
  refine r_lds (pc := 1) C 0 rfl dX4_canBeName_1 ?_
  obtain ⟨o_v0, h⟩ := h
  refine r_callVi0 (pc := 3) C (rest := []) (a := v0) o_v0 [.ref (eK (xE X) 0)] yV_X4_is g_458 (c_X4_is h) dX4_canBeName_3 rfl rfl (Nat.le_of_ble_eq_true rfl) ⟨by decide, by decide⟩ ⟨by decide, by decide⟩ ⟨rfl, rfl⟩ (fun x3 S1 h g2 => ?_)
  have bx3 := h.1
  have h := h.2 g2 bx3
  have o_v0 := gr_ob g2 o_v0
  refine r_if_ne (pc := 6) C (tgt := 81) dX4_canBeName_6 (by decide) (fun c4 => ?_) (fun c4 => ?_)
  · have h := h.1 c4
    exact r_sub [0] rfl (T_X4_canBeName_81 C E ht hn h)
  · have h := h.2 c4
    refine r_aload_n (pc := 9) C dX4_canBeName_9 0 rfl ?_
    refine r_lds (pc := 10) C 2 rfl dX4_canBeName_10 ?_
    refine r_callVi0 (pc := 12) C (rest := []) (a := v0) o_v0 [.ref (eK (xE X) 2)] yV_X4_is g_458 (c_X4_is h) dX4_canBeName_12 rfl rfl (Nat.le_of_ble_eq_true rfl) ⟨by decide, by decide⟩ ⟨by decide, by decide⟩ ⟨rfl, rfl⟩ (fun x7 S5 h g6 => ?_)
    have bx7 := h.1
    have h := h.2 g6 bx7
    have o_v0 := gr_ob g6 o_v0
    refine r_if_ne (pc := 15) C (tgt := 81) dX4_canBeName_15 (by decide) (fun c8 => ?_) (fun c8 => ?_)
    · have h := h.1 c8
      exact r_sub [0] rfl (T_X4_canBeName_81 C E ht hn h)
    · have h := h.2 c8
      refine r_aload_n (pc := 18) C dX4_canBeName_18 0 rfl ?_
      refine r_lds (pc := 19) C 11 rfl dX4_canBeName_19 ?_
      refine r_callVi0 (pc := 21) C (rest := []) (a := v0) o_v0 [.ref (eK (xE X) 11)] yV_X4_is g_458 (c_X4_is h) dX4_canBeName_21 rfl rfl (Nat.le_of_ble_eq_true rfl) ⟨by decide, by decide⟩ ⟨by decide, by decide⟩ ⟨rfl, rfl⟩ (fun x11 S9 h g10 => ?_)
      have bx11 := h.1
      have h := h.2 g10 bx11
      have o_v0 := gr_ob g10 o_v0
      refine r_if_ne (pc := 24) C (tgt := 81) dX4_canBeName_24 (by decide) (fun c12 => ?_) (fun c12 => ?_)
      · have h := h.1 c12
        exact r_sub [0] rfl (T_X4_canBeName_81 C E ht hn h)
      · have h := h.2 c12
        refine r_aload_n (pc := 27) C dX4_canBeName_27 0 rfl ?_
        refine r_lds (pc := 28) C 12 rfl dX4_canBeName_28 ?_
        refine r_callVi0 (pc := 30) C (rest := []) (a := v0) o_v0 [.ref (eK (xE X) 12)] yV_X4_is g_458 (c_X4_is h) dX4_canBeName_30 rfl rfl (Nat.le_of_ble_eq_true rfl) ⟨by decide, by decide⟩ ⟨by decide, by decide⟩ ⟨rfl, rfl⟩ (fun x15 S13 h g14 => ?_)
        have bx15 := h.1
        have h := h.2 g14 bx15
        have o_v0 := gr_ob g14 o_v0
        refine r_if_ne (pc := 33) C (tgt := 81) dX4_canBeName_33 (by decide) (fun c16 => ?_) (fun c16 => ?_)
        · have h := h.1 c16
          exact r_sub [0] rfl (T_X4_canBeName_81 C E ht hn h)
        · have h := h.2 c16
          refine r_aload_n (pc := 36) C dX4_canBeName_36 0 rfl ?_
          refine r_lds (pc := 37) C 13 rfl dX4_canBeName_37 ?_
          refine r_callVi0 (pc := 39) C (rest := []) (a := v0) o_v0 [.ref (eK (xE X) 13)] yV_X4_is g_458 (c_X4_is h) dX4_canBeName_39 rfl rfl (Nat.le_of_ble_eq_true rfl) ⟨by decide, by decide⟩ ⟨by decide, by decide⟩ ⟨rfl, rfl⟩ (fun x19 S17 h g18 => ?_)
          have bx19 := h.1
          have h := h.2 g18 bx19
          have o_v0 := gr_ob g18 o_v0
          refine r_if_ne (pc := 42) C (tgt := 81) dX4_canBeName_42 (by decide) (fun c20 => ?_) (fun c20 => ?_)
          · have h := h.1 c20
            exact r_sub [0] rfl (T_X4_canBeName_81 C E ht hn h)
          · have h := h.2 c20
            refine r_aload_n (pc := 45) C dX4_canBeName_45 0 rfl ?_
            refine r_lds (pc := 46) C 14 rfl dX4_canBeName_46 ?_
            refine r_callVi0 (pc := 48) C (rest := []) (a := v0) o_v0 [.ref (eK (xE X) 14)] yV_X4_is g_458 (c_X4_is h) dX4_canBeName_48 rfl rfl (Nat.le_of_ble_eq_true rfl) ⟨by decide, by decide⟩ ⟨by decide, by decide⟩ ⟨rfl, rfl⟩ (fun x23 S21 h g22 => ?_)
            have bx23 := h.1
            have h := h.2 g22 bx23
            have o_v0 := gr_ob g22 o_v0
            refine r_if_ne (pc := 51) C (tgt := 81) dX4_canBeName_51 (by decide) (fun c24 => ?_) (fun c24 => ?_)
            · have h := h.1 c24
              exact r_sub [0] rfl (T_X4_canBeName_81 C E ht hn h)
            · have h := h.2 c24
              refine r_aload_n (pc := 54) C dX4_canBeName_54 0 rfl ?_
              refine r_lds (pc := 55) C 15 rfl dX4_canBeName_55 ?_
              refine r_callVi0 (pc := 57) C (rest := []) (a := v0) o_v0 [.ref (eK (xE X) 15)] yV_X4_is g_458 (c_X4_is h) dX4_canBeName_57 rfl rfl (Nat.le_of_ble_eq_true rfl) ⟨by decide, by decide⟩ ⟨by decide, by decide⟩ ⟨rfl, rfl⟩ (fun x27 S25 h g26 => ?_)
              have bx27 := h.1
              have h := h.2 g26 bx27
              have o_v0 := gr_ob g26 o_v0
              refine r_if_ne (pc := 60) C (tgt := 81) dX4_canBeName_60 (by decide) (fun c28 => ?_) (fun c28 => ?_)
              · have h := h.1 c28
                exact r_sub [0] rfl (T_X4_canBeName_81 C E ht hn h)
              · have h := h.2 c28
                refine r_aload_n (pc := 63) C dX4_canBeName_63 0 rfl ?_
                refine r_lds (pc := 64) C 16 rfl dX4_canBeName_64 ?_
                refine r_callVi0 (pc := 66) C (rest := []) (a := v0) o_v0 [.ref (eK (xE X) 16)] yV_X4_is g_458 (c_X4_is h) dX4_canBeName_66 rfl rfl (Nat.le_of_ble_eq_true rfl) ⟨by decide, by decide⟩ ⟨by decide, by decide⟩ ⟨rfl, rfl⟩ (fun x31 S29 h g30 => ?_)
                have bx31 := h.1
                have h := h.2 g30 bx31
                have o_v0 := gr_ob g30 o_v0
                refine r_if_ne (pc := 69) C (tgt := 81) dX4_canBeName_69 (by decide) (fun c32 => ?_) (fun c32 => ?_)
                · have h := h.1 c32
                  exact r_sub [0] rfl (T_X4_canBeName_81 C E ht hn h)
                · have h := h.2 c32
                  refine r_aload_n (pc := 72) C dX4_canBeName_72 0 rfl ?_
                  refine r_lds (pc := 73) C 17 rfl dX4_canBeName_73 ?_
                  refine r_callVi0 (pc := 75) C (rest := []) (a := v0) o_v0 [.ref (eK (xE X) 17)] yV_X4_is g_458 (c_X4_is h) dX4_canBeName_75 rfl rfl (Nat.le_of_ble_eq_true rfl) ⟨by decide, by decide⟩ ⟨by decide, by decide⟩ ⟨rfl, rfl⟩ (fun x35 S33 h g34 => ?_)
                  have bx35 := h.1
                  have h := h.2 g34 bx35
                  have o_v0 := gr_ob g34 o_v0
                  refine r_if_eq (pc := 78) C (tgt := 85) dX4_canBeName_78 (by decide) (fun c36 => ?_) (fun c36 => ?_)
                  · have h := h.1 c36
                    refine r_iconst (pc := 85) C (v := (0 : Int32)) dX4_canBeName_85 (by decide) ?_
                    exact r_sub [0] rfl (T_X4_canBeName_86 C E ht hn h)
                  · have h := h.2 c36
                    exact r_sub [0] rfl (T_X4_canBeName_81 C E ht hn h)
def P_X4_canBeName (v0 : Nat) (Q : Int32 → HS → Prop) (S : HS) : Prop := P_X4_canBeName_0 Q v0 S
theorem c_X4_canBeName {l : Launch} {Ee : EE} {S : HS} {v0 : Nat} {Q : Int32 → HS → Prop} (h : P_X4_canBeName v0 Q S) : MI l yX4_canBeName cX4_canBeName 2 (some .boolean) rm_X4_canBeName Ee S [.ref v0] (fun r S => bl r ∧ Q r S) :=
  openI (by decide) (Nat.le_of_ble_eq_true rfl) (fun X C E ht hn hE hl => by subst hE; exact r_sub [0] rfl (T_X4_canBeName_0 C E ht hn h))
