section
def rm_X11_refuses : Room := { frames := 2, cells := 0, slots := 0, locals := 44 }
def P_X11_refuses_0 (Q : Int32 → HS → Prop) (v0 : Nat) (v1 : Int32) (v2 : Int32) (v3 : Int32) (v4 : Int32) (v5 : Int32) (S : HS) : Prop := ob S v0 11 ∧ (P_X11_isWalker v0 v1 (fun x3 S1 => Gr S S1 → bl x3 → (((x3 = 0) → (Q (1 : Int32) S1)) ∧ ((¬ x3 = 0) → (P_X11_isRoad v0 v2 (fun x7 S5 => Gr S1 S5 → bl x7 → (((x7 = 0) → (Q (1 : Int32) S5)) ∧ ((¬ x7 = 0) → (P_X11_in v3 (0 : Int32) (1 : Int32) (fun x11 S9 => Gr S5 S9 → bl x11 → (((x11 = 0) → (Q (1 : Int32) S9)) ∧ ((¬ x11 = 0) → (P_X11_isHour v0 v4 (fun x15 S13 => Gr S9 S13 → bl x15 → (((¬ x15 = 0) → (P_X11_isSpeed v0 v1 v5 (fun x19 S17 => Gr S13 S17 → bl x19 → (((x19 = 0) → (Q (2 : Int32) S17)) ∧ ((¬ x19 = 0) → (Q (0 : Int32) S17)))) S13)) ∧ ((x15 = 0) → (Q (1 : Int32) S13)))) S9)))) S5)))) S1)))) S)
set_option maxRecDepth 20000 in
set_option maxHeartbeats 4000000 in
theorem T_X11_refuses_0 {X : CX} {Q : Int32 → HS → Prop} (C : Cx X cX11_refuses RX11 6 rm_X11_refuses) (E : ReI X rm_X11_refuses Q) (ht : (xh X).sig.returnType = (some .int)) (hn : (xh X).name = yX11_refuses.name) {v0 : Nat} {v1 : Int32} {v2 : Int32} {v3 : Int32} {v4 : Int32} {v5 : Int32} {S : HS} (h : P_X11_refuses_0 Q v0 v1 v2 v3 v4 v5 S) : WS X 6 0 0 0 [(0, .ref v0), (1, .int v1), (2, .int v2), (3, .int v3), (4, .int v4), (5, .int v5)] [] S := by
  refine r_aload_n (pc := 0) C dX11_refuses_0 0 rfl ?_
  refine r_iload_n (pc := 1) C dX11_refuses_1 1 rfl ?_
  obtain ⟨o_v0, h⟩ := h
  refine r_callVi0 (pc := 2) C (rest := []) (a := v0) o_v0 [.int v1] yV_X11_isWalker g_1538 (c_X11_isWalker h) dX11_refuses_2 rfl rfl (Nat.le_of_ble_eq_true rfl) ⟨by decide, by decide⟩ ⟨by decide, by decide⟩ ⟨rfl, rfl⟩ (fun x3 S1 h g2 => ?_)
  have bx3 := h.1
  have h := h.2 g2 bx3
  have o_v0 := gr_ob g2 o_v0
  refine r_if_eq (pc := 5) C (tgt := 34) dX11_refuses_5 (by decide) (fun c4 => ?_) (fun c4 => ?_)
  · have h := h.1 c4
    refine r_iconst (pc := 34) C (v := (1 : Int32)) dX11_refuses_34 (by decide) ?_
    exact r_iret (pc := 35) C E ht dX11_refuses_35 (by decide) (by decide) h
  · have h := h.2 c4
    refine r_aload_n (pc := 8) C dX11_refuses_8 0 rfl ?_
    refine r_iload_n (pc := 9) C dX11_refuses_9 2 rfl ?_
    refine r_callVi0 (pc := 10) C (rest := []) (a := v0) o_v0 [.int v2] yV_X11_isRoad g_1542 (c_X11_isRoad h) dX11_refuses_10 rfl rfl (Nat.le_of_ble_eq_true rfl) ⟨by decide, by decide⟩ ⟨by decide, by decide⟩ ⟨rfl, rfl⟩ (fun x7 S5 h g6 => ?_)
    have bx7 := h.1
    have h := h.2 g6 bx7
    have o_v0 := gr_ob g6 o_v0
    refine r_if_eq (pc := 13) C (tgt := 34) dX11_refuses_13 (by decide) (fun c8 => ?_) (fun c8 => ?_)
    · have h := h.1 c8
      refine r_iconst (pc := 34) C (v := (1 : Int32)) dX11_refuses_34 (by decide) ?_
      exact r_iret (pc := 35) C E ht dX11_refuses_35 (by decide) (by decide) h
    · have h := h.2 c8
      refine r_iload_n (pc := 16) C dX11_refuses_16 3 rfl ?_
      refine r_iconst (pc := 17) C (v := (0 : Int32)) dX11_refuses_17 (by decide) ?_
      refine r_iconst (pc := 18) C (v := (1 : Int32)) dX11_refuses_18 (by decide) ?_
      refine r_callSi0 (pc := 19) C (rest := []) rfl [.int v3, .int (0 : Int32), .int (1 : Int32)] yS_X11_in g_1434 (c_X11_in h) dX11_refuses_19 rfl rfl (Nat.le_of_ble_eq_true rfl) ⟨by decide, by decide⟩ ⟨by decide, by decide⟩ ⟨rfl, rfl⟩ (fun x11 S9 h g10 => ?_)
      have bx11 := h.1
      have h := h.2 g10 bx11
      have o_v0 := gr_ob g10 o_v0
      refine r_if_eq (pc := 22) C (tgt := 34) dX11_refuses_22 (by decide) (fun c12 => ?_) (fun c12 => ?_)
      · have h := h.1 c12
        refine r_iconst (pc := 34) C (v := (1 : Int32)) dX11_refuses_34 (by decide) ?_
        exact r_iret (pc := 35) C E ht dX11_refuses_35 (by decide) (by decide) h
      · have h := h.2 c12
        refine r_aload_n (pc := 25) C dX11_refuses_25 0 rfl ?_
        refine r_iload (pc := 26) C dX11_refuses_26 4 rfl ?_
        refine r_callVi0 (pc := 28) C (rest := []) (a := v0) o_v0 [.int v4] yV_X11_isHour g_1546 (c_X11_isHour h) dX11_refuses_28 rfl rfl (Nat.le_of_ble_eq_true rfl) ⟨by decide, by decide⟩ ⟨by decide, by decide⟩ ⟨rfl, rfl⟩ (fun x15 S13 h g14 => ?_)
        have bx15 := h.1
        have h := h.2 g14 bx15
        have o_v0 := gr_ob g14 o_v0
        refine r_if_ne (pc := 31) C (tgt := 36) dX11_refuses_31 (by decide) (fun c16 => ?_) (fun c16 => ?_)
        · have h := h.1 c16
          refine r_aload_n (pc := 36) C dX11_refuses_36 0 rfl ?_
          refine r_iload_n (pc := 37) C dX11_refuses_37 1 rfl ?_
          refine r_iload (pc := 38) C dX11_refuses_38 5 rfl ?_
          refine r_callVi0 (pc := 40) C (rest := []) (a := v0) o_v0 [.int v1, .int v5] yV_X11_isSpeed g_1550 (c_X11_isSpeed h) dX11_refuses_40 rfl rfl (Nat.le_of_ble_eq_true rfl) ⟨by decide, by decide⟩ ⟨by decide, by decide⟩ ⟨rfl, rfl⟩ (fun x19 S17 h g18 => ?_)
          have bx19 := h.1
          have h := h.2 g18 bx19
          have o_v0 := gr_ob g18 o_v0
          refine r_if_eq (pc := 43) C (tgt := 50) dX11_refuses_43 (by decide) (fun c20 => ?_) (fun c20 => ?_)
          · have h := h.1 c20
            refine r_iconst (pc := 50) C (v := (2 : Int32)) dX11_refuses_50 (by decide) ?_
            exact r_iret (pc := 51) C E ht dX11_refuses_51 (by decide) (by decide) h
          · have h := h.2 c20
            refine r_iconst (pc := 46) C (v := (0 : Int32)) dX11_refuses_46 (by decide) ?_
            refine r_goto (pc := 47) C (tgt := 51) dX11_refuses_47 (by decide) ?_
            exact r_iret (pc := 51) C E ht dX11_refuses_51 (by decide) (by decide) h
        · have h := h.2 c16
          refine r_iconst (pc := 34) C (v := (1 : Int32)) dX11_refuses_34 (by decide) ?_
          exact r_iret (pc := 35) C E ht dX11_refuses_35 (by decide) (by decide) h
def P_X11_refuses (v0 : Nat) (v1 : Int32) (v2 : Int32) (v3 : Int32) (v4 : Int32) (v5 : Int32) (Q : Int32 → HS → Prop) (S : HS) : Prop := P_X11_refuses_0 Q v0 v1 v2 v3 v4 v5 S
theorem c_X11_refuses {l : Launch} {Ee : EE} {S : HS} {v0 : Nat} {v1 : Int32} {v2 : Int32} {v3 : Int32} {v4 : Int32} {v5 : Int32} {Q : Int32 → HS → Prop} (h : P_X11_refuses v0 v1 v2 v3 v4 v5 Q S) : MI l yX11_refuses cX11_refuses 6 (some .int) rm_X11_refuses Ee S [.ref v0, .int v1, .int v2, .int v3, .int v4, .int v5] Q :=
  openI (by decide) (Nat.le_of_ble_eq_true rfl) (fun X C E ht hn hE hl => by subst hE; exact r_sub [0, 1, 2, 3, 4, 5] rfl (T_X11_refuses_0 C E ht hn h))
def rm_X11_told : Room := { frames := 1, cells := 0, slots := 0, locals := 21 }
def B_X11_told_12 (Q : Int64 → HS → Prop) (X12 : Int64 → Int64 → Int32 → Int64 → Int64 → HS → Prop) (v1 : Int64) (v3 : Int64) (v5 : Int32) (v6 : Int64) (v8 : Int64) (S : HS) : Prop := (((lg_cmp v8 (0 : Int64)) = 0) → (((v5 = 0) → (¬ v6 = 0 ∧ ∀ x4 : Int64, x4 = v1 / v6 → (Q x4 S))) ∧ ((¬ v5 = 0) → (¬ v6 = 0 ∧ ∀ x6 : Int64, x6 = v3 / v6 → (Q x6 S))))) ∧ ((¬ (lg_cmp v8 (0 : Int64)) = 0) → (¬ v8 = 0 ∧ ∀ x8 : Int64, x8 = v6 - v6 / v8 * v8 → (X12 v1 v3 v5 v8 x8 S)))
def P_X11_told_12 (Q : Int64 → HS → Prop) (v1 : Int64) (v3 : Int64) (v5 : Int32) (v6 : Int64) (v8 : Int64) (S : HS) : Prop := ∀ X12 : Int64 → Int64 → Int32 → Int64 → Int64 → HS → Prop, (∀ (v1 : Int64) (v3 : Int64) (v5 : Int32) (v6 : Int64) (v8 : Int64) (S : HS), B_X11_told_12 Q X12 v1 v3 v5 v6 v8 S → X12 v1 v3 v5 v6 v8 S) → X12 v1 v3 v5 v6 v8 S
set_option maxRecDepth 20000 in
set_option maxHeartbeats 4000000 in
theorem TB_X11_told_12 {X : CX} {Q : Int64 → HS → Prop} (C : Cx X cX11_told RX11 12 rm_X11_told) (E : ReJ X rm_X11_told Q) (ht : (xh X).sig.returnType = (some .long)) (hn : (xh X).name = yX11_told.name) {X12 : Int64 → Int64 → Int32 → Int64 → Int64 → HS → Prop} (hX12 : ∀ (v1 : Int64) (v3 : Int64) (v5 : Int32) (v6 : Int64) (v8 : Int64) (S : HS), X12 v1 v3 v5 v6 v8 S → WS X 12 0 0 12 [(1, .long v1), (3, .long v3), (5, .int v5), (6, .long v6), (8, .long v8)] [] S) {v1 : Int64} {v3 : Int64} {v5 : Int32} {v6 : Int64} {v8 : Int64} {S : HS} (h : B_X11_told_12 Q X12 v1 v3 v5 v6 v8 S) : WS X 12 0 0 12 [(1, .long v1), (3, .long v3), (5, .int v5), (6, .long v6), (8, .long v8)] [] S := by
  refine r_lload (pc := 12) C dX11_told_12 4 rfl ?_
  refine r_lconst (pc := 14) C (v := (0 : Int64)) dX11_told_14 (by decide) ?_
  refine r_lcmp (pc := 15) C dX11_told_15 ?_
  refine r_if_eq (pc := 16) C (tgt := 37) dX11_told_16 (by decide) (fun c1 => ?_) (fun c1 => ?_)
  · have h := h.1 c1
    refine r_iload (pc := 37) C dX11_told_37 2 rfl ?_
    refine r_if_eq (pc := 39) C (tgt := 46) dX11_told_39 (by decide) (fun c2 => ?_) (fun c2 => ?_)
    · have h := h.1 c2
      refine r_lload_n (pc := 46) C dX11_told_46 0 rfl ?_
      refine r_lload (pc := 47) C dX11_told_47 3 rfl ?_
      obtain ⟨q3, h⟩ := h
      refine r_ldiv (pc := 49) C dX11_told_49 q3 ?_
      refine r_topl (fun x4 ex4 => ?_)
      have h := h x4 ex4
      exact r_lret (pc := 50) C E ht dX11_told_50 (by decide) (by decide) h
    · have h := h.2 c2
      refine r_lload_n (pc := 42) C dX11_told_42 1 rfl ?_
      refine r_goto (pc := 43) C (tgt := 47) dX11_told_43 (by decide) ?_
      refine r_lload (pc := 47) C dX11_told_47 3 rfl ?_
      obtain ⟨q5, h⟩ := h
      refine r_ldiv (pc := 49) C dX11_told_49 q5 ?_
      refine r_topl (fun x6 ex6 => ?_)
      have h := h x6 ex6
      exact r_lret (pc := 50) C E ht dX11_told_50 (by decide) (by decide) h
  · have h := h.2 c1
    refine r_lload (pc := 19) C dX11_told_19 3 rfl ?_
    refine r_lload (pc := 21) C dX11_told_21 4 rfl ?_
    obtain ⟨q7, h⟩ := h
    refine r_lrem (pc := 23) C dX11_told_23 q7 ?_
    refine r_topl (fun x8 ex8 => ?_)
    have h := h x8 ex8
    refine r_lstore (pc := 24) C dX11_told_24 (by decide) (lv' := [(10, .long x8), (1, .long v1), (3, .long v3), (5, .int v5), (6, .long v6), (8, .long v8)]) rfl ?_
    refine r_lload (pc := 26) C dX11_told_26 5 rfl ?_
    refine r_lstore (pc := 28) C dX11_told_28 (by decide) (lv' := [(6, .long v8), (10, .long x8), (1, .long v1), (3, .long v3), (5, .int v5), (8, .long v8)]) rfl ?_
    refine r_lload (pc := 30) C dX11_told_30 1 rfl ?_
    refine r_lstore (pc := 32) C dX11_told_32 (by decide) (lv' := [(8, .long x8), (6, .long v8), (10, .long x8), (1, .long v1), (3, .long v3), (5, .int v5)]) rfl ?_
    refine r_goto (pc := 34) C (tgt := 12) dX11_told_34 (by decide) ?_
    exact r_sub [3, 4, 5, 1, 0] rfl (hX12 v1 v3 v5 v8 x8 S h)
theorem T_X11_told_12 {X : CX} {Q : Int64 → HS → Prop} (C : Cx X cX11_told RX11 12 rm_X11_told) (E : ReJ X rm_X11_told Q) (ht : (xh X).sig.returnType = (some .long)) (hn : (xh X).name = yX11_told.name) {v1 : Int64} {v3 : Int64} {v5 : Int32} {v6 : Int64} {v8 : Int64} {S : HS} (h : P_X11_told_12 Q v1 v3 v5 v6 v8 S) : WS X 12 0 0 12 [(1, .long v1), (3, .long v3), (5, .int v5), (6, .long v6), (8, .long v8)] [] S :=
  h (fun v1 v3 v5 v6 v8 S => WS X 12 0 0 12 [(1, .long v1), (3, .long v3), (5, .int v5), (6, .long v6), (8, .long v8)] [] S) (fun v1 v3 v5 v6 v8 S hh => TB_X11_told_12 C E ht hn (fun v1 v3 v5 v6 v8 S z => z) hh)
def P_X11_told_0 (Q : Int64 → HS → Prop) (v0 : Nat) (v1 : Int64) (v3 : Int64) (v5 : Int32) (S : HS) : Prop := ob S v0 11 ∧ (P_X11_good v0 (0 : Int32) (fun x3 S1 => Gr S S1 → (P_X11_told_12 Q v1 v3 v5 v1 v3 S1)) S)
set_option maxRecDepth 20000 in
set_option maxHeartbeats 4000000 in
theorem T_X11_told_0 {X : CX} {Q : Int64 → HS → Prop} (C : Cx X cX11_told RX11 12 rm_X11_told) (E : ReJ X rm_X11_told Q) (ht : (xh X).sig.returnType = (some .long)) (hn : (xh X).name = yX11_told.name) {v0 : Nat} {v1 : Int64} {v3 : Int64} {v5 : Int32} {S : HS} (h : P_X11_told_0 Q v0 v1 v3 v5 S) : WS X 12 0 0 0 [(0, .ref v0), (1, .long v1), (3, .long v3), (5, .int v5)] [] S := by
  refine r_aload_n (pc := 0) C dX11_told_0 0 rfl ?_
  refine r_iconst (pc := 1) C (v := (0 : Int32)) dX11_told_1 (by decide) ?_
  obtain ⟨o_v0, h⟩ := h
  refine r_callVi0 (pc := 2) C (rest := []) (a := v0) o_v0 [.int (0 : Int32)] yV_X11_good g_1518 (c_X11_good h) dX11_told_2 rfl rfl (Nat.le_of_ble_eq_true rfl) ⟨by decide, by decide⟩ ⟨by decide, by decide⟩ ⟨rfl, rfl⟩ (fun x3 S1 h g2 => ?_)
  have h := h g2
  have o_v0 := gr_ob g2 o_v0
  refine r_pop (pc := 5) C dX11_told_5 rfl ?_
  refine r_lload_n (pc := 6) C dX11_told_6 1 rfl ?_
  refine r_lstore (pc := 7) C dX11_told_7 (by decide) (lv' := [(6, .long v1), (0, .ref v0), (1, .long v1), (3, .long v3), (5, .int v5)]) rfl ?_
  refine r_lload_n (pc := 9) C dX11_told_9 3 rfl ?_
  refine r_lstore (pc := 10) C dX11_told_10 (by decide) (lv' := [(8, .long v3), (6, .long v1), (0, .ref v0), (1, .long v1), (3, .long v3), (5, .int v5)]) rfl ?_
  exact r_sub [3, 4, 5, 1, 0] rfl (T_X11_told_12 C E ht hn h)
def P_X11_told (v0 : Nat) (v1 : Int64) (v3 : Int64) (v5 : Int32) (Q : Int64 → HS → Prop) (S : HS) : Prop := P_X11_told_0 Q v0 v1 v3 v5 S
theorem c_X11_told {l : Launch} {Ee : EE} {S : HS} {v0 : Nat} {v1 : Int64} {v3 : Int64} {v5 : Int32} {Q : Int64 → HS → Prop} (h : P_X11_told v0 v1 v3 v5 Q S) : MJ l yX11_told cX11_told 12 (some .long) rm_X11_told Ee S [.ref v0, .long v1, .long v3, .int v5] Q :=
  openJ (by decide) (Nat.le_of_ble_eq_true rfl) (fun X C E ht hn hE hl => by subst hE; exact r_sub [0, 1, 2, 3] rfl (T_X11_told_0 C E ht hn h))
def rm_X11_face : Room := { frames := 5, cells := 0, slots := 0, locals := 135 }
def P_X11_face_30 (Q : Int64 → HS → Prop) (v0 : Nat) (v1 : Int32) (v2 : Int32) (v3 : Int32) (v4 : Int32) (v5 : Int32) (v6 : Int32) (v7 : Int32) (s0 : Int32) (S : HS) : Prop := ((s0 ≤ 0) → (ob S v0 11 ∧ (P_X11_partsOf v0 v1 v2 v3 v4 v5 v6 (fun x4 S2 => Gr S S2 → (P_X11_told v0 x4 (2520 : Int64) v7 (fun x7 S5 => Gr S2 S5 → (Q x7 S5)) S2)) S))) ∧ ((¬ s0 ≤ 0) → (ob S v0 11 ∧ (P_X11_refused v0 s0 (fun x10 S8 => Gr S S8 → (Q x10.toInt64 S8)) S)))
set_option maxRecDepth 20000 in
set_option maxHeartbeats 4000000 in
theorem T_X11_face_30 {X : CX} {Q : Int64 → HS → Prop} (C : Cx X cX11_face RX11 9 rm_X11_face) (E : ReJ X rm_X11_face Q) (ht : (xh X).sig.returnType = (some .long)) (hn : (xh X).name = yX11_face.name) {v0 : Nat} {v1 : Int32} {v2 : Int32} {v3 : Int32} {v4 : Int32} {v5 : Int32} {v6 : Int32} {v7 : Int32} {s0 : Int32} {S : HS} (h : P_X11_face_30 Q v0 v1 v2 v3 v4 v5 v6 v7 s0 S) : WS X 9 0 0 30 [(0, .ref v0), (1, .int v1), (2, .int v2), (3, .int v3), (4, .int v4), (5, .int v5), (6, .int v6), (7, .int v7)] [.int s0] S := by
  refine r_istore (pc := 30) C dX11_face_30 (by decide) (lv' := [(8, .int s0), (0, .ref v0), (1, .int v1), (2, .int v2), (3, .int v3), (4, .int v4), (5, .int v5), (6, .int v6), (7, .int v7)]) rfl ?_
  refine r_iload (pc := 32) C dX11_face_32 0 rfl ?_
  refine r_if_le (pc := 34) C (tgt := 47) dX11_face_34 (by decide) (fun c1 => ?_) (fun c1 => ?_)
  · have h := h.1 c1
    refine r_aload_n (pc := 47) C dX11_face_47 1 rfl ?_
    refine r_aload_n (pc := 48) C dX11_face_48 1 rfl ?_
    refine r_iload_n (pc := 49) C dX11_face_49 2 rfl ?_
    refine r_iload_n (pc := 50) C dX11_face_50 3 rfl ?_
    refine r_iload_n (pc := 51) C dX11_face_51 4 rfl ?_
    refine r_iload (pc := 52) C dX11_face_52 5 rfl ?_
    refine r_iload (pc := 54) C dX11_face_54 6 rfl ?_
    refine r_iload (pc := 56) C dX11_face_56 7 rfl ?_
    obtain ⟨o_v0, h⟩ := h
    refine r_callVl0 (pc := 58) C (rest := [.ref v0]) (a := v0) o_v0 [.int v1, .int v2, .int v3, .int v4, .int v5, .int v6] yV_X11_partsOf g_1554 (c_X11_partsOf h) dX11_face_58 rfl rfl (Nat.le_of_ble_eq_true rfl) ⟨by decide, by decide⟩ ⟨by decide, by decide⟩ ⟨rfl, rfl⟩ (fun x4 S2 h g3 => ?_)
    have h := h g3
    have o_v0 := gr_ob g3 o_v0
    refine r_ldc2 (pc := 61) C (v := (2520 : Int64)) dX11_face_61 g_1585 ?_
    refine r_iload (pc := 64) C dX11_face_64 8 rfl ?_
    refine r_callVl0 (pc := 66) C (rest := []) (a := v0) o_v0 [.long x4, .long (2520 : Int64), .int v7] yV_X11_told g_1586 (c_X11_told h) dX11_face_66 rfl rfl (Nat.le_of_ble_eq_true rfl) ⟨by decide, by decide⟩ ⟨by decide, by decide⟩ ⟨rfl, rfl⟩ (fun x7 S5 h g6 => ?_)
    have h := h g6
    have o_v0 := gr_ob g6 o_v0
    exact r_lret (pc := 69) C E ht dX11_face_69 (by decide) (by decide) h
  · have h := h.2 c1
    refine r_aload_n (pc := 37) C dX11_face_37 1 rfl ?_
    refine r_iload (pc := 38) C dX11_face_38 0 rfl ?_
    obtain ⟨o_v0, h⟩ := h
    refine r_callVi0 (pc := 40) C (rest := []) (a := v0) o_v0 [.int s0] yV_X11_refused g_1250 (c_X11_refused h) dX11_face_40 rfl rfl (Nat.le_of_ble_eq_true rfl) ⟨by decide, by decide⟩ ⟨by decide, by decide⟩ ⟨rfl, rfl⟩ (fun x10 S8 h g9 => ?_)
    have h := h g9
    have o_v0 := gr_ob g9 o_v0
    refine r_i2l (pc := 43) C dX11_face_43 ?_
    refine r_goto (pc := 44) C (tgt := 69) dX11_face_44 (by decide) ?_
    exact r_lret (pc := 69) C E ht dX11_face_69 (by decide) (by decide) h
def P_X11_face_0 (Q : Int64 → HS → Prop) (v0 : Nat) (v1 : Int32) (v2 : Int32) (v3 : Int32) (v4 : Int32) (v5 : Int32) (v6 : Int32) (v7 : Int32) (S : HS) : Prop := ob S v0 11 ∧ (∀ S1 : HS, S1 = sI S v0 0 (0 : Int32) → (P_X11_in v6 (0 : Int32) (4 : Int32) (fun x4 S2 => Gr S1 S2 → bl x4 → (((x4 = 0) → (P_X11_face_30 Q v0 v1 v2 v3 v4 v5 v6 v7 (1 : Int32) S2)) ∧ ((¬ x4 = 0) → (P_X11_refuses v0 v1 v2 v3 v4 v5 (fun x8 S6 => Gr S2 S6 → (P_X11_face_30 Q v0 v1 v2 v3 v4 v5 v6 v7 x8 S6)) S2)))) S1))
set_option maxRecDepth 20000 in
set_option maxHeartbeats 4000000 in
theorem T_X11_face_0 {X : CX} {Q : Int64 → HS → Prop} (C : Cx X cX11_face RX11 9 rm_X11_face) (E : ReJ X rm_X11_face Q) (ht : (xh X).sig.returnType = (some .long)) (hn : (xh X).name = yX11_face.name) {v0 : Nat} {v1 : Int32} {v2 : Int32} {v3 : Int32} {v4 : Int32} {v5 : Int32} {v6 : Int32} {v7 : Int32} {S : HS} (h : P_X11_face_0 Q v0 v1 v2 v3 v4 v5 v6 v7 S) : WS X 9 0 0 0 [(0, .ref v0), (1, .int v1), (2, .int v2), (3, .int v3), (4, .int v4), (5, .int v5), (6, .int v6), (7, .int v7)] [] S := by
  refine r_aload_n (pc := 0) C dX11_face_0 0 rfl ?_
  refine r_iconst (pc := 1) C (v := (0 : Int32)) dX11_face_1 (by decide) ?_
  obtain ⟨o_v0, h⟩ := h
  refine r_puti (pc := 2) C pfL_X11_40 dX11_face_2 o_v0 ?_
  refine r_heap (fun S1 eS1 => ?_)
  have h := h S1 eS1
  have o_v0 := ob_I eS1 o_v0
  refine r_iload (pc := 5) C dX11_face_5 6 rfl ?_
  refine r_iconst (pc := 7) C (v := (0 : Int32)) dX11_face_7 (by decide) ?_
  refine r_iconst (pc := 8) C (v := (4 : Int32)) dX11_face_8 (by decide) ?_
  refine r_callSi0 (pc := 9) C (rest := []) rfl [.int v6, .int (0 : Int32), .int (4 : Int32)] yS_X11_in g_1434 (c_X11_in h) dX11_face_9 rfl rfl (Nat.le_of_ble_eq_true rfl) ⟨by decide, by decide⟩ ⟨by decide, by decide⟩ ⟨rfl, rfl⟩ (fun x4 S2 h g3 => ?_)
  have bx4 := h.1
  have h := h.2 g3 bx4
  have o_v0 := gr_ob g3 o_v0
  refine r_if_eq (pc := 12) C (tgt := 29) dX11_face_12 (by decide) (fun c5 => ?_) (fun c5 => ?_)
  · have h := h.1 c5
    refine r_iconst (pc := 29) C (v := (1 : Int32)) dX11_face_29 (by decide) ?_
    exact r_sub [0, 1, 2, 3, 4, 5, 6, 7] rfl (T_X11_face_30 C E ht hn h)
  · have h := h.2 c5
    refine r_aload_n (pc := 15) C dX11_face_15 0 rfl ?_
    refine r_iload_n (pc := 16) C dX11_face_16 1 rfl ?_
    refine r_iload_n (pc := 17) C dX11_face_17 2 rfl ?_
    refine r_iload_n (pc := 18) C dX11_face_18 3 rfl ?_
    refine r_iload (pc := 19) C dX11_face_19 4 rfl ?_
    refine r_iload (pc := 21) C dX11_face_21 5 rfl ?_
    refine r_callVi0 (pc := 23) C (rest := []) (a := v0) o_v0 [.int v1, .int v2, .int v3, .int v4, .int v5] yV_X11_refuses g_1534 (c_X11_refuses h) dX11_face_23 rfl rfl (Nat.le_of_ble_eq_true rfl) ⟨by decide, by decide⟩ ⟨by decide, by decide⟩ ⟨rfl, rfl⟩ (fun x8 S6 h g7 => ?_)
    have h := h g7
    have o_v0 := gr_ob g7 o_v0
    refine r_goto (pc := 26) C (tgt := 30) dX11_face_26 (by decide) ?_
    exact r_sub [0, 1, 2, 3, 4, 5, 6, 7] rfl (T_X11_face_30 C E ht hn h)
def P_X11_face (v0 : Nat) (v1 : Int32) (v2 : Int32) (v3 : Int32) (v4 : Int32) (v5 : Int32) (v6 : Int32) (v7 : Int32) (Q : Int64 → HS → Prop) (S : HS) : Prop := P_X11_face_0 Q v0 v1 v2 v3 v4 v5 v6 v7 S
theorem c_X11_face {l : Launch} {Ee : EE} {S : HS} {v0 : Nat} {v1 : Int32} {v2 : Int32} {v3 : Int32} {v4 : Int32} {v5 : Int32} {v6 : Int32} {v7 : Int32} {Q : Int64 → HS → Prop} (h : P_X11_face v0 v1 v2 v3 v4 v5 v6 v7 Q S) : MJ l yX11_face cX11_face 9 (some .long) rm_X11_face Ee S [.ref v0, .int v1, .int v2, .int v3, .int v4, .int v5, .int v6, .int v7] Q :=
  openJ (by decide) (Nat.le_of_ble_eq_true rfl) (fun X C E ht hn hE hl => by subst hE; exact r_sub [0, 1, 2, 3, 4, 5, 6, 7] rfl (T_X11_face_0 C E ht hn h))
def rm_X11_fault : Room := { frames := 0, cells := 0, slots := 0, locals := 0 }
def P_X11_fault_0 (Q : Int32 → HS → Prop) (v0 : Nat) (S : HS) : Prop := ob S v0 11 ∧ (∀ S1 : HS, S1 = sI S v0 0 (0 : Int32) → (∀ x2 : Int32, x2 = fI S1 v0 13 → (Q x2 S1)))
set_option maxRecDepth 20000 in
set_option maxHeartbeats 4000000 in
theorem T_X11_fault_0 {X : CX} {Q : Int32 → HS → Prop} (C : Cx X cX11_fault RX11 1 rm_X11_fault) (E : ReI X rm_X11_fault Q) (ht : (xh X).sig.returnType = (some .int)) (hn : (xh X).name = yX11_fault.name) {v0 : Nat} {S : HS} (h : P_X11_fault_0 Q v0 S) : WS X 1 0 0 0 [(0, .ref v0)] [] S := by
  refine r_aload_n (pc := 0) C dX11_fault_0 0 rfl ?_
  refine r_iconst (pc := 1) C (v := (0 : Int32)) dX11_fault_1 (by decide) ?_
  obtain ⟨o_v0, h⟩ := h
  refine r_puti (pc := 2) C pfL_X11_40 dX11_fault_2 o_v0 ?_
  refine r_heap (fun S1 eS1 => ?_)
  have h := h S1 eS1
  have o_v0 := ob_I eS1 o_v0
  refine r_aload_n (pc := 5) C dX11_fault_5 0 rfl ?_
  refine r_geti (pc := 6) C fL_X11_97 dX11_fault_6 o_v0 ?_
  refine r_topi (fun x2 ex2 => ?_)
  have h := h x2 ex2
  exact r_iret (pc := 9) C E ht dX11_fault_9 (by decide) (by decide) h
def P_X11_fault (v0 : Nat) (Q : Int32 → HS → Prop) (S : HS) : Prop := P_X11_fault_0 Q v0 S
theorem c_X11_fault {l : Launch} {Ee : EE} {S : HS} {v0 : Nat} {Q : Int32 → HS → Prop} (h : P_X11_fault v0 Q S) : MI l yX11_fault cX11_fault 1 (some .int) rm_X11_fault Ee S [.ref v0] Q :=
  openI (by decide) (Nat.le_of_ble_eq_true rfl) (fun X C E ht hn hE hl => by subst hE; exact r_sub [0] rfl (T_X11_fault_0 C E ht hn h))
def rm_X11_feed : Room := { frames := 0, cells := 0, slots := 0, locals := 0 }
def P_X11_feed_76 (Q : Int32 → HS → Prop) (X23 : Nat → Int32 → Int32 → Int32 → Int32 → Int32 → Int32 → HS → Prop) (v0 : Nat) (v1 : Int32) (v2 : Int32) (v3 : Int32) (v4 : Int32) (v5 : Int32) (v6 : Int32) (s0 : Int32) (S : HS) : Prop := ob S v0 11 ∧ (∃ a1 : Nat, fR S v0 5 = some a1 ∧ (∀ x2 : Int32, x2 = fI S v0 6 → (∀ x3 : Int32, x3 = v6 - v6 / (4 : Int32) * (4 : Int32) → (ob S a1 12 ∧ (∀ x5 : Int32, x5 = (s0 >>> (((24 : Int32) - ((8 : Int32) * x3)) &&& 31)).toInt8.toInt32 → (vp_in x2 (hN S a1) ∧ (∀ S6 : HS, S6 = sI S a1 x2.toNatClampNeg (vp_nar .byte x5) → (∀ x7 : Int32, x7 = fI S6 v0 6 → (∀ x8 : Int32, x8 = x7 + (1 : Int32) → (∀ S9 : HS, S9 = sI S6 v0 6 x8 → (∀ x10 : Int32, x10 = v6 + (1 : Int32) → (X23 v0 v1 v2 v3 v4 v5 x10 S9))))))))))))
set_option maxRecDepth 20000 in
set_option maxHeartbeats 4000000 in
theorem T_X11_feed_76 {X : CX} {Q : Int32 → HS → Prop} (C : Cx X cX11_feed RX11 8 rm_X11_feed) (E : ReI X rm_X11_feed Q) (ht : (xh X).sig.returnType = (some .int)) (hn : (xh X).name = yX11_feed.name) {X23 : Nat → Int32 → Int32 → Int32 → Int32 → Int32 → Int32 → HS → Prop} (hX23 : ∀ (v0 : Nat) (v1 : Int32) (v2 : Int32) (v3 : Int32) (v4 : Int32) (v5 : Int32) (v6 : Int32) (S : HS), X23 v0 v1 v2 v3 v4 v5 v6 S → WS X 8 0 0 23 [(0, .ref v0), (1, .int v1), (2, .int v2), (3, .int v3), (4, .int v4), (5, .int v5), (6, .int v6)] [] S) {v0 : Nat} {v1 : Int32} {v2 : Int32} {v3 : Int32} {v4 : Int32} {v5 : Int32} {v6 : Int32} {s0 : Int32} {S : HS} (h : P_X11_feed_76 Q X23 v0 v1 v2 v3 v4 v5 v6 s0 S) : WS X 8 0 0 76 [(0, .ref v0), (1, .int v1), (2, .int v2), (3, .int v3), (4, .int v4), (5, .int v5), (6, .int v6)] [.int s0] S := by
  refine r_istore (pc := 76) C dX11_feed_76 (by decide) (lv' := [(7, .int s0), (0, .ref v0), (1, .int v1), (2, .int v2), (3, .int v3), (4, .int v4), (5, .int v5), (6, .int v6)]) rfl ?_
  refine r_aload_n (pc := 78) C dX11_feed_78 1 rfl ?_
  obtain ⟨o_v0, h⟩ := h
  obtain ⟨a1, ea1, h⟩ := h
  refine r_getr (pc := 79) C fL_X11_13 dX11_feed_79 o_v0 ea1 ?_
  refine r_aload_n (pc := 82) C dX11_feed_82 1 rfl ?_
  refine r_geti (pc := 83) C fL_X11_331 dX11_feed_83 o_v0 ?_
  refine r_topi (fun x2 ex2 => ?_)
  have h := h x2 ex2
  refine r_iload (pc := 86) C dX11_feed_86 0 rfl ?_
  refine r_bipush (pc := 88) C (v := (24 : Int32)) dX11_feed_88 (by decide) ?_
  refine r_bipush (pc := 90) C (v := (8 : Int32)) dX11_feed_90 (by decide) ?_
  refine r_iload (pc := 92) C dX11_feed_92 7 rfl ?_
  refine r_iconst (pc := 94) C (v := (4 : Int32)) dX11_feed_94 (by decide) ?_
  refine r_irem (pc := 95) C dX11_feed_95 (by decide) ?_
  refine r_topi (fun x3 ex3 => ?_)
  have h := h x3 ex3
  refine r_imul (pc := 96) C dX11_feed_96 ?_
  refine r_isub (pc := 97) C dX11_feed_97 ?_
  refine r_ishr (pc := 98) C dX11_feed_98 ?_
  refine r_i2b (pc := 99) C dX11_feed_99 ?_
  obtain ⟨o_a1, h⟩ := h
  refine r_topi (fun x5 ex5 => ?_)
  have h := h x5 ex5
  obtain ⟨i4, h⟩ := h
  refine r_bast (pc := 100) C dX11_feed_100 o_a1 i4 ?_
  refine r_heap (fun S6 eS6 => ?_)
  have h := h S6 eS6
  have o_a1 := ob_I eS6 o_a1
  have o_v0 := ob_I eS6 o_v0
  refine r_aload_n (pc := 101) C dX11_feed_101 1 rfl ?_
  refine r_dup (pc := 102) C dX11_feed_102 rfl ?_
  refine r_geti (pc := 103) C fL_X11_331 dX11_feed_103 o_v0 ?_
  refine r_topi (fun x7 ex7 => ?_)
  have h := h x7 ex7
  refine r_iconst (pc := 106) C (v := (1 : Int32)) dX11_feed_106 (by decide) ?_
  refine r_iadd (pc := 107) C dX11_feed_107 ?_
  refine r_topi (fun x8 ex8 => ?_)
  have h := h x8 ex8
  refine r_puti (pc := 108) C pfL_X11_331 dX11_feed_108 o_v0 ?_
  refine r_heap (fun S9 eS9 => ?_)
  have h := h S9 eS9
  have o_a1 := ob_I eS9 o_a1
  have o_v0 := ob_I eS9 o_v0
  obtain ⟨x10, ex10⟩ : ∃ z : Int32, z = v6 + (1 : Int32) := ⟨_, rfl⟩
  have h := h x10 ex10
  refine r_iinc (pc := 111) C (v := x10) (lv' := [(6, .int x10), (7, .int s0), (0, .ref v0), (1, .int v1), (2, .int v2), (3, .int v3), (4, .int v4), (5, .int v5)]) dX11_feed_111 7 rfl ex10.symm (by decide) rfl ?_
  refine r_goto (pc := 114) C (tgt := 23) dX11_feed_114 (by decide) ?_
  exact r_sub [2, 3, 4, 5, 6, 7, 0] rfl (hX23 v0 v1 v2 v3 v4 v5 x10 S9 h)
def B_X11_feed_23 (Q : Int32 → HS → Prop) (X23 : Nat → Int32 → Int32 → Int32 → Int32 → Int32 → Int32 → HS → Prop) (v0 : Nat) (v1 : Int32) (v2 : Int32) (v3 : Int32) (v4 : Int32) (v5 : Int32) (v6 : Int32) (S : HS) : Prop := (((20 : Int32) ≤ v6) → (ob S v0 11 ∧ (∀ x2 : Int32, x2 = fI S v0 6 → (Q x2 S)))) ∧ ((¬ (20 : Int32) ≤ v6) → ((((4 : Int32) ≤ v6) → ((((8 : Int32) ≤ v6) → ((((12 : Int32) ≤ v6) → ((((16 : Int32) ≤ v6) → (P_X11_feed_76 Q X23 v0 v1 v2 v3 v4 v5 v6 v5 S)) ∧ ((¬ (16 : Int32) ≤ v6) → (P_X11_feed_76 Q X23 v0 v1 v2 v3 v4 v5 v6 v4 S)))) ∧ ((¬ (12 : Int32) ≤ v6) → (P_X11_feed_76 Q X23 v0 v1 v2 v3 v4 v5 v6 v3 S)))) ∧ ((¬ (8 : Int32) ≤ v6) → (P_X11_feed_76 Q X23 v0 v1 v2 v3 v4 v5 v6 v2 S)))) ∧ ((¬ (4 : Int32) ≤ v6) → (P_X11_feed_76 Q X23 v0 v1 v2 v3 v4 v5 v6 v1 S))))
def P_X11_feed_23 (Q : Int32 → HS → Prop) (v0 : Nat) (v1 : Int32) (v2 : Int32) (v3 : Int32) (v4 : Int32) (v5 : Int32) (v6 : Int32) (S : HS) : Prop := ∀ X23 : Nat → Int32 → Int32 → Int32 → Int32 → Int32 → Int32 → HS → Prop, (∀ (v0 : Nat) (v1 : Int32) (v2 : Int32) (v3 : Int32) (v4 : Int32) (v5 : Int32) (v6 : Int32) (S : HS), B_X11_feed_23 Q X23 v0 v1 v2 v3 v4 v5 v6 S → X23 v0 v1 v2 v3 v4 v5 v6 S) → X23 v0 v1 v2 v3 v4 v5 v6 S
set_option maxRecDepth 20000 in
set_option maxHeartbeats 4000000 in
theorem TB_X11_feed_23 {X : CX} {Q : Int32 → HS → Prop} (C : Cx X cX11_feed RX11 8 rm_X11_feed) (E : ReI X rm_X11_feed Q) (ht : (xh X).sig.returnType = (some .int)) (hn : (xh X).name = yX11_feed.name) {X23 : Nat → Int32 → Int32 → Int32 → Int32 → Int32 → Int32 → HS → Prop} (hX23 : ∀ (v0 : Nat) (v1 : Int32) (v2 : Int32) (v3 : Int32) (v4 : Int32) (v5 : Int32) (v6 : Int32) (S : HS), X23 v0 v1 v2 v3 v4 v5 v6 S → WS X 8 0 0 23 [(0, .ref v0), (1, .int v1), (2, .int v2), (3, .int v3), (4, .int v4), (5, .int v5), (6, .int v6)] [] S) {v0 : Nat} {v1 : Int32} {v2 : Int32} {v3 : Int32} {v4 : Int32} {v5 : Int32} {v6 : Int32} {S : HS} (h : B_X11_feed_23 Q X23 v0 v1 v2 v3 v4 v5 v6 S) : WS X 8 0 0 23 [(0, .ref v0), (1, .int v1), (2, .int v2), (3, .int v3), (4, .int v4), (5, .int v5), (6, .int v6)] [] S := by
  refine r_iload (pc := 23) C dX11_feed_23 6 rfl ?_
  refine r_bipush (pc := 25) C (v := (20 : Int32)) dX11_feed_25 (by decide) ?_
  refine r_icmp_ge (pc := 27) C (tgt := 117) dX11_feed_27 (by decide) (fun c1 => ?_) (fun c1 => ?_)
  · have h := h.1 c1
    refine r_aload_n (pc := 117) C dX11_feed_117 0 rfl ?_
    obtain ⟨o_v0, h⟩ := h
    refine r_geti (pc := 118) C fL_X11_331 dX11_feed_118 o_v0 ?_
    refine r_topi (fun x2 ex2 => ?_)
    have h := h x2 ex2
    exact r_iret (pc := 121) C E ht dX11_feed_121 (by decide) (by decide) h
  · have h := h.2 c1
    refine r_iload (pc := 30) C dX11_feed_30 6 rfl ?_
    refine r_iconst (pc := 32) C (v := (4 : Int32)) dX11_feed_32 (by decide) ?_
    refine r_icmp_ge (pc := 33) C (tgt := 40) dX11_feed_33 (by decide) (fun c3 => ?_) (fun c3 => ?_)
    · have h := h.1 c3
      refine r_iload (pc := 40) C dX11_feed_40 6 rfl ?_
      refine r_bipush (pc := 42) C (v := (8 : Int32)) dX11_feed_42 (by decide) ?_
      refine r_icmp_ge (pc := 44) C (tgt := 51) dX11_feed_44 (by decide) (fun c4 => ?_) (fun c4 => ?_)
      · have h := h.1 c4
        refine r_iload (pc := 51) C dX11_feed_51 6 rfl ?_
        refine r_bipush (pc := 53) C (v := (12 : Int32)) dX11_feed_53 (by decide) ?_
        refine r_icmp_ge (pc := 55) C (tgt := 62) dX11_feed_55 (by decide) (fun c5 => ?_) (fun c5 => ?_)
        · have h := h.1 c5
          refine r_iload (pc := 62) C dX11_feed_62 6 rfl ?_
          refine r_bipush (pc := 64) C (v := (16 : Int32)) dX11_feed_64 (by decide) ?_
          refine r_icmp_ge (pc := 66) C (tgt := 74) dX11_feed_66 (by decide) (fun c6 => ?_) (fun c6 => ?_)
          · have h := h.1 c6
            refine r_iload (pc := 74) C dX11_feed_74 5 rfl ?_
            exact r_sub [0, 1, 2, 3, 4, 5, 6] rfl (T_X11_feed_76 C E ht hn hX23 h)
          · have h := h.2 c6
            refine r_iload (pc := 69) C dX11_feed_69 4 rfl ?_
            refine r_goto (pc := 71) C (tgt := 76) dX11_feed_71 (by decide) ?_
            exact r_sub [0, 1, 2, 3, 4, 5, 6] rfl (T_X11_feed_76 C E ht hn hX23 h)
        · have h := h.2 c5
          refine r_iload_n (pc := 58) C dX11_feed_58 3 rfl ?_
          refine r_goto (pc := 59) C (tgt := 76) dX11_feed_59 (by decide) ?_
          exact r_sub [0, 1, 2, 3, 4, 5, 6] rfl (T_X11_feed_76 C E ht hn hX23 h)
      · have h := h.2 c4
        refine r_iload_n (pc := 47) C dX11_feed_47 2 rfl ?_
        refine r_goto (pc := 48) C (tgt := 76) dX11_feed_48 (by decide) ?_
        exact r_sub [0, 1, 2, 3, 4, 5, 6] rfl (T_X11_feed_76 C E ht hn hX23 h)
    · have h := h.2 c3
      refine r_iload_n (pc := 36) C dX11_feed_36 1 rfl ?_
      refine r_goto (pc := 37) C (tgt := 76) dX11_feed_37 (by decide) ?_
      exact r_sub [0, 1, 2, 3, 4, 5, 6] rfl (T_X11_feed_76 C E ht hn hX23 h)
theorem T_X11_feed_23 {X : CX} {Q : Int32 → HS → Prop} (C : Cx X cX11_feed RX11 8 rm_X11_feed) (E : ReI X rm_X11_feed Q) (ht : (xh X).sig.returnType = (some .int)) (hn : (xh X).name = yX11_feed.name) {v0 : Nat} {v1 : Int32} {v2 : Int32} {v3 : Int32} {v4 : Int32} {v5 : Int32} {v6 : Int32} {S : HS} (h : P_X11_feed_23 Q v0 v1 v2 v3 v4 v5 v6 S) : WS X 8 0 0 23 [(0, .ref v0), (1, .int v1), (2, .int v2), (3, .int v3), (4, .int v4), (5, .int v5), (6, .int v6)] [] S :=
  h (fun v0 v1 v2 v3 v4 v5 v6 S => WS X 8 0 0 23 [(0, .ref v0), (1, .int v1), (2, .int v2), (3, .int v3), (4, .int v4), (5, .int v5), (6, .int v6)] [] S) (fun v0 v1 v2 v3 v4 v5 v6 S hh => TB_X11_feed_23 C E ht hn (fun v0 v1 v2 v3 v4 v5 v6 S z => z) hh)
def P_X11_feed_0 (Q : Int32 → HS → Prop) (v0 : Nat) (v1 : Int32) (v2 : Int32) (v3 : Int32) (v4 : Int32) (v5 : Int32) (S : HS) : Prop := ob S v0 11 ∧ (∀ S1 : HS, S1 = sI S v0 0 (0 : Int32) → (∀ x2 : Int32, x2 = fI S1 v0 6 → ((((x2 + (20 : Int32)) ≤ (900 : Int32)) → (P_X11_feed_23 Q v0 v1 v2 v3 v4 v5 (0 : Int32) S1)) ∧ ((¬ (x2 + (20 : Int32)) ≤ (900 : Int32)) → (Q (-1 : Int32) S1)))))
set_option maxRecDepth 20000 in
set_option maxHeartbeats 4000000 in
theorem T_X11_feed_0 {X : CX} {Q : Int32 → HS → Prop} (C : Cx X cX11_feed RX11 8 rm_X11_feed) (E : ReI X rm_X11_feed Q) (ht : (xh X).sig.returnType = (some .int)) (hn : (xh X).name = yX11_feed.name) {v0 : Nat} {v1 : Int32} {v2 : Int32} {v3 : Int32} {v4 : Int32} {v5 : Int32} {S : HS} (h : P_X11_feed_0 Q v0 v1 v2 v3 v4 v5 S) : WS X 8 0 0 0 [(0, .ref v0), (1, .int v1), (2, .int v2), (3, .int v3), (4, .int v4), (5, .int v5)] [] S := by
  refine r_aload_n (pc := 0) C dX11_feed_0 0 rfl ?_
  refine r_iconst (pc := 1) C (v := (0 : Int32)) dX11_feed_1 (by decide) ?_
  obtain ⟨o_v0, h⟩ := h
  refine r_puti (pc := 2) C pfL_X11_40 dX11_feed_2 o_v0 ?_
  refine r_heap (fun S1 eS1 => ?_)
  have h := h S1 eS1
  have o_v0 := ob_I eS1 o_v0
  refine r_aload_n (pc := 5) C dX11_feed_5 0 rfl ?_
  refine r_geti (pc := 6) C fL_X11_331 dX11_feed_6 o_v0 ?_
  refine r_topi (fun x2 ex2 => ?_)
  have h := h x2 ex2
  refine r_bipush (pc := 9) C (v := (20 : Int32)) dX11_feed_9 (by decide) ?_
  refine r_iadd (pc := 11) C dX11_feed_11 ?_
  refine r_sipush (pc := 12) C (v := (900 : Int32)) dX11_feed_12 (by decide) ?_
  refine r_icmp_le (pc := 15) C (tgt := 20) dX11_feed_15 (by decide) (fun c3 => ?_) (fun c3 => ?_)
  · have h := h.1 c3
    refine r_iconst (pc := 20) C (v := (0 : Int32)) dX11_feed_20 (by decide) ?_
    refine r_istore (pc := 21) C dX11_feed_21 (by decide) (lv' := [(6, .int (0 : Int32)), (0, .ref v0), (1, .int v1), (2, .int v2), (3, .int v3), (4, .int v4), (5, .int v5)]) rfl ?_
    exact r_sub [1, 2, 3, 4, 5, 6, 0] rfl (T_X11_feed_23 C E ht hn h)
  · have h := h.2 c3
    refine r_iconst (pc := 18) C (v := (-1 : Int32)) dX11_feed_18 (by decide) ?_
    exact r_iret (pc := 19) C E ht dX11_feed_19 (by decide) (by decide) h
def P_X11_feed (v0 : Nat) (v1 : Int32) (v2 : Int32) (v3 : Int32) (v4 : Int32) (v5 : Int32) (Q : Int32 → HS → Prop) (S : HS) : Prop := P_X11_feed_0 Q v0 v1 v2 v3 v4 v5 S
theorem c_X11_feed {l : Launch} {Ee : EE} {S : HS} {v0 : Nat} {v1 : Int32} {v2 : Int32} {v3 : Int32} {v4 : Int32} {v5 : Int32} {Q : Int32 → HS → Prop} (h : P_X11_feed v0 v1 v2 v3 v4 v5 Q S) : MI l yX11_feed cX11_feed 8 (some .int) rm_X11_feed Ee S [.ref v0, .int v1, .int v2, .int v3, .int v4, .int v5] Q :=
  openI (by decide) (Nat.le_of_ble_eq_true rfl) (fun X C E ht hn hE hl => by subst hE; exact r_sub [0, 1, 2, 3, 4, 5] rfl (T_X11_feed_0 C E ht hn h))
def rm_X11_refusesTwo : Room := { frames := 3, cells := 0, slots := 0, locals := 69 }
def P_X11_refusesTwo_0 (Q : Int32 → HS → Prop) (v0 : Nat) (v1 : Int32) (v2 : Int32) (v3 : Int32) (v4 : Int32) (v5 : Int32) (v6 : Int32) (S : HS) : Prop := ((v1 = v2) → (Q (1 : Int32) S)) ∧ ((¬ v1 = v2) → (ob S v0 11 ∧ (P_X11_isWalker v0 v2 (fun x4 S2 => Gr S S2 → bl x4 → (((¬ x4 = 0) → (P_X11_refuses v0 v1 v3 v4 v5 v6 (fun x8 S6 => Gr S2 S6 → (((x8 ≤ 0) → (P_X11_isSpeed v0 v2 v6 (fun x12 S10 => Gr S6 S10 → bl x12 → (((x12 = 0) → (Q (2 : Int32) S10)) ∧ ((¬ x12 = 0) → (Q (0 : Int32) S10)))) S6)) ∧ ((¬ x8 ≤ 0) → (Q x8 S6)))) S2)) ∧ ((x4 = 0) → (Q (1 : Int32) S2)))) S)))
set_option maxRecDepth 20000 in
set_option maxHeartbeats 4000000 in
theorem T_X11_refusesTwo_0 {X : CX} {Q : Int32 → HS → Prop} (C : Cx X cX11_refusesTwo RX11 8 rm_X11_refusesTwo) (E : ReI X rm_X11_refusesTwo Q) (ht : (xh X).sig.returnType = (some .int)) (hn : (xh X).name = yX11_refusesTwo.name) {v0 : Nat} {v1 : Int32} {v2 : Int32} {v3 : Int32} {v4 : Int32} {v5 : Int32} {v6 : Int32} {S : HS} (h : P_X11_refusesTwo_0 Q v0 v1 v2 v3 v4 v5 v6 S) : WS X 8 0 0 0 [(0, .ref v0), (1, .int v1), (2, .int v2), (3, .int v3), (4, .int v4), (5, .int v5), (6, .int v6)] [] S := by
  refine r_iload_n (pc := 0) C dX11_refusesTwo_0 1 rfl ?_
  refine r_iload_n (pc := 1) C dX11_refusesTwo_1 2 rfl ?_
  refine r_icmp_eq (pc := 2) C (tgt := 13) dX11_refusesTwo_2 (by decide) (fun c1 => ?_) (fun c1 => ?_)
  · have h := h.1 c1
    refine r_iconst (pc := 13) C (v := (1 : Int32)) dX11_refusesTwo_13 (by decide) ?_
    exact r_iret (pc := 14) C E ht dX11_refusesTwo_14 (by decide) (by decide) h
  · have h := h.2 c1
    refine r_aload_n (pc := 5) C dX11_refusesTwo_5 0 rfl ?_
    refine r_iload_n (pc := 6) C dX11_refusesTwo_6 2 rfl ?_
    obtain ⟨o_v0, h⟩ := h
    refine r_callVi0 (pc := 7) C (rest := []) (a := v0) o_v0 [.int v2] yV_X11_isWalker g_1538 (c_X11_isWalker h) dX11_refusesTwo_7 rfl rfl (Nat.le_of_ble_eq_true rfl) ⟨by decide, by decide⟩ ⟨by decide, by decide⟩ ⟨rfl, rfl⟩ (fun x4 S2 h g3 => ?_)
    have bx4 := h.1
    have h := h.2 g3 bx4
    have o_v0 := gr_ob g3 o_v0
    refine r_if_ne (pc := 10) C (tgt := 15) dX11_refusesTwo_10 (by decide) (fun c5 => ?_) (fun c5 => ?_)
    · have h := h.1 c5
      refine r_aload_n (pc := 15) C dX11_refusesTwo_15 0 rfl ?_
      refine r_iload_n (pc := 16) C dX11_refusesTwo_16 1 rfl ?_
      refine r_iload_n (pc := 17) C dX11_refusesTwo_17 3 rfl ?_
      refine r_iload (pc := 18) C dX11_refusesTwo_18 4 rfl ?_
      refine r_iload (pc := 20) C dX11_refusesTwo_20 5 rfl ?_
      refine r_iload (pc := 22) C dX11_refusesTwo_22 6 rfl ?_
      refine r_callVi0 (pc := 24) C (rest := []) (a := v0) o_v0 [.int v1, .int v3, .int v4, .int v5, .int v6] yV_X11_refuses g_1534 (c_X11_refuses h) dX11_refusesTwo_24 rfl rfl (Nat.le_of_ble_eq_true rfl) ⟨by decide, by decide⟩ ⟨by decide, by decide⟩ ⟨rfl, rfl⟩ (fun x8 S6 h g7 => ?_)
      have h := h g7
      have o_v0 := gr_ob g7 o_v0
      refine r_istore (pc := 27) C dX11_refusesTwo_27 (by decide) (lv' := [(7, .int x8), (0, .ref v0), (1, .int v1), (2, .int v2), (3, .int v3), (4, .int v4), (5, .int v5), (6, .int v6)]) rfl ?_
      refine r_iload (pc := 29) C dX11_refusesTwo_29 0 rfl ?_
      refine r_if_le (pc := 31) C (tgt := 39) dX11_refusesTwo_31 (by decide) (fun c9 => ?_) (fun c9 => ?_)
      · have h := h.1 c9
        refine r_aload_n (pc := 39) C dX11_refusesTwo_39 1 rfl ?_
        refine r_iload_n (pc := 40) C dX11_refusesTwo_40 3 rfl ?_
        refine r_iload (pc := 41) C dX11_refusesTwo_41 7 rfl ?_
        refine r_callVi0 (pc := 43) C (rest := []) (a := v0) o_v0 [.int v2, .int v6] yV_X11_isSpeed g_1550 (c_X11_isSpeed h) dX11_refusesTwo_43 rfl rfl (Nat.le_of_ble_eq_true rfl) ⟨by decide, by decide⟩ ⟨by decide, by decide⟩ ⟨rfl, rfl⟩ (fun x12 S10 h g11 => ?_)
        have bx12 := h.1
        have h := h.2 g11 bx12
        have o_v0 := gr_ob g11 o_v0
        refine r_if_eq (pc := 46) C (tgt := 53) dX11_refusesTwo_46 (by decide) (fun c13 => ?_) (fun c13 => ?_)
        · have h := h.1 c13
          refine r_iconst (pc := 53) C (v := (2 : Int32)) dX11_refusesTwo_53 (by decide) ?_
          exact r_iret (pc := 54) C E ht dX11_refusesTwo_54 (by decide) (by decide) h
        · have h := h.2 c13
          refine r_iconst (pc := 49) C (v := (0 : Int32)) dX11_refusesTwo_49 (by decide) ?_
          refine r_goto (pc := 50) C (tgt := 54) dX11_refusesTwo_50 (by decide) ?_
          exact r_iret (pc := 54) C E ht dX11_refusesTwo_54 (by decide) (by decide) h
      · have h := h.2 c9
        refine r_iload (pc := 34) C dX11_refusesTwo_34 0 rfl ?_
        refine r_goto (pc := 36) C (tgt := 54) dX11_refusesTwo_36 (by decide) ?_
        exact r_iret (pc := 54) C E ht dX11_refusesTwo_54 (by decide) (by decide) h
    · have h := h.2 c5
      refine r_iconst (pc := 13) C (v := (1 : Int32)) dX11_refusesTwo_13 (by decide) ?_
      exact r_iret (pc := 14) C E ht dX11_refusesTwo_14 (by decide) (by decide) h
def P_X11_refusesTwo (v0 : Nat) (v1 : Int32) (v2 : Int32) (v3 : Int32) (v4 : Int32) (v5 : Int32) (v6 : Int32) (Q : Int32 → HS → Prop) (S : HS) : Prop := P_X11_refusesTwo_0 Q v0 v1 v2 v3 v4 v5 v6 S
theorem c_X11_refusesTwo {l : Launch} {Ee : EE} {S : HS} {v0 : Nat} {v1 : Int32} {v2 : Int32} {v3 : Int32} {v4 : Int32} {v5 : Int32} {v6 : Int32} {Q : Int32 → HS → Prop} (h : P_X11_refusesTwo v0 v1 v2 v3 v4 v5 v6 Q S) : MI l yX11_refusesTwo cX11_refusesTwo 8 (some .int) rm_X11_refusesTwo Ee S [.ref v0, .int v1, .int v2, .int v3, .int v4, .int v5, .int v6] Q :=
  openI (by decide) (Nat.le_of_ble_eq_true rfl) (fun X C E ht hn hE hl => by subst hE; exact r_sub [0, 1, 2, 3, 4, 5, 6] rfl (T_X11_refusesTwo_0 C E ht hn h))
def rm_X11_together : Room := { frames := 4, cells := 0, slots := 0, locals := 109 }
def B_X11_together_6 (Q : Int64 → HS → Prop) (X6 : Nat → Int32 → Int32 → Int32 → Int32 → Int32 → Int32 → Int64 → Int32 → HS → Prop) (v0 : Nat) (v1 : Int32) (v2 : Int32) (v3 : Int32) (v4 : Int32) (v5 : Int32) (v6 : Int32) (v7 : Int64) (v9 : Int32) (S : HS) : Prop := (((5 : Int32) ≤ v9) → (ob S v0 11 ∧ (∃ a2 : Nat, fR S v0 3 = some a2 ∧ (ob S a2 10 ∧ (∃ a3 : Nat, fR S a2 16 = some a3 ∧ (ob S a3 13 ∧ (vp_in v3 (hN S a3) ∧ ∀ x5 : Int32, x5 = fI S a3 v3.toNatClampNeg → (∃ a6 : Nat, fR S v0 3 = some a6 ∧ (ob S a6 10 ∧ (∃ a7 : Nat, fR S a6 17 = some a7 ∧ (ob S a7 13 ∧ (vp_in v3 (hN S a7) ∧ ∀ x9 : Int32, x9 = fI S a7 v3.toNatClampNeg → (¬ v6 = 0 ∧ ∀ x11 : Int32, x11 = (2520 : Int32) / v6 → (Q ((v7 * ((x5 - x9).toInt64)) * x11.toInt64) S)))))))))))))) ∧ ((¬ (5 : Int32) ≤ v9) → (ob S v0 11 ∧ (∃ a12 : Nat, fR S v0 3 = some a12 ∧ (ob S a12 10 ∧ (∃ a13 : Nat, fR S a12 22 = some a13 ∧ (ob S a13 13 ∧ (vp_in v2 (hN S a13) ∧ ∀ x15 : Int32, x15 = fI S a13 v2.toNatClampNeg → (P_X11_inTime v0 v1 v3 v4 v5 v6 v9 (0 : Int32) x15 (fun x18 S16 => Gr S S16 → (∀ x19 : Int64, x19 = v7 + x18.toInt64 → (∃ a20 : Nat, fR S16 v0 3 = some a20 ∧ (ob S16 a20 10 ∧ (∃ a21 : Nat, fR S16 a20 22 = some a21 ∧ (ob S16 a21 13 ∧ (vp_in v1 (hN S16 a21) ∧ ∀ x23 : Int32, x23 = fI S16 a21 v1.toNatClampNeg → (P_X11_inTime v0 v2 v3 v4 v5 v6 v9 x23 (0 : Int32) (fun x26 S24 => Gr S16 S24 → (∀ x27 : Int64, x27 = x19 + x26.toInt64 → (∀ x28 : Int32, x28 = v9 + (1 : Int32) → (X6 v0 v1 v2 v3 v4 v5 v6 x27 x28 S24)))) S16)))))))) S))))))))
def P_X11_together_6 (Q : Int64 → HS → Prop) (v0 : Nat) (v1 : Int32) (v2 : Int32) (v3 : Int32) (v4 : Int32) (v5 : Int32) (v6 : Int32) (v7 : Int64) (v9 : Int32) (S : HS) : Prop := ∀ X6 : Nat → Int32 → Int32 → Int32 → Int32 → Int32 → Int32 → Int64 → Int32 → HS → Prop, (∀ (v0 : Nat) (v1 : Int32) (v2 : Int32) (v3 : Int32) (v4 : Int32) (v5 : Int32) (v6 : Int32) (v7 : Int64) (v9 : Int32) (S : HS), B_X11_together_6 Q X6 v0 v1 v2 v3 v4 v5 v6 v7 v9 S → X6 v0 v1 v2 v3 v4 v5 v6 v7 v9 S) → X6 v0 v1 v2 v3 v4 v5 v6 v7 v9 S
set_option maxRecDepth 20000 in
set_option maxHeartbeats 4000000 in
theorem TB_X11_together_6 {X : CX} {Q : Int64 → HS → Prop} (C : Cx X cX11_together RX11 10 rm_X11_together) (E : ReJ X rm_X11_together Q) (ht : (xh X).sig.returnType = (some .long)) (hn : (xh X).name = yX11_together.name) {X6 : Nat → Int32 → Int32 → Int32 → Int32 → Int32 → Int32 → Int64 → Int32 → HS → Prop} (hX6 : ∀ (v0 : Nat) (v1 : Int32) (v2 : Int32) (v3 : Int32) (v4 : Int32) (v5 : Int32) (v6 : Int32) (v7 : Int64) (v9 : Int32) (S : HS), X6 v0 v1 v2 v3 v4 v5 v6 v7 v9 S → WS X 10 0 0 6 [(0, .ref v0), (1, .int v1), (2, .int v2), (3, .int v3), (4, .int v4), (5, .int v5), (6, .int v6), (7, .long v7), (9, .int v9)] [] S) {v0 : Nat} {v1 : Int32} {v2 : Int32} {v3 : Int32} {v4 : Int32} {v5 : Int32} {v6 : Int32} {v7 : Int64} {v9 : Int32} {S : HS} (h : B_X11_together_6 Q X6 v0 v1 v2 v3 v4 v5 v6 v7 v9 S) : WS X 10 0 0 6 [(0, .ref v0), (1, .int v1), (2, .int v2), (3, .int v3), (4, .int v4), (5, .int v5), (6, .int v6), (7, .long v7), (9, .int v9)] [] S := by
  refine r_iload (pc := 6) C dX11_together_6 8 rfl ?_
  refine r_iconst (pc := 8) C (v := (5 : Int32)) dX11_together_8 (by decide) ?_
  refine r_icmp_ge (pc := 9) C (tgt := 78) dX11_together_9 (by decide) (fun c1 => ?_) (fun c1 => ?_)
  · have h := h.1 c1
    refine r_lload (pc := 78) C dX11_together_78 7 rfl ?_
    refine r_aload_n (pc := 80) C dX11_together_80 0 rfl ?_
    obtain ⟨o_v0, h⟩ := h
    obtain ⟨a2, ea2, h⟩ := h
    refine r_getr (pc := 81) C fL_X11_338 dX11_together_81 o_v0 ea2 ?_
    obtain ⟨o_a2, h⟩ := h
    obtain ⟨a3, ea3, h⟩ := h
    refine r_getNr (pc := 84) C fN_X11_279 dX11_together_84 o_a2 ea3 ?_
    refine r_iload_n (pc := 87) C dX11_together_87 3 rfl ?_
    obtain ⟨o_a3, h⟩ := h
    obtain ⟨i4, h⟩ := h
    refine r_iald (pc := 88) C dX11_together_88 o_a3 i4 ?_
    refine r_topi (fun x5 ex5 => ?_)
    have h := h x5 ex5
    refine r_aload_n (pc := 89) C dX11_together_89 0 rfl ?_
    obtain ⟨a6, ea6, h⟩ := h
    refine r_getr (pc := 90) C fL_X11_338 dX11_together_90 o_v0 ea6 ?_
    obtain ⟨o_a6, h⟩ := h
    obtain ⟨a7, ea7, h⟩ := h
    refine r_getNr (pc := 93) C fN_X11_282 dX11_together_93 o_a6 ea7 ?_
    refine r_iload_n (pc := 96) C dX11_together_96 3 rfl ?_
    obtain ⟨o_a7, h⟩ := h
    obtain ⟨i8, h⟩ := h
    refine r_iald (pc := 97) C dX11_together_97 o_a7 i8 ?_
    refine r_topi (fun x9 ex9 => ?_)
    have h := h x9 ex9
    refine r_isub (pc := 98) C dX11_together_98 ?_
    refine r_i2l (pc := 99) C dX11_together_99 ?_
    refine r_lmul (pc := 100) C dX11_together_100 ?_
    refine r_sipush (pc := 101) C (v := (2520 : Int32)) dX11_together_101 (by decide) ?_
    refine r_iload (pc := 104) C dX11_together_104 6 rfl ?_
    obtain ⟨q10, h⟩ := h
    refine r_idiv (pc := 106) C dX11_together_106 q10 ?_
    refine r_topi (fun x11 ex11 => ?_)
    have h := h x11 ex11
    refine r_i2l (pc := 107) C dX11_together_107 ?_
    refine r_lmul (pc := 108) C dX11_together_108 ?_
    exact r_lret (pc := 109) C E ht dX11_together_109 (by decide) (by decide) h
  · have h := h.2 c1
    refine r_lload (pc := 12) C dX11_together_12 7 rfl ?_
    refine r_aload_n (pc := 14) C dX11_together_14 0 rfl ?_
    refine r_iload_n (pc := 15) C dX11_together_15 1 rfl ?_
    refine r_iload_n (pc := 16) C dX11_together_16 3 rfl ?_
    refine r_iload (pc := 17) C dX11_together_17 4 rfl ?_
    refine r_iload (pc := 19) C dX11_together_19 5 rfl ?_
    refine r_iload (pc := 21) C dX11_together_21 6 rfl ?_
    refine r_iload (pc := 23) C dX11_together_23 8 rfl ?_
    refine r_iconst (pc := 25) C (v := (0 : Int32)) dX11_together_25 (by decide) ?_
    refine r_aload_n (pc := 26) C dX11_together_26 0 rfl ?_
    obtain ⟨o_v0, h⟩ := h
    obtain ⟨a12, ea12, h⟩ := h
    refine r_getr (pc := 27) C fL_X11_338 dX11_together_27 o_v0 ea12 ?_
    obtain ⟨o_a12, h⟩ := h
    obtain ⟨a13, ea13, h⟩ := h
    refine r_getNr (pc := 30) C fN_X11_311 dX11_together_30 o_a12 ea13 ?_
    refine r_iload_n (pc := 33) C dX11_together_33 2 rfl ?_
    obtain ⟨o_a13, h⟩ := h
    obtain ⟨i14, h⟩ := h
    refine r_iald (pc := 34) C dX11_together_34 o_a13 i14 ?_
    refine r_topi (fun x15 ex15 => ?_)
    have h := h x15 ex15
    refine r_callVi0 (pc := 35) C (rest := [.long v7]) (a := v0) o_v0 [.int v1, .int v3, .int v4, .int v5, .int v6, .int v9, .int (0 : Int32), .int x15] yV_X11_inTime g_1558 (c_X11_inTime h) dX11_together_35 rfl rfl (Nat.le_of_ble_eq_true rfl) ⟨by decide, by decide⟩ ⟨by decide, by decide⟩ ⟨rfl, rfl⟩ (fun x18 S16 h g17 => ?_)
    have h := h g17
    have o_a12 := gr_ob g17 o_a12
    have o_a13 := gr_ob g17 o_a13
    have o_v0 := gr_ob g17 o_v0
    refine r_i2l (pc := 38) C dX11_together_38 ?_
    refine r_ladd (pc := 39) C dX11_together_39 ?_
    refine r_topl (fun x19 ex19 => ?_)
    have h := h x19 ex19
    refine r_lstore (pc := 40) C dX11_together_40 (by decide) (lv' := [(7, .long x19), (0, .ref v0), (1, .int v1), (2, .int v2), (3, .int v3), (4, .int v4), (5, .int v5), (6, .int v6), (9, .int v9)]) rfl ?_
    refine r_lload (pc := 42) C dX11_together_42 0 rfl ?_
    refine r_aload_n (pc := 44) C dX11_together_44 1 rfl ?_
    refine r_iload_n (pc := 45) C dX11_together_45 3 rfl ?_
    refine r_iload_n (pc := 46) C dX11_together_46 4 rfl ?_
    refine r_iload (pc := 47) C dX11_together_47 5 rfl ?_
    refine r_iload (pc := 49) C dX11_together_49 6 rfl ?_
    refine r_iload (pc := 51) C dX11_together_51 7 rfl ?_
    refine r_iload (pc := 53) C dX11_together_53 8 rfl ?_
    refine r_aload_n (pc := 55) C dX11_together_55 1 rfl ?_
    obtain ⟨a20, ea20, h⟩ := h
    refine r_getr (pc := 56) C fL_X11_338 dX11_together_56 o_v0 ea20 ?_
    obtain ⟨o_a20, h⟩ := h
    obtain ⟨a21, ea21, h⟩ := h
    refine r_getNr (pc := 59) C fN_X11_311 dX11_together_59 o_a20 ea21 ?_
    refine r_iload_n (pc := 62) C dX11_together_62 2 rfl ?_
    obtain ⟨o_a21, h⟩ := h
    obtain ⟨i22, h⟩ := h
    refine r_iald (pc := 63) C dX11_together_63 o_a21 i22 ?_
    refine r_topi (fun x23 ex23 => ?_)
    have h := h x23 ex23
    refine r_iconst (pc := 64) C (v := (0 : Int32)) dX11_together_64 (by decide) ?_
    refine r_callVi0 (pc := 65) C (rest := [.long x19]) (a := v0) o_v0 [.int v2, .int v3, .int v4, .int v5, .int v6, .int v9, .int x23, .int (0 : Int32)] yV_X11_inTime g_1558 (c_X11_inTime h) dX11_together_65 rfl rfl (Nat.le_of_ble_eq_true rfl) ⟨by decide, by decide⟩ ⟨by decide, by decide⟩ ⟨rfl, rfl⟩ (fun x26 S24 h g25 => ?_)
    have h := h g25
    have o_a12 := gr_ob g25 o_a12
    have o_a13 := gr_ob g25 o_a13
    have o_a20 := gr_ob g25 o_a20
    have o_a21 := gr_ob g25 o_a21
    have o_v0 := gr_ob g25 o_v0
    refine r_i2l (pc := 68) C dX11_together_68 ?_
    refine r_ladd (pc := 69) C dX11_together_69 ?_
    refine r_topl (fun x27 ex27 => ?_)
    have h := h x27 ex27
    refine r_lstore (pc := 70) C dX11_together_70 (by decide) (lv' := [(7, .long x27), (0, .ref v0), (1, .int v1), (2, .int v2), (3, .int v3), (4, .int v4), (5, .int v5), (6, .int v6), (9, .int v9)]) rfl ?_
    obtain ⟨x28, ex28⟩ : ∃ z : Int32, z = v9 + (1 : Int32) := ⟨_, rfl⟩
    have h := h x28 ex28
    refine r_iinc (pc := 72) C (v := x28) (lv' := [(9, .int x28), (7, .long x27), (0, .ref v0), (1, .int v1), (2, .int v2), (3, .int v3), (4, .int v4), (5, .int v5), (6, .int v6)]) dX11_together_72 8 rfl ex28.symm (by decide) rfl ?_
    refine r_goto (pc := 75) C (tgt := 6) dX11_together_75 (by decide) ?_
    exact r_sub [2, 3, 4, 5, 6, 7, 8, 1, 0] rfl (hX6 v0 v1 v2 v3 v4 v5 v6 x27 x28 S24 h)
theorem T_X11_together_6 {X : CX} {Q : Int64 → HS → Prop} (C : Cx X cX11_together RX11 10 rm_X11_together) (E : ReJ X rm_X11_together Q) (ht : (xh X).sig.returnType = (some .long)) (hn : (xh X).name = yX11_together.name) {v0 : Nat} {v1 : Int32} {v2 : Int32} {v3 : Int32} {v4 : Int32} {v5 : Int32} {v6 : Int32} {v7 : Int64} {v9 : Int32} {S : HS} (h : P_X11_together_6 Q v0 v1 v2 v3 v4 v5 v6 v7 v9 S) : WS X 10 0 0 6 [(0, .ref v0), (1, .int v1), (2, .int v2), (3, .int v3), (4, .int v4), (5, .int v5), (6, .int v6), (7, .long v7), (9, .int v9)] [] S :=
  h (fun v0 v1 v2 v3 v4 v5 v6 v7 v9 S => WS X 10 0 0 6 [(0, .ref v0), (1, .int v1), (2, .int v2), (3, .int v3), (4, .int v4), (5, .int v5), (6, .int v6), (7, .long v7), (9, .int v9)] [] S) (fun v0 v1 v2 v3 v4 v5 v6 v7 v9 S hh => TB_X11_together_6 C E ht hn (fun v0 v1 v2 v3 v4 v5 v6 v7 v9 S z => z) hh)
def P_X11_together_0 (Q : Int64 → HS → Prop) (v0 : Nat) (v1 : Int32) (v2 : Int32) (v3 : Int32) (v4 : Int32) (v5 : Int32) (v6 : Int32) (S : HS) : Prop := P_X11_together_6 Q v0 v1 v2 v3 v4 v5 v6 (0 : Int64) (0 : Int32) S
set_option maxRecDepth 20000 in
set_option maxHeartbeats 4000000 in
theorem T_X11_together_0 {X : CX} {Q : Int64 → HS → Prop} (C : Cx X cX11_together RX11 10 rm_X11_together) (E : ReJ X rm_X11_together Q) (ht : (xh X).sig.returnType = (some .long)) (hn : (xh X).name = yX11_together.name) {v0 : Nat} {v1 : Int32} {v2 : Int32} {v3 : Int32} {v4 : Int32} {v5 : Int32} {v6 : Int32} {S : HS} (h : P_X11_together_0 Q v0 v1 v2 v3 v4 v5 v6 S) : WS X 10 0 0 0 [(0, .ref v0), (1, .int v1), (2, .int v2), (3, .int v3), (4, .int v4), (5, .int v5), (6, .int v6)] [] S := by
  refine r_lconst (pc := 0) C (v := (0 : Int64)) dX11_together_0 (by decide) ?_
  refine r_lstore (pc := 1) C dX11_together_1 (by decide) (lv' := [(7, .long (0 : Int64)), (0, .ref v0), (1, .int v1), (2, .int v2), (3, .int v3), (4, .int v4), (5, .int v5), (6, .int v6)]) rfl ?_
  refine r_iconst (pc := 3) C (v := (0 : Int32)) dX11_together_3 (by decide) ?_
  refine r_istore (pc := 4) C dX11_together_4 (by decide) (lv' := [(9, .int (0 : Int32)), (7, .long (0 : Int64)), (0, .ref v0), (1, .int v1), (2, .int v2), (3, .int v3), (4, .int v4), (5, .int v5), (6, .int v6)]) rfl ?_
  exact r_sub [2, 3, 4, 5, 6, 7, 8, 1, 0] rfl (T_X11_together_6 C E ht hn h)
def P_X11_together (v0 : Nat) (v1 : Int32) (v2 : Int32) (v3 : Int32) (v4 : Int32) (v5 : Int32) (v6 : Int32) (Q : Int64 → HS → Prop) (S : HS) : Prop := P_X11_together_0 Q v0 v1 v2 v3 v4 v5 v6 S
theorem c_X11_together {l : Launch} {Ee : EE} {S : HS} {v0 : Nat} {v1 : Int32} {v2 : Int32} {v3 : Int32} {v4 : Int32} {v5 : Int32} {v6 : Int32} {Q : Int64 → HS → Prop} (h : P_X11_together v0 v1 v2 v3 v4 v5 v6 Q S) : MJ l yX11_together cX11_together 10 (some .long) rm_X11_together Ee S [.ref v0, .int v1, .int v2, .int v3, .int v4, .int v5, .int v6] Q :=
  openJ (by decide) (Nat.le_of_ble_eq_true rfl) (fun X C E ht hn hE hl => by subst hE; exact r_sub [0, 1, 2, 3, 4, 5, 6] rfl (T_X11_together_0 C E ht hn h))
def rm_X11_first : Room := { frames := 5, cells := 0, slots := 0, locals := 138 }
def P_X11_first_89 (Q : Int32 → HS → Prop) (s0 : Nat) (s1 : Int32) (S : HS) : Prop := ob S s0 11 ∧ (P_X11_good s0 s1 (fun x3 S1 => Gr S S1 → (Q x3 S1)) S)
set_option maxRecDepth 20000 in
set_option maxHeartbeats 4000000 in
theorem T_X11_first_89 {X : CX} {Q : Int32 → HS → Prop} (C : Cx X cX11_first RX11 12 rm_X11_first) (E : ReI X rm_X11_first Q) (ht : (xh X).sig.returnType = (some .int)) (hn : (xh X).name = yX11_first.name) {s0 : Nat} {s1 : Int32} {S : HS} (h : P_X11_first_89 Q s0 s1 S) : WS X 12 0 0 89 [] [.int s1, .ref s0] S := by
  obtain ⟨o_s0, h⟩ := h
  refine r_callVi0 (pc := 89) C (rest := []) (a := s0) o_s0 [.int s1] yV_X11_good g_1518 (c_X11_good h) dX11_first_89 rfl rfl (Nat.le_of_ble_eq_true rfl) ⟨by decide, by decide⟩ ⟨by decide, by decide⟩ ⟨rfl, rfl⟩ (fun x3 S1 h g2 => ?_)
  have h := h g2
  have o_s0 := gr_ob g2 o_s0
  exact r_iret (pc := 92) C E ht dX11_first_92 (by decide) (by decide) h
def P_X11_first_0 (Q : Int32 → HS → Prop) (v0 : Nat) (v1 : Int32) (v2 : Int32) (v3 : Int32) (v4 : Int32) (v5 : Int32) (v6 : Int32) (S : HS) : Prop := ob S v0 11 ∧ (∀ S1 : HS, S1 = sI S v0 0 (0 : Int32) → (P_X11_refusesTwo v0 v1 v2 v3 v4 v5 v6 (fun x4 S2 => Gr S1 S2 → (((x4 ≤ 0) → (P_X11_together v0 v1 v2 v3 v4 v5 v6 (fun x8 S6 => Gr S2 S6 → (P_X11_together v0 v2 v1 v3 v4 v5 v6 (fun x11 S9 => Gr S6 S9 → (((0 ≤ (lg_cmp x8 x11)) → (((0 ≤ (lg_cmp x11 x8)) → (P_X11_first_89 Q v0 (-2 : Int32) S9)) ∧ ((¬ 0 ≤ (lg_cmp x11 x8)) → (P_X11_first_89 Q v0 (1 : Int32) S9)))) ∧ ((¬ 0 ≤ (lg_cmp x8 x11)) → (P_X11_first_89 Q v0 (0 : Int32) S9)))) S6)) S2)) ∧ ((¬ x4 ≤ 0) → (P_X11_refused v0 x4 (fun x16 S14 => Gr S2 S14 → (Q x16 S14)) S2)))) S1))
set_option maxRecDepth 20000 in
set_option maxHeartbeats 4000000 in
theorem T_X11_first_0 {X : CX} {Q : Int32 → HS → Prop} (C : Cx X cX11_first RX11 12 rm_X11_first) (E : ReI X rm_X11_first Q) (ht : (xh X).sig.returnType = (some .int)) (hn : (xh X).name = yX11_first.name) {v0 : Nat} {v1 : Int32} {v2 : Int32} {v3 : Int32} {v4 : Int32} {v5 : Int32} {v6 : Int32} {S : HS} (h : P_X11_first_0 Q v0 v1 v2 v3 v4 v5 v6 S) : WS X 12 0 0 0 [(0, .ref v0), (1, .int v1), (2, .int v2), (3, .int v3), (4, .int v4), (5, .int v5), (6, .int v6)] [] S := by
  refine r_aload_n (pc := 0) C dX11_first_0 0 rfl ?_
  refine r_iconst (pc := 1) C (v := (0 : Int32)) dX11_first_1 (by decide) ?_
  obtain ⟨o_v0, h⟩ := h
  refine r_puti (pc := 2) C pfL_X11_40 dX11_first_2 o_v0 ?_
  refine r_heap (fun S1 eS1 => ?_)
  have h := h S1 eS1
  have o_v0 := ob_I eS1 o_v0
  refine r_aload_n (pc := 5) C dX11_first_5 0 rfl ?_
  refine r_iload_n (pc := 6) C dX11_first_6 1 rfl ?_
  refine r_iload_n (pc := 7) C dX11_first_7 2 rfl ?_
  refine r_iload_n (pc := 8) C dX11_first_8 3 rfl ?_
  refine r_iload (pc := 9) C dX11_first_9 4 rfl ?_
  refine r_iload (pc := 11) C dX11_first_11 5 rfl ?_
  refine r_iload (pc := 13) C dX11_first_13 6 rfl ?_
  refine r_callVi0 (pc := 15) C (rest := []) (a := v0) o_v0 [.int v1, .int v2, .int v3, .int v4, .int v5, .int v6] yV_X11_refusesTwo g_1659 (c_X11_refusesTwo h) dX11_first_15 rfl rfl (Nat.le_of_ble_eq_true rfl) ⟨by decide, by decide⟩ ⟨by decide, by decide⟩ ⟨rfl, rfl⟩ (fun x4 S2 h g3 => ?_)
  have h := h g3
  have o_v0 := gr_ob g3 o_v0
  refine r_istore (pc := 18) C dX11_first_18 (by decide) (lv' := [(7, .int x4), (0, .ref v0), (1, .int v1), (2, .int v2), (3, .int v3), (4, .int v4), (5, .int v5), (6, .int v6)]) rfl ?_
  refine r_iload (pc := 20) C dX11_first_20 0 rfl ?_
  refine r_if_le (pc := 22) C (tgt := 32) dX11_first_22 (by decide) (fun c5 => ?_) (fun c5 => ?_)
  · have h := h.1 c5
    refine r_aload_n (pc := 32) C dX11_first_32 1 rfl ?_
    refine r_iload_n (pc := 33) C dX11_first_33 2 rfl ?_
    refine r_iload_n (pc := 34) C dX11_first_34 3 rfl ?_
    refine r_iload_n (pc := 35) C dX11_first_35 4 rfl ?_
    refine r_iload (pc := 36) C dX11_first_36 5 rfl ?_
    refine r_iload (pc := 38) C dX11_first_38 6 rfl ?_
    refine r_iload (pc := 40) C dX11_first_40 7 rfl ?_
    refine r_callVl0 (pc := 42) C (rest := []) (a := v0) o_v0 [.int v1, .int v2, .int v3, .int v4, .int v5, .int v6] yV_X11_together g_1663 (c_X11_together h) dX11_first_42 rfl rfl (Nat.le_of_ble_eq_true rfl) ⟨by decide, by decide⟩ ⟨by decide, by decide⟩ ⟨rfl, rfl⟩ (fun x8 S6 h g7 => ?_)
    have h := h g7
    have o_v0 := gr_ob g7 o_v0
    refine r_lstore (pc := 45) C dX11_first_45 (by decide) (lv' := [(8, .long x8), (7, .int x4), (0, .ref v0), (1, .int v1), (2, .int v2), (3, .int v3), (4, .int v4), (5, .int v5), (6, .int v6)]) rfl ?_
    refine r_aload_n (pc := 47) C dX11_first_47 2 rfl ?_
    refine r_iload_n (pc := 48) C dX11_first_48 4 rfl ?_
    refine r_iload_n (pc := 49) C dX11_first_49 3 rfl ?_
    refine r_iload_n (pc := 50) C dX11_first_50 5 rfl ?_
    refine r_iload (pc := 51) C dX11_first_51 6 rfl ?_
    refine r_iload (pc := 53) C dX11_first_53 7 rfl ?_
    refine r_iload (pc := 55) C dX11_first_55 8 rfl ?_
    refine r_callVl0 (pc := 57) C (rest := []) (a := v0) o_v0 [.int v2, .int v1, .int v3, .int v4, .int v5, .int v6] yV_X11_together g_1663 (c_X11_together h) dX11_first_57 rfl rfl (Nat.le_of_ble_eq_true rfl) ⟨by decide, by decide⟩ ⟨by decide, by decide⟩ ⟨rfl, rfl⟩ (fun x11 S9 h g10 => ?_)
    have h := h g10
    have o_v0 := gr_ob g10 o_v0
    refine r_lstore (pc := 60) C dX11_first_60 (by decide) (lv' := [(10, .long x11), (8, .long x8), (7, .int x4), (0, .ref v0), (1, .int v1), (2, .int v2), (3, .int v3), (4, .int v4), (5, .int v5), (6, .int v6)]) rfl ?_
    refine r_aload_n (pc := 62) C dX11_first_62 3 rfl ?_
    refine r_lload (pc := 63) C dX11_first_63 1 rfl ?_
    refine r_lload (pc := 65) C dX11_first_65 0 rfl ?_
    refine r_lcmp (pc := 67) C dX11_first_67 ?_
    refine r_if_ge (pc := 68) C (tgt := 75) dX11_first_68 (by decide) (fun c12 => ?_) (fun c12 => ?_)
    · have h := h.1 c12
      refine r_lload (pc := 75) C dX11_first_75 0 rfl ?_
      refine r_lload (pc := 77) C dX11_first_77 1 rfl ?_
      refine r_lcmp (pc := 79) C dX11_first_79 ?_
      refine r_if_ge (pc := 80) C (tgt := 87) dX11_first_80 (by decide) (fun c13 => ?_) (fun c13 => ?_)
      · have h := h.1 c13
        refine r_bipush (pc := 87) C (v := (-2 : Int32)) dX11_first_87 (by decide) ?_
        exact r_sub [] rfl (T_X11_first_89 C E ht hn h)
      · have h := h.2 c13
        refine r_iconst (pc := 83) C (v := (1 : Int32)) dX11_first_83 (by decide) ?_
        refine r_goto (pc := 84) C (tgt := 89) dX11_first_84 (by decide) ?_
        exact r_sub [] rfl (T_X11_first_89 C E ht hn h)
    · have h := h.2 c12
      refine r_iconst (pc := 71) C (v := (0 : Int32)) dX11_first_71 (by decide) ?_
      refine r_goto (pc := 72) C (tgt := 89) dX11_first_72 (by decide) ?_
      exact r_sub [] rfl (T_X11_first_89 C E ht hn h)
  · have h := h.2 c5
    refine r_aload_n (pc := 25) C dX11_first_25 1 rfl ?_
    refine r_iload (pc := 26) C dX11_first_26 0 rfl ?_
    refine r_callVi0 (pc := 28) C (rest := []) (a := v0) o_v0 [.int x4] yV_X11_refused g_1250 (c_X11_refused h) dX11_first_28 rfl rfl (Nat.le_of_ble_eq_true rfl) ⟨by decide, by decide⟩ ⟨by decide, by decide⟩ ⟨rfl, rfl⟩ (fun x16 S14 h g15 => ?_)
    have h := h g15
    have o_v0 := gr_ob g15 o_v0
    exact r_iret (pc := 31) C E ht dX11_first_31 (by decide) (by decide) h
def P_X11_first (v0 : Nat) (v1 : Int32) (v2 : Int32) (v3 : Int32) (v4 : Int32) (v5 : Int32) (v6 : Int32) (Q : Int32 → HS → Prop) (S : HS) : Prop := P_X11_first_0 Q v0 v1 v2 v3 v4 v5 v6 S
theorem c_X11_first {l : Launch} {Ee : EE} {S : HS} {v0 : Nat} {v1 : Int32} {v2 : Int32} {v3 : Int32} {v4 : Int32} {v5 : Int32} {v6 : Int32} {Q : Int32 → HS → Prop} (h : P_X11_first v0 v1 v2 v3 v4 v5 v6 Q S) : MI l yX11_first cX11_first 12 (some .int) rm_X11_first Ee S [.ref v0, .int v1, .int v2, .int v3, .int v4, .int v5, .int v6] Q :=
  openI (by decide) (Nat.le_of_ble_eq_true rfl) (fun X C E ht hn hE hl => by subst hE; exact r_sub [0, 1, 2, 3, 4, 5, 6] rfl (T_X11_first_0 C E ht hn h))
def rm_X11_fitOf : Room := { frames := 5, cells := 0, slots := 0, locals := 135 }
def P_X11_fitOf_137 (Q : Int32 → HS → Prop) (X16 : Nat → Int32 → Int32 → Int32 → Int32 → Int32 → HS → Prop) (X31 : Nat → Int32 → Int32 → Int32 → Int32 → Int32 → Int32 → HS → Prop) (X40 : Nat → Int32 → Int32 → Int32 → Int32 → Int32 → Int32 → Int32 → HS → Prop) (X63 : Nat → Int32 → Int32 → Int32 → Int32 → Int32 → Int32 → Int32 → Int32 → HS → Prop) (X83 : Nat → Int32 → Int32 → Int32 → Int32 → Int32 → Int32 → Int32 → Int32 → Int32 → Int32 → HS → Prop) (v0 : Nat) (v1 : Int32) (v2 : Int32) (v3 : Int32) (v4 : Int32) (v5 : Int32) (v6 : Int32) (v7 : Int32) (v8 : Int32) (v10 : Int32) (s0 : Int32) (S : HS) : Prop := ∀ x1 : Int32, x1 = v10 + (1 : Int32) → (X83 v0 v1 v2 v3 v4 v5 v6 v7 v8 s0 x1 S)
set_option maxRecDepth 20000 in
set_option maxHeartbeats 4000000 in
theorem T_X11_fitOf_137 {X : CX} {Q : Int32 → HS → Prop} (C : Cx X cX11_fitOf RX11 11 rm_X11_fitOf) (E : ReI X rm_X11_fitOf Q) (ht : (xh X).sig.returnType = (some .int)) (hn : (xh X).name = yX11_fitOf.name) {X16 : Nat → Int32 → Int32 → Int32 → Int32 → Int32 → HS → Prop} (hX16 : ∀ (v0 : Nat) (v1 : Int32) (v2 : Int32) (v3 : Int32) (v4 : Int32) (v5 : Int32) (S : HS), X16 v0 v1 v2 v3 v4 v5 S → WS X 11 0 0 16 [(0, .ref v0), (1, .int v1), (2, .int v2), (3, .int v3), (4, .int v4), (5, .int v5)] [] S) {X31 : Nat → Int32 → Int32 → Int32 → Int32 → Int32 → Int32 → HS → Prop} (hX31 : ∀ (v0 : Nat) (v1 : Int32) (v2 : Int32) (v3 : Int32) (v4 : Int32) (v5 : Int32) (v6 : Int32) (S : HS), X31 v0 v1 v2 v3 v4 v5 v6 S → WS X 11 0 0 31 [(0, .ref v0), (1, .int v1), (2, .int v2), (3, .int v3), (4, .int v4), (5, .int v5), (6, .int v6)] [] S) {X40 : Nat → Int32 → Int32 → Int32 → Int32 → Int32 → Int32 → Int32 → HS → Prop} (hX40 : ∀ (v0 : Nat) (v1 : Int32) (v2 : Int32) (v3 : Int32) (v4 : Int32) (v5 : Int32) (v6 : Int32) (v7 : Int32) (S : HS), X40 v0 v1 v2 v3 v4 v5 v6 v7 S → WS X 11 0 0 40 [(0, .ref v0), (1, .int v1), (2, .int v2), (3, .int v3), (4, .int v4), (5, .int v5), (6, .int v6), (7, .int v7)] [] S) {X63 : Nat → Int32 → Int32 → Int32 → Int32 → Int32 → Int32 → Int32 → Int32 → HS → Prop} (hX63 : ∀ (v0 : Nat) (v1 : Int32) (v2 : Int32) (v3 : Int32) (v4 : Int32) (v5 : Int32) (v6 : Int32) (v7 : Int32) (v8 : Int32) (S : HS), X63 v0 v1 v2 v3 v4 v5 v6 v7 v8 S → WS X 11 0 0 63 [(0, .ref v0), (1, .int v1), (2, .int v2), (3, .int v3), (4, .int v4), (5, .int v5), (6, .int v6), (7, .int v7), (8, .int v8)] [] S) {X83 : Nat → Int32 → Int32 → Int32 → Int32 → Int32 → Int32 → Int32 → Int32 → Int32 → Int32 → HS → Prop} (hX83 : ∀ (v0 : Nat) (v1 : Int32) (v2 : Int32) (v3 : Int32) (v4 : Int32) (v5 : Int32) (v6 : Int32) (v7 : Int32) (v8 : Int32) (v9 : Int32) (v10 : Int32) (S : HS), X83 v0 v1 v2 v3 v4 v5 v6 v7 v8 v9 v10 S → WS X 11 0 0 83 [(0, .ref v0), (1, .int v1), (2, .int v2), (3, .int v3), (4, .int v4), (5, .int v5), (6, .int v6), (7, .int v7), (8, .int v8), (9, .int v9), (10, .int v10)] [] S) {v0 : Nat} {v1 : Int32} {v2 : Int32} {v3 : Int32} {v4 : Int32} {v5 : Int32} {v6 : Int32} {v7 : Int32} {v8 : Int32} {v10 : Int32} {s0 : Int32} {S : HS} (h : P_X11_fitOf_137 Q X16 X31 X40 X63 X83 v0 v1 v2 v3 v4 v5 v6 v7 v8 v10 s0 S) : WS X 11 0 0 137 [(0, .ref v0), (1, .int v1), (2, .int v2), (3, .int v3), (4, .int v4), (5, .int v5), (6, .int v6), (7, .int v7), (8, .int v8), (10, .int v10)] [.int s0] S := by
  refine r_istore (pc := 137) C dX11_fitOf_137 (by decide) (lv' := [(9, .int s0), (0, .ref v0), (1, .int v1), (2, .int v2), (3, .int v3), (4, .int v4), (5, .int v5), (6, .int v6), (7, .int v7), (8, .int v8), (10, .int v10)]) rfl ?_
  obtain ⟨x1, ex1⟩ : ∃ z : Int32, z = v10 + (1 : Int32) := ⟨_, rfl⟩
  have h := h x1 ex1
  refine r_iinc (pc := 139) C (v := x1) (lv' := [(10, .int x1), (9, .int s0), (0, .ref v0), (1, .int v1), (2, .int v2), (3, .int v3), (4, .int v4), (5, .int v5), (6, .int v6), (7, .int v7), (8, .int v8)]) dX11_fitOf_139 10 rfl ex1.symm (by decide) rfl ?_
  refine r_goto (pc := 142) C (tgt := 83) dX11_fitOf_142 (by decide) ?_
  exact r_sub [2, 3, 4, 5, 6, 7, 8, 9, 10, 1, 0] rfl (hX83 v0 v1 v2 v3 v4 v5 v6 v7 v8 s0 x1 S h)
def P_X11_fitOf_136 (Q : Int32 → HS → Prop) (X16 : Nat → Int32 → Int32 → Int32 → Int32 → Int32 → HS → Prop) (X31 : Nat → Int32 → Int32 → Int32 → Int32 → Int32 → Int32 → HS → Prop) (X40 : Nat → Int32 → Int32 → Int32 → Int32 → Int32 → Int32 → Int32 → HS → Prop) (X63 : Nat → Int32 → Int32 → Int32 → Int32 → Int32 → Int32 → Int32 → Int32 → HS → Prop) (X83 : Nat → Int32 → Int32 → Int32 → Int32 → Int32 → Int32 → Int32 → Int32 → Int32 → Int32 → HS → Prop) (v0 : Nat) (v1 : Int32) (v2 : Int32) (v3 : Int32) (v4 : Int32) (v5 : Int32) (v6 : Int32) (v7 : Int32) (v8 : Int32) (v10 : Int32) (S : HS) : Prop := P_X11_fitOf_137 Q X16 X31 X40 X63 X83 v0 v1 v2 v3 v4 v5 v6 v7 v8 v10 (0 : Int32) S
set_option maxRecDepth 20000 in
set_option maxHeartbeats 4000000 in
theorem T_X11_fitOf_136 {X : CX} {Q : Int32 → HS → Prop} (C : Cx X cX11_fitOf RX11 11 rm_X11_fitOf) (E : ReI X rm_X11_fitOf Q) (ht : (xh X).sig.returnType = (some .int)) (hn : (xh X).name = yX11_fitOf.name) {X16 : Nat → Int32 → Int32 → Int32 → Int32 → Int32 → HS → Prop} (hX16 : ∀ (v0 : Nat) (v1 : Int32) (v2 : Int32) (v3 : Int32) (v4 : Int32) (v5 : Int32) (S : HS), X16 v0 v1 v2 v3 v4 v5 S → WS X 11 0 0 16 [(0, .ref v0), (1, .int v1), (2, .int v2), (3, .int v3), (4, .int v4), (5, .int v5)] [] S) {X31 : Nat → Int32 → Int32 → Int32 → Int32 → Int32 → Int32 → HS → Prop} (hX31 : ∀ (v0 : Nat) (v1 : Int32) (v2 : Int32) (v3 : Int32) (v4 : Int32) (v5 : Int32) (v6 : Int32) (S : HS), X31 v0 v1 v2 v3 v4 v5 v6 S → WS X 11 0 0 31 [(0, .ref v0), (1, .int v1), (2, .int v2), (3, .int v3), (4, .int v4), (5, .int v5), (6, .int v6)] [] S) {X40 : Nat → Int32 → Int32 → Int32 → Int32 → Int32 → Int32 → Int32 → HS → Prop} (hX40 : ∀ (v0 : Nat) (v1 : Int32) (v2 : Int32) (v3 : Int32) (v4 : Int32) (v5 : Int32) (v6 : Int32) (v7 : Int32) (S : HS), X40 v0 v1 v2 v3 v4 v5 v6 v7 S → WS X 11 0 0 40 [(0, .ref v0), (1, .int v1), (2, .int v2), (3, .int v3), (4, .int v4), (5, .int v5), (6, .int v6), (7, .int v7)] [] S) {X63 : Nat → Int32 → Int32 → Int32 → Int32 → Int32 → Int32 → Int32 → Int32 → HS → Prop} (hX63 : ∀ (v0 : Nat) (v1 : Int32) (v2 : Int32) (v3 : Int32) (v4 : Int32) (v5 : Int32) (v6 : Int32) (v7 : Int32) (v8 : Int32) (S : HS), X63 v0 v1 v2 v3 v4 v5 v6 v7 v8 S → WS X 11 0 0 63 [(0, .ref v0), (1, .int v1), (2, .int v2), (3, .int v3), (4, .int v4), (5, .int v5), (6, .int v6), (7, .int v7), (8, .int v8)] [] S) {X83 : Nat → Int32 → Int32 → Int32 → Int32 → Int32 → Int32 → Int32 → Int32 → Int32 → Int32 → HS → Prop} (hX83 : ∀ (v0 : Nat) (v1 : Int32) (v2 : Int32) (v3 : Int32) (v4 : Int32) (v5 : Int32) (v6 : Int32) (v7 : Int32) (v8 : Int32) (v9 : Int32) (v10 : Int32) (S : HS), X83 v0 v1 v2 v3 v4 v5 v6 v7 v8 v9 v10 S → WS X 11 0 0 83 [(0, .ref v0), (1, .int v1), (2, .int v2), (3, .int v3), (4, .int v4), (5, .int v5), (6, .int v6), (7, .int v7), (8, .int v8), (9, .int v9), (10, .int v10)] [] S) {v0 : Nat} {v1 : Int32} {v2 : Int32} {v3 : Int32} {v4 : Int32} {v5 : Int32} {v6 : Int32} {v7 : Int32} {v8 : Int32} {v10 : Int32} {S : HS} (h : P_X11_fitOf_136 Q X16 X31 X40 X63 X83 v0 v1 v2 v3 v4 v5 v6 v7 v8 v10 S) : WS X 11 0 0 136 [(0, .ref v0), (1, .int v1), (2, .int v2), (3, .int v3), (4, .int v4), (5, .int v5), (6, .int v6), (7, .int v7), (8, .int v8), (10, .int v10)] [] S := by
  refine r_iconst (pc := 136) C (v := (0 : Int32)) dX11_fitOf_136 (by decide) ?_
  exact r_sub [0, 1, 2, 3, 4, 5, 6, 7, 8, 9] rfl (T_X11_fitOf_137 C E ht hn hX16 hX31 hX40 hX63 hX83 h)
def P_X11_fitOf_184 (Q : Int32 → HS → Prop) (X16 : Nat → Int32 → Int32 → Int32 → Int32 → Int32 → HS → Prop) (X31 : Nat → Int32 → Int32 → Int32 → Int32 → Int32 → Int32 → HS → Prop) (X40 : Nat → Int32 → Int32 → Int32 → Int32 → Int32 → Int32 → Int32 → HS → Prop) (X63 : Nat → Int32 → Int32 → Int32 → Int32 → Int32 → Int32 → Int32 → Int32 → HS → Prop) (v0 : Nat) (v1 : Int32) (v2 : Int32) (v3 : Int32) (v4 : Int32) (v5 : Int32) (v6 : Int32) (v7 : Int32) (v8 : Int32) (S : HS) : Prop := ∀ x1 : Int32, x1 = v8 + (1 : Int32) → (X63 v0 v1 v2 v3 v4 v5 v6 v7 x1 S)
set_option maxRecDepth 20000 in
set_option maxHeartbeats 4000000 in
theorem T_X11_fitOf_184 {X : CX} {Q : Int32 → HS → Prop} (C : Cx X cX11_fitOf RX11 11 rm_X11_fitOf) (E : ReI X rm_X11_fitOf Q) (ht : (xh X).sig.returnType = (some .int)) (hn : (xh X).name = yX11_fitOf.name) {X16 : Nat → Int32 → Int32 → Int32 → Int32 → Int32 → HS → Prop} (hX16 : ∀ (v0 : Nat) (v1 : Int32) (v2 : Int32) (v3 : Int32) (v4 : Int32) (v5 : Int32) (S : HS), X16 v0 v1 v2 v3 v4 v5 S → WS X 11 0 0 16 [(0, .ref v0), (1, .int v1), (2, .int v2), (3, .int v3), (4, .int v4), (5, .int v5)] [] S) {X31 : Nat → Int32 → Int32 → Int32 → Int32 → Int32 → Int32 → HS → Prop} (hX31 : ∀ (v0 : Nat) (v1 : Int32) (v2 : Int32) (v3 : Int32) (v4 : Int32) (v5 : Int32) (v6 : Int32) (S : HS), X31 v0 v1 v2 v3 v4 v5 v6 S → WS X 11 0 0 31 [(0, .ref v0), (1, .int v1), (2, .int v2), (3, .int v3), (4, .int v4), (5, .int v5), (6, .int v6)] [] S) {X40 : Nat → Int32 → Int32 → Int32 → Int32 → Int32 → Int32 → Int32 → HS → Prop} (hX40 : ∀ (v0 : Nat) (v1 : Int32) (v2 : Int32) (v3 : Int32) (v4 : Int32) (v5 : Int32) (v6 : Int32) (v7 : Int32) (S : HS), X40 v0 v1 v2 v3 v4 v5 v6 v7 S → WS X 11 0 0 40 [(0, .ref v0), (1, .int v1), (2, .int v2), (3, .int v3), (4, .int v4), (5, .int v5), (6, .int v6), (7, .int v7)] [] S) {X63 : Nat → Int32 → Int32 → Int32 → Int32 → Int32 → Int32 → Int32 → Int32 → HS → Prop} (hX63 : ∀ (v0 : Nat) (v1 : Int32) (v2 : Int32) (v3 : Int32) (v4 : Int32) (v5 : Int32) (v6 : Int32) (v7 : Int32) (v8 : Int32) (S : HS), X63 v0 v1 v2 v3 v4 v5 v6 v7 v8 S → WS X 11 0 0 63 [(0, .ref v0), (1, .int v1), (2, .int v2), (3, .int v3), (4, .int v4), (5, .int v5), (6, .int v6), (7, .int v7), (8, .int v8)] [] S) {v0 : Nat} {v1 : Int32} {v2 : Int32} {v3 : Int32} {v4 : Int32} {v5 : Int32} {v6 : Int32} {v7 : Int32} {v8 : Int32} {S : HS} (h : P_X11_fitOf_184 Q X16 X31 X40 X63 v0 v1 v2 v3 v4 v5 v6 v7 v8 S) : WS X 11 0 0 184 [(0, .ref v0), (1, .int v1), (2, .int v2), (3, .int v3), (4, .int v4), (5, .int v5), (6, .int v6), (7, .int v7), (8, .int v8)] [] S := by
  obtain ⟨x1, ex1⟩ : ∃ z : Int32, z = v8 + (1 : Int32) := ⟨_, rfl⟩
  have h := h x1 ex1
  refine r_iinc (pc := 184) C (v := x1) (lv' := [(8, .int x1), (0, .ref v0), (1, .int v1), (2, .int v2), (3, .int v3), (4, .int v4), (5, .int v5), (6, .int v6), (7, .int v7)]) dX11_fitOf_184 8 rfl ex1.symm (by decide) rfl ?_
  refine r_goto (pc := 187) C (tgt := 63) dX11_fitOf_187 (by decide) ?_
  exact r_sub [1, 2, 3, 4, 5, 6, 7, 8, 0] rfl (hX63 v0 v1 v2 v3 v4 v5 v6 v7 x1 S h)
def B_X11_fitOf_83 (Q : Int32 → HS → Prop) (X16 : Nat → Int32 → Int32 → Int32 → Int32 → Int32 → HS → Prop) (X31 : Nat → Int32 → Int32 → Int32 → Int32 → Int32 → Int32 → HS → Prop) (X40 : Nat → Int32 → Int32 → Int32 → Int32 → Int32 → Int32 → Int32 → HS → Prop) (X63 : Nat → Int32 → Int32 → Int32 → Int32 → Int32 → Int32 → Int32 → Int32 → HS → Prop) (X83 : Nat → Int32 → Int32 → Int32 → Int32 → Int32 → Int32 → Int32 → Int32 → Int32 → Int32 → HS → Prop) (v0 : Nat) (v1 : Int32) (v2 : Int32) (v3 : Int32) (v4 : Int32) (v5 : Int32) (v6 : Int32) (v7 : Int32) (v8 : Int32) (v9 : Int32) (v10 : Int32) (S : HS) : Prop := (((5 : Int32) ≤ v10) → (((¬ v9 = 0) → (((¬ v4 = v2) → (∀ x4 : Int32, x4 = v4 + (1 : Int32) → (P_X11_fitOf_184 Q X16 X31 X40 X63 v0 v1 v2 v3 x4 v5 v6 v7 v8 S))) ∧ ((v4 = v2) → (Q (((((1000 : Int32) * v5) + ((100 : Int32) * v6)) + ((10 : Int32) * v7)) + v8) S)))) ∧ ((v9 = 0) → (P_X11_fitOf_184 Q X16 X31 X40 X63 v0 v1 v2 v3 v4 v5 v6 v7 v8 S)))) ∧ ((¬ (5 : Int32) ≤ v10) → (((v9 = 0) → (P_X11_fitOf_136 Q X16 X31 X40 X63 X83 v0 v1 v2 v3 v4 v5 v6 v7 v8 v10 S)) ∧ ((¬ v9 = 0) → (ob S v0 11 ∧ (P_X11_partsOf v0 v3 v5 v6 v7 v8 v10 (fun x8 S6 => Gr S S6 → (∃ a9 : Nat, fR S6 v0 3 = some a9 ∧ (ob S6 a9 10 ∧ (∃ a10 : Nat, fR S6 a9 27 = some a10 ∧ (ob S6 a10 13 ∧ (∀ x12 : Int32, x12 = ((5 : Int32) * v1) + v10 → (vp_in x12 (hN S6 a10) ∧ ∀ x13 : Int32, x13 = fI S6 a10 x12.toNatClampNeg → (((¬ (lg_cmp x8 ((2520 : Int64) * x13.toInt64)) = 0) → (P_X11_fitOf_136 Q X16 X31 X40 X63 X83 v0 v1 v2 v3 v4 v5 v6 v7 v8 v10 S6)) ∧ (((lg_cmp x8 ((2520 : Int64) * x13.toInt64)) = 0) → (P_X11_fitOf_137 Q X16 X31 X40 X63 X83 v0 v1 v2 v3 v4 v5 v6 v7 v8 v10 (1 : Int32) S6)))))))))) S)))))
def P_X11_fitOf_83 (Q : Int32 → HS → Prop) (X16 : Nat → Int32 → Int32 → Int32 → Int32 → Int32 → HS → Prop) (X31 : Nat → Int32 → Int32 → Int32 → Int32 → Int32 → Int32 → HS → Prop) (X40 : Nat → Int32 → Int32 → Int32 → Int32 → Int32 → Int32 → Int32 → HS → Prop) (X63 : Nat → Int32 → Int32 → Int32 → Int32 → Int32 → Int32 → Int32 → Int32 → HS → Prop) (v0 : Nat) (v1 : Int32) (v2 : Int32) (v3 : Int32) (v4 : Int32) (v5 : Int32) (v6 : Int32) (v7 : Int32) (v8 : Int32) (v9 : Int32) (v10 : Int32) (S : HS) : Prop := ∀ X83 : Nat → Int32 → Int32 → Int32 → Int32 → Int32 → Int32 → Int32 → Int32 → Int32 → Int32 → HS → Prop, (∀ (v0 : Nat) (v1 : Int32) (v2 : Int32) (v3 : Int32) (v4 : Int32) (v5 : Int32) (v6 : Int32) (v7 : Int32) (v8 : Int32) (v9 : Int32) (v10 : Int32) (S : HS), B_X11_fitOf_83 Q X16 X31 X40 X63 X83 v0 v1 v2 v3 v4 v5 v6 v7 v8 v9 v10 S → X83 v0 v1 v2 v3 v4 v5 v6 v7 v8 v9 v10 S) → X83 v0 v1 v2 v3 v4 v5 v6 v7 v8 v9 v10 S
set_option maxRecDepth 20000 in
set_option maxHeartbeats 4000000 in
theorem TB_X11_fitOf_83 {X : CX} {Q : Int32 → HS → Prop} (C : Cx X cX11_fitOf RX11 11 rm_X11_fitOf) (E : ReI X rm_X11_fitOf Q) (ht : (xh X).sig.returnType = (some .int)) (hn : (xh X).name = yX11_fitOf.name) {X16 : Nat → Int32 → Int32 → Int32 → Int32 → Int32 → HS → Prop} (hX16 : ∀ (v0 : Nat) (v1 : Int32) (v2 : Int32) (v3 : Int32) (v4 : Int32) (v5 : Int32) (S : HS), X16 v0 v1 v2 v3 v4 v5 S → WS X 11 0 0 16 [(0, .ref v0), (1, .int v1), (2, .int v2), (3, .int v3), (4, .int v4), (5, .int v5)] [] S) {X31 : Nat → Int32 → Int32 → Int32 → Int32 → Int32 → Int32 → HS → Prop} (hX31 : ∀ (v0 : Nat) (v1 : Int32) (v2 : Int32) (v3 : Int32) (v4 : Int32) (v5 : Int32) (v6 : Int32) (S : HS), X31 v0 v1 v2 v3 v4 v5 v6 S → WS X 11 0 0 31 [(0, .ref v0), (1, .int v1), (2, .int v2), (3, .int v3), (4, .int v4), (5, .int v5), (6, .int v6)] [] S) {X40 : Nat → Int32 → Int32 → Int32 → Int32 → Int32 → Int32 → Int32 → HS → Prop} (hX40 : ∀ (v0 : Nat) (v1 : Int32) (v2 : Int32) (v3 : Int32) (v4 : Int32) (v5 : Int32) (v6 : Int32) (v7 : Int32) (S : HS), X40 v0 v1 v2 v3 v4 v5 v6 v7 S → WS X 11 0 0 40 [(0, .ref v0), (1, .int v1), (2, .int v2), (3, .int v3), (4, .int v4), (5, .int v5), (6, .int v6), (7, .int v7)] [] S) {X63 : Nat → Int32 → Int32 → Int32 → Int32 → Int32 → Int32 → Int32 → Int32 → HS → Prop} (hX63 : ∀ (v0 : Nat) (v1 : Int32) (v2 : Int32) (v3 : Int32) (v4 : Int32) (v5 : Int32) (v6 : Int32) (v7 : Int32) (v8 : Int32) (S : HS), X63 v0 v1 v2 v3 v4 v5 v6 v7 v8 S → WS X 11 0 0 63 [(0, .ref v0), (1, .int v1), (2, .int v2), (3, .int v3), (4, .int v4), (5, .int v5), (6, .int v6), (7, .int v7), (8, .int v8)] [] S) {X83 : Nat → Int32 → Int32 → Int32 → Int32 → Int32 → Int32 → Int32 → Int32 → Int32 → Int32 → HS → Prop} (hX83 : ∀ (v0 : Nat) (v1 : Int32) (v2 : Int32) (v3 : Int32) (v4 : Int32) (v5 : Int32) (v6 : Int32) (v7 : Int32) (v8 : Int32) (v9 : Int32) (v10 : Int32) (S : HS), X83 v0 v1 v2 v3 v4 v5 v6 v7 v8 v9 v10 S → WS X 11 0 0 83 [(0, .ref v0), (1, .int v1), (2, .int v2), (3, .int v3), (4, .int v4), (5, .int v5), (6, .int v6), (7, .int v7), (8, .int v8), (9, .int v9), (10, .int v10)] [] S) {v0 : Nat} {v1 : Int32} {v2 : Int32} {v3 : Int32} {v4 : Int32} {v5 : Int32} {v6 : Int32} {v7 : Int32} {v8 : Int32} {v9 : Int32} {v10 : Int32} {S : HS} (h : B_X11_fitOf_83 Q X16 X31 X40 X63 X83 v0 v1 v2 v3 v4 v5 v6 v7 v8 v9 v10 S) : WS X 11 0 0 83 [(0, .ref v0), (1, .int v1), (2, .int v2), (3, .int v3), (4, .int v4), (5, .int v5), (6, .int v6), (7, .int v7), (8, .int v8), (9, .int v9), (10, .int v10)] [] S := by
  refine r_iload (pc := 83) C dX11_fitOf_83 10 rfl ?_
  refine r_iconst (pc := 85) C (v := (5 : Int32)) dX11_fitOf_85 (by decide) ?_
  refine r_icmp_ge (pc := 86) C (tgt := 145) dX11_fitOf_86 (by decide) (fun c1 => ?_) (fun c1 => ?_)
  · have h := h.1 c1
    refine r_iload (pc := 145) C dX11_fitOf_145 9 rfl ?_
    refine r_if_ne (pc := 147) C (tgt := 153) dX11_fitOf_147 (by decide) (fun c2 => ?_) (fun c2 => ?_)
    · have h := h.1 c2
      refine r_iload (pc := 153) C dX11_fitOf_153 4 rfl ?_
      refine r_iload_n (pc := 155) C dX11_fitOf_155 2 rfl ?_
      refine r_icmp_ne (pc := 156) C (tgt := 181) dX11_fitOf_156 (by decide) (fun c3 => ?_) (fun c3 => ?_)
      · have h := h.1 c3
        obtain ⟨x4, ex4⟩ : ∃ z : Int32, z = v4 + (1 : Int32) := ⟨_, rfl⟩
        have h := h x4 ex4
        refine r_iinc (pc := 181) C (v := x4) (lv' := [(4, .int x4), (0, .ref v0), (1, .int v1), (2, .int v2), (3, .int v3), (5, .int v5), (6, .int v6), (7, .int v7), (8, .int v8), (9, .int v9), (10, .int v10)]) dX11_fitOf_181 4 rfl ex4.symm (by decide) rfl ?_
        exact r_sub [1, 2, 3, 4, 0, 5, 6, 7, 8] rfl (T_X11_fitOf_184 C E ht hn hX16 hX31 hX40 hX63 h)
      · have h := h.2 c3
        refine r_sipush (pc := 159) C (v := (1000 : Int32)) dX11_fitOf_159 (by decide) ?_
        refine r_iload (pc := 162) C dX11_fitOf_162 5 rfl ?_
        refine r_imul (pc := 164) C dX11_fitOf_164 ?_
        refine r_bipush (pc := 165) C (v := (100 : Int32)) dX11_fitOf_165 (by decide) ?_
        refine r_iload (pc := 167) C dX11_fitOf_167 6 rfl ?_
        refine r_imul (pc := 169) C dX11_fitOf_169 ?_
        refine r_iadd (pc := 170) C dX11_fitOf_170 ?_
        refine r_bipush (pc := 171) C (v := (10 : Int32)) dX11_fitOf_171 (by decide) ?_
        refine r_iload (pc := 173) C dX11_fitOf_173 7 rfl ?_
        refine r_imul (pc := 175) C dX11_fitOf_175 ?_
        refine r_iadd (pc := 176) C dX11_fitOf_176 ?_
        refine r_iload (pc := 177) C dX11_fitOf_177 8 rfl ?_
        refine r_iadd (pc := 179) C dX11_fitOf_179 ?_
        exact r_iret (pc := 180) C E ht dX11_fitOf_180 (by decide) (by decide) h
    · have h := h.2 c2
      refine r_goto (pc := 150) C (tgt := 184) dX11_fitOf_150 (by decide) ?_
      exact r_sub [0, 1, 2, 3, 4, 5, 6, 7, 8] rfl (T_X11_fitOf_184 C E ht hn hX16 hX31 hX40 hX63 h)
  · have h := h.2 c1
    refine r_iload (pc := 89) C dX11_fitOf_89 9 rfl ?_
    refine r_if_eq (pc := 91) C (tgt := 136) dX11_fitOf_91 (by decide) (fun c5 => ?_) (fun c5 => ?_)
    · have h := h.1 c5
      exact r_sub [0, 1, 2, 3, 4, 5, 6, 7, 8, 10] rfl (T_X11_fitOf_136 C E ht hn hX16 hX31 hX40 hX63 hX83 h)
    · have h := h.2 c5
      refine r_aload_n (pc := 94) C dX11_fitOf_94 0 rfl ?_
      refine r_iload_n (pc := 95) C dX11_fitOf_95 3 rfl ?_
      refine r_iload (pc := 96) C dX11_fitOf_96 5 rfl ?_
      refine r_iload (pc := 98) C dX11_fitOf_98 6 rfl ?_
      refine r_iload (pc := 100) C dX11_fitOf_100 7 rfl ?_
      refine r_iload (pc := 102) C dX11_fitOf_102 8 rfl ?_
      refine r_iload (pc := 104) C dX11_fitOf_104 10 rfl ?_
      obtain ⟨o_v0, h⟩ := h
      refine r_callVl0 (pc := 106) C (rest := []) (a := v0) o_v0 [.int v3, .int v5, .int v6, .int v7, .int v8, .int v10] yV_X11_partsOf g_1554 (c_X11_partsOf h) dX11_fitOf_106 rfl rfl (Nat.le_of_ble_eq_true rfl) ⟨by decide, by decide⟩ ⟨by decide, by decide⟩ ⟨rfl, rfl⟩ (fun x8 S6 h g7 => ?_)
      have h := h g7
      have o_v0 := gr_ob g7 o_v0
      refine r_ldc2 (pc := 109) C (v := (2520 : Int64)) dX11_fitOf_109 g_1585 ?_
      refine r_aload_n (pc := 112) C dX11_fitOf_112 0 rfl ?_
      obtain ⟨a9, ea9, h⟩ := h
      refine r_getr (pc := 113) C fL_X11_338 dX11_fitOf_113 o_v0 ea9 ?_
      obtain ⟨o_a9, h⟩ := h
      obtain ⟨a10, ea10, h⟩ := h
      refine r_getNr (pc := 116) C fN_X11_326 dX11_fitOf_116 o_a9 ea10 ?_
      refine r_iconst (pc := 119) C (v := (5 : Int32)) dX11_fitOf_119 (by decide) ?_
      refine r_iload_n (pc := 120) C dX11_fitOf_120 1 rfl ?_
      refine r_imul (pc := 121) C dX11_fitOf_121 ?_
      refine r_iload (pc := 122) C dX11_fitOf_122 10 rfl ?_
      refine r_iadd (pc := 124) C dX11_fitOf_124 ?_
      obtain ⟨o_a10, h⟩ := h
      refine r_topi (fun x12 ex12 => ?_)
      have h := h x12 ex12
      obtain ⟨i11, h⟩ := h
      refine r_iald (pc := 125) C dX11_fitOf_125 o_a10 i11 ?_
      refine r_topi (fun x13 ex13 => ?_)
      have h := h x13 ex13
      refine r_i2l (pc := 126) C dX11_fitOf_126 ?_
      refine r_lmul (pc := 127) C dX11_fitOf_127 ?_
      refine r_lcmp (pc := 128) C dX11_fitOf_128 ?_
      refine r_if_ne (pc := 129) C (tgt := 136) dX11_fitOf_129 (by decide) (fun c14 => ?_) (fun c14 => ?_)
      · have h := h.1 c14
        exact r_sub [0, 1, 2, 3, 4, 5, 6, 7, 8, 10] rfl (T_X11_fitOf_136 C E ht hn hX16 hX31 hX40 hX63 hX83 h)
      · have h := h.2 c14
        refine r_iconst (pc := 132) C (v := (1 : Int32)) dX11_fitOf_132 (by decide) ?_
        refine r_goto (pc := 133) C (tgt := 137) dX11_fitOf_133 (by decide) ?_
        exact r_sub [0, 1, 2, 3, 4, 5, 6, 7, 8, 10] rfl (T_X11_fitOf_137 C E ht hn hX16 hX31 hX40 hX63 hX83 h)
theorem T_X11_fitOf_83 {X : CX} {Q : Int32 → HS → Prop} (C : Cx X cX11_fitOf RX11 11 rm_X11_fitOf) (E : ReI X rm_X11_fitOf Q) (ht : (xh X).sig.returnType = (some .int)) (hn : (xh X).name = yX11_fitOf.name) {X16 : Nat → Int32 → Int32 → Int32 → Int32 → Int32 → HS → Prop} (hX16 : ∀ (v0 : Nat) (v1 : Int32) (v2 : Int32) (v3 : Int32) (v4 : Int32) (v5 : Int32) (S : HS), X16 v0 v1 v2 v3 v4 v5 S → WS X 11 0 0 16 [(0, .ref v0), (1, .int v1), (2, .int v2), (3, .int v3), (4, .int v4), (5, .int v5)] [] S) {X31 : Nat → Int32 → Int32 → Int32 → Int32 → Int32 → Int32 → HS → Prop} (hX31 : ∀ (v0 : Nat) (v1 : Int32) (v2 : Int32) (v3 : Int32) (v4 : Int32) (v5 : Int32) (v6 : Int32) (S : HS), X31 v0 v1 v2 v3 v4 v5 v6 S → WS X 11 0 0 31 [(0, .ref v0), (1, .int v1), (2, .int v2), (3, .int v3), (4, .int v4), (5, .int v5), (6, .int v6)] [] S) {X40 : Nat → Int32 → Int32 → Int32 → Int32 → Int32 → Int32 → Int32 → HS → Prop} (hX40 : ∀ (v0 : Nat) (v1 : Int32) (v2 : Int32) (v3 : Int32) (v4 : Int32) (v5 : Int32) (v6 : Int32) (v7 : Int32) (S : HS), X40 v0 v1 v2 v3 v4 v5 v6 v7 S → WS X 11 0 0 40 [(0, .ref v0), (1, .int v1), (2, .int v2), (3, .int v3), (4, .int v4), (5, .int v5), (6, .int v6), (7, .int v7)] [] S) {X63 : Nat → Int32 → Int32 → Int32 → Int32 → Int32 → Int32 → Int32 → Int32 → HS → Prop} (hX63 : ∀ (v0 : Nat) (v1 : Int32) (v2 : Int32) (v3 : Int32) (v4 : Int32) (v5 : Int32) (v6 : Int32) (v7 : Int32) (v8 : Int32) (S : HS), X63 v0 v1 v2 v3 v4 v5 v6 v7 v8 S → WS X 11 0 0 63 [(0, .ref v0), (1, .int v1), (2, .int v2), (3, .int v3), (4, .int v4), (5, .int v5), (6, .int v6), (7, .int v7), (8, .int v8)] [] S) {v0 : Nat} {v1 : Int32} {v2 : Int32} {v3 : Int32} {v4 : Int32} {v5 : Int32} {v6 : Int32} {v7 : Int32} {v8 : Int32} {v9 : Int32} {v10 : Int32} {S : HS} (h : P_X11_fitOf_83 Q X16 X31 X40 X63 v0 v1 v2 v3 v4 v5 v6 v7 v8 v9 v10 S) : WS X 11 0 0 83 [(0, .ref v0), (1, .int v1), (2, .int v2), (3, .int v3), (4, .int v4), (5, .int v5), (6, .int v6), (7, .int v7), (8, .int v8), (9, .int v9), (10, .int v10)] [] S :=
  h (fun v0 v1 v2 v3 v4 v5 v6 v7 v8 v9 v10 S => WS X 11 0 0 83 [(0, .ref v0), (1, .int v1), (2, .int v2), (3, .int v3), (4, .int v4), (5, .int v5), (6, .int v6), (7, .int v7), (8, .int v8), (9, .int v9), (10, .int v10)] [] S) (fun v0 v1 v2 v3 v4 v5 v6 v7 v8 v9 v10 S hh => TB_X11_fitOf_83 C E ht hn hX16 hX31 hX40 hX63 (fun v0 v1 v2 v3 v4 v5 v6 v7 v8 v9 v10 S z => z) hh)
def B_X11_fitOf_63 (Q : Int32 → HS → Prop) (X16 : Nat → Int32 → Int32 → Int32 → Int32 → Int32 → HS → Prop) (X31 : Nat → Int32 → Int32 → Int32 → Int32 → Int32 → Int32 → HS → Prop) (X40 : Nat → Int32 → Int32 → Int32 → Int32 → Int32 → Int32 → Int32 → HS → Prop) (X63 : Nat → Int32 → Int32 → Int32 → Int32 → Int32 → Int32 → Int32 → Int32 → HS → Prop) (v0 : Nat) (v1 : Int32) (v2 : Int32) (v3 : Int32) (v4 : Int32) (v5 : Int32) (v6 : Int32) (v7 : Int32) (v8 : Int32) (S : HS) : Prop := ob S v0 11 ∧ (∃ a1 : Nat, fR S v0 3 = some a1 ∧ (ob S a1 10 ∧ (∃ a2 : Nat, fR S a1 25 = some a2 ∧ (ob S a2 13 ∧ (vp_in v3 (hN S a2) ∧ ∀ x4 : Int32, x4 = fI S a2 v3.toNatClampNeg → (((x4 < v8) → (∀ x6 : Int32, x6 = v7 + (1 : Int32) → (X40 v0 v1 v2 v3 v4 v5 v6 x6 S))) ∧ ((¬ x4 < v8) → (P_X11_fitOf_83 Q X16 X31 X40 X63 v0 v1 v2 v3 v4 v5 v6 v7 v8 (1 : Int32) (0 : Int32) S))))))))
def P_X11_fitOf_63 (Q : Int32 → HS → Prop) (X16 : Nat → Int32 → Int32 → Int32 → Int32 → Int32 → HS → Prop) (X31 : Nat → Int32 → Int32 → Int32 → Int32 → Int32 → Int32 → HS → Prop) (X40 : Nat → Int32 → Int32 → Int32 → Int32 → Int32 → Int32 → Int32 → HS → Prop) (v0 : Nat) (v1 : Int32) (v2 : Int32) (v3 : Int32) (v4 : Int32) (v5 : Int32) (v6 : Int32) (v7 : Int32) (v8 : Int32) (S : HS) : Prop := ∀ X63 : Nat → Int32 → Int32 → Int32 → Int32 → Int32 → Int32 → Int32 → Int32 → HS → Prop, (∀ (v0 : Nat) (v1 : Int32) (v2 : Int32) (v3 : Int32) (v4 : Int32) (v5 : Int32) (v6 : Int32) (v7 : Int32) (v8 : Int32) (S : HS), B_X11_fitOf_63 Q X16 X31 X40 X63 v0 v1 v2 v3 v4 v5 v6 v7 v8 S → X63 v0 v1 v2 v3 v4 v5 v6 v7 v8 S) → X63 v0 v1 v2 v3 v4 v5 v6 v7 v8 S
set_option maxRecDepth 20000 in
set_option maxHeartbeats 4000000 in
theorem TB_X11_fitOf_63 {X : CX} {Q : Int32 → HS → Prop} (C : Cx X cX11_fitOf RX11 11 rm_X11_fitOf) (E : ReI X rm_X11_fitOf Q) (ht : (xh X).sig.returnType = (some .int)) (hn : (xh X).name = yX11_fitOf.name) {X16 : Nat → Int32 → Int32 → Int32 → Int32 → Int32 → HS → Prop} (hX16 : ∀ (v0 : Nat) (v1 : Int32) (v2 : Int32) (v3 : Int32) (v4 : Int32) (v5 : Int32) (S : HS), X16 v0 v1 v2 v3 v4 v5 S → WS X 11 0 0 16 [(0, .ref v0), (1, .int v1), (2, .int v2), (3, .int v3), (4, .int v4), (5, .int v5)] [] S) {X31 : Nat → Int32 → Int32 → Int32 → Int32 → Int32 → Int32 → HS → Prop} (hX31 : ∀ (v0 : Nat) (v1 : Int32) (v2 : Int32) (v3 : Int32) (v4 : Int32) (v5 : Int32) (v6 : Int32) (S : HS), X31 v0 v1 v2 v3 v4 v5 v6 S → WS X 11 0 0 31 [(0, .ref v0), (1, .int v1), (2, .int v2), (3, .int v3), (4, .int v4), (5, .int v5), (6, .int v6)] [] S) {X40 : Nat → Int32 → Int32 → Int32 → Int32 → Int32 → Int32 → Int32 → HS → Prop} (hX40 : ∀ (v0 : Nat) (v1 : Int32) (v2 : Int32) (v3 : Int32) (v4 : Int32) (v5 : Int32) (v6 : Int32) (v7 : Int32) (S : HS), X40 v0 v1 v2 v3 v4 v5 v6 v7 S → WS X 11 0 0 40 [(0, .ref v0), (1, .int v1), (2, .int v2), (3, .int v3), (4, .int v4), (5, .int v5), (6, .int v6), (7, .int v7)] [] S) {X63 : Nat → Int32 → Int32 → Int32 → Int32 → Int32 → Int32 → Int32 → Int32 → HS → Prop} (hX63 : ∀ (v0 : Nat) (v1 : Int32) (v2 : Int32) (v3 : Int32) (v4 : Int32) (v5 : Int32) (v6 : Int32) (v7 : Int32) (v8 : Int32) (S : HS), X63 v0 v1 v2 v3 v4 v5 v6 v7 v8 S → WS X 11 0 0 63 [(0, .ref v0), (1, .int v1), (2, .int v2), (3, .int v3), (4, .int v4), (5, .int v5), (6, .int v6), (7, .int v7), (8, .int v8)] [] S) {v0 : Nat} {v1 : Int32} {v2 : Int32} {v3 : Int32} {v4 : Int32} {v5 : Int32} {v6 : Int32} {v7 : Int32} {v8 : Int32} {S : HS} (h : B_X11_fitOf_63 Q X16 X31 X40 X63 v0 v1 v2 v3 v4 v5 v6 v7 v8 S) : WS X 11 0 0 63 [(0, .ref v0), (1, .int v1), (2, .int v2), (3, .int v3), (4, .int v4), (5, .int v5), (6, .int v6), (7, .int v7), (8, .int v8)] [] S := by
  refine r_iload (pc := 63) C dX11_fitOf_63 8 rfl ?_
  refine r_aload_n (pc := 65) C dX11_fitOf_65 0 rfl ?_
  obtain ⟨o_v0, h⟩ := h
  obtain ⟨a1, ea1, h⟩ := h
  refine r_getr (pc := 66) C fL_X11_338 dX11_fitOf_66 o_v0 ea1 ?_
  obtain ⟨o_a1, h⟩ := h
  obtain ⟨a2, ea2, h⟩ := h
  refine r_getNr (pc := 69) C fN_X11_320 dX11_fitOf_69 o_a1 ea2 ?_
  refine r_iload_n (pc := 72) C dX11_fitOf_72 3 rfl ?_
  obtain ⟨o_a2, h⟩ := h
  obtain ⟨i3, h⟩ := h
  refine r_iald (pc := 73) C dX11_fitOf_73 o_a2 i3 ?_
  refine r_topi (fun x4 ex4 => ?_)
  have h := h x4 ex4
  refine r_icmp_gt (pc := 74) C (tgt := 190) dX11_fitOf_74 (by decide) (fun c5 => ?_) (fun c5 => ?_)
  · have h := h.1 c5
    obtain ⟨x6, ex6⟩ : ∃ z : Int32, z = v7 + (1 : Int32) := ⟨_, rfl⟩
    have h := h x6 ex6
    refine r_iinc (pc := 190) C (v := x6) (lv' := [(7, .int x6), (0, .ref v0), (1, .int v1), (2, .int v2), (3, .int v3), (4, .int v4), (5, .int v5), (6, .int v6), (8, .int v8)]) dX11_fitOf_190 7 rfl ex6.symm (by decide) rfl ?_
    refine r_goto (pc := 193) C (tgt := 40) dX11_fitOf_193 (by decide) ?_
    exact r_sub [1, 2, 3, 4, 5, 6, 7, 0] rfl (hX40 v0 v1 v2 v3 v4 v5 v6 x6 S h)
  · have h := h.2 c5
    refine r_iconst (pc := 77) C (v := (1 : Int32)) dX11_fitOf_77 (by decide) ?_
    refine r_istore (pc := 78) C dX11_fitOf_78 (by decide) (lv' := [(9, .int (1 : Int32)), (0, .ref v0), (1, .int v1), (2, .int v2), (3, .int v3), (4, .int v4), (5, .int v5), (6, .int v6), (7, .int v7), (8, .int v8)]) rfl ?_
    refine r_iconst (pc := 80) C (v := (0 : Int32)) dX11_fitOf_80 (by decide) ?_
    refine r_istore (pc := 81) C dX11_fitOf_81 (by decide) (lv' := [(10, .int (0 : Int32)), (9, .int (1 : Int32)), (0, .ref v0), (1, .int v1), (2, .int v2), (3, .int v3), (4, .int v4), (5, .int v5), (6, .int v6), (7, .int v7), (8, .int v8)]) rfl ?_
    exact r_sub [2, 3, 4, 5, 6, 7, 8, 9, 10, 1, 0] rfl (T_X11_fitOf_83 C E ht hn hX16 hX31 hX40 hX63 h)
theorem T_X11_fitOf_63 {X : CX} {Q : Int32 → HS → Prop} (C : Cx X cX11_fitOf RX11 11 rm_X11_fitOf) (E : ReI X rm_X11_fitOf Q) (ht : (xh X).sig.returnType = (some .int)) (hn : (xh X).name = yX11_fitOf.name) {X16 : Nat → Int32 → Int32 → Int32 → Int32 → Int32 → HS → Prop} (hX16 : ∀ (v0 : Nat) (v1 : Int32) (v2 : Int32) (v3 : Int32) (v4 : Int32) (v5 : Int32) (S : HS), X16 v0 v1 v2 v3 v4 v5 S → WS X 11 0 0 16 [(0, .ref v0), (1, .int v1), (2, .int v2), (3, .int v3), (4, .int v4), (5, .int v5)] [] S) {X31 : Nat → Int32 → Int32 → Int32 → Int32 → Int32 → Int32 → HS → Prop} (hX31 : ∀ (v0 : Nat) (v1 : Int32) (v2 : Int32) (v3 : Int32) (v4 : Int32) (v5 : Int32) (v6 : Int32) (S : HS), X31 v0 v1 v2 v3 v4 v5 v6 S → WS X 11 0 0 31 [(0, .ref v0), (1, .int v1), (2, .int v2), (3, .int v3), (4, .int v4), (5, .int v5), (6, .int v6)] [] S) {X40 : Nat → Int32 → Int32 → Int32 → Int32 → Int32 → Int32 → Int32 → HS → Prop} (hX40 : ∀ (v0 : Nat) (v1 : Int32) (v2 : Int32) (v3 : Int32) (v4 : Int32) (v5 : Int32) (v6 : Int32) (v7 : Int32) (S : HS), X40 v0 v1 v2 v3 v4 v5 v6 v7 S → WS X 11 0 0 40 [(0, .ref v0), (1, .int v1), (2, .int v2), (3, .int v3), (4, .int v4), (5, .int v5), (6, .int v6), (7, .int v7)] [] S) {v0 : Nat} {v1 : Int32} {v2 : Int32} {v3 : Int32} {v4 : Int32} {v5 : Int32} {v6 : Int32} {v7 : Int32} {v8 : Int32} {S : HS} (h : P_X11_fitOf_63 Q X16 X31 X40 v0 v1 v2 v3 v4 v5 v6 v7 v8 S) : WS X 11 0 0 63 [(0, .ref v0), (1, .int v1), (2, .int v2), (3, .int v3), (4, .int v4), (5, .int v5), (6, .int v6), (7, .int v7), (8, .int v8)] [] S :=
  h (fun v0 v1 v2 v3 v4 v5 v6 v7 v8 S => WS X 11 0 0 63 [(0, .ref v0), (1, .int v1), (2, .int v2), (3, .int v3), (4, .int v4), (5, .int v5), (6, .int v6), (7, .int v7), (8, .int v8)] [] S) (fun v0 v1 v2 v3 v4 v5 v6 v7 v8 S hh => TB_X11_fitOf_63 C E ht hn hX16 hX31 hX40 (fun v0 v1 v2 v3 v4 v5 v6 v7 v8 S z => z) hh)
def B_X11_fitOf_40 (Q : Int32 → HS → Prop) (X16 : Nat → Int32 → Int32 → Int32 → Int32 → Int32 → HS → Prop) (X31 : Nat → Int32 → Int32 → Int32 → Int32 → Int32 → Int32 → HS → Prop) (X40 : Nat → Int32 → Int32 → Int32 → Int32 → Int32 → Int32 → Int32 → HS → Prop) (v0 : Nat) (v1 : Int32) (v2 : Int32) (v3 : Int32) (v4 : Int32) (v5 : Int32) (v6 : Int32) (v7 : Int32) (S : HS) : Prop := ob S v0 11 ∧ (∃ a1 : Nat, fR S v0 3 = some a1 ∧ (ob S a1 10 ∧ (∀ x2 : Int32, x2 = fI S a1 1 → (((x2 ≤ v7) → (∀ x4 : Int32, x4 = v6 + (1 : Int32) → (X31 v0 v1 v2 v3 v4 v5 x4 S))) ∧ ((¬ x2 ≤ v7) → (∃ a5 : Nat, fR S v0 3 = some a5 ∧ (ob S a5 10 ∧ (∃ a6 : Nat, fR S a5 24 = some a6 ∧ (ob S a6 13 ∧ (vp_in v3 (hN S a6) ∧ ∀ x8 : Int32, x8 = fI S a6 v3.toNatClampNeg → (P_X11_fitOf_63 Q X16 X31 X40 v0 v1 v2 v3 v4 v5 v6 v7 x8 S)))))))))))
def P_X11_fitOf_40 (Q : Int32 → HS → Prop) (X16 : Nat → Int32 → Int32 → Int32 → Int32 → Int32 → HS → Prop) (X31 : Nat → Int32 → Int32 → Int32 → Int32 → Int32 → Int32 → HS → Prop) (v0 : Nat) (v1 : Int32) (v2 : Int32) (v3 : Int32) (v4 : Int32) (v5 : Int32) (v6 : Int32) (v7 : Int32) (S : HS) : Prop := ∀ X40 : Nat → Int32 → Int32 → Int32 → Int32 → Int32 → Int32 → Int32 → HS → Prop, (∀ (v0 : Nat) (v1 : Int32) (v2 : Int32) (v3 : Int32) (v4 : Int32) (v5 : Int32) (v6 : Int32) (v7 : Int32) (S : HS), B_X11_fitOf_40 Q X16 X31 X40 v0 v1 v2 v3 v4 v5 v6 v7 S → X40 v0 v1 v2 v3 v4 v5 v6 v7 S) → X40 v0 v1 v2 v3 v4 v5 v6 v7 S
set_option maxRecDepth 20000 in
set_option maxHeartbeats 4000000 in
theorem TB_X11_fitOf_40 {X : CX} {Q : Int32 → HS → Prop} (C : Cx X cX11_fitOf RX11 11 rm_X11_fitOf) (E : ReI X rm_X11_fitOf Q) (ht : (xh X).sig.returnType = (some .int)) (hn : (xh X).name = yX11_fitOf.name) {X16 : Nat → Int32 → Int32 → Int32 → Int32 → Int32 → HS → Prop} (hX16 : ∀ (v0 : Nat) (v1 : Int32) (v2 : Int32) (v3 : Int32) (v4 : Int32) (v5 : Int32) (S : HS), X16 v0 v1 v2 v3 v4 v5 S → WS X 11 0 0 16 [(0, .ref v0), (1, .int v1), (2, .int v2), (3, .int v3), (4, .int v4), (5, .int v5)] [] S) {X31 : Nat → Int32 → Int32 → Int32 → Int32 → Int32 → Int32 → HS → Prop} (hX31 : ∀ (v0 : Nat) (v1 : Int32) (v2 : Int32) (v3 : Int32) (v4 : Int32) (v5 : Int32) (v6 : Int32) (S : HS), X31 v0 v1 v2 v3 v4 v5 v6 S → WS X 11 0 0 31 [(0, .ref v0), (1, .int v1), (2, .int v2), (3, .int v3), (4, .int v4), (5, .int v5), (6, .int v6)] [] S) {X40 : Nat → Int32 → Int32 → Int32 → Int32 → Int32 → Int32 → Int32 → HS → Prop} (hX40 : ∀ (v0 : Nat) (v1 : Int32) (v2 : Int32) (v3 : Int32) (v4 : Int32) (v5 : Int32) (v6 : Int32) (v7 : Int32) (S : HS), X40 v0 v1 v2 v3 v4 v5 v6 v7 S → WS X 11 0 0 40 [(0, .ref v0), (1, .int v1), (2, .int v2), (3, .int v3), (4, .int v4), (5, .int v5), (6, .int v6), (7, .int v7)] [] S) {v0 : Nat} {v1 : Int32} {v2 : Int32} {v3 : Int32} {v4 : Int32} {v5 : Int32} {v6 : Int32} {v7 : Int32} {S : HS} (h : B_X11_fitOf_40 Q X16 X31 X40 v0 v1 v2 v3 v4 v5 v6 v7 S) : WS X 11 0 0 40 [(0, .ref v0), (1, .int v1), (2, .int v2), (3, .int v3), (4, .int v4), (5, .int v5), (6, .int v6), (7, .int v7)] [] S := by
  refine r_iload (pc := 40) C dX11_fitOf_40 7 rfl ?_
  refine r_aload_n (pc := 42) C dX11_fitOf_42 0 rfl ?_
  obtain ⟨o_v0, h⟩ := h
  obtain ⟨a1, ea1, h⟩ := h
  refine r_getr (pc := 43) C fL_X11_338 dX11_fitOf_43 o_v0 ea1 ?_
  obtain ⟨o_a1, h⟩ := h
  refine r_getNi (pc := 46) C fN_X11_219 dX11_fitOf_46 o_a1 ?_
  refine r_topi (fun x2 ex2 => ?_)
  have h := h x2 ex2
  refine r_icmp_ge (pc := 49) C (tgt := 196) dX11_fitOf_49 (by decide) (fun c3 => ?_) (fun c3 => ?_)
  · have h := h.1 c3
    obtain ⟨x4, ex4⟩ : ∃ z : Int32, z = v6 + (1 : Int32) := ⟨_, rfl⟩
    have h := h x4 ex4
    refine r_iinc (pc := 196) C (v := x4) (lv' := [(6, .int x4), (0, .ref v0), (1, .int v1), (2, .int v2), (3, .int v3), (4, .int v4), (5, .int v5), (7, .int v7)]) dX11_fitOf_196 6 rfl ex4.symm (by decide) rfl ?_
    refine r_goto (pc := 199) C (tgt := 31) dX11_fitOf_199 (by decide) ?_
    exact r_sub [1, 2, 3, 4, 5, 6, 0] rfl (hX31 v0 v1 v2 v3 v4 v5 x4 S h)
  · have h := h.2 c3
    refine r_aload_n (pc := 52) C dX11_fitOf_52 0 rfl ?_
    obtain ⟨a5, ea5, h⟩ := h
    refine r_getr (pc := 53) C fL_X11_338 dX11_fitOf_53 o_v0 ea5 ?_
    obtain ⟨o_a5, h⟩ := h
    obtain ⟨a6, ea6, h⟩ := h
    refine r_getNr (pc := 56) C fN_X11_317 dX11_fitOf_56 o_a5 ea6 ?_
    refine r_iload_n (pc := 59) C dX11_fitOf_59 3 rfl ?_
    obtain ⟨o_a6, h⟩ := h
    obtain ⟨i7, h⟩ := h
    refine r_iald (pc := 60) C dX11_fitOf_60 o_a6 i7 ?_
    refine r_topi (fun x8 ex8 => ?_)
    have h := h x8 ex8
    refine r_istore (pc := 61) C dX11_fitOf_61 (by decide) (lv' := [(8, .int x8), (0, .ref v0), (1, .int v1), (2, .int v2), (3, .int v3), (4, .int v4), (5, .int v5), (6, .int v6), (7, .int v7)]) rfl ?_
    exact r_sub [1, 2, 3, 4, 5, 6, 7, 8, 0] rfl (T_X11_fitOf_63 C E ht hn hX16 hX31 hX40 h)
theorem T_X11_fitOf_40 {X : CX} {Q : Int32 → HS → Prop} (C : Cx X cX11_fitOf RX11 11 rm_X11_fitOf) (E : ReI X rm_X11_fitOf Q) (ht : (xh X).sig.returnType = (some .int)) (hn : (xh X).name = yX11_fitOf.name) {X16 : Nat → Int32 → Int32 → Int32 → Int32 → Int32 → HS → Prop} (hX16 : ∀ (v0 : Nat) (v1 : Int32) (v2 : Int32) (v3 : Int32) (v4 : Int32) (v5 : Int32) (S : HS), X16 v0 v1 v2 v3 v4 v5 S → WS X 11 0 0 16 [(0, .ref v0), (1, .int v1), (2, .int v2), (3, .int v3), (4, .int v4), (5, .int v5)] [] S) {X31 : Nat → Int32 → Int32 → Int32 → Int32 → Int32 → Int32 → HS → Prop} (hX31 : ∀ (v0 : Nat) (v1 : Int32) (v2 : Int32) (v3 : Int32) (v4 : Int32) (v5 : Int32) (v6 : Int32) (S : HS), X31 v0 v1 v2 v3 v4 v5 v6 S → WS X 11 0 0 31 [(0, .ref v0), (1, .int v1), (2, .int v2), (3, .int v3), (4, .int v4), (5, .int v5), (6, .int v6)] [] S) {v0 : Nat} {v1 : Int32} {v2 : Int32} {v3 : Int32} {v4 : Int32} {v5 : Int32} {v6 : Int32} {v7 : Int32} {S : HS} (h : P_X11_fitOf_40 Q X16 X31 v0 v1 v2 v3 v4 v5 v6 v7 S) : WS X 11 0 0 40 [(0, .ref v0), (1, .int v1), (2, .int v2), (3, .int v3), (4, .int v4), (5, .int v5), (6, .int v6), (7, .int v7)] [] S :=
  h (fun v0 v1 v2 v3 v4 v5 v6 v7 S => WS X 11 0 0 40 [(0, .ref v0), (1, .int v1), (2, .int v2), (3, .int v3), (4, .int v4), (5, .int v5), (6, .int v6), (7, .int v7)] [] S) (fun v0 v1 v2 v3 v4 v5 v6 v7 S hh => TB_X11_fitOf_40 C E ht hn hX16 hX31 (fun v0 v1 v2 v3 v4 v5 v6 v7 S z => z) hh)
def B_X11_fitOf_31 (Q : Int32 → HS → Prop) (X16 : Nat → Int32 → Int32 → Int32 → Int32 → Int32 → HS → Prop) (X31 : Nat → Int32 → Int32 → Int32 → Int32 → Int32 → Int32 → HS → Prop) (v0 : Nat) (v1 : Int32) (v2 : Int32) (v3 : Int32) (v4 : Int32) (v5 : Int32) (v6 : Int32) (S : HS) : Prop := (((2 : Int32) ≤ v6) → (∀ x2 : Int32, x2 = v5 + (1 : Int32) → (X16 v0 v1 v2 v3 v4 x2 S))) ∧ ((¬ (2 : Int32) ≤ v6) → (P_X11_fitOf_40 Q X16 X31 v0 v1 v2 v3 v4 v5 v6 (0 : Int32) S))
def P_X11_fitOf_31 (Q : Int32 → HS → Prop) (X16 : Nat → Int32 → Int32 → Int32 → Int32 → Int32 → HS → Prop) (v0 : Nat) (v1 : Int32) (v2 : Int32) (v3 : Int32) (v4 : Int32) (v5 : Int32) (v6 : Int32) (S : HS) : Prop := ∀ X31 : Nat → Int32 → Int32 → Int32 → Int32 → Int32 → Int32 → HS → Prop, (∀ (v0 : Nat) (v1 : Int32) (v2 : Int32) (v3 : Int32) (v4 : Int32) (v5 : Int32) (v6 : Int32) (S : HS), B_X11_fitOf_31 Q X16 X31 v0 v1 v2 v3 v4 v5 v6 S → X31 v0 v1 v2 v3 v4 v5 v6 S) → X31 v0 v1 v2 v3 v4 v5 v6 S
set_option maxRecDepth 20000 in
set_option maxHeartbeats 4000000 in
theorem TB_X11_fitOf_31 {X : CX} {Q : Int32 → HS → Prop} (C : Cx X cX11_fitOf RX11 11 rm_X11_fitOf) (E : ReI X rm_X11_fitOf Q) (ht : (xh X).sig.returnType = (some .int)) (hn : (xh X).name = yX11_fitOf.name) {X16 : Nat → Int32 → Int32 → Int32 → Int32 → Int32 → HS → Prop} (hX16 : ∀ (v0 : Nat) (v1 : Int32) (v2 : Int32) (v3 : Int32) (v4 : Int32) (v5 : Int32) (S : HS), X16 v0 v1 v2 v3 v4 v5 S → WS X 11 0 0 16 [(0, .ref v0), (1, .int v1), (2, .int v2), (3, .int v3), (4, .int v4), (5, .int v5)] [] S) {X31 : Nat → Int32 → Int32 → Int32 → Int32 → Int32 → Int32 → HS → Prop} (hX31 : ∀ (v0 : Nat) (v1 : Int32) (v2 : Int32) (v3 : Int32) (v4 : Int32) (v5 : Int32) (v6 : Int32) (S : HS), X31 v0 v1 v2 v3 v4 v5 v6 S → WS X 11 0 0 31 [(0, .ref v0), (1, .int v1), (2, .int v2), (3, .int v3), (4, .int v4), (5, .int v5), (6, .int v6)] [] S) {v0 : Nat} {v1 : Int32} {v2 : Int32} {v3 : Int32} {v4 : Int32} {v5 : Int32} {v6 : Int32} {S : HS} (h : B_X11_fitOf_31 Q X16 X31 v0 v1 v2 v3 v4 v5 v6 S) : WS X 11 0 0 31 [(0, .ref v0), (1, .int v1), (2, .int v2), (3, .int v3), (4, .int v4), (5, .int v5), (6, .int v6)] [] S := by
  refine r_iload (pc := 31) C dX11_fitOf_31 6 rfl ?_
  refine r_iconst (pc := 33) C (v := (2 : Int32)) dX11_fitOf_33 (by decide) ?_
  refine r_icmp_ge (pc := 34) C (tgt := 202) dX11_fitOf_34 (by decide) (fun c1 => ?_) (fun c1 => ?_)
  · have h := h.1 c1
    obtain ⟨x2, ex2⟩ : ∃ z : Int32, z = v5 + (1 : Int32) := ⟨_, rfl⟩
    have h := h x2 ex2
    refine r_iinc (pc := 202) C (v := x2) (lv' := [(5, .int x2), (0, .ref v0), (1, .int v1), (2, .int v2), (3, .int v3), (4, .int v4), (6, .int v6)]) dX11_fitOf_202 5 rfl ex2.symm (by decide) rfl ?_
    refine r_goto (pc := 205) C (tgt := 16) dX11_fitOf_205 (by decide) ?_
    exact r_sub [1, 2, 3, 4, 5, 0] rfl (hX16 v0 v1 v2 v3 v4 x2 S h)
  · have h := h.2 c1
    refine r_iconst (pc := 37) C (v := (0 : Int32)) dX11_fitOf_37 (by decide) ?_
    refine r_istore (pc := 38) C dX11_fitOf_38 (by decide) (lv' := [(7, .int (0 : Int32)), (0, .ref v0), (1, .int v1), (2, .int v2), (3, .int v3), (4, .int v4), (5, .int v5), (6, .int v6)]) rfl ?_
    exact r_sub [1, 2, 3, 4, 5, 6, 7, 0] rfl (T_X11_fitOf_40 C E ht hn hX16 hX31 h)
theorem T_X11_fitOf_31 {X : CX} {Q : Int32 → HS → Prop} (C : Cx X cX11_fitOf RX11 11 rm_X11_fitOf) (E : ReI X rm_X11_fitOf Q) (ht : (xh X).sig.returnType = (some .int)) (hn : (xh X).name = yX11_fitOf.name) {X16 : Nat → Int32 → Int32 → Int32 → Int32 → Int32 → HS → Prop} (hX16 : ∀ (v0 : Nat) (v1 : Int32) (v2 : Int32) (v3 : Int32) (v4 : Int32) (v5 : Int32) (S : HS), X16 v0 v1 v2 v3 v4 v5 S → WS X 11 0 0 16 [(0, .ref v0), (1, .int v1), (2, .int v2), (3, .int v3), (4, .int v4), (5, .int v5)] [] S) {v0 : Nat} {v1 : Int32} {v2 : Int32} {v3 : Int32} {v4 : Int32} {v5 : Int32} {v6 : Int32} {S : HS} (h : P_X11_fitOf_31 Q X16 v0 v1 v2 v3 v4 v5 v6 S) : WS X 11 0 0 31 [(0, .ref v0), (1, .int v1), (2, .int v2), (3, .int v3), (4, .int v4), (5, .int v5), (6, .int v6)] [] S :=
  h (fun v0 v1 v2 v3 v4 v5 v6 S => WS X 11 0 0 31 [(0, .ref v0), (1, .int v1), (2, .int v2), (3, .int v3), (4, .int v4), (5, .int v5), (6, .int v6)] [] S) (fun v0 v1 v2 v3 v4 v5 v6 S hh => TB_X11_fitOf_31 C E ht hn hX16 (fun v0 v1 v2 v3 v4 v5 v6 S z => z) hh)
def B_X11_fitOf_16 (Q : Int32 → HS → Prop) (X16 : Nat → Int32 → Int32 → Int32 → Int32 → Int32 → HS → Prop) (v0 : Nat) (v1 : Int32) (v2 : Int32) (v3 : Int32) (v4 : Int32) (v5 : Int32) (S : HS) : Prop := ob S v0 11 ∧ (∃ a1 : Nat, fR S v0 3 = some a1 ∧ (ob S a1 10 ∧ (∀ x2 : Int32, x2 = fI S a1 3 → (((x2 ≤ v5) → (((0 ≤ v2) → (Q (-1 : Int32) S)) ∧ ((¬ 0 ≤ v2) → (Q v4 S)))) ∧ ((¬ x2 ≤ v5) → (P_X11_fitOf_31 Q X16 v0 v1 v2 v3 v4 v5 (0 : Int32) S))))))
def P_X11_fitOf_16 (Q : Int32 → HS → Prop) (v0 : Nat) (v1 : Int32) (v2 : Int32) (v3 : Int32) (v4 : Int32) (v5 : Int32) (S : HS) : Prop := ∀ X16 : Nat → Int32 → Int32 → Int32 → Int32 → Int32 → HS → Prop, (∀ (v0 : Nat) (v1 : Int32) (v2 : Int32) (v3 : Int32) (v4 : Int32) (v5 : Int32) (S : HS), B_X11_fitOf_16 Q X16 v0 v1 v2 v3 v4 v5 S → X16 v0 v1 v2 v3 v4 v5 S) → X16 v0 v1 v2 v3 v4 v5 S
set_option maxRecDepth 20000 in
set_option maxHeartbeats 4000000 in
theorem TB_X11_fitOf_16 {X : CX} {Q : Int32 → HS → Prop} (C : Cx X cX11_fitOf RX11 11 rm_X11_fitOf) (E : ReI X rm_X11_fitOf Q) (ht : (xh X).sig.returnType = (some .int)) (hn : (xh X).name = yX11_fitOf.name) {X16 : Nat → Int32 → Int32 → Int32 → Int32 → Int32 → HS → Prop} (hX16 : ∀ (v0 : Nat) (v1 : Int32) (v2 : Int32) (v3 : Int32) (v4 : Int32) (v5 : Int32) (S : HS), X16 v0 v1 v2 v3 v4 v5 S → WS X 11 0 0 16 [(0, .ref v0), (1, .int v1), (2, .int v2), (3, .int v3), (4, .int v4), (5, .int v5)] [] S) {v0 : Nat} {v1 : Int32} {v2 : Int32} {v3 : Int32} {v4 : Int32} {v5 : Int32} {S : HS} (h : B_X11_fitOf_16 Q X16 v0 v1 v2 v3 v4 v5 S) : WS X 11 0 0 16 [(0, .ref v0), (1, .int v1), (2, .int v2), (3, .int v3), (4, .int v4), (5, .int v5)] [] S := by
  refine r_iload (pc := 16) C dX11_fitOf_16 5 rfl ?_
  refine r_aload_n (pc := 18) C dX11_fitOf_18 0 rfl ?_
  obtain ⟨o_v0, h⟩ := h
  obtain ⟨a1, ea1, h⟩ := h
  refine r_getr (pc := 19) C fL_X11_338 dX11_fitOf_19 o_v0 ea1 ?_
  obtain ⟨o_a1, h⟩ := h
  refine r_getNi (pc := 22) C fN_X11_264 dX11_fitOf_22 o_a1 ?_
  refine r_topi (fun x2 ex2 => ?_)
  have h := h x2 ex2
  refine r_icmp_ge (pc := 25) C (tgt := 208) dX11_fitOf_25 (by decide) (fun c3 => ?_) (fun c3 => ?_)
  · have h := h.1 c3
    refine r_iload_n (pc := 208) C dX11_fitOf_208 2 rfl ?_
    refine r_if_ge (pc := 209) C (tgt := 217) dX11_fitOf_209 (by decide) (fun c4 => ?_) (fun c4 => ?_)
    · have h := h.1 c4
      refine r_iconst (pc := 217) C (v := (-1 : Int32)) dX11_fitOf_217 (by decide) ?_
      exact r_iret (pc := 218) C E ht dX11_fitOf_218 (by decide) (by decide) h
    · have h := h.2 c4
      refine r_iload (pc := 212) C dX11_fitOf_212 4 rfl ?_
      refine r_goto (pc := 214) C (tgt := 218) dX11_fitOf_214 (by decide) ?_
      exact r_iret (pc := 218) C E ht dX11_fitOf_218 (by decide) (by decide) h
  · have h := h.2 c3
    refine r_iconst (pc := 28) C (v := (0 : Int32)) dX11_fitOf_28 (by decide) ?_
    refine r_istore (pc := 29) C dX11_fitOf_29 (by decide) (lv' := [(6, .int (0 : Int32)), (0, .ref v0), (1, .int v1), (2, .int v2), (3, .int v3), (4, .int v4), (5, .int v5)]) rfl ?_
    exact r_sub [1, 2, 3, 4, 5, 6, 0] rfl (T_X11_fitOf_31 C E ht hn hX16 h)
theorem T_X11_fitOf_16 {X : CX} {Q : Int32 → HS → Prop} (C : Cx X cX11_fitOf RX11 11 rm_X11_fitOf) (E : ReI X rm_X11_fitOf Q) (ht : (xh X).sig.returnType = (some .int)) (hn : (xh X).name = yX11_fitOf.name) {v0 : Nat} {v1 : Int32} {v2 : Int32} {v3 : Int32} {v4 : Int32} {v5 : Int32} {S : HS} (h : P_X11_fitOf_16 Q v0 v1 v2 v3 v4 v5 S) : WS X 11 0 0 16 [(0, .ref v0), (1, .int v1), (2, .int v2), (3, .int v3), (4, .int v4), (5, .int v5)] [] S :=
  h (fun v0 v1 v2 v3 v4 v5 S => WS X 11 0 0 16 [(0, .ref v0), (1, .int v1), (2, .int v2), (3, .int v3), (4, .int v4), (5, .int v5)] [] S) (fun v0 v1 v2 v3 v4 v5 S hh => TB_X11_fitOf_16 C E ht hn (fun v0 v1 v2 v3 v4 v5 S z => z) hh)
def P_X11_fitOf_0 (Q : Int32 → HS → Prop) (v0 : Nat) (v1 : Int32) (v2 : Int32) (S : HS) : Prop := ob S v0 11 ∧ (∃ a1 : Nat, fR S v0 3 = some a1 ∧ (ob S a1 10 ∧ (∃ a2 : Nat, fR S a1 26 = some a2 ∧ (ob S a2 13 ∧ (vp_in v1 (hN S a2) ∧ ∀ x4 : Int32, x4 = fI S a2 v1.toNatClampNeg → (P_X11_fitOf_16 Q v0 v1 v2 x4 (0 : Int32) (0 : Int32) S))))))
set_option maxRecDepth 20000 in
set_option maxHeartbeats 4000000 in
theorem T_X11_fitOf_0 {X : CX} {Q : Int32 → HS → Prop} (C : Cx X cX11_fitOf RX11 11 rm_X11_fitOf) (E : ReI X rm_X11_fitOf Q) (ht : (xh X).sig.returnType = (some .int)) (hn : (xh X).name = yX11_fitOf.name) {v0 : Nat} {v1 : Int32} {v2 : Int32} {S : HS} (h : P_X11_fitOf_0 Q v0 v1 v2 S) : WS X 11 0 0 0 [(0, .ref v0), (1, .int v1), (2, .int v2)] [] S := by
  refine r_aload_n (pc := 0) C dX11_fitOf_0 0 rfl ?_
  obtain ⟨o_v0, h⟩ := h
  obtain ⟨a1, ea1, h⟩ := h
  refine r_getr (pc := 1) C fL_X11_338 dX11_fitOf_1 o_v0 ea1 ?_
  obtain ⟨o_a1, h⟩ := h
  obtain ⟨a2, ea2, h⟩ := h
  refine r_getNr (pc := 4) C fN_X11_328 dX11_fitOf_4 o_a1 ea2 ?_
  refine r_iload_n (pc := 7) C dX11_fitOf_7 1 rfl ?_
  obtain ⟨o_a2, h⟩ := h
  obtain ⟨i3, h⟩ := h
  refine r_iald (pc := 8) C dX11_fitOf_8 o_a2 i3 ?_
  refine r_topi (fun x4 ex4 => ?_)
  have h := h x4 ex4
  refine r_istore_n (pc := 9) C dX11_fitOf_9 rfl (by decide) (lv' := [(3, .int x4), (0, .ref v0), (1, .int v1), (2, .int v2)]) rfl ?_
  refine r_iconst (pc := 10) C (v := (0 : Int32)) dX11_fitOf_10 (by decide) ?_
  refine r_istore (pc := 11) C dX11_fitOf_11 (by decide) (lv' := [(4, .int (0 : Int32)), (3, .int x4), (0, .ref v0), (1, .int v1), (2, .int v2)]) rfl ?_
  refine r_iconst (pc := 13) C (v := (0 : Int32)) dX11_fitOf_13 (by decide) ?_
  refine r_istore (pc := 14) C dX11_fitOf_14 (by decide) (lv' := [(5, .int (0 : Int32)), (4, .int (0 : Int32)), (3, .int x4), (0, .ref v0), (1, .int v1), (2, .int v2)]) rfl ?_
  exact r_sub [3, 4, 5, 2, 1, 0] rfl (T_X11_fitOf_16 C E ht hn h)
def P_X11_fitOf (v0 : Nat) (v1 : Int32) (v2 : Int32) (Q : Int32 → HS → Prop) (S : HS) : Prop := P_X11_fitOf_0 Q v0 v1 v2 S
theorem c_X11_fitOf {l : Launch} {Ee : EE} {S : HS} {v0 : Nat} {v1 : Int32} {v2 : Int32} {Q : Int32 → HS → Prop} (h : P_X11_fitOf v0 v1 v2 Q S) : MI l yX11_fitOf cX11_fitOf 11 (some .int) rm_X11_fitOf Ee S [.ref v0, .int v1, .int v2] Q :=
  openI (by decide) (Nat.le_of_ble_eq_true rfl) (fun X C E ht hn hE hl => by subst hE; exact r_sub [0, 1, 2] rfl (T_X11_fitOf_0 C E ht hn h))
def rm_X11_isSeen : Room := { frames := 0, cells := 0, slots := 0, locals := 0 }
def P_X11_isSeen_0 (Q : Int32 → HS → Prop) (v0 : Nat) (v1 : Int32) (S : HS) : Prop := ob S v0 11 ∧ ((fR S v0 3 = none → (Q (0 : Int32) S)) ∧ (∀ a1 : Nat, fR S v0 3 = some a1 → (((v1 < 0) → (Q (0 : Int32) S)) ∧ ((¬ v1 < 0) → (∃ a4 : Nat, fR S v0 3 = some a4 ∧ (ob S a4 10 ∧ (∀ x5 : Int32, x5 = fI S a4 5 → (((x5 ≤ v1) → (Q (0 : Int32) S)) ∧ ((¬ x5 ≤ v1) → (Q (1 : Int32) S))))))))))
set_option maxRecDepth 20000 in
set_option maxHeartbeats 4000000 in
theorem T_X11_isSeen_0 {X : CX} {Q : Int32 → HS → Prop} (C : Cx X cX11_isSeen RX11 2 rm_X11_isSeen) (E : ReI X rm_X11_isSeen (fun r S => bl r ∧ Q r S)) (ht : (xh X).sig.returnType = (some .boolean)) (hn : (xh X).name = yX11_isSeen.name) {v0 : Nat} {v1 : Int32} {S : HS} (h : P_X11_isSeen_0 Q v0 v1 S) : WS X 2 0 0 0 [(0, .ref v0), (1, .int v1)] [] S := by
  refine r_aload_n (pc := 0) C dX11_isSeen_0 0 rfl ?_
  obtain ⟨o_v0, h⟩ := h
  rcases e2 : fR S v0 3 with _ | a1
  · refine r_get0 (pc := 1) C fL_X11_338 dX11_isSeen_1 o_v0 e2 ?_
    refine r_ifnull0 (pc := 4) C (tgt := 26) dX11_isSeen_4 (by decide) ?_
    have h := h.1 e2
    refine r_iconst (pc := 26) C (v := (0 : Int32)) dX11_isSeen_26 (by decide) ?_
    exact r_zret (pc := 27) C E ht dX11_isSeen_27 (by decide) (by decide) (Or.inl rfl) h
  · refine r_getr (pc := 1) C fL_X11_338 dX11_isSeen_1 o_v0 e2 ?_
    refine r_ifnull (pc := 4) C dX11_isSeen_4 ?_
    have h := h.2 a1 e2
    refine r_iload_n (pc := 7) C dX11_isSeen_7 1 rfl ?_
    refine r_if_lt (pc := 8) C (tgt := 26) dX11_isSeen_8 (by decide) (fun c3 => ?_) (fun c3 => ?_)
    · have h := h.1 c3
      refine r_iconst (pc := 26) C (v := (0 : Int32)) dX11_isSeen_26 (by decide) ?_
      exact r_zret (pc := 27) C E ht dX11_isSeen_27 (by decide) (by decide) (Or.inl rfl) h
    · have h := h.2 c3
      refine r_iload_n (pc := 11) C dX11_isSeen_11 1 rfl ?_
      refine r_aload_n (pc := 12) C dX11_isSeen_12 0 rfl ?_
      obtain ⟨a4, ea4, h⟩ := h
      refine r_getr (pc := 13) C fL_X11_338 dX11_isSeen_13 o_v0 ea4 ?_
      obtain ⟨o_a4, h⟩ := h
      refine r_getNi (pc := 16) C fN_X11_323 dX11_isSeen_16 o_a4 ?_
      refine r_topi (fun x5 ex5 => ?_)
      have h := h x5 ex5
      refine r_icmp_ge (pc := 19) C (tgt := 26) dX11_isSeen_19 (by decide) (fun c6 => ?_) (fun c6 => ?_)
      · have h := h.1 c6
        refine r_iconst (pc := 26) C (v := (0 : Int32)) dX11_isSeen_26 (by decide) ?_
        exact r_zret (pc := 27) C E ht dX11_isSeen_27 (by decide) (by decide) (Or.inl rfl) h
      · have h := h.2 c6
        refine r_iconst (pc := 22) C (v := (1 : Int32)) dX11_isSeen_22 (by decide) ?_
        refine r_goto (pc := 23) C (tgt := 27) dX11_isSeen_23 (by decide) ?_
        exact r_zret (pc := 27) C E ht dX11_isSeen_27 (by decide) (by decide) (Or.inr rfl) h
def P_X11_isSeen (v0 : Nat) (v1 : Int32) (Q : Int32 → HS → Prop) (S : HS) : Prop := P_X11_isSeen_0 Q v0 v1 S
theorem c_X11_isSeen {l : Launch} {Ee : EE} {S : HS} {v0 : Nat} {v1 : Int32} {Q : Int32 → HS → Prop} (h : P_X11_isSeen v0 v1 Q S) : MI l yX11_isSeen cX11_isSeen 2 (some .boolean) rm_X11_isSeen Ee S [.ref v0, .int v1] (fun r S => bl r ∧ Q r S) :=
  openI (by decide) (Nat.le_of_ble_eq_true rfl) (fun X C E ht hn hE hl => by subst hE; exact r_sub [0, 1] rfl (T_X11_isSeen_0 C E ht hn h))
def rm_X11_fit : Room := { frames := 6, cells := 0, slots := 0, locals := 165 }
def P_X11_fit_27 (Q : Int32 → HS → Prop) (v0 : Nat) (s0 : Int32) (S : HS) : Prop := ((¬ s0 = (-1 : Int32)) → (ob S v0 11 ∧ (P_X11_good v0 s0 (fun x4 S2 => Gr S S2 → (Q x4 S2)) S))) ∧ ((s0 = (-1 : Int32)) → (ob S v0 11 ∧ (P_X11_refused v0 (1 : Int32) (fun x7 S5 => Gr S S5 → (Q x7 S5)) S)))
set_option maxRecDepth 20000 in
set_option maxHeartbeats 4000000 in
theorem T_X11_fit_27 {X : CX} {Q : Int32 → HS → Prop} (C : Cx X cX11_fit RX11 4 rm_X11_fit) (E : ReI X rm_X11_fit Q) (ht : (xh X).sig.returnType = (some .int)) (hn : (xh X).name = yX11_fit.name) {v0 : Nat} {s0 : Int32} {S : HS} (h : P_X11_fit_27 Q v0 s0 S) : WS X 4 0 0 27 [(0, .ref v0)] [.int s0] S := by
  refine r_istore_n (pc := 27) C dX11_fit_27 rfl (by decide) (lv' := [(3, .int s0), (0, .ref v0)]) rfl ?_
  refine r_iload_n (pc := 28) C dX11_fit_28 0 rfl ?_
  refine r_iconst (pc := 29) C (v := (-1 : Int32)) dX11_fit_29 (by decide) ?_
  refine r_icmp_ne (pc := 30) C (tgt := 41) dX11_fit_30 (by decide) (fun c1 => ?_) (fun c1 => ?_)
  · have h := h.1 c1
    refine r_aload_n (pc := 41) C dX11_fit_41 1 rfl ?_
    refine r_iload_n (pc := 42) C dX11_fit_42 0 rfl ?_
    obtain ⟨o_v0, h⟩ := h
    refine r_callVi0 (pc := 43) C (rest := []) (a := v0) o_v0 [.int s0] yV_X11_good g_1518 (c_X11_good h) dX11_fit_43 rfl rfl (Nat.le_of_ble_eq_true rfl) ⟨by decide, by decide⟩ ⟨by decide, by decide⟩ ⟨rfl, rfl⟩ (fun x4 S2 h g3 => ?_)
    have h := h g3
    have o_v0 := gr_ob g3 o_v0
    exact r_iret (pc := 46) C E ht dX11_fit_46 (by decide) (by decide) h
  · have h := h.2 c1
    refine r_aload_n (pc := 33) C dX11_fit_33 1 rfl ?_
    refine r_iconst (pc := 34) C (v := (1 : Int32)) dX11_fit_34 (by decide) ?_
    obtain ⟨o_v0, h⟩ := h
    refine r_callVi0 (pc := 35) C (rest := []) (a := v0) o_v0 [.int (1 : Int32)] yV_X11_refused g_1250 (c_X11_refused h) dX11_fit_35 rfl rfl (Nat.le_of_ble_eq_true rfl) ⟨by decide, by decide⟩ ⟨by decide, by decide⟩ ⟨rfl, rfl⟩ (fun x7 S5 h g6 => ?_)
    have h := h g6
    have o_v0 := gr_ob g6 o_v0
    refine r_goto (pc := 38) C (tgt := 46) dX11_fit_38 (by decide) ?_
    exact r_iret (pc := 46) C E ht dX11_fit_46 (by decide) (by decide) h
def P_X11_fit_26 (Q : Int32 → HS → Prop) (v0 : Nat) (S : HS) : Prop := P_X11_fit_27 Q v0 (-1 : Int32) S
set_option maxRecDepth 20000 in
set_option maxHeartbeats 4000000 in
theorem T_X11_fit_26 {X : CX} {Q : Int32 → HS → Prop} (C : Cx X cX11_fit RX11 4 rm_X11_fit) (E : ReI X rm_X11_fit Q) (ht : (xh X).sig.returnType = (some .int)) (hn : (xh X).name = yX11_fit.name) {v0 : Nat} {S : HS} (h : P_X11_fit_26 Q v0 S) : WS X 4 0 0 26 [(0, .ref v0)] [] S := by
  refine r_iconst (pc := 26) C (v := (-1 : Int32)) dX11_fit_26 (by decide) ?_
  exact r_sub [0] rfl (T_X11_fit_27 C E ht hn h)
def P_X11_fit_0 (Q : Int32 → HS → Prop) (v0 : Nat) (v1 : Int32) (v2 : Int32) (S : HS) : Prop := ob S v0 11 ∧ (∀ S1 : HS, S1 = sI S v0 0 (0 : Int32) → (P_X11_isSeen v0 v1 (fun x4 S2 => Gr S1 S2 → bl x4 → (((x4 = 0) → (P_X11_fit_26 Q v0 S2)) ∧ ((¬ x4 = 0) → (((v2 < 0) → (P_X11_fit_26 Q v0 S2)) ∧ ((¬ v2 < 0) → (P_X11_fitOf v0 v1 v2 (fun x9 S7 => Gr S2 S7 → (P_X11_fit_27 Q v0 x9 S7)) S2)))))) S1))
set_option maxRecDepth 20000 in
set_option maxHeartbeats 4000000 in
theorem T_X11_fit_0 {X : CX} {Q : Int32 → HS → Prop} (C : Cx X cX11_fit RX11 4 rm_X11_fit) (E : ReI X rm_X11_fit Q) (ht : (xh X).sig.returnType = (some .int)) (hn : (xh X).name = yX11_fit.name) {v0 : Nat} {v1 : Int32} {v2 : Int32} {S : HS} (h : P_X11_fit_0 Q v0 v1 v2 S) : WS X 4 0 0 0 [(0, .ref v0), (1, .int v1), (2, .int v2)] [] S := by
  refine r_aload_n (pc := 0) C dX11_fit_0 0 rfl ?_
  refine r_iconst (pc := 1) C (v := (0 : Int32)) dX11_fit_1 (by decide) ?_
  obtain ⟨o_v0, h⟩ := h
  refine r_puti (pc := 2) C pfL_X11_40 dX11_fit_2 o_v0 ?_
  refine r_heap (fun S1 eS1 => ?_)
  have h := h S1 eS1
  have o_v0 := ob_I eS1 o_v0
  refine r_aload_n (pc := 5) C dX11_fit_5 0 rfl ?_
  refine r_iload_n (pc := 6) C dX11_fit_6 1 rfl ?_
  refine r_callVi0 (pc := 7) C (rest := []) (a := v0) o_v0 [.int v1] yV_X11_isSeen g_1751 (c_X11_isSeen h) dX11_fit_7 rfl rfl (Nat.le_of_ble_eq_true rfl) ⟨by decide, by decide⟩ ⟨by decide, by decide⟩ ⟨rfl, rfl⟩ (fun x4 S2 h g3 => ?_)
  have bx4 := h.1
  have h := h.2 g3 bx4
  have o_v0 := gr_ob g3 o_v0
  refine r_if_eq (pc := 10) C (tgt := 26) dX11_fit_10 (by decide) (fun c5 => ?_) (fun c5 => ?_)
  · have h := h.1 c5
    exact r_sub [0] rfl (T_X11_fit_26 C E ht hn h)
  · have h := h.2 c5
    refine r_iload_n (pc := 13) C dX11_fit_13 2 rfl ?_
    refine r_if_lt (pc := 14) C (tgt := 26) dX11_fit_14 (by decide) (fun c6 => ?_) (fun c6 => ?_)
    · have h := h.1 c6
      exact r_sub [0] rfl (T_X11_fit_26 C E ht hn h)
    · have h := h.2 c6
      refine r_aload_n (pc := 17) C dX11_fit_17 0 rfl ?_
      refine r_iload_n (pc := 18) C dX11_fit_18 1 rfl ?_
      refine r_iload_n (pc := 19) C dX11_fit_19 2 rfl ?_
      refine r_callVi0 (pc := 20) C (rest := []) (a := v0) o_v0 [.int v1, .int v2] yV_X11_fitOf g_1755 (c_X11_fitOf h) dX11_fit_20 rfl rfl (Nat.le_of_ble_eq_true rfl) ⟨by decide, by decide⟩ ⟨by decide, by decide⟩ ⟨rfl, rfl⟩ (fun x9 S7 h g8 => ?_)
      have h := h g8
      have o_v0 := gr_ob g8 o_v0
      refine r_goto (pc := 23) C (tgt := 27) dX11_fit_23 (by decide) ?_
      exact r_sub [0] rfl (T_X11_fit_27 C E ht hn h)
def P_X11_fit (v0 : Nat) (v1 : Int32) (v2 : Int32) (Q : Int32 → HS → Prop) (S : HS) : Prop := P_X11_fit_0 Q v0 v1 v2 S
theorem c_X11_fit {l : Launch} {Ee : EE} {S : HS} {v0 : Nat} {v1 : Int32} {v2 : Int32} {Q : Int32 → HS → Prop} (h : P_X11_fit v0 v1 v2 Q S) : MI l yX11_fit cX11_fit 4 (some .int) rm_X11_fit Ee S [.ref v0, .int v1, .int v2] Q :=
  openI (by decide) (Nat.le_of_ble_eq_true rfl) (fun X C E ht hn hE hl => by subst hE; exact r_sub [0, 1, 2] rfl (T_X11_fit_0 C E ht hn h))
def rm_X11_fits : Room := { frames := 6, cells := 0, slots := 0, locals := 165 }
def P_X11_fits_0 (Q : Int32 → HS → Prop) (v0 : Nat) (v1 : Int32) (S : HS) : Prop := ob S v0 11 ∧ (∀ S1 : HS, S1 = sI S v0 0 (0 : Int32) → (P_X11_isSeen v0 v1 (fun x4 S2 => Gr S1 S2 → bl x4 → (((x4 = 0) → (P_X11_refused v0 (1 : Int32) (fun x8 S6 => Gr S2 S6 → (Q x8 S6)) S2)) ∧ ((¬ x4 = 0) → (P_X11_fitOf v0 v1 (-1 : Int32) (fun x11 S9 => Gr S2 S9 → (P_X11_good v0 x11 (fun x14 S12 => Gr S9 S12 → (Q x14 S12)) S9)) S2)))) S1))
set_option maxRecDepth 20000 in
set_option maxHeartbeats 4000000 in
theorem T_X11_fits_0 {X : CX} {Q : Int32 → HS → Prop} (C : Cx X cX11_fits RX11 2 rm_X11_fits) (E : ReI X rm_X11_fits Q) (ht : (xh X).sig.returnType = (some .int)) (hn : (xh X).name = yX11_fits.name) {v0 : Nat} {v1 : Int32} {S : HS} (h : P_X11_fits_0 Q v0 v1 S) : WS X 2 0 0 0 [(0, .ref v0), (1, .int v1)] [] S := by
  refine r_aload_n (pc := 0) C dX11_fits_0 0 rfl ?_
  refine r_iconst (pc := 1) C (v := (0 : Int32)) dX11_fits_1 (by decide) ?_
  obtain ⟨o_v0, h⟩ := h
  refine r_puti (pc := 2) C pfL_X11_40 dX11_fits_2 o_v0 ?_
  refine r_heap (fun S1 eS1 => ?_)
  have h := h S1 eS1
  have o_v0 := ob_I eS1 o_v0
  refine r_aload_n (pc := 5) C dX11_fits_5 0 rfl ?_
  refine r_iload_n (pc := 6) C dX11_fits_6 1 rfl ?_
  refine r_callVi0 (pc := 7) C (rest := []) (a := v0) o_v0 [.int v1] yV_X11_isSeen g_1751 (c_X11_isSeen h) dX11_fits_7 rfl rfl (Nat.le_of_ble_eq_true rfl) ⟨by decide, by decide⟩ ⟨by decide, by decide⟩ ⟨rfl, rfl⟩ (fun x4 S2 h g3 => ?_)
  have bx4 := h.1
  have h := h.2 g3 bx4
  have o_v0 := gr_ob g3 o_v0
  refine r_if_eq (pc := 10) C (tgt := 26) dX11_fits_10 (by decide) (fun c5 => ?_) (fun c5 => ?_)
  · have h := h.1 c5
    refine r_aload_n (pc := 26) C dX11_fits_26 0 rfl ?_
    refine r_iconst (pc := 27) C (v := (1 : Int32)) dX11_fits_27 (by decide) ?_
    refine r_callVi0 (pc := 28) C (rest := []) (a := v0) o_v0 [.int (1 : Int32)] yV_X11_refused g_1250 (c_X11_refused h) dX11_fits_28 rfl rfl (Nat.le_of_ble_eq_true rfl) ⟨by decide, by decide⟩ ⟨by decide, by decide⟩ ⟨rfl, rfl⟩ (fun x8 S6 h g7 => ?_)
    have h := h g7
    have o_v0 := gr_ob g7 o_v0
    exact r_iret (pc := 31) C E ht dX11_fits_31 (by decide) (by decide) h
  · have h := h.2 c5
    refine r_aload_n (pc := 13) C dX11_fits_13 0 rfl ?_
    refine r_aload_n (pc := 14) C dX11_fits_14 0 rfl ?_
    refine r_iload_n (pc := 15) C dX11_fits_15 1 rfl ?_
    refine r_iconst (pc := 16) C (v := (-1 : Int32)) dX11_fits_16 (by decide) ?_
    refine r_callVi0 (pc := 17) C (rest := [.ref v0]) (a := v0) o_v0 [.int v1, .int (-1 : Int32)] yV_X11_fitOf g_1755 (c_X11_fitOf h) dX11_fits_17 rfl rfl (Nat.le_of_ble_eq_true rfl) ⟨by decide, by decide⟩ ⟨by decide, by decide⟩ ⟨rfl, rfl⟩ (fun x11 S9 h g10 => ?_)
    have h := h g10
    have o_v0 := gr_ob g10 o_v0
    refine r_callVi0 (pc := 20) C (rest := []) (a := v0) o_v0 [.int x11] yV_X11_good g_1518 (c_X11_good h) dX11_fits_20 rfl rfl (Nat.le_of_ble_eq_true rfl) ⟨by decide, by decide⟩ ⟨by decide, by decide⟩ ⟨rfl, rfl⟩ (fun x14 S12 h g13 => ?_)
    have h := h g13
    have o_v0 := gr_ob g13 o_v0
    refine r_goto (pc := 23) C (tgt := 31) dX11_fits_23 (by decide) ?_
    exact r_iret (pc := 31) C E ht dX11_fits_31 (by decide) (by decide) h
def P_X11_fits (v0 : Nat) (v1 : Int32) (Q : Int32 → HS → Prop) (S : HS) : Prop := P_X11_fits_0 Q v0 v1 S
theorem c_X11_fits {l : Launch} {Ee : EE} {S : HS} {v0 : Nat} {v1 : Int32} {Q : Int32 → HS → Prop} (h : P_X11_fits v0 v1 Q S) : MI l yX11_fits cX11_fits 2 (some .int) rm_X11_fits Ee S [.ref v0, .int v1] Q :=
  openI (by decide) (Nat.le_of_ble_eq_true rfl) (fun X C E ht hn hE hl => by subst hE; exact r_sub [0, 1] rfl (T_X11_fits_0 C E ht hn h))
end
section
def rm_X11_hourOf : Room := { frames := 0, cells := 0, slots := 0, locals := 0 }
def P_X11_hourOf_0 (Q : Int32 → HS → Prop) (v0 : Nat) (v1 : Int32) (S : HS) : Prop := ob S v0 11 ∧ (∃ a1 : Nat, fR S v0 3 = some a1 ∧ (ob S a1 10 ∧ (∀ x2 : Int32, x2 = fI S a1 0 → (¬ x2 = 0 ∧ ∀ x4 : Int32, x4 = v1 / x2 → (Q x4 S)))))
set_option maxRecDepth 20000 in
set_option maxHeartbeats 4000000 in
theorem T_X11_hourOf_0 {X : CX} {Q : Int32 → HS → Prop} (C : Cx X cX11_hourOf RX11 2 rm_X11_hourOf) (E : ReI X rm_X11_hourOf Q) (ht : (xh X).sig.returnType = (some .int)) (hn : (xh X).name = yX11_hourOf.name) {v0 : Nat} {v1 : Int32} {S : HS} (h : P_X11_hourOf_0 Q v0 v1 S) : WS X 2 0 0 0 [(0, .ref v0), (1, .int v1)] [] S := by
  refine r_iload_n (pc := 0) C dX11_hourOf_0 1 rfl ?_
  refine r_aload_n (pc := 1) C dX11_hourOf_1 0 rfl ?_
  obtain ⟨o_v0, h⟩ := h
  obtain ⟨a1, ea1, h⟩ := h
  refine r_getr (pc := 2) C fL_X11_338 dX11_hourOf_2 o_v0 ea1 ?_
  obtain ⟨o_a1, h⟩ := h
  refine r_getNi (pc := 5) C fN_X11_151 dX11_hourOf_5 o_a1 ?_
  refine r_topi (fun x2 ex2 => ?_)
  have h := h x2 ex2
  obtain ⟨q3, h⟩ := h
  refine r_idiv (pc := 8) C dX11_hourOf_8 q3 ?_
  refine r_topi (fun x4 ex4 => ?_)
  have h := h x4 ex4
  exact r_iret (pc := 9) C E ht dX11_hourOf_9 (by decide) (by decide) h
def P_X11_hourOf (v0 : Nat) (v1 : Int32) (Q : Int32 → HS → Prop) (S : HS) : Prop := P_X11_hourOf_0 Q v0 v1 S
theorem c_X11_hourOf {l : Launch} {Ee : EE} {S : HS} {v0 : Nat} {v1 : Int32} {Q : Int32 → HS → Prop} (h : P_X11_hourOf v0 v1 Q S) : MI l yX11_hourOf cX11_hourOf 2 (some .int) rm_X11_hourOf Ee S [.ref v0, .int v1] Q :=
  openI (by decide) (Nat.le_of_ble_eq_true rfl) (fun X C E ht hn hE hl => by subst hE; exact r_sub [0, 1] rfl (T_X11_hourOf_0 C E ht hn h))
def rm_X11_keeps : Room := { frames := 0, cells := 0, slots := 0, locals := 0 }
def B_X11_keeps_50 (Q : HS → Prop) (X50 : Nat → Int32 → HS → Prop) (v0 : Nat) (v1 : Int32) (S : HS) : Prop := (((7 : Int32) ≤ v1) → (ob S v0 11 ∧ (∀ x2 : Int32, x2 = fI S v0 24 → (∀ x3 : Int32, x3 = x2 + (1 : Int32) → (∀ S4 : HS, S4 = sI S v0 24 x3 → (Q S4)))))) ∧ ((¬ (7 : Int32) ≤ v1) → (ob S v0 11 ∧ (∃ a5 : Nat, fR S v0 22 = some a5 ∧ (∀ x6 : Int32, x6 = fI S v0 24 → (∃ a7 : Nat, fR S v0 21 = some a7 ∧ (ob S a7 14 ∧ (vp_in v1 (hN S a7) ∧ ∀ x9 : Int64, x9 = fJ S a7 v1.toNatClampNeg → (ob S a5 14 ∧ (vp_in (((7 : Int32) * x6) + v1) (hN S a5) ∧ (∀ S11 : HS, S11 = sJ S a5 (((7 : Int32) * x6) + v1).toNatClampNeg x9 → (∀ x12 : Int32, x12 = v1 + (1 : Int32) → (X50 v0 x12 S11))))))))))))
def P_X11_keeps_50 (Q : HS → Prop) (v0 : Nat) (v1 : Int32) (S : HS) : Prop := ∀ X50 : Nat → Int32 → HS → Prop, (∀ (v0 : Nat) (v1 : Int32) (S : HS), B_X11_keeps_50 Q X50 v0 v1 S → X50 v0 v1 S) → X50 v0 v1 S
set_option maxRecDepth 20000 in
set_option maxHeartbeats 4000000 in
theorem TB_X11_keeps_50 {X : CX} {Q : HS → Prop} (C : Cx X cX11_keeps RX11 2 rm_X11_keeps) (E : ReV X rm_X11_keeps Q) (ht : (xh X).sig.returnType = none) (hn : (xh X).name = yX11_keeps.name) {X50 : Nat → Int32 → HS → Prop} (hX50 : ∀ (v0 : Nat) (v1 : Int32) (S : HS), X50 v0 v1 S → WS X 2 0 0 50 [(0, .ref v0), (1, .int v1)] [] S) {v0 : Nat} {v1 : Int32} {S : HS} (h : B_X11_keeps_50 Q X50 v0 v1 S) : WS X 2 0 0 50 [(0, .ref v0), (1, .int v1)] [] S := by
  refine r_iload_n (pc := 50) C dX11_keeps_50 1 rfl ?_
  refine r_bipush (pc := 51) C (v := (7 : Int32)) dX11_keeps_51 (by decide) ?_
  refine r_icmp_ge (pc := 53) C (tgt := 82) dX11_keeps_53 (by decide) (fun c1 => ?_) (fun c1 => ?_)
  · have h := h.1 c1
    refine r_aload_n (pc := 82) C dX11_keeps_82 0 rfl ?_
    refine r_dup (pc := 83) C dX11_keeps_83 rfl ?_
    obtain ⟨o_v0, h⟩ := h
    refine r_geti (pc := 84) C fL_X11_340 dX11_keeps_84 o_v0 ?_
    refine r_topi (fun x2 ex2 => ?_)
    have h := h x2 ex2
    refine r_iconst (pc := 87) C (v := (1 : Int32)) dX11_keeps_87 (by decide) ?_
    refine r_iadd (pc := 88) C dX11_keeps_88 ?_
    refine r_topi (fun x3 ex3 => ?_)
    have h := h x3 ex3
    refine r_puti (pc := 89) C pfL_X11_340 dX11_keeps_89 o_v0 ?_
    refine r_heap (fun S4 eS4 => ?_)
    have h := h S4 eS4
    have o_v0 := ob_I eS4 o_v0
    exact r_vret (pc := 92) C E ht dX11_keeps_92 (by decide) (by decide) h
  · have h := h.2 c1
    refine r_aload_n (pc := 56) C dX11_keeps_56 0 rfl ?_
    obtain ⟨o_v0, h⟩ := h
    obtain ⟨a5, ea5, h⟩ := h
    refine r_getr (pc := 57) C fL_X11_34 dX11_keeps_57 o_v0 ea5 ?_
    refine r_bipush (pc := 60) C (v := (7 : Int32)) dX11_keeps_60 (by decide) ?_
    refine r_aload_n (pc := 62) C dX11_keeps_62 0 rfl ?_
    refine r_geti (pc := 63) C fL_X11_340 dX11_keeps_63 o_v0 ?_
    refine r_topi (fun x6 ex6 => ?_)
    have h := h x6 ex6
    refine r_imul (pc := 66) C dX11_keeps_66 ?_
    refine r_iload_n (pc := 67) C dX11_keeps_67 1 rfl ?_
    refine r_iadd (pc := 68) C dX11_keeps_68 ?_
    refine r_aload_n (pc := 69) C dX11_keeps_69 0 rfl ?_
    obtain ⟨a7, ea7, h⟩ := h
    refine r_getr (pc := 70) C fL_X11_31 dX11_keeps_70 o_v0 ea7 ?_
    refine r_iload_n (pc := 73) C dX11_keeps_73 1 rfl ?_
    obtain ⟨o_a7, h⟩ := h
    obtain ⟨i8, h⟩ := h
    refine r_lald (pc := 74) C dX11_keeps_74 o_a7 i8 ?_
    refine r_topl (fun x9 ex9 => ?_)
    have h := h x9 ex9
    obtain ⟨o_a5, h⟩ := h
    obtain ⟨i10, h⟩ := h
    refine r_last (pc := 75) C dX11_keeps_75 o_a5 i10 ?_
    refine r_heap (fun S11 eS11 => ?_)
    have h := h S11 eS11
    have o_a5 := ob_J eS11 o_a5
    have o_a7 := ob_J eS11 o_a7
    have o_v0 := ob_J eS11 o_v0
    obtain ⟨x12, ex12⟩ : ∃ z : Int32, z = v1 + (1 : Int32) := ⟨_, rfl⟩
    have h := h x12 ex12
    refine r_iinc (pc := 76) C (v := x12) (lv' := [(1, .int x12), (0, .ref v0)]) dX11_keeps_76 1 rfl ex12.symm (by decide) rfl ?_
    refine r_goto (pc := 79) C (tgt := 50) dX11_keeps_79 (by decide) ?_
    exact r_sub [1, 0] rfl (hX50 v0 x12 S11 h)
theorem T_X11_keeps_50 {X : CX} {Q : HS → Prop} (C : Cx X cX11_keeps RX11 2 rm_X11_keeps) (E : ReV X rm_X11_keeps Q) (ht : (xh X).sig.returnType = none) (hn : (xh X).name = yX11_keeps.name) {v0 : Nat} {v1 : Int32} {S : HS} (h : P_X11_keeps_50 Q v0 v1 S) : WS X 2 0 0 50 [(0, .ref v0), (1, .int v1)] [] S :=
  h (fun v0 v1 S => WS X 2 0 0 50 [(0, .ref v0), (1, .int v1)] [] S) (fun v0 v1 S hh => TB_X11_keeps_50 C E ht hn (fun v0 v1 S z => z) hh)
def P_X11_keeps_48 (Q : HS → Prop) (v0 : Nat) (S : HS) : Prop := P_X11_keeps_50 Q v0 (0 : Int32) S
set_option maxRecDepth 20000 in
set_option maxHeartbeats 4000000 in
theorem T_X11_keeps_48 {X : CX} {Q : HS → Prop} (C : Cx X cX11_keeps RX11 2 rm_X11_keeps) (E : ReV X rm_X11_keeps Q) (ht : (xh X).sig.returnType = none) (hn : (xh X).name = yX11_keeps.name) {v0 : Nat} {S : HS} (h : P_X11_keeps_48 Q v0 S) : WS X 2 0 0 48 [(0, .ref v0)] [] S := by
  refine r_iconst (pc := 48) C (v := (0 : Int32)) dX11_keeps_48 (by decide) ?_
  refine r_istore_n (pc := 49) C dX11_keeps_49 rfl (by decide) (lv' := [(1, .int (0 : Int32)), (0, .ref v0)]) rfl ?_
  exact r_sub [1, 0] rfl (T_X11_keeps_50 C E ht hn h)
def B_X11_keeps_11 (Q : HS → Prop) (X11 : Nat → Int32 → HS → Prop) (v0 : Nat) (v1 : Int32) (S : HS) : Prop := (((105 : Int32) ≤ v1) → (ob S v0 11 ∧ (∀ x2 : Int32, x2 = fI S v0 24 → (∀ x3 : Int32, x3 = x2 - (1 : Int32) → (∀ S4 : HS, S4 = sI S v0 24 x3 → (P_X11_keeps_48 Q v0 S4)))))) ∧ ((¬ (105 : Int32) ≤ v1) → (ob S v0 11 ∧ (∃ a5 : Nat, fR S v0 22 = some a5 ∧ (∃ a6 : Nat, fR S v0 22 = some a6 ∧ (ob S a6 14 ∧ (∀ x8 : Int32, x8 = v1 + (7 : Int32) → (vp_in x8 (hN S a6) ∧ ∀ x9 : Int64, x9 = fJ S a6 x8.toNatClampNeg → (ob S a5 14 ∧ (vp_in v1 (hN S a5) ∧ (∀ S11 : HS, S11 = sJ S a5 v1.toNatClampNeg x9 → (∀ x12 : Int32, x12 = v1 + (1 : Int32) → (X11 v0 x12 S11))))))))))))
def P_X11_keeps_11 (Q : HS → Prop) (v0 : Nat) (v1 : Int32) (S : HS) : Prop := ∀ X11 : Nat → Int32 → HS → Prop, (∀ (v0 : Nat) (v1 : Int32) (S : HS), B_X11_keeps_11 Q X11 v0 v1 S → X11 v0 v1 S) → X11 v0 v1 S
set_option maxRecDepth 20000 in
set_option maxHeartbeats 4000000 in
theorem TB_X11_keeps_11 {X : CX} {Q : HS → Prop} (C : Cx X cX11_keeps RX11 2 rm_X11_keeps) (E : ReV X rm_X11_keeps Q) (ht : (xh X).sig.returnType = none) (hn : (xh X).name = yX11_keeps.name) {X11 : Nat → Int32 → HS → Prop} (hX11 : ∀ (v0 : Nat) (v1 : Int32) (S : HS), X11 v0 v1 S → WS X 2 0 0 11 [(0, .ref v0), (1, .int v1)] [] S) {v0 : Nat} {v1 : Int32} {S : HS} (h : B_X11_keeps_11 Q X11 v0 v1 S) : WS X 2 0 0 11 [(0, .ref v0), (1, .int v1)] [] S := by
  refine r_iload_n (pc := 11) C dX11_keeps_11 1 rfl ?_
  refine r_bipush (pc := 12) C (v := (105 : Int32)) dX11_keeps_12 (by decide) ?_
  refine r_icmp_ge (pc := 14) C (tgt := 38) dX11_keeps_14 (by decide) (fun c1 => ?_) (fun c1 => ?_)
  · have h := h.1 c1
    refine r_aload_n (pc := 38) C dX11_keeps_38 0 rfl ?_
    refine r_dup (pc := 39) C dX11_keeps_39 rfl ?_
    obtain ⟨o_v0, h⟩ := h
    refine r_geti (pc := 40) C fL_X11_340 dX11_keeps_40 o_v0 ?_
    refine r_topi (fun x2 ex2 => ?_)
    have h := h x2 ex2
    refine r_iconst (pc := 43) C (v := (1 : Int32)) dX11_keeps_43 (by decide) ?_
    refine r_isub (pc := 44) C dX11_keeps_44 ?_
    refine r_topi (fun x3 ex3 => ?_)
    have h := h x3 ex3
    refine r_puti (pc := 45) C pfL_X11_340 dX11_keeps_45 o_v0 ?_
    refine r_heap (fun S4 eS4 => ?_)
    have h := h S4 eS4
    have o_v0 := ob_I eS4 o_v0
    exact r_sub [0] rfl (T_X11_keeps_48 C E ht hn h)
  · have h := h.2 c1
    refine r_aload_n (pc := 17) C dX11_keeps_17 0 rfl ?_
    obtain ⟨o_v0, h⟩ := h
    obtain ⟨a5, ea5, h⟩ := h
    refine r_getr (pc := 18) C fL_X11_34 dX11_keeps_18 o_v0 ea5 ?_
    refine r_iload_n (pc := 21) C dX11_keeps_21 1 rfl ?_
    refine r_aload_n (pc := 22) C dX11_keeps_22 0 rfl ?_
    obtain ⟨a6, ea6, h⟩ := h
    refine r_getr (pc := 23) C fL_X11_34 dX11_keeps_23 o_v0 ea6 ?_
    refine r_iload_n (pc := 26) C dX11_keeps_26 1 rfl ?_
    refine r_bipush (pc := 27) C (v := (7 : Int32)) dX11_keeps_27 (by decide) ?_
    refine r_iadd (pc := 29) C dX11_keeps_29 ?_
    obtain ⟨o_a6, h⟩ := h
    refine r_topi (fun x8 ex8 => ?_)
    have h := h x8 ex8
    obtain ⟨i7, h⟩ := h
    refine r_lald (pc := 30) C dX11_keeps_30 o_a6 i7 ?_
    refine r_topl (fun x9 ex9 => ?_)
    have h := h x9 ex9
    obtain ⟨o_a5, h⟩ := h
    obtain ⟨i10, h⟩ := h
    refine r_last (pc := 31) C dX11_keeps_31 o_a5 i10 ?_
    refine r_heap (fun S11 eS11 => ?_)
    have h := h S11 eS11
    have o_a5 := ob_J eS11 o_a5
    have o_a6 := ob_J eS11 o_a6
    have o_v0 := ob_J eS11 o_v0
    obtain ⟨x12, ex12⟩ : ∃ z : Int32, z = v1 + (1 : Int32) := ⟨_, rfl⟩
    have h := h x12 ex12
    refine r_iinc (pc := 32) C (v := x12) (lv' := [(1, .int x12), (0, .ref v0)]) dX11_keeps_32 1 rfl ex12.symm (by decide) rfl ?_
    refine r_goto (pc := 35) C (tgt := 11) dX11_keeps_35 (by decide) ?_
    exact r_sub [1, 0] rfl (hX11 v0 x12 S11 h)
theorem T_X11_keeps_11 {X : CX} {Q : HS → Prop} (C : Cx X cX11_keeps RX11 2 rm_X11_keeps) (E : ReV X rm_X11_keeps Q) (ht : (xh X).sig.returnType = none) (hn : (xh X).name = yX11_keeps.name) {v0 : Nat} {v1 : Int32} {S : HS} (h : P_X11_keeps_11 Q v0 v1 S) : WS X 2 0 0 11 [(0, .ref v0), (1, .int v1)] [] S :=
  h (fun v0 v1 S => WS X 2 0 0 11 [(0, .ref v0), (1, .int v1)] [] S) (fun v0 v1 S hh => TB_X11_keeps_11 C E ht hn (fun v0 v1 S z => z) hh)
def P_X11_keeps_0 (Q : HS → Prop) (v0 : Nat) (S : HS) : Prop := ob S v0 11 ∧ (∀ x1 : Int32, x1 = fI S v0 24 → (((¬ x1 = (16 : Int32)) → (P_X11_keeps_48 Q v0 S)) ∧ ((x1 = (16 : Int32)) → (P_X11_keeps_11 Q v0 (0 : Int32) S))))
set_option maxRecDepth 20000 in
set_option maxHeartbeats 4000000 in
theorem T_X11_keeps_0 {X : CX} {Q : HS → Prop} (C : Cx X cX11_keeps RX11 2 rm_X11_keeps) (E : ReV X rm_X11_keeps Q) (ht : (xh X).sig.returnType = none) (hn : (xh X).name = yX11_keeps.name) {v0 : Nat} {S : HS} (h : P_X11_keeps_0 Q v0 S) : WS X 2 0 0 0 [(0, .ref v0)] [] S := by
  refine r_aload_n (pc := 0) C dX11_keeps_0 0 rfl ?_
  obtain ⟨o_v0, h⟩ := h
  refine r_geti (pc := 1) C fL_X11_340 dX11_keeps_1 o_v0 ?_
  refine r_topi (fun x1 ex1 => ?_)
  have h := h x1 ex1
  refine r_bipush (pc := 4) C (v := (16 : Int32)) dX11_keeps_4 (by decide) ?_
  refine r_icmp_ne (pc := 6) C (tgt := 48) dX11_keeps_6 (by decide) (fun c2 => ?_) (fun c2 => ?_)
  · have h := h.1 c2
    exact r_sub [0] rfl (T_X11_keeps_48 C E ht hn h)
  · have h := h.2 c2
    refine r_iconst (pc := 9) C (v := (0 : Int32)) dX11_keeps_9 (by decide) ?_
    refine r_istore_n (pc := 10) C dX11_keeps_10 rfl (by decide) (lv' := [(1, .int (0 : Int32)), (0, .ref v0)]) rfl ?_
    exact r_sub [1, 0] rfl (T_X11_keeps_11 C E ht hn h)
def P_X11_keeps (v0 : Nat) (Q : HS → Prop) (S : HS) : Prop := P_X11_keeps_0 Q v0 S
theorem c_X11_keeps {l : Launch} {Ee : EE} {S : HS} {v0 : Nat} {Q : HS → Prop} (h : P_X11_keeps v0 Q S) : MV l yX11_keeps cX11_keeps 2 none rm_X11_keeps Ee S [.ref v0] Q :=
  openV (by decide) (Nat.le_of_ble_eq_true rfl) (fun X C E ht hn hE hl => by subst hE; exact r_sub [0] rfl (T_X11_keeps_0 C E ht hn h))
def rm_X11_rainsIn : Room := { frames := 1, cells := 0, slots := 0, locals := 21 }
def P_X11_rainsIn_0 (Q : Int32 → HS → Prop) (v0 : Nat) (v1 : Int32) (S : HS) : Prop := ob S v0 11 ∧ (P_X11_hourOf v0 v1 (fun x3 S1 => Gr S S1 → (∃ a4 : Nat, fR S1 v0 3 = some a4 ∧ (ob S1 a4 10 ∧ (∀ x5 : Int32, x5 = fI S1 a4 1 → (((x5 ≤ x3) → (Q (0 : Int32) S1)) ∧ ((¬ x5 ≤ x3) → (∀ x7 : Int32, x7 = fI S1 v0 20 → (((¬ ((x7 >>> (x3 &&& 31)) &&& (1 : Int32)) = (1 : Int32)) → (Q (0 : Int32) S1)) ∧ ((((x7 >>> (x3 &&& 31)) &&& (1 : Int32)) = (1 : Int32)) → (Q (1 : Int32) S1)))))))))) S)
set_option maxRecDepth 20000 in
set_option maxHeartbeats 4000000 in
theorem T_X11_rainsIn_0 {X : CX} {Q : Int32 → HS → Prop} (C : Cx X cX11_rainsIn RX11 3 rm_X11_rainsIn) (E : ReI X rm_X11_rainsIn (fun r S => bl r ∧ Q r S)) (ht : (xh X).sig.returnType = (some .boolean)) (hn : (xh X).name = yX11_rainsIn.name) {v0 : Nat} {v1 : Int32} {S : HS} (h : P_X11_rainsIn_0 Q v0 v1 S) : WS X 3 0 0 0 [(0, .ref v0), (1, .int v1)] [] S := by
  refine r_aload_n (pc := 0) C dX11_rainsIn_0 0 rfl ?_
  refine r_iload_n (pc := 1) C dX11_rainsIn_1 1 rfl ?_
  obtain ⟨o_v0, h⟩ := h
  refine r_callVi0 (pc := 2) C (rest := []) (a := v0) o_v0 [.int v1] yV_X11_hourOf g_1707 (c_X11_hourOf h) dX11_rainsIn_2 rfl rfl (Nat.le_of_ble_eq_true rfl) ⟨by decide, by decide⟩ ⟨by decide, by decide⟩ ⟨rfl, rfl⟩ (fun x3 S1 h g2 => ?_)
  have h := h g2
  have o_v0 := gr_ob g2 o_v0
  refine r_istore_n (pc := 5) C dX11_rainsIn_5 rfl (by decide) (lv' := [(2, .int x3), (0, .ref v0), (1, .int v1)]) rfl ?_
  refine r_iload_n (pc := 6) C dX11_rainsIn_6 0 rfl ?_
  refine r_aload_n (pc := 7) C dX11_rainsIn_7 1 rfl ?_
  obtain ⟨a4, ea4, h⟩ := h
  refine r_getr (pc := 8) C fL_X11_338 dX11_rainsIn_8 o_v0 ea4 ?_
  obtain ⟨o_a4, h⟩ := h
  refine r_getNi (pc := 11) C fN_X11_219 dX11_rainsIn_11 o_a4 ?_
  refine r_topi (fun x5 ex5 => ?_)
  have h := h x5 ex5
  refine r_icmp_ge (pc := 14) C (tgt := 33) dX11_rainsIn_14 (by decide) (fun c6 => ?_) (fun c6 => ?_)
  · have h := h.1 c6
    refine r_iconst (pc := 33) C (v := (0 : Int32)) dX11_rainsIn_33 (by decide) ?_
    exact r_zret (pc := 34) C E ht dX11_rainsIn_34 (by decide) (by decide) (Or.inl rfl) h
  · have h := h.2 c6
    refine r_aload_n (pc := 17) C dX11_rainsIn_17 1 rfl ?_
    refine r_geti (pc := 18) C fL_X11_475 dX11_rainsIn_18 o_v0 ?_
    refine r_topi (fun x7 ex7 => ?_)
    have h := h x7 ex7
    refine r_iload_n (pc := 21) C dX11_rainsIn_21 0 rfl ?_
    refine r_ishr (pc := 22) C dX11_rainsIn_22 ?_
    refine r_iconst (pc := 23) C (v := (1 : Int32)) dX11_rainsIn_23 (by decide) ?_
    refine r_iand (pc := 24) C dX11_rainsIn_24 ?_
    refine r_iconst (pc := 25) C (v := (1 : Int32)) dX11_rainsIn_25 (by decide) ?_
    refine r_icmp_ne (pc := 26) C (tgt := 33) dX11_rainsIn_26 (by decide) (fun c8 => ?_) (fun c8 => ?_)
    · have h := h.1 c8
      refine r_iconst (pc := 33) C (v := (0 : Int32)) dX11_rainsIn_33 (by decide) ?_
      exact r_zret (pc := 34) C E ht dX11_rainsIn_34 (by decide) (by decide) (Or.inl rfl) h
    · have h := h.2 c8
      refine r_iconst (pc := 29) C (v := (1 : Int32)) dX11_rainsIn_29 (by decide) ?_
      refine r_goto (pc := 30) C (tgt := 34) dX11_rainsIn_30 (by decide) ?_
      exact r_zret (pc := 34) C E ht dX11_rainsIn_34 (by decide) (by decide) (Or.inr rfl) h
def P_X11_rainsIn (v0 : Nat) (v1 : Int32) (Q : Int32 → HS → Prop) (S : HS) : Prop := P_X11_rainsIn_0 Q v0 v1 S
theorem c_X11_rainsIn {l : Launch} {Ee : EE} {S : HS} {v0 : Nat} {v1 : Int32} {Q : Int32 → HS → Prop} (h : P_X11_rainsIn v0 v1 Q S) : MI l yX11_rainsIn cX11_rainsIn 3 (some .boolean) rm_X11_rainsIn Ee S [.ref v0, .int v1] (fun r S => bl r ∧ Q r S) :=
  openI (by decide) (Nat.le_of_ble_eq_true rfl) (fun X C E ht hn hE hl => by subst hE; exact r_sub [0, 1] rfl (T_X11_rainsIn_0 C E ht hn h))
def rm_X11_go : Room := { frames := 5, cells := 0, slots := 0, locals := 135 }
def P_X11_go_29 (Q : Int32 → HS → Prop) (v0 : Nat) (S : HS) : Prop := ob S v0 11 ∧ (P_X11_refused v0 (1 : Int32) (fun x3 S1 => Gr S S1 → (Q x3 S1)) S)
set_option maxRecDepth 20000 in
set_option maxHeartbeats 4000000 in
theorem T_X11_go_29 {X : CX} {Q : Int32 → HS → Prop} (C : Cx X cX11_go RX11 6 rm_X11_go) (E : ReI X rm_X11_go Q) (ht : (xh X).sig.returnType = (some .int)) (hn : (xh X).name = yX11_go.name) {v0 : Nat} {S : HS} (h : P_X11_go_29 Q v0 S) : WS X 6 0 0 29 [(0, .ref v0)] [] S := by
  refine r_aload_n (pc := 29) C dX11_go_29 0 rfl ?_
  refine r_iconst (pc := 30) C (v := (1 : Int32)) dX11_go_30 (by decide) ?_
  obtain ⟨o_v0, h⟩ := h
  refine r_callVi0 (pc := 31) C (rest := []) (a := v0) o_v0 [.int (1 : Int32)] yV_X11_refused g_1250 (c_X11_refused h) dX11_go_31 rfl rfl (Nat.le_of_ble_eq_true rfl) ⟨by decide, by decide⟩ ⟨by decide, by decide⟩ ⟨rfl, rfl⟩ (fun x3 S1 h g2 => ?_)
  have h := h g2
  have o_v0 := gr_ob g2 o_v0
  exact r_iret (pc := 34) C E ht dX11_go_34 (by decide) (by decide) h
def P_X11_go_171 (Q : Int32 → HS → Prop) (v0 : Nat) (v1 : Int32) (v2 : Int32) (v3 : Int32) (v4 : Int32) (S : HS) : Prop := ob S v0 11 ∧ (∃ a1 : Nat, fR S v0 21 = some a1 ∧ (∃ a2 : Nat, fR S v0 3 = some a2 ∧ (ob S a2 10 ∧ (P_X10_ends a2 v1 v2 (fun x5 S3 => Gr S S3 → (ob S3 a1 14 ∧ (∀ x7 : Int64, x7 = x5.toInt64 → (vp_in (0 : Int32) (hN S3 a1) ∧ (∀ S8 : HS, S8 = sJ S3 a1 (0 : Int32).toNatClampNeg x7 → (∃ a9 : Nat, fR S8 v0 21 = some a9 ∧ (∃ a10 : Nat, fR S8 v0 3 = some a10 ∧ (ob S8 a10 10 ∧ (P_X10_minutes a10 v1 v3 (fun x13 S11 => Gr S8 S11 → (ob S11 a9 14 ∧ (∀ x15 : Int64, x15 = (v4 + x13).toInt64 → (vp_in (1 : Int32) (hN S11 a9) ∧ (∀ S16 : HS, S16 = sJ S11 a9 (1 : Int32).toNatClampNeg x15 → (∃ a17 : Nat, fR S16 v0 21 = some a17 ∧ (ob S16 a17 14 ∧ (vp_in (1 : Int32) (hN S16 a17) ∧ ∀ x19 : Int64, x19 = fJ S16 a17 (1 : Int32).toNatClampNeg → (P_X11_good v0 x19.toInt32 (fun x22 S20 => Gr S16 S20 → (Q x22 S20)) S16))))))))) S8))))))))) S))))
set_option maxRecDepth 20000 in
set_option maxHeartbeats 4000000 in
theorem T_X11_go_171 {X : CX} {Q : Int32 → HS → Prop} (C : Cx X cX11_go RX11 6 rm_X11_go) (E : ReI X rm_X11_go Q) (ht : (xh X).sig.returnType = (some .int)) (hn : (xh X).name = yX11_go.name) {v0 : Nat} {v1 : Int32} {v2 : Int32} {v3 : Int32} {v4 : Int32} {S : HS} (h : P_X11_go_171 Q v0 v1 v2 v3 v4 S) : WS X 6 0 0 171 [(0, .ref v0), (1, .int v1), (2, .int v2), (3, .int v3), (4, .int v4)] [] S := by
  refine r_aload_n (pc := 171) C dX11_go_171 0 rfl ?_
  obtain ⟨o_v0, h⟩ := h
  obtain ⟨a1, ea1, h⟩ := h
  refine r_getr (pc := 172) C fL_X11_31 dX11_go_172 o_v0 ea1 ?_
  refine r_iconst (pc := 175) C (v := (0 : Int32)) dX11_go_175 (by decide) ?_
  refine r_aload_n (pc := 176) C dX11_go_176 0 rfl ?_
  obtain ⟨a2, ea2, h⟩ := h
  refine r_getr (pc := 177) C fL_X11_338 dX11_go_177 o_v0 ea2 ?_
  refine r_iload_n (pc := 180) C dX11_go_180 1 rfl ?_
  refine r_iload_n (pc := 181) C dX11_go_181 2 rfl ?_
  obtain ⟨o_a2, h⟩ := h
  refine r_callVi0 (pc := 182) C (rest := [.int (0 : Int32), .ref a1]) (a := a2) o_a2 [.int v1, .int v2] yV_X10_ends g_1699 (c_X10_ends h) dX11_go_182 rfl rfl (Nat.le_of_ble_eq_true rfl) ⟨by decide, by decide⟩ ⟨by decide, by decide⟩ ⟨rfl, rfl⟩ (fun x5 S3 h g4 => ?_)
  have h := h g4
  have o_a2 := gr_ob g4 o_a2
  have o_v0 := gr_ob g4 o_v0
  refine r_i2l (pc := 185) C dX11_go_185 ?_
  obtain ⟨o_a1, h⟩ := h
  refine r_topl (fun x7 ex7 => ?_)
  have h := h x7 ex7
  obtain ⟨i6, h⟩ := h
  refine r_last (pc := 186) C dX11_go_186 o_a1 i6 ?_
  refine r_heap (fun S8 eS8 => ?_)
  have h := h S8 eS8
  have o_a1 := ob_J eS8 o_a1
  have o_a2 := ob_J eS8 o_a2
  have o_v0 := ob_J eS8 o_v0
  refine r_aload_n (pc := 187) C dX11_go_187 0 rfl ?_
  obtain ⟨a9, ea9, h⟩ := h
  refine r_getr (pc := 188) C fL_X11_31 dX11_go_188 o_v0 ea9 ?_
  refine r_iconst (pc := 191) C (v := (1 : Int32)) dX11_go_191 (by decide) ?_
  refine r_iload (pc := 192) C dX11_go_192 4 rfl ?_
  refine r_aload_n (pc := 194) C dX11_go_194 0 rfl ?_
  obtain ⟨a10, ea10, h⟩ := h
  refine r_getr (pc := 195) C fL_X11_338 dX11_go_195 o_v0 ea10 ?_
  refine r_iload_n (pc := 198) C dX11_go_198 1 rfl ?_
  refine r_iload_n (pc := 199) C dX11_go_199 3 rfl ?_
  obtain ⟨o_a10, h⟩ := h
  refine r_callVi0 (pc := 200) C (rest := [.int v4, .int (1 : Int32), .ref a9]) (a := a10) o_a10 [.int v1, .int v3] yV_X10_minutes g_1607 (c_X10_minutes h) dX11_go_200 rfl rfl (Nat.le_of_ble_eq_true rfl) ⟨by decide, by decide⟩ ⟨by decide, by decide⟩ ⟨rfl, rfl⟩ (fun x13 S11 h g12 => ?_)
  have h := h g12
  have o_a1 := gr_ob g12 o_a1
  have o_a10 := gr_ob g12 o_a10
  have o_a2 := gr_ob g12 o_a2
  have o_v0 := gr_ob g12 o_v0
  refine r_iadd (pc := 203) C dX11_go_203 ?_
  refine r_i2l (pc := 204) C dX11_go_204 ?_
  obtain ⟨o_a9, h⟩ := h
  refine r_topl (fun x15 ex15 => ?_)
  have h := h x15 ex15
  obtain ⟨i14, h⟩ := h
  refine r_last (pc := 205) C dX11_go_205 o_a9 i14 ?_
  refine r_heap (fun S16 eS16 => ?_)
  have h := h S16 eS16
  have o_a1 := ob_J eS16 o_a1
  have o_a10 := ob_J eS16 o_a10
  have o_a2 := ob_J eS16 o_a2
  have o_a9 := ob_J eS16 o_a9
  have o_v0 := ob_J eS16 o_v0
  refine r_aload_n (pc := 206) C dX11_go_206 0 rfl ?_
  refine r_aload_n (pc := 207) C dX11_go_207 0 rfl ?_
  obtain ⟨a17, ea17, h⟩ := h
  refine r_getr (pc := 208) C fL_X11_31 dX11_go_208 o_v0 ea17 ?_
  refine r_iconst (pc := 211) C (v := (1 : Int32)) dX11_go_211 (by decide) ?_
  obtain ⟨o_a17, h⟩ := h
  obtain ⟨i18, h⟩ := h
  refine r_lald (pc := 212) C dX11_go_212 o_a17 i18 ?_
  refine r_topl (fun x19 ex19 => ?_)
  have h := h x19 ex19
  refine r_l2i (pc := 213) C dX11_go_213 ?_
  refine r_callVi0 (pc := 214) C (rest := []) (a := v0) o_v0 [.int x19.toInt32] yV_X11_good g_1518 (c_X11_good h) dX11_go_214 rfl rfl (Nat.le_of_ble_eq_true rfl) ⟨by decide, by decide⟩ ⟨by decide, by decide⟩ ⟨rfl, rfl⟩ (fun x22 S20 h g21 => ?_)
  have h := h g21
  have o_a1 := gr_ob g21 o_a1
  have o_a10 := gr_ob g21 o_a10
  have o_a17 := gr_ob g21 o_a17
  have o_a2 := gr_ob g21 o_a2
  have o_a9 := gr_ob g21 o_a9
  have o_v0 := gr_ob g21 o_v0
  exact r_iret (pc := 217) C E ht dX11_go_217 (by decide) (by decide) h
def B_X11_go_119 (Q : Int32 → HS → Prop) (X119 : Nat → Int32 → Int32 → Int32 → Int32 → Int32 → HS → Prop) (v0 : Nat) (v1 : Int32) (v2 : Int32) (v3 : Int32) (v4 : Int32) (v5 : Int32) (S : HS) : Prop := (((5 : Int32) ≤ v5) → (P_X11_go_171 Q v0 v1 v2 v3 v4 S)) ∧ ((¬ (5 : Int32) ≤ v5) → (ob S v0 11 ∧ (P_X11_rainsIn v0 v4 (fun x4 S2 => Gr S S2 → bl x4 → (((x4 = 0) → (P_X11_go_171 Q v0 v1 v2 v3 v4 S2)) ∧ ((¬ x4 = 0) → (∃ a6 : Nat, fR S2 v0 21 = some a6 ∧ (ob S2 a6 14 ∧ (∀ x8 : Int32, x8 = (2 : Int32) + v5 → (vp_in x8 (hN S2 a6) ∧ ∀ x9 : Int64, x9 = fJ S2 a6 x8.toNatClampNeg → (∀ x10 : Int32, x10 = fI S2 v0 19 → (P_X11_hourOf v0 v4 (fun x13 S11 => Gr S2 S11 → (P_X11_partsOf v0 x10 v1 v2 x13 v3 v5 (fun x16 S14 => Gr S11 S14 → (∀ x18 : Int64, x18 = x9 + x16 → (vp_in ((2 : Int32) + v5) (hN S14 a6) ∧ (∀ S19 : HS, S19 = sJ S14 a6 ((2 : Int32) + v5).toNatClampNeg x18 → (∀ x20 : Int32, x20 = v5 + (1 : Int32) → (X119 v0 v1 v2 v3 v4 x20 S19)))))) S11)) S2))))))))) S)))
def P_X11_go_119 (Q : Int32 → HS → Prop) (v0 : Nat) (v1 : Int32) (v2 : Int32) (v3 : Int32) (v4 : Int32) (v5 : Int32) (S : HS) : Prop := ∀ X119 : Nat → Int32 → Int32 → Int32 → Int32 → Int32 → HS → Prop, (∀ (v0 : Nat) (v1 : Int32) (v2 : Int32) (v3 : Int32) (v4 : Int32) (v5 : Int32) (S : HS), B_X11_go_119 Q X119 v0 v1 v2 v3 v4 v5 S → X119 v0 v1 v2 v3 v4 v5 S) → X119 v0 v1 v2 v3 v4 v5 S
set_option maxRecDepth 20000 in
set_option maxHeartbeats 4000000 in
theorem TB_X11_go_119 {X : CX} {Q : Int32 → HS → Prop} (C : Cx X cX11_go RX11 6 rm_X11_go) (E : ReI X rm_X11_go Q) (ht : (xh X).sig.returnType = (some .int)) (hn : (xh X).name = yX11_go.name) {X119 : Nat → Int32 → Int32 → Int32 → Int32 → Int32 → HS → Prop} (hX119 : ∀ (v0 : Nat) (v1 : Int32) (v2 : Int32) (v3 : Int32) (v4 : Int32) (v5 : Int32) (S : HS), X119 v0 v1 v2 v3 v4 v5 S → WS X 6 0 0 119 [(0, .ref v0), (1, .int v1), (2, .int v2), (3, .int v3), (4, .int v4), (5, .int v5)] [] S) {v0 : Nat} {v1 : Int32} {v2 : Int32} {v3 : Int32} {v4 : Int32} {v5 : Int32} {S : HS} (h : B_X11_go_119 Q X119 v0 v1 v2 v3 v4 v5 S) : WS X 6 0 0 119 [(0, .ref v0), (1, .int v1), (2, .int v2), (3, .int v3), (4, .int v4), (5, .int v5)] [] S := by
  refine r_iload (pc := 119) C dX11_go_119 5 rfl ?_
  refine r_iconst (pc := 121) C (v := (5 : Int32)) dX11_go_121 (by decide) ?_
  refine r_icmp_ge (pc := 122) C (tgt := 171) dX11_go_122 (by decide) (fun c1 => ?_) (fun c1 => ?_)
  · have h := h.1 c1
    exact r_sub [0, 1, 2, 3, 4] rfl (T_X11_go_171 C E ht hn h)
  · have h := h.2 c1
    refine r_aload_n (pc := 125) C dX11_go_125 0 rfl ?_
    refine r_iload (pc := 126) C dX11_go_126 4 rfl ?_
    obtain ⟨o_v0, h⟩ := h
    refine r_callVi0 (pc := 128) C (rest := []) (a := v0) o_v0 [.int v4] yV_X11_rainsIn g_1787 (c_X11_rainsIn h) dX11_go_128 rfl rfl (Nat.le_of_ble_eq_true rfl) ⟨by decide, by decide⟩ ⟨by decide, by decide⟩ ⟨rfl, rfl⟩ (fun x4 S2 h g3 => ?_)
    have bx4 := h.1
    have h := h.2 g3 bx4
    have o_v0 := gr_ob g3 o_v0
    refine r_if_eq (pc := 131) C (tgt := 171) dX11_go_131 (by decide) (fun c5 => ?_) (fun c5 => ?_)
    · have h := h.1 c5
      exact r_sub [0, 1, 2, 3, 4] rfl (T_X11_go_171 C E ht hn h)
    · have h := h.2 c5
      refine r_aload_n (pc := 134) C dX11_go_134 0 rfl ?_
      obtain ⟨a6, ea6, h⟩ := h
      refine r_getr (pc := 135) C fL_X11_31 dX11_go_135 o_v0 ea6 ?_
      refine r_iconst (pc := 138) C (v := (2 : Int32)) dX11_go_138 (by decide) ?_
      refine r_iload (pc := 139) C dX11_go_139 5 rfl ?_
      refine r_iadd (pc := 141) C dX11_go_141 ?_
      refine r_dup2 (pc := 142) C dX11_go_142 rfl rfl ?_
      obtain ⟨o_a6, h⟩ := h
      refine r_topi (fun x8 ex8 => ?_)
      have h := h x8 ex8
      obtain ⟨i7, h⟩ := h
      refine r_lald (pc := 143) C dX11_go_143 o_a6 i7 ?_
      refine r_topl (fun x9 ex9 => ?_)
      have h := h x9 ex9
      refine r_aload_n (pc := 144) C dX11_go_144 0 rfl ?_
      refine r_aload_n (pc := 145) C dX11_go_145 0 rfl ?_
      refine r_geti (pc := 146) C fL_X11_28 dX11_go_146 o_v0 ?_
      refine r_topi (fun x10 ex10 => ?_)
      have h := h x10 ex10
      refine r_iload_n (pc := 149) C dX11_go_149 1 rfl ?_
      refine r_iload_n (pc := 150) C dX11_go_150 2 rfl ?_
      refine r_aload_n (pc := 151) C dX11_go_151 0 rfl ?_
      refine r_iload (pc := 152) C dX11_go_152 4 rfl ?_
      refine r_callVi0 (pc := 154) C (rest := [.int v2, .int v1, .int x10, .ref v0, .long x9, .int ((2 : Int32) + v5), .ref a6]) (a := v0) o_v0 [.int v4] yV_X11_hourOf g_1707 (c_X11_hourOf h) dX11_go_154 rfl rfl (Nat.le_of_ble_eq_true rfl) ⟨by decide, by decide⟩ ⟨by decide, by decide⟩ ⟨rfl, rfl⟩ (fun x13 S11 h g12 => ?_)
      have h := h g12
      have o_a6 := gr_ob g12 o_a6
      have o_v0 := gr_ob g12 o_v0
      refine r_iload_n (pc := 157) C dX11_go_157 3 rfl ?_
      refine r_iload (pc := 158) C dX11_go_158 5 rfl ?_
      refine r_callVl0 (pc := 160) C (rest := [.long x9, .int ((2 : Int32) + v5), .ref a6]) (a := v0) o_v0 [.int x10, .int v1, .int v2, .int x13, .int v3, .int v5] yV_X11_partsOf g_1554 (c_X11_partsOf h) dX11_go_160 rfl rfl (Nat.le_of_ble_eq_true rfl) ⟨by decide, by decide⟩ ⟨by decide, by decide⟩ ⟨rfl, rfl⟩ (fun x16 S14 h g15 => ?_)
      have h := h g15
      have o_a6 := gr_ob g15 o_a6
      have o_v0 := gr_ob g15 o_v0
      refine r_ladd (pc := 163) C dX11_go_163 ?_
      refine r_topl (fun x18 ex18 => ?_)
      have h := h x18 ex18
      obtain ⟨i17, h⟩ := h
      refine r_last (pc := 164) C dX11_go_164 o_a6 i17 ?_
      refine r_heap (fun S19 eS19 => ?_)
      have h := h S19 eS19
      have o_a6 := ob_J eS19 o_a6
      have o_v0 := ob_J eS19 o_v0
      obtain ⟨x20, ex20⟩ : ∃ z : Int32, z = v5 + (1 : Int32) := ⟨_, rfl⟩
      have h := h x20 ex20
      refine r_iinc (pc := 165) C (v := x20) (lv' := [(5, .int x20), (0, .ref v0), (1, .int v1), (2, .int v2), (3, .int v3), (4, .int v4)]) dX11_go_165 5 rfl ex20.symm (by decide) rfl ?_
      refine r_goto (pc := 168) C (tgt := 119) dX11_go_168 (by decide) ?_
      exact r_sub [1, 2, 3, 4, 5, 0] rfl (hX119 v0 v1 v2 v3 v4 x20 S19 h)
theorem T_X11_go_119 {X : CX} {Q : Int32 → HS → Prop} (C : Cx X cX11_go RX11 6 rm_X11_go) (E : ReI X rm_X11_go Q) (ht : (xh X).sig.returnType = (some .int)) (hn : (xh X).name = yX11_go.name) {v0 : Nat} {v1 : Int32} {v2 : Int32} {v3 : Int32} {v4 : Int32} {v5 : Int32} {S : HS} (h : P_X11_go_119 Q v0 v1 v2 v3 v4 v5 S) : WS X 6 0 0 119 [(0, .ref v0), (1, .int v1), (2, .int v2), (3, .int v3), (4, .int v4), (5, .int v5)] [] S :=
  h (fun v0 v1 v2 v3 v4 v5 S => WS X 6 0 0 119 [(0, .ref v0), (1, .int v1), (2, .int v2), (3, .int v3), (4, .int v4), (5, .int v5)] [] S) (fun v0 v1 v2 v3 v4 v5 S hh => TB_X11_go_119 C E ht hn (fun v0 v1 v2 v3 v4 v5 S z => z) hh)
def P_X11_go_0 (Q : Int32 → HS → Prop) (v0 : Nat) (v1 : Int32) (v2 : Int32) (v3 : Int32) (S : HS) : Prop := ob S v0 11 ∧ (∀ S1 : HS, S1 = sI S v0 0 (0 : Int32) → (P_X11_isDay v0 (fun x4 S2 => Gr S1 S2 → bl x4 → (((x4 = 0) → (P_X11_go_29 Q v0 S2)) ∧ ((¬ x4 = 0) → (P_X11_isRoad v0 v1 (fun x8 S6 => Gr S2 S6 → bl x8 → (((x8 = 0) → (P_X11_go_29 Q v0 S6)) ∧ ((¬ x8 = 0) → (P_X11_in v2 (0 : Int32) (1 : Int32) (fun x12 S10 => Gr S6 S10 → bl x12 → (((¬ x12 = 0) → (∀ x14 : Int32, x14 = fI S10 v0 19 → (P_X11_isSpeed v0 x14 v3 (fun x17 S15 => Gr S10 S15 → bl x17 → (((¬ x17 = 0) → (∃ a19 : Nat, fR S15 v0 3 = some a19 ∧ (ob S15 a19 10 ∧ (P_X10_begins a19 v1 v2 (fun x22 S20 => Gr S15 S20 → (∃ a23 : Nat, fR S20 v0 21 = some a23 ∧ (ob S20 a23 14 ∧ (vp_in (0 : Int32) (hN S20 a23) ∧ ∀ x25 : Int64, x25 = fJ S20 a23 (0 : Int32).toNatClampNeg → ((((lg_cmp x22.toInt64 x25) = 0) → (∃ a27 : Nat, fR S20 v0 21 = some a27 ∧ (ob S20 a27 14 ∧ (vp_in (1 : Int32) (hN S20 a27) ∧ ∀ x29 : Int64, x29 = fJ S20 a27 (1 : Int32).toNatClampNeg → (∀ x30 : Int32, x30 = x29.toInt32 → (∃ a31 : Nat, fR S20 v0 3 = some a31 ∧ (ob S20 a31 10 ∧ (P_X10_minutes a31 v1 v3 (fun x34 S32 => Gr S20 S32 → ((((x30 + x34) ≤ (999 : Int32)) → (P_X11_keeps v0 (fun S36 => Gr S32 S36 → (P_X11_go_119 Q v0 v1 v2 v3 x30 (0 : Int32) S36)) S32)) ∧ ((¬ (x30 + x34) ≤ (999 : Int32)) → (P_X11_refused v0 (3 : Int32) (fun x41 S39 => Gr S32 S39 → (Q x41 S39)) S32)))) S20)))))))) ∧ ((¬ (lg_cmp x22.toInt64 x25) = 0) → (P_X11_refused v0 (5 : Int32) (fun x44 S42 => Gr S20 S42 → (Q x44 S42)) S20))))))) S15)))) ∧ ((x17 = 0) → (P_X11_refused v0 (2 : Int32) (fun x47 S45 => Gr S15 S45 → (Q x47 S45)) S15)))) S10))) ∧ ((x12 = 0) → (P_X11_go_29 Q v0 S10)))) S6)))) S2)))) S1))
set_option maxRecDepth 20000 in
set_option maxHeartbeats 4000000 in
theorem T_X11_go_0 {X : CX} {Q : Int32 → HS → Prop} (C : Cx X cX11_go RX11 6 rm_X11_go) (E : ReI X rm_X11_go Q) (ht : (xh X).sig.returnType = (some .int)) (hn : (xh X).name = yX11_go.name) {v0 : Nat} {v1 : Int32} {v2 : Int32} {v3 : Int32} {S : HS} (h : P_X11_go_0 Q v0 v1 v2 v3 S) : WS X 6 0 0 0 [(0, .ref v0), (1, .int v1), (2, .int v2), (3, .int v3)] [] S := by
  refine r_aload_n (pc := 0) C dX11_go_0 0 rfl ?_
  refine r_iconst (pc := 1) C (v := (0 : Int32)) dX11_go_1 (by decide) ?_
  obtain ⟨o_v0, h⟩ := h
  refine r_puti (pc := 2) C pfL_X11_40 dX11_go_2 o_v0 ?_
  refine r_heap (fun S1 eS1 => ?_)
  have h := h S1 eS1
  have o_v0 := ob_I eS1 o_v0
  refine r_aload_n (pc := 5) C dX11_go_5 0 rfl ?_
  refine r_callVi0 (pc := 6) C (rest := []) (a := v0) o_v0 [] yV_X11_isDay g_1779 (c_X11_isDay h) dX11_go_6 rfl rfl (Nat.le_of_ble_eq_true rfl) ⟨by decide, by decide⟩ ⟨by decide, by decide⟩ ⟨rfl, rfl⟩ (fun x4 S2 h g3 => ?_)
  have bx4 := h.1
  have h := h.2 g3 bx4
  have o_v0 := gr_ob g3 o_v0
  refine r_if_eq (pc := 9) C (tgt := 29) dX11_go_9 (by decide) (fun c5 => ?_) (fun c5 => ?_)
  · have h := h.1 c5
    exact r_sub [0] rfl (T_X11_go_29 C E ht hn h)
  · have h := h.2 c5
    refine r_aload_n (pc := 12) C dX11_go_12 0 rfl ?_
    refine r_iload_n (pc := 13) C dX11_go_13 1 rfl ?_
    refine r_callVi0 (pc := 14) C (rest := []) (a := v0) o_v0 [.int v1] yV_X11_isRoad g_1542 (c_X11_isRoad h) dX11_go_14 rfl rfl (Nat.le_of_ble_eq_true rfl) ⟨by decide, by decide⟩ ⟨by decide, by decide⟩ ⟨rfl, rfl⟩ (fun x8 S6 h g7 => ?_)
    have bx8 := h.1
    have h := h.2 g7 bx8
    have o_v0 := gr_ob g7 o_v0
    refine r_if_eq (pc := 17) C (tgt := 29) dX11_go_17 (by decide) (fun c9 => ?_) (fun c9 => ?_)
    · have h := h.1 c9
      exact r_sub [0] rfl (T_X11_go_29 C E ht hn h)
    · have h := h.2 c9
      refine r_iload_n (pc := 20) C dX11_go_20 2 rfl ?_
      refine r_iconst (pc := 21) C (v := (0 : Int32)) dX11_go_21 (by decide) ?_
      refine r_iconst (pc := 22) C (v := (1 : Int32)) dX11_go_22 (by decide) ?_
      refine r_callSi0 (pc := 23) C (rest := []) rfl [.int v2, .int (0 : Int32), .int (1 : Int32)] yS_X11_in g_1434 (c_X11_in h) dX11_go_23 rfl rfl (Nat.le_of_ble_eq_true rfl) ⟨by decide, by decide⟩ ⟨by decide, by decide⟩ ⟨rfl, rfl⟩ (fun x12 S10 h g11 => ?_)
      have bx12 := h.1
      have h := h.2 g11 bx12
      have o_v0 := gr_ob g11 o_v0
      refine r_if_ne (pc := 26) C (tgt := 35) dX11_go_26 (by decide) (fun c13 => ?_) (fun c13 => ?_)
      · have h := h.1 c13
        refine r_aload_n (pc := 35) C dX11_go_35 0 rfl ?_
        refine r_aload_n (pc := 36) C dX11_go_36 0 rfl ?_
        refine r_geti (pc := 37) C fL_X11_28 dX11_go_37 o_v0 ?_
        refine r_topi (fun x14 ex14 => ?_)
        have h := h x14 ex14
        refine r_iload_n (pc := 40) C dX11_go_40 3 rfl ?_
        refine r_callVi0 (pc := 41) C (rest := []) (a := v0) o_v0 [.int x14, .int v3] yV_X11_isSpeed g_1550 (c_X11_isSpeed h) dX11_go_41 rfl rfl (Nat.le_of_ble_eq_true rfl) ⟨by decide, by decide⟩ ⟨by decide, by decide⟩ ⟨rfl, rfl⟩ (fun x17 S15 h g16 => ?_)
        have bx17 := h.1
        have h := h.2 g16 bx17
        have o_v0 := gr_ob g16 o_v0
        refine r_if_ne (pc := 44) C (tgt := 53) dX11_go_44 (by decide) (fun c18 => ?_) (fun c18 => ?_)
        · have h := h.1 c18
          refine r_aload_n (pc := 53) C dX11_go_53 0 rfl ?_
          obtain ⟨a19, ea19, h⟩ := h
          refine r_getr (pc := 54) C fL_X11_338 dX11_go_54 o_v0 ea19 ?_
          refine r_iload_n (pc := 57) C dX11_go_57 1 rfl ?_
          refine r_iload_n (pc := 58) C dX11_go_58 2 rfl ?_
          obtain ⟨o_a19, h⟩ := h
          refine r_callVi0 (pc := 59) C (rest := []) (a := a19) o_a19 [.int v1, .int v2] yV_X10_begins g_1695 (c_X10_begins h) dX11_go_59 rfl rfl (Nat.le_of_ble_eq_true rfl) ⟨by decide, by decide⟩ ⟨by decide, by decide⟩ ⟨rfl, rfl⟩ (fun x22 S20 h g21 => ?_)
          have h := h g21
          have o_a19 := gr_ob g21 o_a19
          have o_v0 := gr_ob g21 o_v0
          refine r_i2l (pc := 62) C dX11_go_62 ?_
          refine r_aload_n (pc := 63) C dX11_go_63 0 rfl ?_
          obtain ⟨a23, ea23, h⟩ := h
          refine r_getr (pc := 64) C fL_X11_31 dX11_go_64 o_v0 ea23 ?_
          refine r_iconst (pc := 67) C (v := (0 : Int32)) dX11_go_67 (by decide) ?_
          obtain ⟨o_a23, h⟩ := h
          obtain ⟨i24, h⟩ := h
          refine r_lald (pc := 68) C dX11_go_68 o_a23 i24 ?_
          refine r_topl (fun x25 ex25 => ?_)
          have h := h x25 ex25
          refine r_lcmp (pc := 69) C dX11_go_69 ?_
          refine r_if_eq (pc := 70) C (tgt := 79) dX11_go_70 (by decide) (fun c26 => ?_) (fun c26 => ?_)
          · have h := h.1 c26
            refine r_aload_n (pc := 79) C dX11_go_79 0 rfl ?_
            obtain ⟨a27, ea27, h⟩ := h
            refine r_getr (pc := 80) C fL_X11_31 dX11_go_80 o_v0 ea27 ?_
            refine r_iconst (pc := 83) C (v := (1 : Int32)) dX11_go_83 (by decide) ?_
            obtain ⟨o_a27, h⟩ := h
            obtain ⟨i28, h⟩ := h
            refine r_lald (pc := 84) C dX11_go_84 o_a27 i28 ?_
            refine r_topl (fun x29 ex29 => ?_)
            have h := h x29 ex29
            refine r_l2i (pc := 85) C dX11_go_85 ?_
            refine r_topi (fun x30 ex30 => ?_)
            have h := h x30 ex30
            refine r_istore (pc := 86) C dX11_go_86 (by decide) (lv' := [(4, .int x30), (0, .ref v0), (1, .int v1), (2, .int v2), (3, .int v3)]) rfl ?_
            refine r_iload (pc := 88) C dX11_go_88 0 rfl ?_
            refine r_aload_n (pc := 90) C dX11_go_90 1 rfl ?_
            obtain ⟨a31, ea31, h⟩ := h
            refine r_getr (pc := 91) C fL_X11_338 dX11_go_91 o_v0 ea31 ?_
            refine r_iload_n (pc := 94) C dX11_go_94 2 rfl ?_
            refine r_iload_n (pc := 95) C dX11_go_95 4 rfl ?_
            obtain ⟨o_a31, h⟩ := h
            refine r_callVi0 (pc := 96) C (rest := [.int x30]) (a := a31) o_a31 [.int v1, .int v3] yV_X10_minutes g_1607 (c_X10_minutes h) dX11_go_96 rfl rfl (Nat.le_of_ble_eq_true rfl) ⟨by decide, by decide⟩ ⟨by decide, by decide⟩ ⟨rfl, rfl⟩ (fun x34 S32 h g33 => ?_)
            have h := h g33
            have o_a19 := gr_ob g33 o_a19
            have o_a23 := gr_ob g33 o_a23
            have o_a27 := gr_ob g33 o_a27
            have o_a31 := gr_ob g33 o_a31
            have o_v0 := gr_ob g33 o_v0
            refine r_iadd (pc := 99) C dX11_go_99 ?_
            refine r_sipush (pc := 100) C (v := (999 : Int32)) dX11_go_100 (by decide) ?_
            refine r_icmp_le (pc := 103) C (tgt := 112) dX11_go_103 (by decide) (fun c35 => ?_) (fun c35 => ?_)
            · have h := h.1 c35
              refine r_aload_n (pc := 112) C dX11_go_112 1 rfl ?_
              refine r_callVv0 (pc := 113) C (rest := []) (a := v0) o_v0 [] yV_X11_keeps g_1783 (c_X11_keeps h) dX11_go_113 rfl rfl (Nat.le_of_ble_eq_true rfl) ⟨by decide, by decide⟩ ⟨by decide, by decide⟩ ⟨rfl, rfl⟩ (fun S36 h g37 => ?_)
              have h := h g37
              have o_a19 := gr_ob g37 o_a19
              have o_a23 := gr_ob g37 o_a23
              have o_a27 := gr_ob g37 o_a27
              have o_a31 := gr_ob g37 o_a31
              have o_v0 := gr_ob g37 o_v0
              refine r_iconst (pc := 116) C (v := (0 : Int32)) dX11_go_116 (by decide) ?_
              refine r_istore (pc := 117) C dX11_go_117 (by decide) (lv' := [(5, .int (0 : Int32)), (4, .int x30), (0, .ref v0), (1, .int v1), (2, .int v2), (3, .int v3)]) rfl ?_
              exact r_sub [2, 3, 4, 5, 1, 0] rfl (T_X11_go_119 C E ht hn h)
            · have h := h.2 c35
              refine r_aload_n (pc := 106) C dX11_go_106 1 rfl ?_
              refine r_iconst (pc := 107) C (v := (3 : Int32)) dX11_go_107 (by decide) ?_
              refine r_callVi0 (pc := 108) C (rest := []) (a := v0) o_v0 [.int (3 : Int32)] yV_X11_refused g_1250 (c_X11_refused h) dX11_go_108 rfl rfl (Nat.le_of_ble_eq_true rfl) ⟨by decide, by decide⟩ ⟨by decide, by decide⟩ ⟨rfl, rfl⟩ (fun x41 S39 h g40 => ?_)
              have h := h g40
              have o_a19 := gr_ob g40 o_a19
              have o_a23 := gr_ob g40 o_a23
              have o_a27 := gr_ob g40 o_a27
              have o_a31 := gr_ob g40 o_a31
              have o_v0 := gr_ob g40 o_v0
              exact r_iret (pc := 111) C E ht dX11_go_111 (by decide) (by decide) h
          · have h := h.2 c26
            refine r_aload_n (pc := 73) C dX11_go_73 0 rfl ?_
            refine r_iconst (pc := 74) C (v := (5 : Int32)) dX11_go_74 (by decide) ?_
            refine r_callVi0 (pc := 75) C (rest := []) (a := v0) o_v0 [.int (5 : Int32)] yV_X11_refused g_1250 (c_X11_refused h) dX11_go_75 rfl rfl (Nat.le_of_ble_eq_true rfl) ⟨by decide, by decide⟩ ⟨by decide, by decide⟩ ⟨rfl, rfl⟩ (fun x44 S42 h g43 => ?_)
            have h := h g43
            have o_a19 := gr_ob g43 o_a19
            have o_a23 := gr_ob g43 o_a23
            have o_v0 := gr_ob g43 o_v0
            exact r_iret (pc := 78) C E ht dX11_go_78 (by decide) (by decide) h
        · have h := h.2 c18
          refine r_aload_n (pc := 47) C dX11_go_47 0 rfl ?_
          refine r_iconst (pc := 48) C (v := (2 : Int32)) dX11_go_48 (by decide) ?_
          refine r_callVi0 (pc := 49) C (rest := []) (a := v0) o_v0 [.int (2 : Int32)] yV_X11_refused g_1250 (c_X11_refused h) dX11_go_49 rfl rfl (Nat.le_of_ble_eq_true rfl) ⟨by decide, by decide⟩ ⟨by decide, by decide⟩ ⟨rfl, rfl⟩ (fun x47 S45 h g46 => ?_)
          have h := h g46
          have o_v0 := gr_ob g46 o_v0
          exact r_iret (pc := 52) C E ht dX11_go_52 (by decide) (by decide) h
      · have h := h.2 c13
        exact r_sub [0] rfl (T_X11_go_29 C E ht hn h)
def P_X11_go (v0 : Nat) (v1 : Int32) (v2 : Int32) (v3 : Int32) (Q : Int32 → HS → Prop) (S : HS) : Prop := P_X11_go_0 Q v0 v1 v2 v3 S
theorem c_X11_go {l : Launch} {Ee : EE} {S : HS} {v0 : Nat} {v1 : Int32} {v2 : Int32} {v3 : Int32} {Q : Int32 → HS → Prop} (h : P_X11_go v0 v1 v2 v3 Q S) : MI l yX11_go cX11_go 6 (some .int) rm_X11_go Ee S [.ref v0, .int v1, .int v2, .int v3] Q :=
  openI (by decide) (Nat.le_of_ble_eq_true rfl) (fun X C E ht hn hE hl => by subst hE; exact r_sub [0, 1, 2, 3] rfl (T_X11_go_0 C E ht hn h))
def rm_X11_got : Room := { frames := 2, cells := 0, slots := 0, locals := 52 }
def P_X11_got_40 (Q : Int64 → HS → Prop) (v0 : Nat) (S : HS) : Prop := ob S v0 11 ∧ (P_X11_refused v0 (1 : Int32) (fun x3 S1 => Gr S S1 → (Q x3.toInt64 S1)) S)
set_option maxRecDepth 20000 in
set_option maxHeartbeats 4000000 in
theorem T_X11_got_40 {X : CX} {Q : Int64 → HS → Prop} (C : Cx X cX11_got RX11 3 rm_X11_got) (E : ReJ X rm_X11_got Q) (ht : (xh X).sig.returnType = (some .long)) (hn : (xh X).name = yX11_got.name) {v0 : Nat} {S : HS} (h : P_X11_got_40 Q v0 S) : WS X 3 0 0 40 [(0, .ref v0)] [] S := by
  refine r_aload_n (pc := 40) C dX11_got_40 0 rfl ?_
  refine r_iconst (pc := 41) C (v := (1 : Int32)) dX11_got_41 (by decide) ?_
  obtain ⟨o_v0, h⟩ := h
  refine r_callVi0 (pc := 42) C (rest := []) (a := v0) o_v0 [.int (1 : Int32)] yV_X11_refused g_1250 (c_X11_refused h) dX11_got_42 rfl rfl (Nat.le_of_ble_eq_true rfl) ⟨by decide, by decide⟩ ⟨by decide, by decide⟩ ⟨rfl, rfl⟩ (fun x3 S1 h g2 => ?_)
  have h := h g2
  have o_v0 := gr_ob g2 o_v0
  refine r_i2l (pc := 45) C dX11_got_45 ?_
  exact r_lret (pc := 46) C E ht dX11_got_46 (by decide) (by decide) h
def P_X11_got_0 (Q : Int64 → HS → Prop) (v0 : Nat) (v1 : Int32) (v2 : Int32) (S : HS) : Prop := ob S v0 11 ∧ (∀ S1 : HS, S1 = sI S v0 0 (0 : Int32) → (P_X11_isDay v0 (fun x4 S2 => Gr S1 S2 → bl x4 → (((x4 = 0) → (P_X11_got_40 Q v0 S2)) ∧ ((¬ x4 = 0) → (P_X11_in v1 (0 : Int32) (4 : Int32) (fun x8 S6 => Gr S2 S6 → bl x8 → (((x8 = 0) → (P_X11_got_40 Q v0 S6)) ∧ ((¬ x8 = 0) → (∃ a10 : Nat, fR S6 v0 21 = some a10 ∧ (ob S6 a10 14 ∧ (∀ x12 : Int32, x12 = (2 : Int32) + v1 → (vp_in x12 (hN S6 a10) ∧ ∀ x13 : Int64, x13 = fJ S6 a10 x12.toNatClampNeg → (P_X11_told v0 x13 (2520 : Int64) v2 (fun x16 S14 => Gr S6 S14 → (Q x16 S14)) S6)))))))) S2)))) S1))
set_option maxRecDepth 20000 in
set_option maxHeartbeats 4000000 in
theorem T_X11_got_0 {X : CX} {Q : Int64 → HS → Prop} (C : Cx X cX11_got RX11 3 rm_X11_got) (E : ReJ X rm_X11_got Q) (ht : (xh X).sig.returnType = (some .long)) (hn : (xh X).name = yX11_got.name) {v0 : Nat} {v1 : Int32} {v2 : Int32} {S : HS} (h : P_X11_got_0 Q v0 v1 v2 S) : WS X 3 0 0 0 [(0, .ref v0), (1, .int v1), (2, .int v2)] [] S := by
  refine r_aload_n (pc := 0) C dX11_got_0 0 rfl ?_
  refine r_iconst (pc := 1) C (v := (0 : Int32)) dX11_got_1 (by decide) ?_
  obtain ⟨o_v0, h⟩ := h
  refine r_puti (pc := 2) C pfL_X11_40 dX11_got_2 o_v0 ?_
  refine r_heap (fun S1 eS1 => ?_)
  have h := h S1 eS1
  have o_v0 := ob_I eS1 o_v0
  refine r_aload_n (pc := 5) C dX11_got_5 0 rfl ?_
  refine r_callVi0 (pc := 6) C (rest := []) (a := v0) o_v0 [] yV_X11_isDay g_1779 (c_X11_isDay h) dX11_got_6 rfl rfl (Nat.le_of_ble_eq_true rfl) ⟨by decide, by decide⟩ ⟨by decide, by decide⟩ ⟨rfl, rfl⟩ (fun x4 S2 h g3 => ?_)
  have bx4 := h.1
  have h := h.2 g3 bx4
  have o_v0 := gr_ob g3 o_v0
  refine r_if_eq (pc := 9) C (tgt := 40) dX11_got_9 (by decide) (fun c5 => ?_) (fun c5 => ?_)
  · have h := h.1 c5
    exact r_sub [0] rfl (T_X11_got_40 C E ht hn h)
  · have h := h.2 c5
    refine r_iload_n (pc := 12) C dX11_got_12 1 rfl ?_
    refine r_iconst (pc := 13) C (v := (0 : Int32)) dX11_got_13 (by decide) ?_
    refine r_iconst (pc := 14) C (v := (4 : Int32)) dX11_got_14 (by decide) ?_
    refine r_callSi0 (pc := 15) C (rest := []) rfl [.int v1, .int (0 : Int32), .int (4 : Int32)] yS_X11_in g_1434 (c_X11_in h) dX11_got_15 rfl rfl (Nat.le_of_ble_eq_true rfl) ⟨by decide, by decide⟩ ⟨by decide, by decide⟩ ⟨rfl, rfl⟩ (fun x8 S6 h g7 => ?_)
    have bx8 := h.1
    have h := h.2 g7 bx8
    have o_v0 := gr_ob g7 o_v0
    refine r_if_eq (pc := 18) C (tgt := 40) dX11_got_18 (by decide) (fun c9 => ?_) (fun c9 => ?_)
    · have h := h.1 c9
      exact r_sub [0] rfl (T_X11_got_40 C E ht hn h)
    · have h := h.2 c9
      refine r_aload_n (pc := 21) C dX11_got_21 0 rfl ?_
      refine r_aload_n (pc := 22) C dX11_got_22 0 rfl ?_
      obtain ⟨a10, ea10, h⟩ := h
      refine r_getr (pc := 23) C fL_X11_31 dX11_got_23 o_v0 ea10 ?_
      refine r_iconst (pc := 26) C (v := (2 : Int32)) dX11_got_26 (by decide) ?_
      refine r_iload_n (pc := 27) C dX11_got_27 1 rfl ?_
      refine r_iadd (pc := 28) C dX11_got_28 ?_
      obtain ⟨o_a10, h⟩ := h
      refine r_topi (fun x12 ex12 => ?_)
      have h := h x12 ex12
      obtain ⟨i11, h⟩ := h
      refine r_lald (pc := 29) C dX11_got_29 o_a10 i11 ?_
      refine r_topl (fun x13 ex13 => ?_)
      have h := h x13 ex13
      refine r_ldc2 (pc := 30) C (v := (2520 : Int64)) dX11_got_30 g_1585 ?_
      refine r_iload_n (pc := 33) C dX11_got_33 2 rfl ?_
      refine r_callVl0 (pc := 34) C (rest := []) (a := v0) o_v0 [.long x13, .long (2520 : Int64), .int v2] yV_X11_told g_1586 (c_X11_told h) dX11_got_34 rfl rfl (Nat.le_of_ble_eq_true rfl) ⟨by decide, by decide⟩ ⟨by decide, by decide⟩ ⟨rfl, rfl⟩ (fun x16 S14 h g15 => ?_)
      have h := h g15
      have o_a10 := gr_ob g15 o_a10
      have o_v0 := gr_ob g15 o_v0
      refine r_goto (pc := 37) C (tgt := 46) dX11_got_37 (by decide) ?_
      exact r_lret (pc := 46) C E ht dX11_got_46 (by decide) (by decide) h
def P_X11_got (v0 : Nat) (v1 : Int32) (v2 : Int32) (Q : Int64 → HS → Prop) (S : HS) : Prop := P_X11_got_0 Q v0 v1 v2 S
theorem c_X11_got {l : Launch} {Ee : EE} {S : HS} {v0 : Nat} {v1 : Int32} {v2 : Int32} {Q : Int64 → HS → Prop} (h : P_X11_got v0 v1 v2 Q S) : MJ l yX11_got cX11_got 3 (some .long) rm_X11_got Ee S [.ref v0, .int v1, .int v2] Q :=
  openJ (by decide) (Nat.le_of_ble_eq_true rfl) (fun X C E ht hn hE hl => by subst hE; exact r_sub [0, 1, 2] rfl (T_X11_got_0 C E ht hn h))
def rm_X11_gotInAll : Room := { frames := 0, cells := 0, slots := 0, locals := 0 }
def B_X11_gotInAll_4 (Q : Int64 → HS → Prop) (X4 : Nat → Int64 → Int32 → HS → Prop) (v0 : Nat) (v1 : Int64) (v3 : Int32) (S : HS) : Prop := (((5 : Int32) ≤ v3) → (Q v1 S)) ∧ ((¬ (5 : Int32) ≤ v3) → (ob S v0 11 ∧ (∃ a2 : Nat, fR S v0 21 = some a2 ∧ (ob S a2 14 ∧ (∀ x4 : Int32, x4 = (2 : Int32) + v3 → (vp_in x4 (hN S a2) ∧ ∀ x5 : Int64, x5 = fJ S a2 x4.toNatClampNeg → (∀ x6 : Int64, x6 = v1 + x5 → (∀ x7 : Int32, x7 = v3 + (1 : Int32) → (X4 v0 x6 x7 S)))))))))
def P_X11_gotInAll_4 (Q : Int64 → HS → Prop) (v0 : Nat) (v1 : Int64) (v3 : Int32) (S : HS) : Prop := ∀ X4 : Nat → Int64 → Int32 → HS → Prop, (∀ (v0 : Nat) (v1 : Int64) (v3 : Int32) (S : HS), B_X11_gotInAll_4 Q X4 v0 v1 v3 S → X4 v0 v1 v3 S) → X4 v0 v1 v3 S
set_option maxRecDepth 20000 in
set_option maxHeartbeats 4000000 in
theorem TB_X11_gotInAll_4 {X : CX} {Q : Int64 → HS → Prop} (C : Cx X cX11_gotInAll RX11 4 rm_X11_gotInAll) (E : ReJ X rm_X11_gotInAll Q) (ht : (xh X).sig.returnType = (some .long)) (hn : (xh X).name = yX11_gotInAll.name) {X4 : Nat → Int64 → Int32 → HS → Prop} (hX4 : ∀ (v0 : Nat) (v1 : Int64) (v3 : Int32) (S : HS), X4 v0 v1 v3 S → WS X 4 0 0 4 [(0, .ref v0), (1, .long v1), (3, .int v3)] [] S) {v0 : Nat} {v1 : Int64} {v3 : Int32} {S : HS} (h : B_X11_gotInAll_4 Q X4 v0 v1 v3 S) : WS X 4 0 0 4 [(0, .ref v0), (1, .long v1), (3, .int v3)] [] S := by
  refine r_iload_n (pc := 4) C dX11_gotInAll_4 2 rfl ?_
  refine r_iconst (pc := 5) C (v := (5 : Int32)) dX11_gotInAll_5 (by decide) ?_
  refine r_icmp_ge (pc := 6) C (tgt := 26) dX11_gotInAll_6 (by decide) (fun c1 => ?_) (fun c1 => ?_)
  · have h := h.1 c1
    refine r_lload_n (pc := 26) C dX11_gotInAll_26 1 rfl ?_
    exact r_lret (pc := 27) C E ht dX11_gotInAll_27 (by decide) (by decide) h
  · have h := h.2 c1
    refine r_lload_n (pc := 9) C dX11_gotInAll_9 1 rfl ?_
    refine r_aload_n (pc := 10) C dX11_gotInAll_10 0 rfl ?_
    obtain ⟨o_v0, h⟩ := h
    obtain ⟨a2, ea2, h⟩ := h
    refine r_getr (pc := 11) C fL_X11_31 dX11_gotInAll_11 o_v0 ea2 ?_
    refine r_iconst (pc := 14) C (v := (2 : Int32)) dX11_gotInAll_14 (by decide) ?_
    refine r_iload_n (pc := 15) C dX11_gotInAll_15 2 rfl ?_
    refine r_iadd (pc := 16) C dX11_gotInAll_16 ?_
    obtain ⟨o_a2, h⟩ := h
    refine r_topi (fun x4 ex4 => ?_)
    have h := h x4 ex4
    obtain ⟨i3, h⟩ := h
    refine r_lald (pc := 17) C dX11_gotInAll_17 o_a2 i3 ?_
    refine r_topl (fun x5 ex5 => ?_)
    have h := h x5 ex5
    refine r_ladd (pc := 18) C dX11_gotInAll_18 ?_
    refine r_topl (fun x6 ex6 => ?_)
    have h := h x6 ex6
    refine r_lstore_n (pc := 19) C dX11_gotInAll_19 rfl (by decide) (lv' := [(1, .long x6), (0, .ref v0), (3, .int v3)]) rfl ?_
    obtain ⟨x7, ex7⟩ : ∃ z : Int32, z = v3 + (1 : Int32) := ⟨_, rfl⟩
    have h := h x7 ex7
    refine r_iinc (pc := 20) C (v := x7) (lv' := [(3, .int x7), (1, .long x6), (0, .ref v0)]) dX11_gotInAll_20 2 rfl ex7.symm (by decide) rfl ?_
    refine r_goto (pc := 23) C (tgt := 4) dX11_gotInAll_23 (by decide) ?_
    exact r_sub [2, 1, 0] rfl (hX4 v0 x6 x7 S h)
theorem T_X11_gotInAll_4 {X : CX} {Q : Int64 → HS → Prop} (C : Cx X cX11_gotInAll RX11 4 rm_X11_gotInAll) (E : ReJ X rm_X11_gotInAll Q) (ht : (xh X).sig.returnType = (some .long)) (hn : (xh X).name = yX11_gotInAll.name) {v0 : Nat} {v1 : Int64} {v3 : Int32} {S : HS} (h : P_X11_gotInAll_4 Q v0 v1 v3 S) : WS X 4 0 0 4 [(0, .ref v0), (1, .long v1), (3, .int v3)] [] S :=
  h (fun v0 v1 v3 S => WS X 4 0 0 4 [(0, .ref v0), (1, .long v1), (3, .int v3)] [] S) (fun v0 v1 v3 S hh => TB_X11_gotInAll_4 C E ht hn (fun v0 v1 v3 S z => z) hh)
def P_X11_gotInAll_0 (Q : Int64 → HS → Prop) (v0 : Nat) (S : HS) : Prop := P_X11_gotInAll_4 Q v0 (0 : Int64) (0 : Int32) S
set_option maxRecDepth 20000 in
set_option maxHeartbeats 4000000 in
theorem T_X11_gotInAll_0 {X : CX} {Q : Int64 → HS → Prop} (C : Cx X cX11_gotInAll RX11 4 rm_X11_gotInAll) (E : ReJ X rm_X11_gotInAll Q) (ht : (xh X).sig.returnType = (some .long)) (hn : (xh X).name = yX11_gotInAll.name) {v0 : Nat} {S : HS} (h : P_X11_gotInAll_0 Q v0 S) : WS X 4 0 0 0 [(0, .ref v0)] [] S := by
  refine r_lconst (pc := 0) C (v := (0 : Int64)) dX11_gotInAll_0 (by decide) ?_
  refine r_lstore_n (pc := 1) C dX11_gotInAll_1 rfl (by decide) (lv' := [(1, .long (0 : Int64)), (0, .ref v0)]) rfl ?_
  refine r_iconst (pc := 2) C (v := (0 : Int32)) dX11_gotInAll_2 (by decide) ?_
  refine r_istore_n (pc := 3) C dX11_gotInAll_3 rfl (by decide) (lv' := [(3, .int (0 : Int32)), (1, .long (0 : Int64)), (0, .ref v0)]) rfl ?_
  exact r_sub [2, 1, 0] rfl (T_X11_gotInAll_4 C E ht hn h)
def P_X11_gotInAll (v0 : Nat) (Q : Int64 → HS → Prop) (S : HS) : Prop := P_X11_gotInAll_0 Q v0 S
theorem c_X11_gotInAll {l : Launch} {Ee : EE} {S : HS} {v0 : Nat} {Q : Int64 → HS → Prop} (h : P_X11_gotInAll v0 Q S) : MJ l yX11_gotInAll cX11_gotInAll 4 (some .long) rm_X11_gotInAll Ee S [.ref v0] Q :=
  openJ (by decide) (Nat.le_of_ble_eq_true rfl) (fun X C E ht hn hE hl => by subst hE; exact r_sub [0] rfl (T_X11_gotInAll_0 C E ht hn h))
def rm_X11_held : Room := { frames := 3, cells := 0, slots := 0, locals := 76 }
def P_X11_held_68 (Q : Int32 → HS → Prop) (s0 : Nat) (s1 : Int32) (S : HS) : Prop := ob S s0 11 ∧ (P_X11_good s0 s1 (fun x3 S1 => Gr S S1 → (Q x3 S1)) S)
set_option maxRecDepth 20000 in
set_option maxHeartbeats 4000000 in
theorem T_X11_held_68 {X : CX} {Q : Int32 → HS → Prop} (C : Cx X cX11_held RX11 7 rm_X11_held) (E : ReI X rm_X11_held Q) (ht : (xh X).sig.returnType = (some .int)) (hn : (xh X).name = yX11_held.name) {s0 : Nat} {s1 : Int32} {S : HS} (h : P_X11_held_68 Q s0 s1 S) : WS X 7 0 0 68 [] [.int s1, .ref s0] S := by
  obtain ⟨o_s0, h⟩ := h
  refine r_callVi0 (pc := 68) C (rest := []) (a := s0) o_s0 [.int s1] yV_X11_good g_1518 (c_X11_good h) dX11_held_68 rfl rfl (Nat.le_of_ble_eq_true rfl) ⟨by decide, by decide⟩ ⟨by decide, by decide⟩ ⟨rfl, rfl⟩ (fun x3 S1 h g2 => ?_)
  have h := h g2
  have o_s0 := gr_ob g2 o_s0
  exact r_iret (pc := 71) C E ht dX11_held_71 (by decide) (by decide) h
def P_X11_held_0 (Q : Int32 → HS → Prop) (v0 : Nat) (v1 : Int32) (v2 : Int32) (v3 : Int32) (v4 : Int32) (v5 : Int32) (S : HS) : Prop := ob S v0 11 ∧ (∀ S1 : HS, S1 = sI S v0 0 (0 : Int32) → (P_X11_refuses v0 v1 v2 v3 v4 v5 (fun x4 S2 => Gr S1 S2 → (((x4 ≤ 0) → (∃ a6 : Nat, fR S2 v0 3 = some a6 ∧ (ob S2 a6 10 ∧ (∃ a7 : Nat, fR S2 a6 19 = some a7 ∧ (ob S2 a7 13 ∧ (vp_in v1 (hN S2 a7) ∧ ∀ x9 : Int32, x9 = fI S2 a7 v1.toNatClampNeg → (((x9 = (3 : Int32)) → (P_X11_isForward v0 v1 v2 v3 v4 v5 (fun x13 S11 => Gr S2 S11 → bl x13 → (((x13 = 0) → (P_X11_held_68 Q v0 (0 : Int32) S11)) ∧ ((¬ x13 = 0) → (P_X11_held_68 Q v0 (1 : Int32) S11)))) S2)) ∧ ((¬ x9 = (3 : Int32)) → (P_X11_held_68 Q v0 (-2 : Int32) S2))))))))) ∧ ((¬ x4 ≤ 0) → (P_X11_refused v0 x4 (fun x17 S15 => Gr S2 S15 → (Q x17 S15)) S2)))) S1))
set_option maxRecDepth 20000 in
set_option maxHeartbeats 4000000 in
theorem T_X11_held_0 {X : CX} {Q : Int32 → HS → Prop} (C : Cx X cX11_held RX11 7 rm_X11_held) (E : ReI X rm_X11_held Q) (ht : (xh X).sig.returnType = (some .int)) (hn : (xh X).name = yX11_held.name) {v0 : Nat} {v1 : Int32} {v2 : Int32} {v3 : Int32} {v4 : Int32} {v5 : Int32} {S : HS} (h : P_X11_held_0 Q v0 v1 v2 v3 v4 v5 S) : WS X 7 0 0 0 [(0, .ref v0), (1, .int v1), (2, .int v2), (3, .int v3), (4, .int v4), (5, .int v5)] [] S := by
  refine r_aload_n (pc := 0) C dX11_held_0 0 rfl ?_
  refine r_iconst (pc := 1) C (v := (0 : Int32)) dX11_held_1 (by decide) ?_
  obtain ⟨o_v0, h⟩ := h
  refine r_puti (pc := 2) C pfL_X11_40 dX11_held_2 o_v0 ?_
  refine r_heap (fun S1 eS1 => ?_)
  have h := h S1 eS1
  have o_v0 := ob_I eS1 o_v0
  refine r_aload_n (pc := 5) C dX11_held_5 0 rfl ?_
  refine r_iload_n (pc := 6) C dX11_held_6 1 rfl ?_
  refine r_iload_n (pc := 7) C dX11_held_7 2 rfl ?_
  refine r_iload_n (pc := 8) C dX11_held_8 3 rfl ?_
  refine r_iload (pc := 9) C dX11_held_9 4 rfl ?_
  refine r_iload (pc := 11) C dX11_held_11 5 rfl ?_
  refine r_callVi0 (pc := 13) C (rest := []) (a := v0) o_v0 [.int v1, .int v2, .int v3, .int v4, .int v5] yV_X11_refuses g_1534 (c_X11_refuses h) dX11_held_13 rfl rfl (Nat.le_of_ble_eq_true rfl) ⟨by decide, by decide⟩ ⟨by decide, by decide⟩ ⟨rfl, rfl⟩ (fun x4 S2 h g3 => ?_)
  have h := h g3
  have o_v0 := gr_ob g3 o_v0
  refine r_istore (pc := 16) C dX11_held_16 (by decide) (lv' := [(6, .int x4), (0, .ref v0), (1, .int v1), (2, .int v2), (3, .int v3), (4, .int v4), (5, .int v5)]) rfl ?_
  refine r_iload (pc := 18) C dX11_held_18 0 rfl ?_
  refine r_if_le (pc := 20) C (tgt := 30) dX11_held_20 (by decide) (fun c5 => ?_) (fun c5 => ?_)
  · have h := h.1 c5
    refine r_aload_n (pc := 30) C dX11_held_30 1 rfl ?_
    refine r_aload_n (pc := 31) C dX11_held_31 1 rfl ?_
    obtain ⟨a6, ea6, h⟩ := h
    refine r_getr (pc := 32) C fL_X11_338 dX11_held_32 o_v0 ea6 ?_
    obtain ⟨o_a6, h⟩ := h
    obtain ⟨a7, ea7, h⟩ := h
    refine r_getNr (pc := 35) C fN_X11_302 dX11_held_35 o_a6 ea7 ?_
    refine r_iload_n (pc := 38) C dX11_held_38 2 rfl ?_
    obtain ⟨o_a7, h⟩ := h
    obtain ⟨i8, h⟩ := h
    refine r_iald (pc := 39) C dX11_held_39 o_a7 i8 ?_
    refine r_topi (fun x9 ex9 => ?_)
    have h := h x9 ex9
    refine r_iconst (pc := 40) C (v := (3 : Int32)) dX11_held_40 (by decide) ?_
    refine r_icmp_eq (pc := 41) C (tgt := 49) dX11_held_41 (by decide) (fun c10 => ?_) (fun c10 => ?_)
    · have h := h.1 c10
      refine r_aload_n (pc := 49) C dX11_held_49 1 rfl ?_
      refine r_iload_n (pc := 50) C dX11_held_50 2 rfl ?_
      refine r_iload_n (pc := 51) C dX11_held_51 3 rfl ?_
      refine r_iload_n (pc := 52) C dX11_held_52 4 rfl ?_
      refine r_iload (pc := 53) C dX11_held_53 5 rfl ?_
      refine r_iload (pc := 55) C dX11_held_55 6 rfl ?_
      refine r_callVi0 (pc := 57) C (rest := [.ref v0]) (a := v0) o_v0 [.int v1, .int v2, .int v3, .int v4, .int v5] yV_X11_isForward g_1574 (c_X11_isForward h) dX11_held_57 rfl rfl (Nat.le_of_ble_eq_true rfl) ⟨by decide, by decide⟩ ⟨by decide, by decide⟩ ⟨rfl, rfl⟩ (fun x13 S11 h g12 => ?_)
      have bx13 := h.1
      have h := h.2 g12 bx13
      have o_a6 := gr_ob g12 o_a6
      have o_a7 := gr_ob g12 o_a7
      have o_v0 := gr_ob g12 o_v0
      refine r_if_eq (pc := 60) C (tgt := 67) dX11_held_60 (by decide) (fun c14 => ?_) (fun c14 => ?_)
      · have h := h.1 c14
        refine r_iconst (pc := 67) C (v := (0 : Int32)) dX11_held_67 (by decide) ?_
        exact r_sub [] rfl (T_X11_held_68 C E ht hn h)
      · have h := h.2 c14
        refine r_iconst (pc := 63) C (v := (1 : Int32)) dX11_held_63 (by decide) ?_
        refine r_goto (pc := 64) C (tgt := 68) dX11_held_64 (by decide) ?_
        exact r_sub [] rfl (T_X11_held_68 C E ht hn h)
    · have h := h.2 c10
      refine r_bipush (pc := 44) C (v := (-2 : Int32)) dX11_held_44 (by decide) ?_
      refine r_goto (pc := 46) C (tgt := 68) dX11_held_46 (by decide) ?_
      exact r_sub [] rfl (T_X11_held_68 C E ht hn h)
  · have h := h.2 c5
    refine r_aload_n (pc := 23) C dX11_held_23 1 rfl ?_
    refine r_iload (pc := 24) C dX11_held_24 0 rfl ?_
    refine r_callVi0 (pc := 26) C (rest := []) (a := v0) o_v0 [.int x4] yV_X11_refused g_1250 (c_X11_refused h) dX11_held_26 rfl rfl (Nat.le_of_ble_eq_true rfl) ⟨by decide, by decide⟩ ⟨by decide, by decide⟩ ⟨rfl, rfl⟩ (fun x17 S15 h g16 => ?_)
    have h := h g16
    have o_v0 := gr_ob g16 o_v0
    exact r_iret (pc := 29) C E ht dX11_held_29 (by decide) (by decide) h
def P_X11_held (v0 : Nat) (v1 : Int32) (v2 : Int32) (v3 : Int32) (v4 : Int32) (v5 : Int32) (Q : Int32 → HS → Prop) (S : HS) : Prop := P_X11_held_0 Q v0 v1 v2 v3 v4 v5 S
theorem c_X11_held {l : Launch} {Ee : EE} {S : HS} {v0 : Nat} {v1 : Int32} {v2 : Int32} {v3 : Int32} {v4 : Int32} {v5 : Int32} {Q : Int32 → HS → Prop} (h : P_X11_held v0 v1 v2 v3 v4 v5 Q S) : MI l yX11_held cX11_held 7 (some .int) rm_X11_held Ee S [.ref v0, .int v1, .int v2, .int v3, .int v4, .int v5] Q :=
  openI (by decide) (Nat.le_of_ble_eq_true rfl) (fun X C E ht hn hE hl => by subst hE; exact r_sub [0, 1, 2, 3, 4, 5] rfl (T_X11_held_0 C E ht hn h))
def rm_X11_holds : Room := { frames := 0, cells := 0, slots := 0, locals := 0 }
def P_X11_holds_0 (Q : Int64 → HS → Prop) (v0 : Nat) (S : HS) : Prop := ob S v0 11 ∧ (∃ a1 : Nat, fR S v0 3 = some a1 ∧ (ob S a1 10 ∧ (∃ a2 : Nat, fR S a1 19 = some a2 ∧ (∀ x3 : Int32, x3 = fI S v0 19 → (ob S a2 13 ∧ (vp_in x3 (hN S a2) ∧ ∀ x5 : Int32, x5 = fI S a2 x3.toNatClampNeg → (((¬ x5 = (2 : Int32)) → (Q (0 : Int64) S)) ∧ ((x5 = (2 : Int32)) → (∃ a7 : Nat, fR S v0 3 = some a7 ∧ (ob S a7 10 ∧ (∃ a8 : Nat, fR S a7 20 = some a8 ∧ (∀ x9 : Int32, x9 = fI S v0 19 → (ob S a8 13 ∧ (vp_in x9 (hN S a8) ∧ ∀ x11 : Int32, x11 = fI S a8 x9.toNatClampNeg → (Q ((2520 : Int64) * x11.toInt64) S)))))))))))))))
set_option maxRecDepth 20000 in
set_option maxHeartbeats 4000000 in
theorem T_X11_holds_0 {X : CX} {Q : Int64 → HS → Prop} (C : Cx X cX11_holds RX11 1 rm_X11_holds) (E : ReJ X rm_X11_holds Q) (ht : (xh X).sig.returnType = (some .long)) (hn : (xh X).name = yX11_holds.name) {v0 : Nat} {S : HS} (h : P_X11_holds_0 Q v0 S) : WS X 1 0 0 0 [(0, .ref v0)] [] S := by
  refine r_aload_n (pc := 0) C dX11_holds_0 0 rfl ?_
  obtain ⟨o_v0, h⟩ := h
  obtain ⟨a1, ea1, h⟩ := h
  refine r_getr (pc := 1) C fL_X11_338 dX11_holds_1 o_v0 ea1 ?_
  obtain ⟨o_a1, h⟩ := h
  obtain ⟨a2, ea2, h⟩ := h
  refine r_getNr (pc := 4) C fN_X11_302 dX11_holds_4 o_a1 ea2 ?_
  refine r_aload_n (pc := 7) C dX11_holds_7 0 rfl ?_
  refine r_geti (pc := 8) C fL_X11_28 dX11_holds_8 o_v0 ?_
  refine r_topi (fun x3 ex3 => ?_)
  have h := h x3 ex3
  obtain ⟨o_a2, h⟩ := h
  obtain ⟨i4, h⟩ := h
  refine r_iald (pc := 11) C dX11_holds_11 o_a2 i4 ?_
  refine r_topi (fun x5 ex5 => ?_)
  have h := h x5 ex5
  refine r_iconst (pc := 12) C (v := (2 : Int32)) dX11_holds_12 (by decide) ?_
  refine r_icmp_ne (pc := 13) C (tgt := 36) dX11_holds_13 (by decide) (fun c6 => ?_) (fun c6 => ?_)
  · have h := h.1 c6
    refine r_lconst (pc := 36) C (v := (0 : Int64)) dX11_holds_36 (by decide) ?_
    exact r_lret (pc := 37) C E ht dX11_holds_37 (by decide) (by decide) h
  · have h := h.2 c6
    refine r_ldc2 (pc := 16) C (v := (2520 : Int64)) dX11_holds_16 g_1585 ?_
    refine r_aload_n (pc := 19) C dX11_holds_19 0 rfl ?_
    obtain ⟨a7, ea7, h⟩ := h
    refine r_getr (pc := 20) C fL_X11_338 dX11_holds_20 o_v0 ea7 ?_
    obtain ⟨o_a7, h⟩ := h
    obtain ⟨a8, ea8, h⟩ := h
    refine r_getNr (pc := 23) C fN_X11_305 dX11_holds_23 o_a7 ea8 ?_
    refine r_aload_n (pc := 26) C dX11_holds_26 0 rfl ?_
    refine r_geti (pc := 27) C fL_X11_28 dX11_holds_27 o_v0 ?_
    refine r_topi (fun x9 ex9 => ?_)
    have h := h x9 ex9
    obtain ⟨o_a8, h⟩ := h
    obtain ⟨i10, h⟩ := h
    refine r_iald (pc := 30) C dX11_holds_30 o_a8 i10 ?_
    refine r_topi (fun x11 ex11 => ?_)
    have h := h x11 ex11
    refine r_i2l (pc := 31) C dX11_holds_31 ?_
    refine r_lmul (pc := 32) C dX11_holds_32 ?_
    refine r_goto (pc := 33) C (tgt := 37) dX11_holds_33 (by decide) ?_
    exact r_lret (pc := 37) C E ht dX11_holds_37 (by decide) (by decide) h
def P_X11_holds (v0 : Nat) (Q : Int64 → HS → Prop) (S : HS) : Prop := P_X11_holds_0 Q v0 S
theorem c_X11_holds {l : Launch} {Ee : EE} {S : HS} {v0 : Nat} {Q : Int64 → HS → Prop} (h : P_X11_holds v0 Q S) : MJ l yX11_holds cX11_holds 1 (some .long) rm_X11_holds Ee S [.ref v0] Q :=
  openJ (by decide) (Nat.le_of_ble_eq_true rfl) (fun X C E ht hn hE hl => by subst hE; exact r_sub [0] rfl (T_X11_holds_0 C E ht hn h))
def rm_X11_init : Room := { frames := 1, cells := 7, slots := 10664, locals := 20 }
def P_X11_init_0 (Q : HS → Prop) (v0 : Nat) (S : HS) : Prop := ob S v0 11 ∧ (∀ S1 : HS, S1 = sI S v0 2 (-1 : Int32) → (∀ a2 : Nat, a2 ∉ hL S1 → ∀ S3 : HS, S3 = nW S1 a2 12 900 → (∀ S4 : HS, S4 = sR S3 v0 5 (some a2) → (∀ a5 : Nat, a5 ∉ hL S4 → ∀ S6 : HS, S6 = nW S4 a5 14 3208 → (∀ S7 : HS, S7 = sR S6 v0 16 (some a5) → (∀ a8 : Nat, a8 ∉ hL S7 → ∀ S9 : HS, S9 = nW S7 a8 13 3208 → (∀ S10 : HS, S10 = sR S9 v0 17 (some a8) → (∀ a11 : Nat, a11 ∉ hL S10 → ∀ S12 : HS, S12 = nW S10 a11 13 3208 → (∀ S13 : HS, S13 = sR S12 v0 18 (some a11) → (∀ S14 : HS, S14 = sI S13 v0 19 (-2 : Int32) → (∀ a15 : Nat, a15 ∉ hL S14 → ∀ S16 : HS, S16 = nW S14 a15 14 7 → (∀ S17 : HS, S17 = sR S16 v0 21 (some a15) → (∀ a18 : Nat, a18 ∉ hL S17 → ∀ S19 : HS, S19 = nW S17 a18 14 112 → (∀ S20 : HS, S20 = sR S19 v0 22 (some a18) → (∀ a21 : Nat, a21 ∉ hL S20 → ∀ S22 : HS, S22 = nW S20 a21 14 21 → (∀ S23 : HS, S23 = sR S22 v0 23 (some a21) → (Q S23)))))))))))))))))
set_option maxRecDepth 20000 in
set_option maxHeartbeats 4000000 in
theorem T_X11_init_0 {X : CX} {Q : HS → Prop} (C : Cx X cX11_init RX11 1 rm_X11_init) (E : ReV X rm_X11_init Q) (ht : (xh X).sig.returnType = none) (hn : (xh X).name = yX11_init.name) {v0 : Nat} {S : HS} (h : P_X11_init_0 Q v0 S) : WS X 1 0 0 0 [(0, .ref v0)] [] S := by
  refine r_aload_n (pc := 0) C dX11_init_0 0 rfl ?_
  refine r_objinit (pc := 1) C g_1162 dX11_init_1 (by decide) (Nat.le_of_ble_eq_true rfl) ?_
  refine r_aload_n (pc := 4) C dX11_init_4 0 rfl ?_
  refine r_iconst (pc := 5) C (v := (-1 : Int32)) dX11_init_5 (by decide) ?_
  obtain ⟨o_v0, h⟩ := h
  refine r_puti (pc := 6) C pfL_X11_9 dX11_init_6 o_v0 ?_
  refine r_heap (fun S1 eS1 => ?_)
  have h := h S1 eS1
  have o_v0 := ob_I eS1 o_v0
  refine r_aload_n (pc := 9) C dX11_init_9 0 rfl ?_
  refine r_sipush (pc := 10) C (v := (900 : Int32)) dX11_init_10 (by decide) ?_
  refine r_newa12 (pc := 13) C (N := 900) g_71 dX11_init_13 (by decide) (by decide) (by decide) (by decide) (by decide) (fun a2 q36 => ?_)
  refine r_heap (fun S3 eS3 => ?_)
  have h := h a2 q36 S3 eS3
  have g37 := gr_of_new eS3 q36
  have o_a2 := ob_of_new eS3
  have o_v0 := gr_ob g37 o_v0
  refine r_putFr (pc := 15) C pfL_X11_13 hn dX11_init_15 o_v0 ?_
  refine r_heap (fun S4 eS4 => ?_)
  have h := h S4 eS4
  have o_a2 := ob_R eS4 o_a2
  have o_v0 := ob_R eS4 o_v0
  refine r_aload_n (pc := 18) C dX11_init_18 0 rfl ?_
  refine r_sipush (pc := 19) C (v := (3208 : Int32)) dX11_init_19 (by decide) ?_
  refine r_newa14 (pc := 22) C (N := 3208) g_266 dX11_init_22 (by decide) (by decide) (by decide) (by decide) (by decide) (fun a5 q34 => ?_)
  refine r_heap (fun S6 eS6 => ?_)
  have h := h a5 q34 S6 eS6
  have g35 := gr_of_new eS6 q34
  have o_a5 := ob_of_new eS6
  have o_a2 := gr_ob g35 o_a2
  have o_v0 := gr_ob g35 o_v0
  refine r_putFr (pc := 24) C pfL_X11_17 hn dX11_init_24 o_v0 ?_
  refine r_heap (fun S7 eS7 => ?_)
  have h := h S7 eS7
  have o_a2 := ob_R eS7 o_a2
  have o_a5 := ob_R eS7 o_a5
  have o_v0 := ob_R eS7 o_v0
  refine r_aload_n (pc := 27) C dX11_init_27 0 rfl ?_
  refine r_sipush (pc := 28) C (v := (3208 : Int32)) dX11_init_28 (by decide) ?_
  refine r_newa13 (pc := 31) C (N := 3208) g_72 dX11_init_31 (by decide) (by decide) (by decide) (by decide) (by decide) (fun a8 q32 => ?_)
  refine r_heap (fun S9 eS9 => ?_)
  have h := h a8 q32 S9 eS9
  have g33 := gr_of_new eS9 q32
  have o_a8 := ob_of_new eS9
  have o_a2 := gr_ob g33 o_a2
  have o_a5 := gr_ob g33 o_a5
  have o_v0 := gr_ob g33 o_v0
  refine r_putFr (pc := 33) C pfL_X11_21 hn dX11_init_33 o_v0 ?_
  refine r_heap (fun S10 eS10 => ?_)
  have h := h S10 eS10
  have o_a2 := ob_R eS10 o_a2
  have o_a5 := ob_R eS10 o_a5
  have o_a8 := ob_R eS10 o_a8
  have o_v0 := ob_R eS10 o_v0
  refine r_aload_n (pc := 36) C dX11_init_36 0 rfl ?_
  refine r_sipush (pc := 37) C (v := (3208 : Int32)) dX11_init_37 (by decide) ?_
  refine r_newa13 (pc := 40) C (N := 3208) g_72 dX11_init_40 (by decide) (by decide) (by decide) (by decide) (by decide) (fun a11 q30 => ?_)
  refine r_heap (fun S12 eS12 => ?_)
  have h := h a11 q30 S12 eS12
  have g31 := gr_of_new eS12 q30
  have o_a11 := ob_of_new eS12
  have o_a2 := gr_ob g31 o_a2
  have o_a5 := gr_ob g31 o_a5
  have o_a8 := gr_ob g31 o_a8
  have o_v0 := gr_ob g31 o_v0
  refine r_putFr (pc := 42) C pfL_X11_25 hn dX11_init_42 o_v0 ?_
  refine r_heap (fun S13 eS13 => ?_)
  have h := h S13 eS13
  have o_a11 := ob_R eS13 o_a11
  have o_a2 := ob_R eS13 o_a2
  have o_a5 := ob_R eS13 o_a5
  have o_a8 := ob_R eS13 o_a8
  have o_v0 := ob_R eS13 o_v0
  refine r_aload_n (pc := 45) C dX11_init_45 0 rfl ?_
  refine r_bipush (pc := 46) C (v := (-2 : Int32)) dX11_init_46 (by decide) ?_
  refine r_puti (pc := 48) C pfL_X11_28 dX11_init_48 o_v0 ?_
  refine r_heap (fun S14 eS14 => ?_)
  have h := h S14 eS14
  have o_a11 := ob_I eS14 o_a11
  have o_a2 := ob_I eS14 o_a2
  have o_a5 := ob_I eS14 o_a5
  have o_a8 := ob_I eS14 o_a8
  have o_v0 := ob_I eS14 o_v0
  refine r_aload_n (pc := 51) C dX11_init_51 0 rfl ?_
  refine r_bipush (pc := 52) C (v := (7 : Int32)) dX11_init_52 (by decide) ?_
  refine r_newa14 (pc := 54) C (N := 7) g_266 dX11_init_54 (by decide) (by decide) (by decide) (by decide) (by decide) (fun a15 q28 => ?_)
  refine r_heap (fun S16 eS16 => ?_)
  have h := h a15 q28 S16 eS16
  have g29 := gr_of_new eS16 q28
  have o_a15 := ob_of_new eS16
  have o_a11 := gr_ob g29 o_a11
  have o_a2 := gr_ob g29 o_a2
  have o_a5 := gr_ob g29 o_a5
  have o_a8 := gr_ob g29 o_a8
  have o_v0 := gr_ob g29 o_v0
  refine r_putFr (pc := 56) C pfL_X11_31 hn dX11_init_56 o_v0 ?_
  refine r_heap (fun S17 eS17 => ?_)
  have h := h S17 eS17
  have o_a11 := ob_R eS17 o_a11
  have o_a15 := ob_R eS17 o_a15
  have o_a2 := ob_R eS17 o_a2
  have o_a5 := ob_R eS17 o_a5
  have o_a8 := ob_R eS17 o_a8
  have o_v0 := ob_R eS17 o_v0
  refine r_aload_n (pc := 59) C dX11_init_59 0 rfl ?_
  refine r_bipush (pc := 60) C (v := (112 : Int32)) dX11_init_60 (by decide) ?_
  refine r_newa14 (pc := 62) C (N := 112) g_266 dX11_init_62 (by decide) (by decide) (by decide) (by decide) (by decide) (fun a18 q26 => ?_)
  refine r_heap (fun S19 eS19 => ?_)
  have h := h a18 q26 S19 eS19
  have g27 := gr_of_new eS19 q26
  have o_a18 := ob_of_new eS19
  have o_a11 := gr_ob g27 o_a11
  have o_a15 := gr_ob g27 o_a15
  have o_a2 := gr_ob g27 o_a2
  have o_a5 := gr_ob g27 o_a5
  have o_a8 := gr_ob g27 o_a8
  have o_v0 := gr_ob g27 o_v0
  refine r_putFr (pc := 64) C pfL_X11_34 hn dX11_init_64 o_v0 ?_
  refine r_heap (fun S20 eS20 => ?_)
  have h := h S20 eS20
  have o_a11 := ob_R eS20 o_a11
  have o_a15 := ob_R eS20 o_a15
  have o_a18 := ob_R eS20 o_a18
  have o_a2 := ob_R eS20 o_a2
  have o_a5 := ob_R eS20 o_a5
  have o_a8 := ob_R eS20 o_a8
  have o_v0 := ob_R eS20 o_v0
  refine r_aload_n (pc := 67) C dX11_init_67 0 rfl ?_
  refine r_bipush (pc := 68) C (v := (21 : Int32)) dX11_init_68 (by decide) ?_
  refine r_newa14 (pc := 70) C (N := 21) g_266 dX11_init_70 (by decide) (by decide) (by decide) (by decide) (by decide) (fun a21 q24 => ?_)
  refine r_heap (fun S22 eS22 => ?_)
  have h := h a21 q24 S22 eS22
  have g25 := gr_of_new eS22 q24
  have o_a21 := ob_of_new eS22
  have o_a11 := gr_ob g25 o_a11
  have o_a15 := gr_ob g25 o_a15
  have o_a18 := gr_ob g25 o_a18
  have o_a2 := gr_ob g25 o_a2
  have o_a5 := gr_ob g25 o_a5
  have o_a8 := gr_ob g25 o_a8
  have o_v0 := gr_ob g25 o_v0
  refine r_putFr (pc := 72) C pfL_X11_37 hn dX11_init_72 o_v0 ?_
  refine r_heap (fun S23 eS23 => ?_)
  have h := h S23 eS23
  have o_a11 := ob_R eS23 o_a11
  have o_a15 := ob_R eS23 o_a15
  have o_a18 := ob_R eS23 o_a18
  have o_a2 := ob_R eS23 o_a2
  have o_a21 := ob_R eS23 o_a21
  have o_a5 := ob_R eS23 o_a5
  have o_a8 := ob_R eS23 o_a8
  have o_v0 := ob_R eS23 o_v0
  exact r_vret (pc := 75) C E ht dX11_init_75 (by decide) (by decide) h
def P_X11_init (v0 : Nat) (Q : HS → Prop) (S : HS) : Prop := P_X11_init_0 Q v0 S
theorem c_X11_init {l : Launch} {Ee : EE} {S : HS} {v0 : Nat} {Q : HS → Prop} (h : P_X11_init v0 Q S) : MV l yX11_init cX11_init 1 none rm_X11_init Ee S [.ref v0] Q :=
  openV (by decide) (Nat.le_of_ble_eq_true rfl) (fun X C E ht hn hE hl => by subst hE; exact r_sub [0] rfl (T_X11_init_0 C E ht hn h))
def rm_X11_isName : Room := { frames := 7, cells := 0, slots := 0, locals := 164 }
def P_X11_isName_0 (Q : Int32 → HS → Prop) (v0 : Nat) (S : HS) : Prop := ob S v0 11 ∧ (∀ x1 : Int32, x1 = fI S v0 9 → (((¬ x1 = (2 : Int32)) → (Q (0 : Int32) S)) ∧ ((x1 = (2 : Int32)) → (P_X11_isWord v0 27 (fun x5 S3 => Gr S S3 → bl x5 → (((¬ x5 = 0) → (Q (0 : Int32) S3)) ∧ ((x5 = 0) → (P_X11_isWord v0 29 (fun x9 S7 => Gr S3 S7 → bl x9 → (((¬ x9 = 0) → (Q (0 : Int32) S7)) ∧ ((x9 = 0) → (P_X11_isWord v0 38 (fun x13 S11 => Gr S7 S11 → bl x13 → (((¬ x13 = 0) → (Q (0 : Int32) S11)) ∧ ((x13 = 0) → (P_X11_isWord v0 39 (fun x17 S15 => Gr S11 S15 → bl x17 → (((x17 = 0) → (P_X11_isWord v0 40 (fun x21 S19 => Gr S15 S19 → bl x21 → (((¬ x21 = 0) → (Q (0 : Int32) S19)) ∧ ((x21 = 0) → (P_X11_isWord v0 41 (fun x25 S23 => Gr S19 S23 → bl x25 → (((¬ x25 = 0) → (Q (0 : Int32) S23)) ∧ ((x25 = 0) → (P_X11_isWord v0 42 (fun x29 S27 => Gr S23 S27 → bl x29 → (((¬ x29 = 0) → (Q (0 : Int32) S27)) ∧ ((x29 = 0) → (P_X11_isWord v0 43 (fun x33 S31 => Gr S27 S31 → bl x33 → (((¬ x33 = 0) → (Q (0 : Int32) S31)) ∧ ((x33 = 0) → (P_X11_isWord v0 44 (fun x37 S35 => Gr S31 S35 → bl x37 → (((¬ x37 = 0) → (Q (0 : Int32) S35)) ∧ ((x37 = 0) → (Q (1 : Int32) S35)))) S31)))) S27)))) S23)))) S19)))) S15)) ∧ ((¬ x17 = 0) → (Q (0 : Int32) S15)))) S11)))) S7)))) S3)))) S))))
set_option maxRecDepth 20000 in
set_option maxHeartbeats 4000000 in
theorem T_X11_isName_0 {X : CX} {Q : Int32 → HS → Prop} (C : Cx X cX11_isName RX11 1 rm_X11_isName) (E : ReI X rm_X11_isName (fun r S => bl r ∧ Q r S)) (ht : (xh X).sig.returnType = (some .boolean)) (hn : (xh X).name = yX11_isName.name) {v0 : Nat} {S : HS} (h : P_X11_isName_0 Q v0 S) : WS X 1 0 0 0 [(0, .ref v0)] [] S := by
  refine r_aload_n (pc := 0) C dX11_isName_0 0 rfl ?_
  obtain ⟨o_v0, h⟩ := h
  refine r_geti (pc := 1) C fL_X11_68 dX11_isName_1 o_v0 ?_
  refine r_topi (fun x1 ex1 => ?_)
  have h := h x1 ex1
  refine r_iconst (pc := 4) C (v := (2 : Int32)) dX11_isName_4 (by decide) ?_
  refine r_icmp_ne (pc := 5) C (tgt := 44) dX11_isName_5 (by decide) (fun c2 => ?_) (fun c2 => ?_)
  · have h := h.1 c2
    refine r_iconst (pc := 44) C (v := (0 : Int32)) dX11_isName_44 (by decide) ?_
    exact r_zret (pc := 45) C E ht dX11_isName_45 (by decide) (by decide) (Or.inl rfl) h
  · have h := h.2 c2
    refine r_aload_n (pc := 8) C dX11_isName_8 0 rfl ?_
    refine r_lds (pc := 9) C 27 rfl dX11_isName_9 ?_
    refine r_callVi0 (pc := 11) C (rest := []) (a := v0) o_v0 [.ref (eK (xE X) 27)] yV_X11_isWord g_1404 (c_X11_isWord h) dX11_isName_11 rfl rfl (Nat.le_of_ble_eq_true rfl) ⟨by decide, by decide⟩ ⟨by decide, by decide⟩ ⟨rfl, rfl⟩ (fun x5 S3 h g4 => ?_)
    have bx5 := h.1
    have h := h.2 g4 bx5
    have o_v0 := gr_ob g4 o_v0
    refine r_if_ne (pc := 14) C (tgt := 44) dX11_isName_14 (by decide) (fun c6 => ?_) (fun c6 => ?_)
    · have h := h.1 c6
      refine r_iconst (pc := 44) C (v := (0 : Int32)) dX11_isName_44 (by decide) ?_
      exact r_zret (pc := 45) C E ht dX11_isName_45 (by decide) (by decide) (Or.inl rfl) h
    · have h := h.2 c6
      refine r_aload_n (pc := 17) C dX11_isName_17 0 rfl ?_
      refine r_lds (pc := 18) C 29 rfl dX11_isName_18 ?_
      refine r_callVi0 (pc := 20) C (rest := []) (a := v0) o_v0 [.ref (eK (xE X) 29)] yV_X11_isWord g_1404 (c_X11_isWord h) dX11_isName_20 rfl rfl (Nat.le_of_ble_eq_true rfl) ⟨by decide, by decide⟩ ⟨by decide, by decide⟩ ⟨rfl, rfl⟩ (fun x9 S7 h g8 => ?_)
      have bx9 := h.1
      have h := h.2 g8 bx9
      have o_v0 := gr_ob g8 o_v0
      refine r_if_ne (pc := 23) C (tgt := 44) dX11_isName_23 (by decide) (fun c10 => ?_) (fun c10 => ?_)
      · have h := h.1 c10
        refine r_iconst (pc := 44) C (v := (0 : Int32)) dX11_isName_44 (by decide) ?_
        exact r_zret (pc := 45) C E ht dX11_isName_45 (by decide) (by decide) (Or.inl rfl) h
      · have h := h.2 c10
        refine r_aload_n (pc := 26) C dX11_isName_26 0 rfl ?_
        refine r_lds (pc := 27) C 38 rfl dX11_isName_27 ?_
        refine r_callVi0 (pc := 29) C (rest := []) (a := v0) o_v0 [.ref (eK (xE X) 38)] yV_X11_isWord g_1404 (c_X11_isWord h) dX11_isName_29 rfl rfl (Nat.le_of_ble_eq_true rfl) ⟨by decide, by decide⟩ ⟨by decide, by decide⟩ ⟨rfl, rfl⟩ (fun x13 S11 h g12 => ?_)
        have bx13 := h.1
        have h := h.2 g12 bx13
        have o_v0 := gr_ob g12 o_v0
        refine r_if_ne (pc := 32) C (tgt := 44) dX11_isName_32 (by decide) (fun c14 => ?_) (fun c14 => ?_)
        · have h := h.1 c14
          refine r_iconst (pc := 44) C (v := (0 : Int32)) dX11_isName_44 (by decide) ?_
          exact r_zret (pc := 45) C E ht dX11_isName_45 (by decide) (by decide) (Or.inl rfl) h
        · have h := h.2 c14
          refine r_aload_n (pc := 35) C dX11_isName_35 0 rfl ?_
          refine r_lds (pc := 36) C 39 rfl dX11_isName_36 ?_
          refine r_callVi0 (pc := 38) C (rest := []) (a := v0) o_v0 [.ref (eK (xE X) 39)] yV_X11_isWord g_1404 (c_X11_isWord h) dX11_isName_38 rfl rfl (Nat.le_of_ble_eq_true rfl) ⟨by decide, by decide⟩ ⟨by decide, by decide⟩ ⟨rfl, rfl⟩ (fun x17 S15 h g16 => ?_)
          have bx17 := h.1
          have h := h.2 g16 bx17
          have o_v0 := gr_ob g16 o_v0
          refine r_if_eq (pc := 41) C (tgt := 46) dX11_isName_41 (by decide) (fun c18 => ?_) (fun c18 => ?_)
          · have h := h.1 c18
            refine r_aload_n (pc := 46) C dX11_isName_46 0 rfl ?_
            refine r_lds (pc := 47) C 40 rfl dX11_isName_47 ?_
            refine r_callVi0 (pc := 49) C (rest := []) (a := v0) o_v0 [.ref (eK (xE X) 40)] yV_X11_isWord g_1404 (c_X11_isWord h) dX11_isName_49 rfl rfl (Nat.le_of_ble_eq_true rfl) ⟨by decide, by decide⟩ ⟨by decide, by decide⟩ ⟨rfl, rfl⟩ (fun x21 S19 h g20 => ?_)
            have bx21 := h.1
            have h := h.2 g20 bx21
            have o_v0 := gr_ob g20 o_v0
            refine r_if_ne (pc := 52) C (tgt := 95) dX11_isName_52 (by decide) (fun c22 => ?_) (fun c22 => ?_)
            · have h := h.1 c22
              refine r_iconst (pc := 95) C (v := (0 : Int32)) dX11_isName_95 (by decide) ?_
              exact r_zret (pc := 96) C E ht dX11_isName_96 (by decide) (by decide) (Or.inl rfl) h
            · have h := h.2 c22
              refine r_aload_n (pc := 55) C dX11_isName_55 0 rfl ?_
              refine r_lds (pc := 56) C 41 rfl dX11_isName_56 ?_
              refine r_callVi0 (pc := 58) C (rest := []) (a := v0) o_v0 [.ref (eK (xE X) 41)] yV_X11_isWord g_1404 (c_X11_isWord h) dX11_isName_58 rfl rfl (Nat.le_of_ble_eq_true rfl) ⟨by decide, by decide⟩ ⟨by decide, by decide⟩ ⟨rfl, rfl⟩ (fun x25 S23 h g24 => ?_)
              have bx25 := h.1
              have h := h.2 g24 bx25
              have o_v0 := gr_ob g24 o_v0
              refine r_if_ne (pc := 61) C (tgt := 95) dX11_isName_61 (by decide) (fun c26 => ?_) (fun c26 => ?_)
              · have h := h.1 c26
                refine r_iconst (pc := 95) C (v := (0 : Int32)) dX11_isName_95 (by decide) ?_
                exact r_zret (pc := 96) C E ht dX11_isName_96 (by decide) (by decide) (Or.inl rfl) h
              · have h := h.2 c26
                refine r_aload_n (pc := 64) C dX11_isName_64 0 rfl ?_
                refine r_lds (pc := 65) C 42 rfl dX11_isName_65 ?_
                refine r_callVi0 (pc := 67) C (rest := []) (a := v0) o_v0 [.ref (eK (xE X) 42)] yV_X11_isWord g_1404 (c_X11_isWord h) dX11_isName_67 rfl rfl (Nat.le_of_ble_eq_true rfl) ⟨by decide, by decide⟩ ⟨by decide, by decide⟩ ⟨rfl, rfl⟩ (fun x29 S27 h g28 => ?_)
                have bx29 := h.1
                have h := h.2 g28 bx29
                have o_v0 := gr_ob g28 o_v0
                refine r_if_ne (pc := 70) C (tgt := 95) dX11_isName_70 (by decide) (fun c30 => ?_) (fun c30 => ?_)
                · have h := h.1 c30
                  refine r_iconst (pc := 95) C (v := (0 : Int32)) dX11_isName_95 (by decide) ?_
                  exact r_zret (pc := 96) C E ht dX11_isName_96 (by decide) (by decide) (Or.inl rfl) h
                · have h := h.2 c30
                  refine r_aload_n (pc := 73) C dX11_isName_73 0 rfl ?_
                  refine r_lds (pc := 74) C 43 rfl dX11_isName_74 ?_
                  refine r_callVi0 (pc := 76) C (rest := []) (a := v0) o_v0 [.ref (eK (xE X) 43)] yV_X11_isWord g_1404 (c_X11_isWord h) dX11_isName_76 rfl rfl (Nat.le_of_ble_eq_true rfl) ⟨by decide, by decide⟩ ⟨by decide, by decide⟩ ⟨rfl, rfl⟩ (fun x33 S31 h g32 => ?_)
                  have bx33 := h.1
                  have h := h.2 g32 bx33
                  have o_v0 := gr_ob g32 o_v0
                  refine r_if_ne (pc := 79) C (tgt := 95) dX11_isName_79 (by decide) (fun c34 => ?_) (fun c34 => ?_)
                  · have h := h.1 c34
                    refine r_iconst (pc := 95) C (v := (0 : Int32)) dX11_isName_95 (by decide) ?_
                    exact r_zret (pc := 96) C E ht dX11_isName_96 (by decide) (by decide) (Or.inl rfl) h
                  · have h := h.2 c34
                    refine r_aload_n (pc := 82) C dX11_isName_82 0 rfl ?_
                    refine r_lds (pc := 83) C 44 rfl dX11_isName_83 ?_
                    refine r_callVi0 (pc := 85) C (rest := []) (a := v0) o_v0 [.ref (eK (xE X) 44)] yV_X11_isWord g_1404 (c_X11_isWord h) dX11_isName_85 rfl rfl (Nat.le_of_ble_eq_true rfl) ⟨by decide, by decide⟩ ⟨by decide, by decide⟩ ⟨rfl, rfl⟩ (fun x37 S35 h g36 => ?_)
                    have bx37 := h.1
                    have h := h.2 g36 bx37
                    have o_v0 := gr_ob g36 o_v0
                    refine r_if_ne (pc := 88) C (tgt := 95) dX11_isName_88 (by decide) (fun c38 => ?_) (fun c38 => ?_)
                    · have h := h.1 c38
                      refine r_iconst (pc := 95) C (v := (0 : Int32)) dX11_isName_95 (by decide) ?_
                      exact r_zret (pc := 96) C E ht dX11_isName_96 (by decide) (by decide) (Or.inl rfl) h
                    · have h := h.2 c38
                      refine r_iconst (pc := 91) C (v := (1 : Int32)) dX11_isName_91 (by decide) ?_
                      refine r_goto (pc := 92) C (tgt := 96) dX11_isName_92 (by decide) ?_
                      exact r_zret (pc := 96) C E ht dX11_isName_96 (by decide) (by decide) (Or.inr rfl) h
          · have h := h.2 c18
            refine r_iconst (pc := 44) C (v := (0 : Int32)) dX11_isName_44 (by decide) ?_
            exact r_zret (pc := 45) C E ht dX11_isName_45 (by decide) (by decide) (Or.inl rfl) h
def P_X11_isName (v0 : Nat) (Q : Int32 → HS → Prop) (S : HS) : Prop := P_X11_isName_0 Q v0 S
theorem c_X11_isName {l : Launch} {Ee : EE} {S : HS} {v0 : Nat} {Q : Int32 → HS → Prop} (h : P_X11_isName v0 Q S) : MI l yX11_isName cX11_isName 1 (some .boolean) rm_X11_isName Ee S [.ref v0] (fun r S => bl r ∧ Q r S) :=
  openI (by decide) (Nat.le_of_ble_eq_true rfl) (fun X C E ht hn hE hl => by subst hE; exact r_sub [0] rfl (T_X11_isName_0 C E ht hn h))
def rm_X11_known : Room := { frames := 8, cells := 0, slots := 0, locals := 184 }
def P_X11_known_47 (Q : Int32 → HS → Prop) (v0 : Nat) (v2 : Int32) (S : HS) : Prop := ob S v0 11 ∧ (∀ x1 : Int32, x1 = fI S v0 9 → (((¬ x1 = (5 : Int32)) → (∃ a3 : Nat, fR S v0 4 = some a3 ∧ (ob S a3 10 ∧ (∃ a4 : Nat, fR S a3 30 = some a4 ∧ (ob S a4 13 ∧ (vp_in v2 (hN S a4) ∧ ∀ x6 : Int32, x6 = fI S a4 v2.toNatClampNeg → (Q x6 S))))))) ∧ ((x1 = (5 : Int32)) → (Q (0 : Int32) S))))
set_option maxRecDepth 20000 in
set_option maxHeartbeats 4000000 in
theorem T_X11_known_47 {X : CX} {Q : Int32 → HS → Prop} (C : Cx X cX11_known RX11 3 rm_X11_known) (E : ReI X rm_X11_known Q) (ht : (xh X).sig.returnType = (some .int)) (hn : (xh X).name = yX11_known.name) {v0 : Nat} {v2 : Int32} {S : HS} (h : P_X11_known_47 Q v0 v2 S) : WS X 3 0 0 47 [(0, .ref v0), (2, .int v2)] [] S := by
  refine r_aload_n (pc := 47) C dX11_known_47 0 rfl ?_
  obtain ⟨o_v0, h⟩ := h
  refine r_geti (pc := 48) C fL_X11_68 dX11_known_48 o_v0 ?_
  refine r_topi (fun x1 ex1 => ?_)
  have h := h x1 ex1
  refine r_iconst (pc := 51) C (v := (5 : Int32)) dX11_known_51 (by decide) ?_
  refine r_icmp_ne (pc := 52) C (tgt := 59) dX11_known_52 (by decide) (fun c2 => ?_) (fun c2 => ?_)
  · have h := h.1 c2
    refine r_aload_n (pc := 59) C dX11_known_59 0 rfl ?_
    obtain ⟨a3, ea3, h⟩ := h
    refine r_getr (pc := 60) C fL_X11_147 dX11_known_60 o_v0 ea3 ?_
    obtain ⟨o_a3, h⟩ := h
    obtain ⟨a4, ea4, h⟩ := h
    refine r_getNr (pc := 63) C fN_X11_173 dX11_known_63 o_a3 ea4 ?_
    refine r_iload_n (pc := 66) C dX11_known_66 1 rfl ?_
    obtain ⟨o_a4, h⟩ := h
    obtain ⟨i5, h⟩ := h
    refine r_iald (pc := 67) C dX11_known_67 o_a4 i5 ?_
    refine r_topi (fun x6 ex6 => ?_)
    have h := h x6 ex6
    exact r_iret (pc := 68) C E ht dX11_known_68 (by decide) (by decide) h
  · have h := h.2 c2
    refine r_iconst (pc := 55) C (v := (0 : Int32)) dX11_known_55 (by decide) ?_
    refine r_goto (pc := 56) C (tgt := 68) dX11_known_56 (by decide) ?_
    exact r_iret (pc := 68) C E ht dX11_known_68 (by decide) (by decide) h
def P_X11_known_42 (Q : Int32 → HS → Prop) (v0 : Nat) (v2 : Int32) (S : HS) : Prop := ob S v0 11 ∧ (P_X11_flaw v0 (2 : Int32) (fun S1 => Gr S S1 → (P_X11_known_47 Q v0 v2 S1)) S)
set_option maxRecDepth 20000 in
set_option maxHeartbeats 4000000 in
theorem T_X11_known_42 {X : CX} {Q : Int32 → HS → Prop} (C : Cx X cX11_known RX11 3 rm_X11_known) (E : ReI X rm_X11_known Q) (ht : (xh X).sig.returnType = (some .int)) (hn : (xh X).name = yX11_known.name) {v0 : Nat} {v2 : Int32} {S : HS} (h : P_X11_known_42 Q v0 v2 S) : WS X 3 0 0 42 [(0, .ref v0), (2, .int v2)] [] S := by
  refine r_aload_n (pc := 42) C dX11_known_42 0 rfl ?_
  refine r_iconst (pc := 43) C (v := (2 : Int32)) dX11_known_43 (by decide) ?_
  obtain ⟨o_v0, h⟩ := h
  refine r_callVv0 (pc := 44) C (rest := []) (a := v0) o_v0 [.int (2 : Int32)] yV_X11_flaw g_1417 (c_X11_flaw h) dX11_known_44 rfl rfl (Nat.le_of_ble_eq_true rfl) ⟨by decide, by decide⟩ ⟨by decide, by decide⟩ ⟨rfl, rfl⟩ (fun S1 h g2 => ?_)
  have h := h g2
  have o_v0 := gr_ob g2 o_v0
  exact r_sub [0, 1] rfl (T_X11_known_47 C E ht hn h)
def P_X11_known_12 (Q : Int32 → HS → Prop) (v0 : Nat) (v1 : Int32) (S : HS) : Prop := ob S v0 11 ∧ (∃ a1 : Nat, fR S v0 4 = some a1 ∧ (∀ x2 : Int64, x2 = fJ S v0 15 → (ob S a1 10 ∧ (P_X10_find a1 x2 (fun x5 S3 => Gr S S3 → (((x5 = (-1 : Int32)) → (P_X11_known_42 Q v0 x5 S3)) ∧ ((¬ x5 = (-1 : Int32)) → (∃ a7 : Nat, fR S3 v0 4 = some a7 ∧ (ob S3 a7 10 ∧ (∃ a8 : Nat, fR S3 a7 29 = some a8 ∧ (ob S3 a8 13 ∧ (vp_in x5 (hN S3 a8) ∧ ∀ x10 : Int32, x10 = fI S3 a8 x5.toNatClampNeg → (((x10 = v1) → (P_X11_known_47 Q v0 x5 S3)) ∧ ((¬ x10 = v1) → (P_X11_known_42 Q v0 x5 S3))))))))))) S))))
set_option maxRecDepth 20000 in
set_option maxHeartbeats 4000000 in
theorem T_X11_known_12 {X : CX} {Q : Int32 → HS → Prop} (C : Cx X cX11_known RX11 3 rm_X11_known) (E : ReI X rm_X11_known Q) (ht : (xh X).sig.returnType = (some .int)) (hn : (xh X).name = yX11_known.name) {v0 : Nat} {v1 : Int32} {S : HS} (h : P_X11_known_12 Q v0 v1 S) : WS X 3 0 0 12 [(0, .ref v0), (1, .int v1)] [] S := by
  refine r_aload_n (pc := 12) C dX11_known_12 0 rfl ?_
  obtain ⟨o_v0, h⟩ := h
  obtain ⟨a1, ea1, h⟩ := h
  refine r_getr (pc := 13) C fL_X11_147 dX11_known_13 o_v0 ea1 ?_
  refine r_aload_n (pc := 16) C dX11_known_16 0 rfl ?_
  refine r_getl (pc := 17) C fL_X11_87 dX11_known_17 o_v0 ?_
  refine r_topl (fun x2 ex2 => ?_)
  have h := h x2 ex2
  obtain ⟨o_a1, h⟩ := h
  refine r_callVi0 (pc := 20) C (rest := []) (a := a1) o_a1 [.long x2] yV_X10_find g_1477 (c_X10_find h) dX11_known_20 rfl rfl (Nat.le_of_ble_eq_true rfl) ⟨by decide, by decide⟩ ⟨by decide, by decide⟩ ⟨rfl, rfl⟩ (fun x5 S3 h g4 => ?_)
  have h := h g4
  have o_a1 := gr_ob g4 o_a1
  have o_v0 := gr_ob g4 o_v0
  refine r_istore_n (pc := 23) C dX11_known_23 rfl (by decide) (lv' := [(2, .int x5), (0, .ref v0), (1, .int v1)]) rfl ?_
  refine r_iload_n (pc := 24) C dX11_known_24 0 rfl ?_
  refine r_iconst (pc := 25) C (v := (-1 : Int32)) dX11_known_25 (by decide) ?_
  refine r_icmp_eq (pc := 26) C (tgt := 42) dX11_known_26 (by decide) (fun c6 => ?_) (fun c6 => ?_)
  · have h := h.1 c6
    exact r_sub [1, 0] rfl (T_X11_known_42 C E ht hn h)
  · have h := h.2 c6
    refine r_aload_n (pc := 29) C dX11_known_29 1 rfl ?_
    obtain ⟨a7, ea7, h⟩ := h
    refine r_getr (pc := 30) C fL_X11_147 dX11_known_30 o_v0 ea7 ?_
    obtain ⟨o_a7, h⟩ := h
    obtain ⟨a8, ea8, h⟩ := h
    refine r_getNr (pc := 33) C fN_X11_170 dX11_known_33 o_a7 ea8 ?_
    refine r_iload_n (pc := 36) C dX11_known_36 0 rfl ?_
    obtain ⟨o_a8, h⟩ := h
    obtain ⟨i9, h⟩ := h
    refine r_iald (pc := 37) C dX11_known_37 o_a8 i9 ?_
    refine r_topi (fun x10 ex10 => ?_)
    have h := h x10 ex10
    refine r_iload_n (pc := 38) C dX11_known_38 2 rfl ?_
    refine r_icmp_eq (pc := 39) C (tgt := 47) dX11_known_39 (by decide) (fun c11 => ?_) (fun c11 => ?_)
    · have h := h.1 c11
      exact r_sub [1, 0] rfl (T_X11_known_47 C E ht hn h)
    · have h := h.2 c11
      exact r_sub [1, 0] rfl (T_X11_known_42 C E ht hn h)
def P_X11_known_0 (Q : Int32 → HS → Prop) (v0 : Nat) (v1 : Int32) (S : HS) : Prop := ob S v0 11 ∧ (P_X11_isName v0 (fun x3 S1 => Gr S S1 → bl x3 → (((¬ x3 = 0) → (P_X11_known_12 Q v0 v1 S1)) ∧ ((x3 = 0) → (P_X11_flaw v0 (1 : Int32) (fun S5 => Gr S1 S5 → (P_X11_known_12 Q v0 v1 S5)) S1)))) S)
set_option maxRecDepth 20000 in
set_option maxHeartbeats 4000000 in
theorem T_X11_known_0 {X : CX} {Q : Int32 → HS → Prop} (C : Cx X cX11_known RX11 3 rm_X11_known) (E : ReI X rm_X11_known Q) (ht : (xh X).sig.returnType = (some .int)) (hn : (xh X).name = yX11_known.name) {v0 : Nat} {v1 : Int32} {S : HS} (h : P_X11_known_0 Q v0 v1 S) : WS X 3 0 0 0 [(0, .ref v0), (1, .int v1)] [] S := by
  refine r_aload_n (pc := 0) C dX11_known_0 0 rfl ?_
  obtain ⟨o_v0, h⟩ := h
  refine r_callVi0 (pc := 1) C (rest := []) (a := v0) o_v0 [] yV_X11_isName g_1467 (c_X11_isName h) dX11_known_1 rfl rfl (Nat.le_of_ble_eq_true rfl) ⟨by decide, by decide⟩ ⟨by decide, by decide⟩ ⟨rfl, rfl⟩ (fun x3 S1 h g2 => ?_)
  have bx3 := h.1
  have h := h.2 g2 bx3
  have o_v0 := gr_ob g2 o_v0
  refine r_if_ne (pc := 4) C (tgt := 12) dX11_known_4 (by decide) (fun c4 => ?_) (fun c4 => ?_)
  · have h := h.1 c4
    exact r_sub [0, 1] rfl (T_X11_known_12 C E ht hn h)
  · have h := h.2 c4
    refine r_aload_n (pc := 7) C dX11_known_7 0 rfl ?_
    refine r_iconst (pc := 8) C (v := (1 : Int32)) dX11_known_8 (by decide) ?_
    refine r_callVv0 (pc := 9) C (rest := []) (a := v0) o_v0 [.int (1 : Int32)] yV_X11_flaw g_1417 (c_X11_flaw h) dX11_known_9 rfl rfl (Nat.le_of_ble_eq_true rfl) ⟨by decide, by decide⟩ ⟨by decide, by decide⟩ ⟨rfl, rfl⟩ (fun S5 h g6 => ?_)
    have h := h g6
    have o_v0 := gr_ob g6 o_v0
    exact r_sub [0, 1] rfl (T_X11_known_12 C E ht hn h)
def P_X11_known (v0 : Nat) (v1 : Int32) (Q : Int32 → HS → Prop) (S : HS) : Prop := P_X11_known_0 Q v0 v1 S
theorem c_X11_known {l : Launch} {Ee : EE} {S : HS} {v0 : Nat} {v1 : Int32} {Q : Int32 → HS → Prop} (h : P_X11_known v0 v1 Q S) : MI l yX11_known cX11_known 3 (some .int) rm_X11_known Ee S [.ref v0, .int v1] Q :=
  openI (by decide) (Nat.le_of_ble_eq_true rfl) (fun X C E ht hn hE hl => by subst hE; exact r_sub [0, 1] rfl (T_X11_known_0 C E ht hn h))
def rm_X11_spotOf : Room := { frames := 0, cells := 0, slots := 0, locals := 0 }
def P_X11_spotOf_0 (Q : Int32 → HS → Prop) (v0 : Int32) (v1 : Int32) (S : HS) : Prop := Q (((8 : Int32) * v1) + v0) S
set_option maxRecDepth 20000 in
set_option maxHeartbeats 4000000 in
theorem T_X11_spotOf_0 {X : CX} {Q : Int32 → HS → Prop} (C : Cx X cX11_spotOf RX11 2 rm_X11_spotOf) (E : ReI X rm_X11_spotOf Q) (ht : (xh X).sig.returnType = (some .int)) (hn : (xh X).name = yX11_spotOf.name) {v0 : Int32} {v1 : Int32} {S : HS} (h : P_X11_spotOf_0 Q v0 v1 S) : WS X 2 0 0 0 [(0, .int v0), (1, .int v1)] [] S := by
  refine r_bipush (pc := 0) C (v := (8 : Int32)) dX11_spotOf_0 (by decide) ?_
  refine r_iload_n (pc := 2) C dX11_spotOf_2 1 rfl ?_
  refine r_imul (pc := 3) C dX11_spotOf_3 ?_
  refine r_iload_n (pc := 4) C dX11_spotOf_4 0 rfl ?_
  refine r_iadd (pc := 5) C dX11_spotOf_5 ?_
  exact r_iret (pc := 6) C E ht dX11_spotOf_6 (by decide) (by decide) h
def P_X11_spotOf (v0 : Int32) (v1 : Int32) (Q : Int32 → HS → Prop) (S : HS) : Prop := P_X11_spotOf_0 Q v0 v1 S
theorem c_X11_spotOf {l : Launch} {Ee : EE} {S : HS} {v0 : Int32} {v1 : Int32} {Q : Int32 → HS → Prop} (h : P_X11_spotOf v0 v1 Q S) : MI l yX11_spotOf cX11_spotOf 2 (some .int) rm_X11_spotOf Ee S [.int v0, .int v1] Q :=
  openI (by decide) (Nat.le_of_ble_eq_true rfl) (fun X C E ht hn hE hl => by subst hE; exact r_sub [0, 1] rfl (T_X11_spotOf_0 C E ht hn h))
def rm_X11_meanOf : Room := { frames := 6, cells := 0, slots := 0, locals := 163 }
def P_X11_meanOf_0 (Q : Int64 → HS → Prop) (v0 : Nat) (v1 : Int32) (v2 : Int32) (v3 : Int32) (v4 : Int32) (v5 : Int32) (S : HS) : Prop := ob S v0 11 ∧ (P_X11_hourOf v0 v4 (fun x3 S1 => Gr S S1 → (∃ a4 : Nat, fR S1 v0 3 = some a4 ∧ (ob S1 a4 10 ∧ (∀ x5 : Int32, x5 = fI S1 a4 1 → (((x5 ≤ x3) → (Q (0 : Int64) S1)) ∧ ((¬ x5 ≤ x3) → (P_X11_wetOf v0 v1 v2 v3 x3 v5 (fun x9 S7 => Gr S1 S7 → (∃ a10 : Nat, fR S7 v0 3 = some a10 ∧ (ob S7 a10 10 ∧ (∃ a11 : Nat, fR S7 a10 11 = some a11 ∧ (ob S7 a11 13 ∧ (vp_in x3 (hN S7 a11) ∧ ∀ x13 : Int32, x13 = fI S7 a11 x3.toNatClampNeg → (Q (x9 * x13.toInt64) S7))))))) S1))))))) S)
set_option maxRecDepth 20000 in
set_option maxHeartbeats 4000000 in
theorem T_X11_meanOf_0 {X : CX} {Q : Int64 → HS → Prop} (C : Cx X cX11_meanOf RX11 7 rm_X11_meanOf) (E : ReJ X rm_X11_meanOf Q) (ht : (xh X).sig.returnType = (some .long)) (hn : (xh X).name = yX11_meanOf.name) {v0 : Nat} {v1 : Int32} {v2 : Int32} {v3 : Int32} {v4 : Int32} {v5 : Int32} {S : HS} (h : P_X11_meanOf_0 Q v0 v1 v2 v3 v4 v5 S) : WS X 7 0 0 0 [(0, .ref v0), (1, .int v1), (2, .int v2), (3, .int v3), (4, .int v4), (5, .int v5)] [] S := by
  refine r_aload_n (pc := 0) C dX11_meanOf_0 0 rfl ?_
  refine r_iload (pc := 1) C dX11_meanOf_1 4 rfl ?_
  obtain ⟨o_v0, h⟩ := h
  refine r_callVi0 (pc := 3) C (rest := []) (a := v0) o_v0 [.int v4] yV_X11_hourOf g_1707 (c_X11_hourOf h) dX11_meanOf_3 rfl rfl (Nat.le_of_ble_eq_true rfl) ⟨by decide, by decide⟩ ⟨by decide, by decide⟩ ⟨rfl, rfl⟩ (fun x3 S1 h g2 => ?_)
  have h := h g2
  have o_v0 := gr_ob g2 o_v0
  refine r_istore (pc := 6) C dX11_meanOf_6 (by decide) (lv' := [(6, .int x3), (0, .ref v0), (1, .int v1), (2, .int v2), (3, .int v3), (4, .int v4), (5, .int v5)]) rfl ?_
  refine r_iload (pc := 8) C dX11_meanOf_8 0 rfl ?_
  refine r_aload_n (pc := 10) C dX11_meanOf_10 1 rfl ?_
  obtain ⟨a4, ea4, h⟩ := h
  refine r_getr (pc := 11) C fL_X11_338 dX11_meanOf_11 o_v0 ea4 ?_
  obtain ⟨o_a4, h⟩ := h
  refine r_getNi (pc := 14) C fN_X11_219 dX11_meanOf_14 o_a4 ?_
  refine r_topi (fun x5 ex5 => ?_)
  have h := h x5 ex5
  refine r_icmp_ge (pc := 17) C (tgt := 46) dX11_meanOf_17 (by decide) (fun c6 => ?_) (fun c6 => ?_)
  · have h := h.1 c6
    refine r_lconst (pc := 46) C (v := (0 : Int64)) dX11_meanOf_46 (by decide) ?_
    exact r_lret (pc := 47) C E ht dX11_meanOf_47 (by decide) (by decide) h
  · have h := h.2 c6
    refine r_aload_n (pc := 20) C dX11_meanOf_20 1 rfl ?_
    refine r_iload_n (pc := 21) C dX11_meanOf_21 2 rfl ?_
    refine r_iload_n (pc := 22) C dX11_meanOf_22 3 rfl ?_
    refine r_iload_n (pc := 23) C dX11_meanOf_23 4 rfl ?_
    refine r_iload (pc := 24) C dX11_meanOf_24 0 rfl ?_
    refine r_iload (pc := 26) C dX11_meanOf_26 6 rfl ?_
    refine r_callVl0 (pc := 28) C (rest := []) (a := v0) o_v0 [.int v1, .int v2, .int v3, .int x3, .int v5] yV_X11_wetOf g_1594 (c_X11_wetOf h) dX11_meanOf_28 rfl rfl (Nat.le_of_ble_eq_true rfl) ⟨by decide, by decide⟩ ⟨by decide, by decide⟩ ⟨rfl, rfl⟩ (fun x9 S7 h g8 => ?_)
    have h := h g8
    have o_a4 := gr_ob g8 o_a4
    have o_v0 := gr_ob g8 o_v0
    refine r_aload_n (pc := 31) C dX11_meanOf_31 1 rfl ?_
    obtain ⟨a10, ea10, h⟩ := h
    refine r_getr (pc := 32) C fL_X11_338 dX11_meanOf_32 o_v0 ea10 ?_
    obtain ⟨o_a10, h⟩ := h
    obtain ⟨a11, ea11, h⟩ := h
    refine r_getNr (pc := 35) C fN_X11_246 dX11_meanOf_35 o_a10 ea11 ?_
    refine r_iload (pc := 38) C dX11_meanOf_38 0 rfl ?_
    obtain ⟨o_a11, h⟩ := h
    obtain ⟨i12, h⟩ := h
    refine r_iald (pc := 40) C dX11_meanOf_40 o_a11 i12 ?_
    refine r_topi (fun x13 ex13 => ?_)
    have h := h x13 ex13
    refine r_i2l (pc := 41) C dX11_meanOf_41 ?_
    refine r_lmul (pc := 42) C dX11_meanOf_42 ?_
    refine r_goto (pc := 43) C (tgt := 47) dX11_meanOf_43 (by decide) ?_
    exact r_lret (pc := 47) C E ht dX11_meanOf_47 (by decide) (by decide) h
def P_X11_meanOf (v0 : Nat) (v1 : Int32) (v2 : Int32) (v3 : Int32) (v4 : Int32) (v5 : Int32) (Q : Int64 → HS → Prop) (S : HS) : Prop := P_X11_meanOf_0 Q v0 v1 v2 v3 v4 v5 S
theorem c_X11_meanOf {l : Launch} {Ee : EE} {S : HS} {v0 : Nat} {v1 : Int32} {v2 : Int32} {v3 : Int32} {v4 : Int32} {v5 : Int32} {Q : Int64 → HS → Prop} (h : P_X11_meanOf v0 v1 v2 v3 v4 v5 Q S) : MJ l yX11_meanOf cX11_meanOf 7 (some .long) rm_X11_meanOf Ee S [.ref v0, .int v1, .int v2, .int v3, .int v4, .int v5] Q :=
  openJ (by decide) (Nat.le_of_ble_eq_true rfl) (fun X C E ht hn hE hl => by subst hE; exact r_sub [0, 1, 2, 3, 4, 5] rfl (T_X11_meanOf_0 C E ht hn h))
def rm_X11_takes : Room := { frames := 0, cells := 0, slots := 0, locals := 0 }
def P_X11_takes_77 (Q : HS → Prop) (v0 : Nat) (v1 : Int32) (v2 : Int32) (v5 : Int32) (v6 : Int64) (S : HS) : Prop := ob S v0 11 ∧ (∃ a1 : Nat, fR S v0 16 = some a1 ∧ (ob S a1 14 ∧ (vp_in v1 (hN S a1) ∧ (∀ S3 : HS, S3 = sJ S a1 v1.toNatClampNeg v6 → (∃ a4 : Nat, fR S3 v0 17 = some a4 ∧ (∃ a5 : Nat, fR S3 v0 17 = some a5 ∧ (ob S3 a5 13 ∧ (vp_in v2 (hN S3 a5) ∧ ∀ x7 : Int32, x7 = fI S3 a5 v2.toNatClampNeg → (ob S3 a4 13 ∧ (vp_in v1 (hN S3 a4) ∧ (∀ S9 : HS, S9 = sI S3 a4 v1.toNatClampNeg x7 → (∃ a10 : Nat, fR S9 v0 18 = some a10 ∧ (ob S9 a10 13 ∧ (vp_in v1 (hN S9 a10) ∧ (∀ S12 : HS, S12 = sI S9 a10 v1.toNatClampNeg v5 → (Q S12))))))))))))))))
set_option maxRecDepth 20000 in
set_option maxHeartbeats 4000000 in
theorem T_X11_takes_77 {X : CX} {Q : HS → Prop} (C : Cx X cX11_takes RX11 8 rm_X11_takes) (E : ReV X rm_X11_takes Q) (ht : (xh X).sig.returnType = none) (hn : (xh X).name = yX11_takes.name) {v0 : Nat} {v1 : Int32} {v2 : Int32} {v5 : Int32} {v6 : Int64} {S : HS} (h : P_X11_takes_77 Q v0 v1 v2 v5 v6 S) : WS X 8 0 0 77 [(0, .ref v0), (1, .int v1), (2, .int v2), (5, .int v5), (6, .long v6)] [] S := by
  refine r_aload_n (pc := 77) C dX11_takes_77 0 rfl ?_
  obtain ⟨o_v0, h⟩ := h
  obtain ⟨a1, ea1, h⟩ := h
  refine r_getr (pc := 78) C fL_X11_17 dX11_takes_78 o_v0 ea1 ?_
  refine r_iload_n (pc := 81) C dX11_takes_81 1 rfl ?_
  refine r_lload (pc := 82) C dX11_takes_82 4 rfl ?_
  obtain ⟨o_a1, h⟩ := h
  obtain ⟨i2, h⟩ := h
  refine r_last (pc := 84) C dX11_takes_84 o_a1 i2 ?_
  refine r_heap (fun S3 eS3 => ?_)
  have h := h S3 eS3
  have o_a1 := ob_J eS3 o_a1
  have o_v0 := ob_J eS3 o_v0
  refine r_aload_n (pc := 85) C dX11_takes_85 0 rfl ?_
  obtain ⟨a4, ea4, h⟩ := h
  refine r_getr (pc := 86) C fL_X11_21 dX11_takes_86 o_v0 ea4 ?_
  refine r_iload_n (pc := 89) C dX11_takes_89 1 rfl ?_
  refine r_aload_n (pc := 90) C dX11_takes_90 0 rfl ?_
  obtain ⟨a5, ea5, h⟩ := h
  refine r_getr (pc := 91) C fL_X11_21 dX11_takes_91 o_v0 ea5 ?_
  refine r_iload_n (pc := 94) C dX11_takes_94 2 rfl ?_
  obtain ⟨o_a5, h⟩ := h
  obtain ⟨i6, h⟩ := h
  refine r_iald (pc := 95) C dX11_takes_95 o_a5 i6 ?_
  refine r_topi (fun x7 ex7 => ?_)
  have h := h x7 ex7
  obtain ⟨o_a4, h⟩ := h
  obtain ⟨i8, h⟩ := h
  refine r_iast (pc := 96) C dX11_takes_96 o_a4 i8 ?_
  refine r_heap (fun S9 eS9 => ?_)
  have h := h S9 eS9
  have o_a1 := ob_I eS9 o_a1
  have o_a4 := ob_I eS9 o_a4
  have o_a5 := ob_I eS9 o_a5
  have o_v0 := ob_I eS9 o_v0
  refine r_aload_n (pc := 97) C dX11_takes_97 0 rfl ?_
  obtain ⟨a10, ea10, h⟩ := h
  refine r_getr (pc := 98) C fL_X11_25 dX11_takes_98 o_v0 ea10 ?_
  refine r_iload_n (pc := 101) C dX11_takes_101 1 rfl ?_
  refine r_iload (pc := 102) C dX11_takes_102 3 rfl ?_
  obtain ⟨o_a10, h⟩ := h
  obtain ⟨i11, h⟩ := h
  refine r_iast (pc := 104) C dX11_takes_104 o_a10 i11 ?_
  refine r_heap (fun S12 eS12 => ?_)
  have h := h S12 eS12
  have o_a1 := ob_I eS12 o_a1
  have o_a10 := ob_I eS12 o_a10
  have o_a4 := ob_I eS12 o_a4
  have o_a5 := ob_I eS12 o_a5
  have o_v0 := ob_I eS12 o_v0
  exact r_vret (pc := 105) C E ht dX11_takes_105 (by decide) (by decide) h
def P_X11_takes_0 (Q : HS → Prop) (v0 : Nat) (v1 : Int32) (v2 : Int32) (v3 : Int64) (v5 : Int32) (S : HS) : Prop := ob S v0 11 ∧ (∃ a1 : Nat, fR S v0 16 = some a1 ∧ (ob S a1 14 ∧ (vp_in v2 (hN S a1) ∧ ∀ x3 : Int64, x3 = fJ S a1 v2.toNatClampNeg → (((¬ (lg_cmp x3 (-1 : Int64)) = 0) → (∃ a5 : Nat, fR S v0 16 = some a5 ∧ (ob S a5 14 ∧ (vp_in v2 (hN S a5) ∧ ∀ x7 : Int64, x7 = fJ S a5 v2.toNatClampNeg → (∀ x8 : Int64, x8 = v3 + x7 → (∃ a9 : Nat, fR S v0 16 = some a9 ∧ (ob S a9 14 ∧ (vp_in v1 (hN S a9) ∧ ∀ x11 : Int64, x11 = fJ S a9 v1.toNatClampNeg → ((((lg_cmp x11 (-1 : Int64)) = 0) → (P_X11_takes_77 Q v0 v1 v2 v5 x8 S)) ∧ ((¬ (lg_cmp x11 (-1 : Int64)) = 0) → (∃ a13 : Nat, fR S v0 16 = some a13 ∧ (ob S a13 14 ∧ (vp_in v1 (hN S a13) ∧ ∀ x15 : Int64, x15 = fJ S a13 v1.toNatClampNeg → (((0 < (lg_cmp x8 x15)) → (Q S)) ∧ ((¬ 0 < (lg_cmp x8 x15)) → (∃ a17 : Nat, fR S v0 16 = some a17 ∧ (ob S a17 14 ∧ (vp_in v1 (hN S a17) ∧ ∀ x19 : Int64, x19 = fJ S a17 v1.toNatClampNeg → (((¬ (lg_cmp x8 x19) = 0) → (P_X11_takes_77 Q v0 v1 v2 v5 x8 S)) ∧ (((lg_cmp x8 x19) = 0) → (∃ a21 : Nat, fR S v0 17 = some a21 ∧ (ob S a21 13 ∧ (vp_in v2 (hN S a21) ∧ ∀ x23 : Int32, x23 = fI S a21 v2.toNatClampNeg → (∃ a24 : Nat, fR S v0 17 = some a24 ∧ (ob S a24 13 ∧ (vp_in v1 (hN S a24) ∧ ∀ x26 : Int32, x26 = fI S a24 v1.toNatClampNeg → (((x23 < x26) → (P_X11_takes_77 Q v0 v1 v2 v5 x8 S)) ∧ ((¬ x23 < x26) → (Q S))))))))))))))))))))))))))))) ∧ (((lg_cmp x3 (-1 : Int64)) = 0) → (Q S))))))
set_option maxRecDepth 20000 in
set_option maxHeartbeats 4000000 in
theorem T_X11_takes_0 {X : CX} {Q : HS → Prop} (C : Cx X cX11_takes RX11 8 rm_X11_takes) (E : ReV X rm_X11_takes Q) (ht : (xh X).sig.returnType = none) (hn : (xh X).name = yX11_takes.name) {v0 : Nat} {v1 : Int32} {v2 : Int32} {v3 : Int64} {v5 : Int32} {S : HS} (h : P_X11_takes_0 Q v0 v1 v2 v3 v5 S) : WS X 8 0 0 0 [(0, .ref v0), (1, .int v1), (2, .int v2), (3, .long v3), (5, .int v5)] [] S := by
  refine r_aload_n (pc := 0) C dX11_takes_0 0 rfl ?_
  obtain ⟨o_v0, h⟩ := h
  obtain ⟨a1, ea1, h⟩ := h
  refine r_getr (pc := 1) C fL_X11_17 dX11_takes_1 o_v0 ea1 ?_
  refine r_iload_n (pc := 4) C dX11_takes_4 2 rfl ?_
  obtain ⟨o_a1, h⟩ := h
  obtain ⟨i2, h⟩ := h
  refine r_lald (pc := 5) C dX11_takes_5 o_a1 i2 ?_
  refine r_topl (fun x3 ex3 => ?_)
  have h := h x3 ex3
  refine r_ldc2 (pc := 6) C (v := (-1 : Int64)) dX11_takes_6 g_1690 ?_
  refine r_lcmp (pc := 9) C dX11_takes_9 ?_
  refine r_if_ne (pc := 10) C (tgt := 14) dX11_takes_10 (by decide) (fun c4 => ?_) (fun c4 => ?_)
  · have h := h.1 c4
    refine r_lload_n (pc := 14) C dX11_takes_14 3 rfl ?_
    refine r_aload_n (pc := 15) C dX11_takes_15 0 rfl ?_
    obtain ⟨a5, ea5, h⟩ := h
    refine r_getr (pc := 16) C fL_X11_17 dX11_takes_16 o_v0 ea5 ?_
    refine r_iload_n (pc := 19) C dX11_takes_19 2 rfl ?_
    obtain ⟨o_a5, h⟩ := h
    obtain ⟨i6, h⟩ := h
    refine r_lald (pc := 20) C dX11_takes_20 o_a5 i6 ?_
    refine r_topl (fun x7 ex7 => ?_)
    have h := h x7 ex7
    refine r_ladd (pc := 21) C dX11_takes_21 ?_
    refine r_topl (fun x8 ex8 => ?_)
    have h := h x8 ex8
    refine r_lstore (pc := 22) C dX11_takes_22 (by decide) (lv' := [(6, .long x8), (0, .ref v0), (1, .int v1), (2, .int v2), (3, .long v3), (5, .int v5)]) rfl ?_
    refine r_aload_n (pc := 24) C dX11_takes_24 1 rfl ?_
    obtain ⟨a9, ea9, h⟩ := h
    refine r_getr (pc := 25) C fL_X11_17 dX11_takes_25 o_v0 ea9 ?_
    refine r_iload_n (pc := 28) C dX11_takes_28 2 rfl ?_
    obtain ⟨o_a9, h⟩ := h
    obtain ⟨i10, h⟩ := h
    refine r_lald (pc := 29) C dX11_takes_29 o_a9 i10 ?_
    refine r_topl (fun x11 ex11 => ?_)
    have h := h x11 ex11
    refine r_ldc2 (pc := 30) C (v := (-1 : Int64)) dX11_takes_30 g_1690 ?_
    refine r_lcmp (pc := 33) C dX11_takes_33 ?_
    refine r_if_eq (pc := 34) C (tgt := 77) dX11_takes_34 (by decide) (fun c12 => ?_) (fun c12 => ?_)
    · have h := h.1 c12
      exact r_sub [1, 2, 3, 5, 0] rfl (T_X11_takes_77 C E ht hn h)
    · have h := h.2 c12
      refine r_lload (pc := 37) C dX11_takes_37 0 rfl ?_
      refine r_aload_n (pc := 39) C dX11_takes_39 1 rfl ?_
      obtain ⟨a13, ea13, h⟩ := h
      refine r_getr (pc := 40) C fL_X11_17 dX11_takes_40 o_v0 ea13 ?_
      refine r_iload_n (pc := 43) C dX11_takes_43 2 rfl ?_
      obtain ⟨o_a13, h⟩ := h
      obtain ⟨i14, h⟩ := h
      refine r_lald (pc := 44) C dX11_takes_44 o_a13 i14 ?_
      refine r_topl (fun x15 ex15 => ?_)
      have h := h x15 ex15
      refine r_lcmp (pc := 45) C dX11_takes_45 ?_
      refine r_if_gt (pc := 46) C (tgt := 76) dX11_takes_46 (by decide) (fun c16 => ?_) (fun c16 => ?_)
      · have h := h.1 c16
        exact r_vret (pc := 76) C E ht dX11_takes_76 (by decide) (by decide) h
      · have h := h.2 c16
        refine r_lload (pc := 49) C dX11_takes_49 0 rfl ?_
        refine r_aload_n (pc := 51) C dX11_takes_51 1 rfl ?_
        obtain ⟨a17, ea17, h⟩ := h
        refine r_getr (pc := 52) C fL_X11_17 dX11_takes_52 o_v0 ea17 ?_
        refine r_iload_n (pc := 55) C dX11_takes_55 2 rfl ?_
        obtain ⟨o_a17, h⟩ := h
        obtain ⟨i18, h⟩ := h
        refine r_lald (pc := 56) C dX11_takes_56 o_a17 i18 ?_
        refine r_topl (fun x19 ex19 => ?_)
        have h := h x19 ex19
        refine r_lcmp (pc := 57) C dX11_takes_57 ?_
        refine r_if_ne (pc := 58) C (tgt := 77) dX11_takes_58 (by decide) (fun c20 => ?_) (fun c20 => ?_)
        · have h := h.1 c20
          exact r_sub [1, 2, 3, 5, 0] rfl (T_X11_takes_77 C E ht hn h)
        · have h := h.2 c20
          refine r_aload_n (pc := 61) C dX11_takes_61 1 rfl ?_
          obtain ⟨a21, ea21, h⟩ := h
          refine r_getr (pc := 62) C fL_X11_21 dX11_takes_62 o_v0 ea21 ?_
          refine r_iload_n (pc := 65) C dX11_takes_65 3 rfl ?_
          obtain ⟨o_a21, h⟩ := h
          obtain ⟨i22, h⟩ := h
          refine r_iald (pc := 66) C dX11_takes_66 o_a21 i22 ?_
          refine r_topi (fun x23 ex23 => ?_)
          have h := h x23 ex23
          refine r_aload_n (pc := 67) C dX11_takes_67 1 rfl ?_
          obtain ⟨a24, ea24, h⟩ := h
          refine r_getr (pc := 68) C fL_X11_21 dX11_takes_68 o_v0 ea24 ?_
          refine r_iload_n (pc := 71) C dX11_takes_71 2 rfl ?_
          obtain ⟨o_a24, h⟩ := h
          obtain ⟨i25, h⟩ := h
          refine r_iald (pc := 72) C dX11_takes_72 o_a24 i25 ?_
          refine r_topi (fun x26 ex26 => ?_)
          have h := h x26 ex26
          refine r_icmp_lt (pc := 73) C (tgt := 77) dX11_takes_73 (by decide) (fun c27 => ?_) (fun c27 => ?_)
          · have h := h.1 c27
            exact r_sub [1, 2, 3, 5, 0] rfl (T_X11_takes_77 C E ht hn h)
          · have h := h.2 c27
            exact r_vret (pc := 76) C E ht dX11_takes_76 (by decide) (by decide) h
  · have h := h.2 c4
    exact r_vret (pc := 13) C E ht dX11_takes_13 (by decide) (by decide) h
def P_X11_takes (v0 : Nat) (v1 : Int32) (v2 : Int32) (v3 : Int64) (v5 : Int32) (Q : HS → Prop) (S : HS) : Prop := P_X11_takes_0 Q v0 v1 v2 v3 v5 S
theorem c_X11_takes {l : Launch} {Ee : EE} {S : HS} {v0 : Nat} {v1 : Int32} {v2 : Int32} {v3 : Int64} {v5 : Int32} {Q : HS → Prop} (h : P_X11_takes v0 v1 v2 v3 v5 Q S) : MV l yX11_takes cX11_takes 8 none rm_X11_takes Ee S [.ref v0, .int v1, .int v2, .long v3, .int v5] Q :=
  openV (by decide) (Nat.le_of_ble_eq_true rfl) (fun X C E ht hn hE hl => by subst hE; exact r_sub [0, 1, 2, 3, 4] rfl (T_X11_takes_0 C E ht hn h))
def rm_X11_waitsOf : Room := { frames := 2, cells := 0, slots := 0, locals := 43 }
def P_X11_waitsOf_0 (Q : Int64 → HS → Prop) (v0 : Nat) (v1 : Int32) (v2 : Int32) (v3 : Int32) (S : HS) : Prop := ob S v0 11 ∧ (P_X11_hourOf v0 v3 (fun x3 S1 => Gr S S1 → (∃ a4 : Nat, fR S1 v0 3 = some a4 ∧ (ob S1 a4 10 ∧ (∃ a5 : Nat, fR S1 a4 18 = some a5 ∧ (ob S1 a5 15 ∧ (vp_in v2 (hN S1 a5) ∧ ∀ x7 : Int32, x7 = fI S1 a5 v2.toNatClampNeg → (((¬ x7 = 0) → (Q (0 : Int64) S1)) ∧ ((x7 = 0) → (∃ a9 : Nat, fR S1 v0 3 = some a9 ∧ (ob S1 a9 10 ∧ (∀ x10 : Int32, x10 = fI S1 a9 1 → (((x3 < x10) → (P_X11_drips v0 v1 v2 (fun x14 S12 => Gr S1 S12 → (∃ a15 : Nat, fR S12 v0 3 = some a15 ∧ (ob S12 a15 10 ∧ (∃ a16 : Nat, fR S12 a15 11 = some a16 ∧ (ob S12 a16 13 ∧ (vp_in x3 (hN S12 a16) ∧ ∀ x18 : Int32, x18 = fI S12 a16 x3.toNatClampNeg → (Q (x14 * x18.toInt64) S12))))))) S1)) ∧ ((¬ x3 < x10) → (Q (0 : Int64) S1)))))))))))))) S)
set_option maxRecDepth 20000 in
set_option maxHeartbeats 4000000 in
theorem T_X11_waitsOf_0 {X : CX} {Q : Int64 → HS → Prop} (C : Cx X cX11_waitsOf RX11 5 rm_X11_waitsOf) (E : ReJ X rm_X11_waitsOf Q) (ht : (xh X).sig.returnType = (some .long)) (hn : (xh X).name = yX11_waitsOf.name) {v0 : Nat} {v1 : Int32} {v2 : Int32} {v3 : Int32} {S : HS} (h : P_X11_waitsOf_0 Q v0 v1 v2 v3 S) : WS X 5 0 0 0 [(0, .ref v0), (1, .int v1), (2, .int v2), (3, .int v3)] [] S := by
  refine r_aload_n (pc := 0) C dX11_waitsOf_0 0 rfl ?_
  refine r_iload_n (pc := 1) C dX11_waitsOf_1 3 rfl ?_
  obtain ⟨o_v0, h⟩ := h
  refine r_callVi0 (pc := 2) C (rest := []) (a := v0) o_v0 [.int v3] yV_X11_hourOf g_1707 (c_X11_hourOf h) dX11_waitsOf_2 rfl rfl (Nat.le_of_ble_eq_true rfl) ⟨by decide, by decide⟩ ⟨by decide, by decide⟩ ⟨rfl, rfl⟩ (fun x3 S1 h g2 => ?_)
  have h := h g2
  have o_v0 := gr_ob g2 o_v0
  refine r_istore (pc := 5) C dX11_waitsOf_5 (by decide) (lv' := [(4, .int x3), (0, .ref v0), (1, .int v1), (2, .int v2), (3, .int v3)]) rfl ?_
  refine r_aload_n (pc := 7) C dX11_waitsOf_7 1 rfl ?_
  obtain ⟨a4, ea4, h⟩ := h
  refine r_getr (pc := 8) C fL_X11_338 dX11_waitsOf_8 o_v0 ea4 ?_
  obtain ⟨o_a4, h⟩ := h
  obtain ⟨a5, ea5, h⟩ := h
  refine r_getNr (pc := 11) C fN_X11_258 dX11_waitsOf_11 o_a4 ea5 ?_
  refine r_iload_n (pc := 14) C dX11_waitsOf_14 3 rfl ?_
  obtain ⟨o_a5, h⟩ := h
  obtain ⟨i6, h⟩ := h
  refine r_zald (pc := 15) C dX11_waitsOf_15 o_a5 i6 ?_
  refine r_topi (fun x7 ex7 => ?_)
  have h := h x7 ex7
  refine r_if_ne (pc := 16) C (tgt := 31) dX11_waitsOf_16 (by decide) (fun c8 => ?_) (fun c8 => ?_)
  · have h := h.1 c8
    refine r_lconst (pc := 31) C (v := (0 : Int64)) dX11_waitsOf_31 (by decide) ?_
    refine r_goto (pc := 32) C (tgt := 53) dX11_waitsOf_32 (by decide) ?_
    exact r_lret (pc := 53) C E ht dX11_waitsOf_53 (by decide) (by decide) h
  · have h := h.2 c8
    refine r_iload (pc := 19) C dX11_waitsOf_19 0 rfl ?_
    refine r_aload_n (pc := 21) C dX11_waitsOf_21 1 rfl ?_
    obtain ⟨a9, ea9, h⟩ := h
    refine r_getr (pc := 22) C fL_X11_338 dX11_waitsOf_22 o_v0 ea9 ?_
    obtain ⟨o_a9, h⟩ := h
    refine r_getNi (pc := 25) C fN_X11_219 dX11_waitsOf_25 o_a9 ?_
    refine r_topi (fun x10 ex10 => ?_)
    have h := h x10 ex10
    refine r_icmp_lt (pc := 28) C (tgt := 35) dX11_waitsOf_28 (by decide) (fun c11 => ?_) (fun c11 => ?_)
    · have h := h.1 c11
      refine r_aload_n (pc := 35) C dX11_waitsOf_35 1 rfl ?_
      refine r_iload_n (pc := 36) C dX11_waitsOf_36 2 rfl ?_
      refine r_iload_n (pc := 37) C dX11_waitsOf_37 3 rfl ?_
      refine r_callVl0 (pc := 38) C (rest := []) (a := v0) o_v0 [.int v1, .int v2] yV_X11_drips g_1723 (c_X11_drips h) dX11_waitsOf_38 rfl rfl (Nat.le_of_ble_eq_true rfl) ⟨by decide, by decide⟩ ⟨by decide, by decide⟩ ⟨rfl, rfl⟩ (fun x14 S12 h g13 => ?_)
      have h := h g13
      have o_a4 := gr_ob g13 o_a4
      have o_a5 := gr_ob g13 o_a5
      have o_a9 := gr_ob g13 o_a9
      have o_v0 := gr_ob g13 o_v0
      refine r_aload_n (pc := 41) C dX11_waitsOf_41 1 rfl ?_
      obtain ⟨a15, ea15, h⟩ := h
      refine r_getr (pc := 42) C fL_X11_338 dX11_waitsOf_42 o_v0 ea15 ?_
      obtain ⟨o_a15, h⟩ := h
      obtain ⟨a16, ea16, h⟩ := h
      refine r_getNr (pc := 45) C fN_X11_246 dX11_waitsOf_45 o_a15 ea16 ?_
      refine r_iload (pc := 48) C dX11_waitsOf_48 0 rfl ?_
      obtain ⟨o_a16, h⟩ := h
      obtain ⟨i17, h⟩ := h
      refine r_iald (pc := 50) C dX11_waitsOf_50 o_a16 i17 ?_
      refine r_topi (fun x18 ex18 => ?_)
      have h := h x18 ex18
      refine r_i2l (pc := 51) C dX11_waitsOf_51 ?_
      refine r_lmul (pc := 52) C dX11_waitsOf_52 ?_
      exact r_lret (pc := 53) C E ht dX11_waitsOf_53 (by decide) (by decide) h
    · have h := h.2 c11
      refine r_lconst (pc := 31) C (v := (0 : Int64)) dX11_waitsOf_31 (by decide) ?_
      refine r_goto (pc := 32) C (tgt := 53) dX11_waitsOf_32 (by decide) ?_
      exact r_lret (pc := 53) C E ht dX11_waitsOf_53 (by decide) (by decide) h
def P_X11_waitsOf (v0 : Nat) (v1 : Int32) (v2 : Int32) (v3 : Int32) (Q : Int64 → HS → Prop) (S : HS) : Prop := P_X11_waitsOf_0 Q v0 v1 v2 v3 S
theorem c_X11_waitsOf {l : Launch} {Ee : EE} {S : HS} {v0 : Nat} {v1 : Int32} {v2 : Int32} {v3 : Int32} {Q : Int64 → HS → Prop} (h : P_X11_waitsOf v0 v1 v2 v3 Q S) : MJ l yX11_waitsOf cX11_waitsOf 5 (some .long) rm_X11_waitsOf Ee S [.ref v0, .int v1, .int v2, .int v3] Q :=
  openJ (by decide) (Nat.le_of_ble_eq_true rfl) (fun X C E ht hn hE hl => by subst hE; exact r_sub [0, 1, 2, 3] rfl (T_X11_waitsOf_0 C E ht hn h))
def rm_X11_tries : Room := { frames := 7, cells := 0, slots := 0, locals := 189 }
def P_X11_tries_140 (Q : HS → Prop) (X3 : Nat → Int32 → Int32 → Int32 → Int32 → Int32 → HS → Prop) (X18 : Nat → Int32 → Int32 → Int32 → Int32 → Int32 → Int32 → HS → Prop) (X53 : Nat → Int32 → Int32 → Int32 → Int32 → Int32 → Int32 → Int32 → HS → Prop) (v0 : Nat) (v1 : Int32) (v2 : Int32) (v3 : Int32) (v4 : Int32) (v5 : Int32) (v6 : Int32) (v7 : Int32) (S : HS) : Prop := ∀ x1 : Int32, x1 = v7 + (1 : Int32) → (X53 v0 v1 v2 v3 v4 v5 v6 x1 S)
set_option maxRecDepth 20000 in
set_option maxHeartbeats 4000000 in
theorem T_X11_tries_140 {X : CX} {Q : HS → Prop} (C : Cx X cX11_tries RX11 9 rm_X11_tries) (E : ReV X rm_X11_tries Q) (ht : (xh X).sig.returnType = none) (hn : (xh X).name = yX11_tries.name) {X3 : Nat → Int32 → Int32 → Int32 → Int32 → Int32 → HS → Prop} (hX3 : ∀ (v0 : Nat) (v1 : Int32) (v2 : Int32) (v3 : Int32) (v4 : Int32) (v5 : Int32) (S : HS), X3 v0 v1 v2 v3 v4 v5 S → WS X 9 0 0 3 [(0, .ref v0), (1, .int v1), (2, .int v2), (3, .int v3), (4, .int v4), (5, .int v5)] [] S) {X18 : Nat → Int32 → Int32 → Int32 → Int32 → Int32 → Int32 → HS → Prop} (hX18 : ∀ (v0 : Nat) (v1 : Int32) (v2 : Int32) (v3 : Int32) (v4 : Int32) (v5 : Int32) (v6 : Int32) (S : HS), X18 v0 v1 v2 v3 v4 v5 v6 S → WS X 9 0 0 18 [(0, .ref v0), (1, .int v1), (2, .int v2), (3, .int v3), (4, .int v4), (5, .int v5), (6, .int v6)] [] S) {X53 : Nat → Int32 → Int32 → Int32 → Int32 → Int32 → Int32 → Int32 → HS → Prop} (hX53 : ∀ (v0 : Nat) (v1 : Int32) (v2 : Int32) (v3 : Int32) (v4 : Int32) (v5 : Int32) (v6 : Int32) (v7 : Int32) (S : HS), X53 v0 v1 v2 v3 v4 v5 v6 v7 S → WS X 9 0 0 53 [(0, .ref v0), (1, .int v1), (2, .int v2), (3, .int v3), (4, .int v4), (5, .int v5), (6, .int v6), (7, .int v7)] [] S) {v0 : Nat} {v1 : Int32} {v2 : Int32} {v3 : Int32} {v4 : Int32} {v5 : Int32} {v6 : Int32} {v7 : Int32} {S : HS} (h : P_X11_tries_140 Q X3 X18 X53 v0 v1 v2 v3 v4 v5 v6 v7 S) : WS X 9 0 0 140 [(0, .ref v0), (1, .int v1), (2, .int v2), (3, .int v3), (4, .int v4), (5, .int v5), (6, .int v6), (7, .int v7)] [] S := by
  obtain ⟨x1, ex1⟩ : ∃ z : Int32, z = v7 + (1 : Int32) := ⟨_, rfl⟩
  have h := h x1 ex1
  refine r_iinc (pc := 140) C (v := x1) (lv' := [(7, .int x1), (0, .ref v0), (1, .int v1), (2, .int v2), (3, .int v3), (4, .int v4), (5, .int v5), (6, .int v6)]) dX11_tries_140 7 rfl ex1.symm (by decide) rfl ?_
  refine r_goto (pc := 143) C (tgt := 53) dX11_tries_143 (by decide) ?_
  exact r_sub [1, 2, 3, 4, 5, 6, 7, 0] rfl (hX53 v0 v1 v2 v3 v4 v5 v6 x1 S h)
def P_X11_tries_146 (Q : HS → Prop) (X3 : Nat → Int32 → Int32 → Int32 → Int32 → Int32 → HS → Prop) (X18 : Nat → Int32 → Int32 → Int32 → Int32 → Int32 → Int32 → HS → Prop) (v0 : Nat) (v1 : Int32) (v2 : Int32) (v3 : Int32) (v4 : Int32) (v5 : Int32) (v6 : Int32) (S : HS) : Prop := ∀ x1 : Int32, x1 = v6 + (1 : Int32) → (X18 v0 v1 v2 v3 v4 v5 x1 S)
set_option maxRecDepth 20000 in
set_option maxHeartbeats 4000000 in
theorem T_X11_tries_146 {X : CX} {Q : HS → Prop} (C : Cx X cX11_tries RX11 9 rm_X11_tries) (E : ReV X rm_X11_tries Q) (ht : (xh X).sig.returnType = none) (hn : (xh X).name = yX11_tries.name) {X3 : Nat → Int32 → Int32 → Int32 → Int32 → Int32 → HS → Prop} (hX3 : ∀ (v0 : Nat) (v1 : Int32) (v2 : Int32) (v3 : Int32) (v4 : Int32) (v5 : Int32) (S : HS), X3 v0 v1 v2 v3 v4 v5 S → WS X 9 0 0 3 [(0, .ref v0), (1, .int v1), (2, .int v2), (3, .int v3), (4, .int v4), (5, .int v5)] [] S) {X18 : Nat → Int32 → Int32 → Int32 → Int32 → Int32 → Int32 → HS → Prop} (hX18 : ∀ (v0 : Nat) (v1 : Int32) (v2 : Int32) (v3 : Int32) (v4 : Int32) (v5 : Int32) (v6 : Int32) (S : HS), X18 v0 v1 v2 v3 v4 v5 v6 S → WS X 9 0 0 18 [(0, .ref v0), (1, .int v1), (2, .int v2), (3, .int v3), (4, .int v4), (5, .int v5), (6, .int v6)] [] S) {v0 : Nat} {v1 : Int32} {v2 : Int32} {v3 : Int32} {v4 : Int32} {v5 : Int32} {v6 : Int32} {S : HS} (h : P_X11_tries_146 Q X3 X18 v0 v1 v2 v3 v4 v5 v6 S) : WS X 9 0 0 146 [(0, .ref v0), (1, .int v1), (2, .int v2), (3, .int v3), (4, .int v4), (5, .int v5), (6, .int v6)] [] S := by
  obtain ⟨x1, ex1⟩ : ∃ z : Int32, z = v6 + (1 : Int32) := ⟨_, rfl⟩
  have h := h x1 ex1
  refine r_iinc (pc := 146) C (v := x1) (lv' := [(6, .int x1), (0, .ref v0), (1, .int v1), (2, .int v2), (3, .int v3), (4, .int v4), (5, .int v5)]) dX11_tries_146 6 rfl ex1.symm (by decide) rfl ?_
  refine r_goto (pc := 149) C (tgt := 18) dX11_tries_149 (by decide) ?_
  exact r_sub [1, 2, 3, 4, 5, 6, 0] rfl (hX18 v0 v1 v2 v3 v4 v5 x1 S h)
def B_X11_tries_53 (Q : HS → Prop) (X3 : Nat → Int32 → Int32 → Int32 → Int32 → Int32 → HS → Prop) (X18 : Nat → Int32 → Int32 → Int32 → Int32 → Int32 → Int32 → HS → Prop) (X53 : Nat → Int32 → Int32 → Int32 → Int32 → Int32 → Int32 → Int32 → HS → Prop) (v0 : Nat) (v1 : Int32) (v2 : Int32) (v3 : Int32) (v4 : Int32) (v5 : Int32) (v6 : Int32) (v7 : Int32) (S : HS) : Prop := ob S v0 11 ∧ (∃ a1 : Nat, fR S v0 3 = some a1 ∧ (ob S a1 10 ∧ (∃ a2 : Nat, fR S a1 25 = some a2 ∧ (ob S a2 13 ∧ (vp_in v1 (hN S a2) ∧ ∀ x4 : Int32, x4 = fI S a2 v1.toNatClampNeg → (((x4 < v7) → (P_X11_tries_146 Q X3 X18 v0 v1 v2 v3 v4 v5 v6 S)) ∧ ((¬ x4 < v7) → (∃ a6 : Nat, fR S v0 3 = some a6 ∧ (ob S a6 10 ∧ (P_X10_minutes a6 v5 v7 (fun x9 S7 => Gr S S7 → (∀ x10 : Int32, x10 = v3 + x9 → (((v4 < x10) → (P_X11_tries_140 Q X3 X18 X53 v0 v1 v2 v3 v4 v5 v6 v7 S7)) ∧ ((¬ v4 < x10) → (P_X11_spotOf v2 v3 (fun x14 S12 => Gr S7 S12 → (∃ a15 : Nat, fR S12 v0 3 = some a15 ∧ (ob S12 a15 10 ∧ (P_X10_ends a15 v5 v6 (fun x18 S16 => Gr S12 S16 → (P_X11_spotOf x18 x10 (fun x21 S19 => Gr S16 S19 → (P_X11_meanOf v0 v1 v5 v6 v3 v7 (fun x24 S22 => Gr S19 S22 → (P_X11_takes v0 x14 x21 x24 ((((100 : Int32) * v5) + ((10 : Int32) * v6)) + v7) (fun S25 => Gr S22 S25 → (P_X11_tries_140 Q X3 X18 X53 v0 v1 v2 v3 v4 v5 v6 v7 S25)) S22)) S19)) S16)) S12)))) S7))))) S))))))))))
def P_X11_tries_53 (Q : HS → Prop) (X3 : Nat → Int32 → Int32 → Int32 → Int32 → Int32 → HS → Prop) (X18 : Nat → Int32 → Int32 → Int32 → Int32 → Int32 → Int32 → HS → Prop) (v0 : Nat) (v1 : Int32) (v2 : Int32) (v3 : Int32) (v4 : Int32) (v5 : Int32) (v6 : Int32) (v7 : Int32) (S : HS) : Prop := ∀ X53 : Nat → Int32 → Int32 → Int32 → Int32 → Int32 → Int32 → Int32 → HS → Prop, (∀ (v0 : Nat) (v1 : Int32) (v2 : Int32) (v3 : Int32) (v4 : Int32) (v5 : Int32) (v6 : Int32) (v7 : Int32) (S : HS), B_X11_tries_53 Q X3 X18 X53 v0 v1 v2 v3 v4 v5 v6 v7 S → X53 v0 v1 v2 v3 v4 v5 v6 v7 S) → X53 v0 v1 v2 v3 v4 v5 v6 v7 S
set_option maxRecDepth 20000 in
set_option maxHeartbeats 4000000 in
theorem TB_X11_tries_53 {X : CX} {Q : HS → Prop} (C : Cx X cX11_tries RX11 9 rm_X11_tries) (E : ReV X rm_X11_tries Q) (ht : (xh X).sig.returnType = none) (hn : (xh X).name = yX11_tries.name) {X3 : Nat → Int32 → Int32 → Int32 → Int32 → Int32 → HS → Prop} (hX3 : ∀ (v0 : Nat) (v1 : Int32) (v2 : Int32) (v3 : Int32) (v4 : Int32) (v5 : Int32) (S : HS), X3 v0 v1 v2 v3 v4 v5 S → WS X 9 0 0 3 [(0, .ref v0), (1, .int v1), (2, .int v2), (3, .int v3), (4, .int v4), (5, .int v5)] [] S) {X18 : Nat → Int32 → Int32 → Int32 → Int32 → Int32 → Int32 → HS → Prop} (hX18 : ∀ (v0 : Nat) (v1 : Int32) (v2 : Int32) (v3 : Int32) (v4 : Int32) (v5 : Int32) (v6 : Int32) (S : HS), X18 v0 v1 v2 v3 v4 v5 v6 S → WS X 9 0 0 18 [(0, .ref v0), (1, .int v1), (2, .int v2), (3, .int v3), (4, .int v4), (5, .int v5), (6, .int v6)] [] S) {X53 : Nat → Int32 → Int32 → Int32 → Int32 → Int32 → Int32 → Int32 → HS → Prop} (hX53 : ∀ (v0 : Nat) (v1 : Int32) (v2 : Int32) (v3 : Int32) (v4 : Int32) (v5 : Int32) (v6 : Int32) (v7 : Int32) (S : HS), X53 v0 v1 v2 v3 v4 v5 v6 v7 S → WS X 9 0 0 53 [(0, .ref v0), (1, .int v1), (2, .int v2), (3, .int v3), (4, .int v4), (5, .int v5), (6, .int v6), (7, .int v7)] [] S) {v0 : Nat} {v1 : Int32} {v2 : Int32} {v3 : Int32} {v4 : Int32} {v5 : Int32} {v6 : Int32} {v7 : Int32} {S : HS} (h : B_X11_tries_53 Q X3 X18 X53 v0 v1 v2 v3 v4 v5 v6 v7 S) : WS X 9 0 0 53 [(0, .ref v0), (1, .int v1), (2, .int v2), (3, .int v3), (4, .int v4), (5, .int v5), (6, .int v6), (7, .int v7)] [] S := by
  refine r_iload (pc := 53) C dX11_tries_53 7 rfl ?_
  refine r_aload_n (pc := 55) C dX11_tries_55 0 rfl ?_
  obtain ⟨o_v0, h⟩ := h
  obtain ⟨a1, ea1, h⟩ := h
  refine r_getr (pc := 56) C fL_X11_338 dX11_tries_56 o_v0 ea1 ?_
  obtain ⟨o_a1, h⟩ := h
  obtain ⟨a2, ea2, h⟩ := h
  refine r_getNr (pc := 59) C fN_X11_320 dX11_tries_59 o_a1 ea2 ?_
  refine r_iload_n (pc := 62) C dX11_tries_62 1 rfl ?_
  obtain ⟨o_a2, h⟩ := h
  obtain ⟨i3, h⟩ := h
  refine r_iald (pc := 63) C dX11_tries_63 o_a2 i3 ?_
  refine r_topi (fun x4 ex4 => ?_)
  have h := h x4 ex4
  refine r_icmp_gt (pc := 64) C (tgt := 146) dX11_tries_64 (by decide) (fun c5 => ?_) (fun c5 => ?_)
  · have h := h.1 c5
    exact r_sub [0, 1, 2, 3, 4, 5, 6] rfl (T_X11_tries_146 C E ht hn hX3 hX18 h)
  · have h := h.2 c5
    refine r_iload_n (pc := 67) C dX11_tries_67 3 rfl ?_
    refine r_aload_n (pc := 68) C dX11_tries_68 0 rfl ?_
    obtain ⟨a6, ea6, h⟩ := h
    refine r_getr (pc := 69) C fL_X11_338 dX11_tries_69 o_v0 ea6 ?_
    refine r_iload (pc := 72) C dX11_tries_72 5 rfl ?_
    refine r_iload (pc := 74) C dX11_tries_74 7 rfl ?_
    obtain ⟨o_a6, h⟩ := h
    refine r_callVi0 (pc := 76) C (rest := [.int v3]) (a := a6) o_a6 [.int v5, .int v7] yV_X10_minutes g_1607 (c_X10_minutes h) dX11_tries_76 rfl rfl (Nat.le_of_ble_eq_true rfl) ⟨by decide, by decide⟩ ⟨by decide, by decide⟩ ⟨rfl, rfl⟩ (fun x9 S7 h g8 => ?_)
    have h := h g8
    have o_a1 := gr_ob g8 o_a1
    have o_a2 := gr_ob g8 o_a2
    have o_a6 := gr_ob g8 o_a6
    have o_v0 := gr_ob g8 o_v0
    refine r_iadd (pc := 79) C dX11_tries_79 ?_
    refine r_topi (fun x10 ex10 => ?_)
    have h := h x10 ex10
    refine r_istore (pc := 80) C dX11_tries_80 (by decide) (lv' := [(8, .int x10), (0, .ref v0), (1, .int v1), (2, .int v2), (3, .int v3), (4, .int v4), (5, .int v5), (6, .int v6), (7, .int v7)]) rfl ?_
    refine r_iload (pc := 82) C dX11_tries_82 0 rfl ?_
    refine r_iload (pc := 84) C dX11_tries_84 5 rfl ?_
    refine r_icmp_gt (pc := 86) C (tgt := 140) dX11_tries_86 (by decide) (fun c11 => ?_) (fun c11 => ?_)
    · have h := h.1 c11
      exact r_sub [1, 2, 3, 4, 5, 6, 7, 8] rfl (T_X11_tries_140 C E ht hn hX3 hX18 hX53 h)
    · have h := h.2 c11
      refine r_aload_n (pc := 89) C dX11_tries_89 1 rfl ?_
      refine r_iload_n (pc := 90) C dX11_tries_90 3 rfl ?_
      refine r_iload_n (pc := 91) C dX11_tries_91 4 rfl ?_
      refine r_callSi0 (pc := 92) C (rest := [.ref v0]) rfl [.int v2, .int v3] yS_X11_spotOf g_1687 (c_X11_spotOf h) dX11_tries_92 rfl rfl (Nat.le_of_ble_eq_true rfl) ⟨by decide, by decide⟩ ⟨by decide, by decide⟩ ⟨rfl, rfl⟩ (fun x14 S12 h g13 => ?_)
      have h := h g13
      have o_a1 := gr_ob g13 o_a1
      have o_a2 := gr_ob g13 o_a2
      have o_a6 := gr_ob g13 o_a6
      have o_v0 := gr_ob g13 o_v0
      refine r_aload_n (pc := 95) C dX11_tries_95 1 rfl ?_
      obtain ⟨a15, ea15, h⟩ := h
      refine r_getr (pc := 96) C fL_X11_338 dX11_tries_96 o_v0 ea15 ?_
      refine r_iload (pc := 99) C dX11_tries_99 6 rfl ?_
      refine r_iload (pc := 101) C dX11_tries_101 7 rfl ?_
      obtain ⟨o_a15, h⟩ := h
      refine r_callVi0 (pc := 103) C (rest := [.int x14, .ref v0]) (a := a15) o_a15 [.int v5, .int v6] yV_X10_ends g_1699 (c_X10_ends h) dX11_tries_103 rfl rfl (Nat.le_of_ble_eq_true rfl) ⟨by decide, by decide⟩ ⟨by decide, by decide⟩ ⟨rfl, rfl⟩ (fun x18 S16 h g17 => ?_)
      have h := h g17
      have o_a1 := gr_ob g17 o_a1
      have o_a15 := gr_ob g17 o_a15
      have o_a2 := gr_ob g17 o_a2
      have o_a6 := gr_ob g17 o_a6
      have o_v0 := gr_ob g17 o_v0
      refine r_iload (pc := 106) C dX11_tries_106 0 rfl ?_
      refine r_callSi0 (pc := 108) C (rest := [.int x14, .ref v0]) rfl [.int x18, .int x10] yS_X11_spotOf g_1687 (c_X11_spotOf h) dX11_tries_108 rfl rfl (Nat.le_of_ble_eq_true rfl) ⟨by decide, by decide⟩ ⟨by decide, by decide⟩ ⟨rfl, rfl⟩ (fun x21 S19 h g20 => ?_)
      have h := h g20
      have o_a1 := gr_ob g20 o_a1
      have o_a15 := gr_ob g20 o_a15
      have o_a2 := gr_ob g20 o_a2
      have o_a6 := gr_ob g20 o_a6
      have o_v0 := gr_ob g20 o_v0
      refine r_aload_n (pc := 111) C dX11_tries_111 1 rfl ?_
      refine r_iload_n (pc := 112) C dX11_tries_112 2 rfl ?_
      refine r_iload (pc := 113) C dX11_tries_113 6 rfl ?_
      refine r_iload (pc := 115) C dX11_tries_115 7 rfl ?_
      refine r_iload_n (pc := 117) C dX11_tries_117 4 rfl ?_
      refine r_iload (pc := 118) C dX11_tries_118 8 rfl ?_
      refine r_callVl0 (pc := 120) C (rest := [.int x21, .int x14, .ref v0]) (a := v0) o_v0 [.int v1, .int v5, .int v6, .int v3, .int v7] yV_X11_meanOf g_1703 (c_X11_meanOf h) dX11_tries_120 rfl rfl (Nat.le_of_ble_eq_true rfl) ⟨by decide, by decide⟩ ⟨by decide, by decide⟩ ⟨rfl, rfl⟩ (fun x24 S22 h g23 => ?_)
      have h := h g23
      have o_a1 := gr_ob g23 o_a1
      have o_a15 := gr_ob g23 o_a15
      have o_a2 := gr_ob g23 o_a2
      have o_a6 := gr_ob g23 o_a6
      have o_v0 := gr_ob g23 o_v0
      refine r_bipush (pc := 123) C (v := (100 : Int32)) dX11_tries_123 (by decide) ?_
      refine r_iload (pc := 125) C dX11_tries_125 6 rfl ?_
      refine r_imul (pc := 127) C dX11_tries_127 ?_
      refine r_bipush (pc := 128) C (v := (10 : Int32)) dX11_tries_128 (by decide) ?_
      refine r_iload (pc := 130) C dX11_tries_130 7 rfl ?_
      refine r_imul (pc := 132) C dX11_tries_132 ?_
      refine r_iadd (pc := 133) C dX11_tries_133 ?_
      refine r_iload (pc := 134) C dX11_tries_134 8 rfl ?_
      refine r_iadd (pc := 136) C dX11_tries_136 ?_
      refine r_callVv0 (pc := 137) C (rest := []) (a := v0) o_v0 [.int x14, .int x21, .long x24, .int ((((100 : Int32) * v5) + ((10 : Int32) * v6)) + v7)] yV_X11_takes g_1711 (c_X11_takes h) dX11_tries_137 rfl rfl (Nat.le_of_ble_eq_true rfl) ⟨by decide, by decide⟩ ⟨by decide, by decide⟩ ⟨rfl, rfl⟩ (fun S25 h g26 => ?_)
      have h := h g26
      have o_a1 := gr_ob g26 o_a1
      have o_a15 := gr_ob g26 o_a15
      have o_a2 := gr_ob g26 o_a2
      have o_a6 := gr_ob g26 o_a6
      have o_v0 := gr_ob g26 o_v0
      exact r_sub [1, 2, 3, 4, 5, 6, 7, 8] rfl (T_X11_tries_140 C E ht hn hX3 hX18 hX53 h)
theorem T_X11_tries_53 {X : CX} {Q : HS → Prop} (C : Cx X cX11_tries RX11 9 rm_X11_tries) (E : ReV X rm_X11_tries Q) (ht : (xh X).sig.returnType = none) (hn : (xh X).name = yX11_tries.name) {X3 : Nat → Int32 → Int32 → Int32 → Int32 → Int32 → HS → Prop} (hX3 : ∀ (v0 : Nat) (v1 : Int32) (v2 : Int32) (v3 : Int32) (v4 : Int32) (v5 : Int32) (S : HS), X3 v0 v1 v2 v3 v4 v5 S → WS X 9 0 0 3 [(0, .ref v0), (1, .int v1), (2, .int v2), (3, .int v3), (4, .int v4), (5, .int v5)] [] S) {X18 : Nat → Int32 → Int32 → Int32 → Int32 → Int32 → Int32 → HS → Prop} (hX18 : ∀ (v0 : Nat) (v1 : Int32) (v2 : Int32) (v3 : Int32) (v4 : Int32) (v5 : Int32) (v6 : Int32) (S : HS), X18 v0 v1 v2 v3 v4 v5 v6 S → WS X 9 0 0 18 [(0, .ref v0), (1, .int v1), (2, .int v2), (3, .int v3), (4, .int v4), (5, .int v5), (6, .int v6)] [] S) {v0 : Nat} {v1 : Int32} {v2 : Int32} {v3 : Int32} {v4 : Int32} {v5 : Int32} {v6 : Int32} {v7 : Int32} {S : HS} (h : P_X11_tries_53 Q X3 X18 v0 v1 v2 v3 v4 v5 v6 v7 S) : WS X 9 0 0 53 [(0, .ref v0), (1, .int v1), (2, .int v2), (3, .int v3), (4, .int v4), (5, .int v5), (6, .int v6), (7, .int v7)] [] S :=
  h (fun v0 v1 v2 v3 v4 v5 v6 v7 S => WS X 9 0 0 53 [(0, .ref v0), (1, .int v1), (2, .int v2), (3, .int v3), (4, .int v4), (5, .int v5), (6, .int v6), (7, .int v7)] [] S) (fun v0 v1 v2 v3 v4 v5 v6 v7 S hh => TB_X11_tries_53 C E ht hn hX3 hX18 (fun v0 v1 v2 v3 v4 v5 v6 v7 S z => z) hh)
def B_X11_tries_18 (Q : HS → Prop) (X3 : Nat → Int32 → Int32 → Int32 → Int32 → Int32 → HS → Prop) (X18 : Nat → Int32 → Int32 → Int32 → Int32 → Int32 → Int32 → HS → Prop) (v0 : Nat) (v1 : Int32) (v2 : Int32) (v3 : Int32) (v4 : Int32) (v5 : Int32) (v6 : Int32) (S : HS) : Prop := (((2 : Int32) ≤ v6) → (∀ x2 : Int32, x2 = v5 + (1 : Int32) → (X3 v0 v1 v2 v3 v4 x2 S))) ∧ ((¬ (2 : Int32) ≤ v6) → (ob S v0 11 ∧ (∃ a3 : Nat, fR S v0 3 = some a3 ∧ (ob S a3 10 ∧ (P_X10_begins a3 v5 v6 (fun x6 S4 => Gr S S4 → (((x6 = v2) → (∃ a8 : Nat, fR S4 v0 3 = some a8 ∧ (ob S4 a8 10 ∧ (∃ a9 : Nat, fR S4 a8 24 = some a9 ∧ (ob S4 a9 13 ∧ (vp_in v1 (hN S4 a9) ∧ ∀ x11 : Int32, x11 = fI S4 a9 v1.toNatClampNeg → (P_X11_tries_53 Q X3 X18 v0 v1 v2 v3 v4 v5 v6 x11 S4))))))) ∧ ((¬ x6 = v2) → (P_X11_tries_146 Q X3 X18 v0 v1 v2 v3 v4 v5 v6 S4)))) S)))))
def P_X11_tries_18 (Q : HS → Prop) (X3 : Nat → Int32 → Int32 → Int32 → Int32 → Int32 → HS → Prop) (v0 : Nat) (v1 : Int32) (v2 : Int32) (v3 : Int32) (v4 : Int32) (v5 : Int32) (v6 : Int32) (S : HS) : Prop := ∀ X18 : Nat → Int32 → Int32 → Int32 → Int32 → Int32 → Int32 → HS → Prop, (∀ (v0 : Nat) (v1 : Int32) (v2 : Int32) (v3 : Int32) (v4 : Int32) (v5 : Int32) (v6 : Int32) (S : HS), B_X11_tries_18 Q X3 X18 v0 v1 v2 v3 v4 v5 v6 S → X18 v0 v1 v2 v3 v4 v5 v6 S) → X18 v0 v1 v2 v3 v4 v5 v6 S
set_option maxRecDepth 20000 in
set_option maxHeartbeats 4000000 in
theorem TB_X11_tries_18 {X : CX} {Q : HS → Prop} (C : Cx X cX11_tries RX11 9 rm_X11_tries) (E : ReV X rm_X11_tries Q) (ht : (xh X).sig.returnType = none) (hn : (xh X).name = yX11_tries.name) {X3 : Nat → Int32 → Int32 → Int32 → Int32 → Int32 → HS → Prop} (hX3 : ∀ (v0 : Nat) (v1 : Int32) (v2 : Int32) (v3 : Int32) (v4 : Int32) (v5 : Int32) (S : HS), X3 v0 v1 v2 v3 v4 v5 S → WS X 9 0 0 3 [(0, .ref v0), (1, .int v1), (2, .int v2), (3, .int v3), (4, .int v4), (5, .int v5)] [] S) {X18 : Nat → Int32 → Int32 → Int32 → Int32 → Int32 → Int32 → HS → Prop} (hX18 : ∀ (v0 : Nat) (v1 : Int32) (v2 : Int32) (v3 : Int32) (v4 : Int32) (v5 : Int32) (v6 : Int32) (S : HS), X18 v0 v1 v2 v3 v4 v5 v6 S → WS X 9 0 0 18 [(0, .ref v0), (1, .int v1), (2, .int v2), (3, .int v3), (4, .int v4), (5, .int v5), (6, .int v6)] [] S) {v0 : Nat} {v1 : Int32} {v2 : Int32} {v3 : Int32} {v4 : Int32} {v5 : Int32} {v6 : Int32} {S : HS} (h : B_X11_tries_18 Q X3 X18 v0 v1 v2 v3 v4 v5 v6 S) : WS X 9 0 0 18 [(0, .ref v0), (1, .int v1), (2, .int v2), (3, .int v3), (4, .int v4), (5, .int v5), (6, .int v6)] [] S := by
  refine r_iload (pc := 18) C dX11_tries_18 6 rfl ?_
  refine r_iconst (pc := 20) C (v := (2 : Int32)) dX11_tries_20 (by decide) ?_
  refine r_icmp_ge (pc := 21) C (tgt := 152) dX11_tries_21 (by decide) (fun c1 => ?_) (fun c1 => ?_)
  · have h := h.1 c1
    obtain ⟨x2, ex2⟩ : ∃ z : Int32, z = v5 + (1 : Int32) := ⟨_, rfl⟩
    have h := h x2 ex2
    refine r_iinc (pc := 152) C (v := x2) (lv' := [(5, .int x2), (0, .ref v0), (1, .int v1), (2, .int v2), (3, .int v3), (4, .int v4), (6, .int v6)]) dX11_tries_152 5 rfl ex2.symm (by decide) rfl ?_
    refine r_goto (pc := 155) C (tgt := 3) dX11_tries_155 (by decide) ?_
    exact r_sub [1, 2, 3, 4, 5, 0] rfl (hX3 v0 v1 v2 v3 v4 x2 S h)
  · have h := h.2 c1
    refine r_aload_n (pc := 24) C dX11_tries_24 0 rfl ?_
    obtain ⟨o_v0, h⟩ := h
    obtain ⟨a3, ea3, h⟩ := h
    refine r_getr (pc := 25) C fL_X11_338 dX11_tries_25 o_v0 ea3 ?_
    refine r_iload (pc := 28) C dX11_tries_28 5 rfl ?_
    refine r_iload (pc := 30) C dX11_tries_30 6 rfl ?_
    obtain ⟨o_a3, h⟩ := h
    refine r_callVi0 (pc := 32) C (rest := []) (a := a3) o_a3 [.int v5, .int v6] yV_X10_begins g_1695 (c_X10_begins h) dX11_tries_32 rfl rfl (Nat.le_of_ble_eq_true rfl) ⟨by decide, by decide⟩ ⟨by decide, by decide⟩ ⟨rfl, rfl⟩ (fun x6 S4 h g5 => ?_)
    have h := h g5
    have o_a3 := gr_ob g5 o_a3
    have o_v0 := gr_ob g5 o_v0
    refine r_iload_n (pc := 35) C dX11_tries_35 2 rfl ?_
    refine r_icmp_eq (pc := 36) C (tgt := 42) dX11_tries_36 (by decide) (fun c7 => ?_) (fun c7 => ?_)
    · have h := h.1 c7
      refine r_aload_n (pc := 42) C dX11_tries_42 0 rfl ?_
      obtain ⟨a8, ea8, h⟩ := h
      refine r_getr (pc := 43) C fL_X11_338 dX11_tries_43 o_v0 ea8 ?_
      obtain ⟨o_a8, h⟩ := h
      obtain ⟨a9, ea9, h⟩ := h
      refine r_getNr (pc := 46) C fN_X11_317 dX11_tries_46 o_a8 ea9 ?_
      refine r_iload_n (pc := 49) C dX11_tries_49 1 rfl ?_
      obtain ⟨o_a9, h⟩ := h
      obtain ⟨i10, h⟩ := h
      refine r_iald (pc := 50) C dX11_tries_50 o_a9 i10 ?_
      refine r_topi (fun x11 ex11 => ?_)
      have h := h x11 ex11
      refine r_istore (pc := 51) C dX11_tries_51 (by decide) (lv' := [(7, .int x11), (0, .ref v0), (1, .int v1), (2, .int v2), (3, .int v3), (4, .int v4), (5, .int v5), (6, .int v6)]) rfl ?_
      exact r_sub [1, 2, 3, 4, 5, 6, 7, 0] rfl (T_X11_tries_53 C E ht hn hX3 hX18 h)
    · have h := h.2 c7
      refine r_goto (pc := 39) C (tgt := 146) dX11_tries_39 (by decide) ?_
      exact r_sub [0, 1, 2, 3, 4, 5, 6] rfl (T_X11_tries_146 C E ht hn hX3 hX18 h)
theorem T_X11_tries_18 {X : CX} {Q : HS → Prop} (C : Cx X cX11_tries RX11 9 rm_X11_tries) (E : ReV X rm_X11_tries Q) (ht : (xh X).sig.returnType = none) (hn : (xh X).name = yX11_tries.name) {X3 : Nat → Int32 → Int32 → Int32 → Int32 → Int32 → HS → Prop} (hX3 : ∀ (v0 : Nat) (v1 : Int32) (v2 : Int32) (v3 : Int32) (v4 : Int32) (v5 : Int32) (S : HS), X3 v0 v1 v2 v3 v4 v5 S → WS X 9 0 0 3 [(0, .ref v0), (1, .int v1), (2, .int v2), (3, .int v3), (4, .int v4), (5, .int v5)] [] S) {v0 : Nat} {v1 : Int32} {v2 : Int32} {v3 : Int32} {v4 : Int32} {v5 : Int32} {v6 : Int32} {S : HS} (h : P_X11_tries_18 Q X3 v0 v1 v2 v3 v4 v5 v6 S) : WS X 9 0 0 18 [(0, .ref v0), (1, .int v1), (2, .int v2), (3, .int v3), (4, .int v4), (5, .int v5), (6, .int v6)] [] S :=
  h (fun v0 v1 v2 v3 v4 v5 v6 S => WS X 9 0 0 18 [(0, .ref v0), (1, .int v1), (2, .int v2), (3, .int v3), (4, .int v4), (5, .int v5), (6, .int v6)] [] S) (fun v0 v1 v2 v3 v4 v5 v6 S hh => TB_X11_tries_18 C E ht hn hX3 (fun v0 v1 v2 v3 v4 v5 v6 S z => z) hh)
def B_X11_tries_3 (Q : HS → Prop) (X3 : Nat → Int32 → Int32 → Int32 → Int32 → Int32 → HS → Prop) (v0 : Nat) (v1 : Int32) (v2 : Int32) (v3 : Int32) (v4 : Int32) (v5 : Int32) (S : HS) : Prop := ob S v0 11 ∧ (∃ a1 : Nat, fR S v0 3 = some a1 ∧ (ob S a1 10 ∧ (∀ x2 : Int32, x2 = fI S a1 3 → (((x2 ≤ v5) → (P_X11_canWait v0 v2 (fun x6 S4 => Gr S S4 → bl x6 → (((x6 = 0) → (Q S4)) ∧ ((¬ x6 = 0) → (((v4 ≤ v3) → (Q S4)) ∧ ((¬ v4 ≤ v3) → (P_X11_spotOf v2 v3 (fun x11 S9 => Gr S4 S9 → (P_X11_spotOf v2 (v3 + (1 : Int32)) (fun x14 S12 => Gr S9 S12 → (P_X11_waitsOf v0 v1 v2 v3 (fun x17 S15 => Gr S12 S15 → (P_X11_takes v0 x11 x14 x17 (-2 : Int32) (fun S18 => Gr S15 S18 → (Q S18)) S15)) S12)) S9)) S4)))))) S)) ∧ ((¬ x2 ≤ v5) → (P_X11_tries_18 Q X3 v0 v1 v2 v3 v4 v5 (0 : Int32) S))))))
def P_X11_tries_3 (Q : HS → Prop) (v0 : Nat) (v1 : Int32) (v2 : Int32) (v3 : Int32) (v4 : Int32) (v5 : Int32) (S : HS) : Prop := ∀ X3 : Nat → Int32 → Int32 → Int32 → Int32 → Int32 → HS → Prop, (∀ (v0 : Nat) (v1 : Int32) (v2 : Int32) (v3 : Int32) (v4 : Int32) (v5 : Int32) (S : HS), B_X11_tries_3 Q X3 v0 v1 v2 v3 v4 v5 S → X3 v0 v1 v2 v3 v4 v5 S) → X3 v0 v1 v2 v3 v4 v5 S
set_option maxRecDepth 20000 in
set_option maxHeartbeats 4000000 in
theorem TB_X11_tries_3 {X : CX} {Q : HS → Prop} (C : Cx X cX11_tries RX11 9 rm_X11_tries) (E : ReV X rm_X11_tries Q) (ht : (xh X).sig.returnType = none) (hn : (xh X).name = yX11_tries.name) {X3 : Nat → Int32 → Int32 → Int32 → Int32 → Int32 → HS → Prop} (hX3 : ∀ (v0 : Nat) (v1 : Int32) (v2 : Int32) (v3 : Int32) (v4 : Int32) (v5 : Int32) (S : HS), X3 v0 v1 v2 v3 v4 v5 S → WS X 9 0 0 3 [(0, .ref v0), (1, .int v1), (2, .int v2), (3, .int v3), (4, .int v4), (5, .int v5)] [] S) {v0 : Nat} {v1 : Int32} {v2 : Int32} {v3 : Int32} {v4 : Int32} {v5 : Int32} {S : HS} (h : B_X11_tries_3 Q X3 v0 v1 v2 v3 v4 v5 S) : WS X 9 0 0 3 [(0, .ref v0), (1, .int v1), (2, .int v2), (3, .int v3), (4, .int v4), (5, .int v5)] [] S := by
  refine r_iload (pc := 3) C dX11_tries_3 5 rfl ?_
  refine r_aload_n (pc := 5) C dX11_tries_5 0 rfl ?_
  obtain ⟨o_v0, h⟩ := h
  obtain ⟨a1, ea1, h⟩ := h
  refine r_getr (pc := 6) C fL_X11_338 dX11_tries_6 o_v0 ea1 ?_
  obtain ⟨o_a1, h⟩ := h
  refine r_getNi (pc := 9) C fN_X11_264 dX11_tries_9 o_a1 ?_
  refine r_topi (fun x2 ex2 => ?_)
  have h := h x2 ex2
  refine r_icmp_ge (pc := 12) C (tgt := 158) dX11_tries_12 (by decide) (fun c3 => ?_) (fun c3 => ?_)
  · have h := h.1 c3
    refine r_aload_n (pc := 158) C dX11_tries_158 0 rfl ?_
    refine r_iload_n (pc := 159) C dX11_tries_159 2 rfl ?_
    refine r_callVi0 (pc := 160) C (rest := []) (a := v0) o_v0 [.int v2] yV_X11_canWait g_1715 (c_X11_canWait h) dX11_tries_160 rfl rfl (Nat.le_of_ble_eq_true rfl) ⟨by decide, by decide⟩ ⟨by decide, by decide⟩ ⟨rfl, rfl⟩ (fun x6 S4 h g5 => ?_)
    have bx6 := h.1
    have h := h.2 g5 bx6
    have o_a1 := gr_ob g5 o_a1
    have o_v0 := gr_ob g5 o_v0
    refine r_if_eq (pc := 163) C (tgt := 197) dX11_tries_163 (by decide) (fun c7 => ?_) (fun c7 => ?_)
    · have h := h.1 c7
      exact r_vret (pc := 197) C E ht dX11_tries_197 (by decide) (by decide) h
    · have h := h.2 c7
      refine r_iload_n (pc := 166) C dX11_tries_166 3 rfl ?_
      refine r_iload (pc := 167) C dX11_tries_167 4 rfl ?_
      refine r_icmp_ge (pc := 169) C (tgt := 197) dX11_tries_169 (by decide) (fun c8 => ?_) (fun c8 => ?_)
      · have h := h.1 c8
        exact r_vret (pc := 197) C E ht dX11_tries_197 (by decide) (by decide) h
      · have h := h.2 c8
        refine r_aload_n (pc := 172) C dX11_tries_172 0 rfl ?_
        refine r_iload_n (pc := 173) C dX11_tries_173 2 rfl ?_
        refine r_iload_n (pc := 174) C dX11_tries_174 3 rfl ?_
        refine r_callSi0 (pc := 175) C (rest := [.ref v0]) rfl [.int v2, .int v3] yS_X11_spotOf g_1687 (c_X11_spotOf h) dX11_tries_175 rfl rfl (Nat.le_of_ble_eq_true rfl) ⟨by decide, by decide⟩ ⟨by decide, by decide⟩ ⟨rfl, rfl⟩ (fun x11 S9 h g10 => ?_)
        have h := h g10
        have o_a1 := gr_ob g10 o_a1
        have o_v0 := gr_ob g10 o_v0
        refine r_iload_n (pc := 178) C dX11_tries_178 2 rfl ?_
        refine r_iload_n (pc := 179) C dX11_tries_179 3 rfl ?_
        refine r_iconst (pc := 180) C (v := (1 : Int32)) dX11_tries_180 (by decide) ?_
        refine r_iadd (pc := 181) C dX11_tries_181 ?_
        refine r_callSi0 (pc := 182) C (rest := [.int x11, .ref v0]) rfl [.int v2, .int (v3 + (1 : Int32))] yS_X11_spotOf g_1687 (c_X11_spotOf h) dX11_tries_182 rfl rfl (Nat.le_of_ble_eq_true rfl) ⟨by decide, by decide⟩ ⟨by decide, by decide⟩ ⟨rfl, rfl⟩ (fun x14 S12 h g13 => ?_)
        have h := h g13
        have o_a1 := gr_ob g13 o_a1
        have o_v0 := gr_ob g13 o_v0
        refine r_aload_n (pc := 185) C dX11_tries_185 0 rfl ?_
        refine r_iload_n (pc := 186) C dX11_tries_186 1 rfl ?_
        refine r_iload_n (pc := 187) C dX11_tries_187 2 rfl ?_
        refine r_iload_n (pc := 188) C dX11_tries_188 3 rfl ?_
        refine r_callVl0 (pc := 189) C (rest := [.int x14, .int x11, .ref v0]) (a := v0) o_v0 [.int v1, .int v2, .int v3] yV_X11_waitsOf g_1719 (c_X11_waitsOf h) dX11_tries_189 rfl rfl (Nat.le_of_ble_eq_true rfl) ⟨by decide, by decide⟩ ⟨by decide, by decide⟩ ⟨rfl, rfl⟩ (fun x17 S15 h g16 => ?_)
        have h := h g16
        have o_a1 := gr_ob g16 o_a1
        have o_v0 := gr_ob g16 o_v0
        refine r_bipush (pc := 192) C (v := (-2 : Int32)) dX11_tries_192 (by decide) ?_
        refine r_callVv0 (pc := 194) C (rest := []) (a := v0) o_v0 [.int x11, .int x14, .long x17, .int (-2 : Int32)] yV_X11_takes g_1711 (c_X11_takes h) dX11_tries_194 rfl rfl (Nat.le_of_ble_eq_true rfl) ⟨by decide, by decide⟩ ⟨by decide, by decide⟩ ⟨rfl, rfl⟩ (fun S18 h g19 => ?_)
        have h := h g19
        have o_a1 := gr_ob g19 o_a1
        have o_v0 := gr_ob g19 o_v0
        exact r_vret (pc := 197) C E ht dX11_tries_197 (by decide) (by decide) h
  · have h := h.2 c3
    refine r_iconst (pc := 15) C (v := (0 : Int32)) dX11_tries_15 (by decide) ?_
    refine r_istore (pc := 16) C dX11_tries_16 (by decide) (lv' := [(6, .int (0 : Int32)), (0, .ref v0), (1, .int v1), (2, .int v2), (3, .int v3), (4, .int v4), (5, .int v5)]) rfl ?_
    exact r_sub [1, 2, 3, 4, 5, 6, 0] rfl (T_X11_tries_18 C E ht hn hX3 h)
theorem T_X11_tries_3 {X : CX} {Q : HS → Prop} (C : Cx X cX11_tries RX11 9 rm_X11_tries) (E : ReV X rm_X11_tries Q) (ht : (xh X).sig.returnType = none) (hn : (xh X).name = yX11_tries.name) {v0 : Nat} {v1 : Int32} {v2 : Int32} {v3 : Int32} {v4 : Int32} {v5 : Int32} {S : HS} (h : P_X11_tries_3 Q v0 v1 v2 v3 v4 v5 S) : WS X 9 0 0 3 [(0, .ref v0), (1, .int v1), (2, .int v2), (3, .int v3), (4, .int v4), (5, .int v5)] [] S :=
  h (fun v0 v1 v2 v3 v4 v5 S => WS X 9 0 0 3 [(0, .ref v0), (1, .int v1), (2, .int v2), (3, .int v3), (4, .int v4), (5, .int v5)] [] S) (fun v0 v1 v2 v3 v4 v5 S hh => TB_X11_tries_3 C E ht hn (fun v0 v1 v2 v3 v4 v5 S z => z) hh)
def P_X11_tries_0 (Q : HS → Prop) (v0 : Nat) (v1 : Int32) (v2 : Int32) (v3 : Int32) (v4 : Int32) (S : HS) : Prop := P_X11_tries_3 Q v0 v1 v2 v3 v4 (0 : Int32) S
set_option maxRecDepth 20000 in
set_option maxHeartbeats 4000000 in
theorem T_X11_tries_0 {X : CX} {Q : HS → Prop} (C : Cx X cX11_tries RX11 9 rm_X11_tries) (E : ReV X rm_X11_tries Q) (ht : (xh X).sig.returnType = none) (hn : (xh X).name = yX11_tries.name) {v0 : Nat} {v1 : Int32} {v2 : Int32} {v3 : Int32} {v4 : Int32} {S : HS} (h : P_X11_tries_0 Q v0 v1 v2 v3 v4 S) : WS X 9 0 0 0 [(0, .ref v0), (1, .int v1), (2, .int v2), (3, .int v3), (4, .int v4)] [] S := by
  refine r_iconst (pc := 0) C (v := (0 : Int32)) dX11_tries_0 (by decide) ?_
  refine r_istore (pc := 1) C dX11_tries_1 (by decide) (lv' := [(5, .int (0 : Int32)), (0, .ref v0), (1, .int v1), (2, .int v2), (3, .int v3), (4, .int v4)]) rfl ?_
  exact r_sub [1, 2, 3, 4, 5, 0] rfl (T_X11_tries_3 C E ht hn h)
def P_X11_tries (v0 : Nat) (v1 : Int32) (v2 : Int32) (v3 : Int32) (v4 : Int32) (Q : HS → Prop) (S : HS) : Prop := P_X11_tries_0 Q v0 v1 v2 v3 v4 S
theorem c_X11_tries {l : Launch} {Ee : EE} {S : HS} {v0 : Nat} {v1 : Int32} {v2 : Int32} {v3 : Int32} {v4 : Int32} {Q : HS → Prop} (h : P_X11_tries v0 v1 v2 v3 v4 Q S) : MV l yX11_tries cX11_tries 9 none rm_X11_tries Ee S [.ref v0, .int v1, .int v2, .int v3, .int v4] Q :=
  openV (by decide) (Nat.le_of_ble_eq_true rfl) (fun X C E ht hn hE hl => by subst hE; exact r_sub [0, 1, 2, 3, 4] rfl (T_X11_tries_0 C E ht hn h))
end
section
def rm_X11_laysWays : Room := { frames := 8, cells := 0, slots := 0, locals := 217 }
def P_X11_laysWays_85 (Q : HS → Prop) (X3 : Nat → Int32 → Int32 → Int32 → Int32 → HS → Prop) (X11 : Nat → Int32 → Int32 → Int32 → Int32 → Int32 → HS → Prop) (v0 : Nat) (v1 : Int32) (v2 : Int32) (v3 : Int32) (v4 : Int32) (v5 : Int32) (S : HS) : Prop := ∀ x1 : Int32, x1 = v5 + (1 : Int32) → (X11 v0 v1 v2 v3 v4 x1 S)
set_option maxRecDepth 20000 in
set_option maxHeartbeats 4000000 in
theorem T_X11_laysWays_85 {X : CX} {Q : HS → Prop} (C : Cx X cX11_laysWays RX11 7 rm_X11_laysWays) (E : ReV X rm_X11_laysWays Q) (ht : (xh X).sig.returnType = none) (hn : (xh X).name = yX11_laysWays.name) {X3 : Nat → Int32 → Int32 → Int32 → Int32 → HS → Prop} (hX3 : ∀ (v0 : Nat) (v1 : Int32) (v2 : Int32) (v3 : Int32) (v4 : Int32) (S : HS), X3 v0 v1 v2 v3 v4 S → WS X 7 0 0 3 [(0, .ref v0), (1, .int v1), (2, .int v2), (3, .int v3), (4, .int v4)] [] S) {X11 : Nat → Int32 → Int32 → Int32 → Int32 → Int32 → HS → Prop} (hX11 : ∀ (v0 : Nat) (v1 : Int32) (v2 : Int32) (v3 : Int32) (v4 : Int32) (v5 : Int32) (S : HS), X11 v0 v1 v2 v3 v4 v5 S → WS X 7 0 0 11 [(0, .ref v0), (1, .int v1), (2, .int v2), (3, .int v3), (4, .int v4), (5, .int v5)] [] S) {v0 : Nat} {v1 : Int32} {v2 : Int32} {v3 : Int32} {v4 : Int32} {v5 : Int32} {S : HS} (h : P_X11_laysWays_85 Q X3 X11 v0 v1 v2 v3 v4 v5 S) : WS X 7 0 0 85 [(0, .ref v0), (1, .int v1), (2, .int v2), (3, .int v3), (4, .int v4), (5, .int v5)] [] S := by
  obtain ⟨x1, ex1⟩ : ∃ z : Int32, z = v5 + (1 : Int32) := ⟨_, rfl⟩
  have h := h x1 ex1
  refine r_iinc (pc := 85) C (v := x1) (lv' := [(5, .int x1), (0, .ref v0), (1, .int v1), (2, .int v2), (3, .int v3), (4, .int v4)]) dX11_laysWays_85 5 rfl ex1.symm (by decide) rfl ?_
  refine r_goto (pc := 88) C (tgt := 11) dX11_laysWays_88 (by decide) ?_
  exact r_sub [1, 2, 3, 4, 5, 0] rfl (hX11 v0 v1 v2 v3 v4 x1 S h)
def P_X11_laysWays_51 (Q : HS → Prop) (X3 : Nat → Int32 → Int32 → Int32 → Int32 → HS → Prop) (X11 : Nat → Int32 → Int32 → Int32 → Int32 → Int32 → HS → Prop) (v0 : Nat) (v1 : Int32) (v2 : Int32) (v3 : Int32) (v4 : Int32) (v5 : Int32) (v6 : Int32) (s0 : Nat) (s1 : Int32) (s2 : Int64) (S : HS) : Prop := ob S s0 14 ∧ (vp_in s1 (hN S s0) ∧ (∀ S2 : HS, S2 = sJ S s0 s1.toNatClampNeg s2 → (ob S2 v0 11 ∧ (∃ a3 : Nat, fR S2 v0 17 = some a3 ∧ (ob S2 a3 13 ∧ (vp_in v6 (hN S2 a3) ∧ (∀ S5 : HS, S5 = sI S2 a3 v6.toNatClampNeg v4 → (∃ a6 : Nat, fR S5 v0 18 = some a6 ∧ (ob S5 a6 13 ∧ (vp_in v6 (hN S5 a6) ∧ (∀ S8 : HS, S8 = sI S5 a6 v6.toNatClampNeg (-1 : Int32) → (((v5 = v2) → (P_X11_laysWays_85 Q X3 X11 v0 v1 v2 v3 v4 v5 S8)) ∧ ((¬ v5 = v2) → (P_X11_tries v0 v1 v5 v4 v3 (fun S10 => Gr S8 S10 → (P_X11_laysWays_85 Q X3 X11 v0 v1 v2 v3 v4 v5 S10)) S8))))))))))))))
set_option maxRecDepth 20000 in
set_option maxHeartbeats 4000000 in
theorem T_X11_laysWays_51 {X : CX} {Q : HS → Prop} (C : Cx X cX11_laysWays RX11 7 rm_X11_laysWays) (E : ReV X rm_X11_laysWays Q) (ht : (xh X).sig.returnType = none) (hn : (xh X).name = yX11_laysWays.name) {X3 : Nat → Int32 → Int32 → Int32 → Int32 → HS → Prop} (hX3 : ∀ (v0 : Nat) (v1 : Int32) (v2 : Int32) (v3 : Int32) (v4 : Int32) (S : HS), X3 v0 v1 v2 v3 v4 S → WS X 7 0 0 3 [(0, .ref v0), (1, .int v1), (2, .int v2), (3, .int v3), (4, .int v4)] [] S) {X11 : Nat → Int32 → Int32 → Int32 → Int32 → Int32 → HS → Prop} (hX11 : ∀ (v0 : Nat) (v1 : Int32) (v2 : Int32) (v3 : Int32) (v4 : Int32) (v5 : Int32) (S : HS), X11 v0 v1 v2 v3 v4 v5 S → WS X 7 0 0 11 [(0, .ref v0), (1, .int v1), (2, .int v2), (3, .int v3), (4, .int v4), (5, .int v5)] [] S) {v0 : Nat} {v1 : Int32} {v2 : Int32} {v3 : Int32} {v4 : Int32} {v5 : Int32} {v6 : Int32} {s0 : Nat} {s1 : Int32} {s2 : Int64} {S : HS} (h : P_X11_laysWays_51 Q X3 X11 v0 v1 v2 v3 v4 v5 v6 s0 s1 s2 S) : WS X 7 0 0 51 [(0, .ref v0), (1, .int v1), (2, .int v2), (3, .int v3), (4, .int v4), (5, .int v5), (6, .int v6)] [.long s2, .int s1, .ref s0] S := by
  obtain ⟨o_s0, h⟩ := h
  obtain ⟨i1, h⟩ := h
  refine r_last (pc := 51) C dX11_laysWays_51 o_s0 i1 ?_
  refine r_heap (fun S2 eS2 => ?_)
  have h := h S2 eS2
  have o_s0 := ob_J eS2 o_s0
  refine r_aload_n (pc := 52) C dX11_laysWays_52 0 rfl ?_
  obtain ⟨o_v0, h⟩ := h
  obtain ⟨a3, ea3, h⟩ := h
  refine r_getr (pc := 53) C fL_X11_21 dX11_laysWays_53 o_v0 ea3 ?_
  refine r_iload (pc := 56) C dX11_laysWays_56 6 rfl ?_
  refine r_iload (pc := 58) C dX11_laysWays_58 4 rfl ?_
  obtain ⟨o_a3, h⟩ := h
  obtain ⟨i4, h⟩ := h
  refine r_iast (pc := 60) C dX11_laysWays_60 o_a3 i4 ?_
  refine r_heap (fun S5 eS5 => ?_)
  have h := h S5 eS5
  have o_a3 := ob_I eS5 o_a3
  have o_s0 := ob_I eS5 o_s0
  have o_v0 := ob_I eS5 o_v0
  refine r_aload_n (pc := 61) C dX11_laysWays_61 0 rfl ?_
  obtain ⟨a6, ea6, h⟩ := h
  refine r_getr (pc := 62) C fL_X11_25 dX11_laysWays_62 o_v0 ea6 ?_
  refine r_iload (pc := 65) C dX11_laysWays_65 6 rfl ?_
  refine r_iconst (pc := 67) C (v := (-1 : Int32)) dX11_laysWays_67 (by decide) ?_
  obtain ⟨o_a6, h⟩ := h
  obtain ⟨i7, h⟩ := h
  refine r_iast (pc := 68) C dX11_laysWays_68 o_a6 i7 ?_
  refine r_heap (fun S8 eS8 => ?_)
  have h := h S8 eS8
  have o_a3 := ob_I eS8 o_a3
  have o_a6 := ob_I eS8 o_a6
  have o_s0 := ob_I eS8 o_s0
  have o_v0 := ob_I eS8 o_v0
  refine r_iload (pc := 69) C dX11_laysWays_69 5 rfl ?_
  refine r_iload_n (pc := 71) C dX11_laysWays_71 2 rfl ?_
  refine r_icmp_eq (pc := 72) C (tgt := 85) dX11_laysWays_72 (by decide) (fun c9 => ?_) (fun c9 => ?_)
  · have h := h.1 c9
    exact r_sub [0, 1, 2, 3, 4, 5] rfl (T_X11_laysWays_85 C E ht hn hX3 hX11 h)
  · have h := h.2 c9
    refine r_aload_n (pc := 75) C dX11_laysWays_75 0 rfl ?_
    refine r_iload_n (pc := 76) C dX11_laysWays_76 1 rfl ?_
    refine r_iload (pc := 77) C dX11_laysWays_77 5 rfl ?_
    refine r_iload (pc := 79) C dX11_laysWays_79 4 rfl ?_
    refine r_iload_n (pc := 81) C dX11_laysWays_81 3 rfl ?_
    refine r_callVv0 (pc := 82) C (rest := []) (a := v0) o_v0 [.int v1, .int v5, .int v4, .int v3] yV_X11_tries g_1691 (c_X11_tries h) dX11_laysWays_82 rfl rfl (Nat.le_of_ble_eq_true rfl) ⟨by decide, by decide⟩ ⟨by decide, by decide⟩ ⟨rfl, rfl⟩ (fun S10 h g11 => ?_)
    have h := h g11
    have o_a3 := gr_ob g11 o_a3
    have o_a6 := gr_ob g11 o_a6
    have o_s0 := gr_ob g11 o_s0
    have o_v0 := gr_ob g11 o_v0
    exact r_sub [0, 1, 2, 3, 4, 5] rfl (T_X11_laysWays_85 C E ht hn hX3 hX11 h)
def B_X11_laysWays_11 (Q : HS → Prop) (X3 : Nat → Int32 → Int32 → Int32 → Int32 → HS → Prop) (X11 : Nat → Int32 → Int32 → Int32 → Int32 → Int32 → HS → Prop) (v0 : Nat) (v1 : Int32) (v2 : Int32) (v3 : Int32) (v4 : Int32) (v5 : Int32) (S : HS) : Prop := ob S v0 11 ∧ (∃ a1 : Nat, fR S v0 3 = some a1 ∧ (ob S a1 10 ∧ (∀ x2 : Int32, x2 = fI S a1 2 → (((x2 ≤ v5) → (∀ x4 : Int32, x4 = v4 + (-1 : Int32) → (X3 v0 v1 v2 v3 x4 S))) ∧ ((¬ x2 ≤ v5) → (P_X11_spotOf v5 v4 (fun x7 S5 => Gr S S5 → (∃ a8 : Nat, fR S5 v0 16 = some a8 ∧ (((¬ v5 = v2) → (P_X11_laysWays_51 Q X3 X11 v0 v1 v2 v3 v4 v5 x7 a8 x7 (-1 : Int64) S5)) ∧ ((v5 = v2) → (P_X11_laysWays_51 Q X3 X11 v0 v1 v2 v3 v4 v5 x7 a8 x7 (0 : Int64) S5))))) S))))))
def P_X11_laysWays_11 (Q : HS → Prop) (X3 : Nat → Int32 → Int32 → Int32 → Int32 → HS → Prop) (v0 : Nat) (v1 : Int32) (v2 : Int32) (v3 : Int32) (v4 : Int32) (v5 : Int32) (S : HS) : Prop := ∀ X11 : Nat → Int32 → Int32 → Int32 → Int32 → Int32 → HS → Prop, (∀ (v0 : Nat) (v1 : Int32) (v2 : Int32) (v3 : Int32) (v4 : Int32) (v5 : Int32) (S : HS), B_X11_laysWays_11 Q X3 X11 v0 v1 v2 v3 v4 v5 S → X11 v0 v1 v2 v3 v4 v5 S) → X11 v0 v1 v2 v3 v4 v5 S
set_option maxRecDepth 20000 in
set_option maxHeartbeats 4000000 in
theorem TB_X11_laysWays_11 {X : CX} {Q : HS → Prop} (C : Cx X cX11_laysWays RX11 7 rm_X11_laysWays) (E : ReV X rm_X11_laysWays Q) (ht : (xh X).sig.returnType = none) (hn : (xh X).name = yX11_laysWays.name) {X3 : Nat → Int32 → Int32 → Int32 → Int32 → HS → Prop} (hX3 : ∀ (v0 : Nat) (v1 : Int32) (v2 : Int32) (v3 : Int32) (v4 : Int32) (S : HS), X3 v0 v1 v2 v3 v4 S → WS X 7 0 0 3 [(0, .ref v0), (1, .int v1), (2, .int v2), (3, .int v3), (4, .int v4)] [] S) {X11 : Nat → Int32 → Int32 → Int32 → Int32 → Int32 → HS → Prop} (hX11 : ∀ (v0 : Nat) (v1 : Int32) (v2 : Int32) (v3 : Int32) (v4 : Int32) (v5 : Int32) (S : HS), X11 v0 v1 v2 v3 v4 v5 S → WS X 7 0 0 11 [(0, .ref v0), (1, .int v1), (2, .int v2), (3, .int v3), (4, .int v4), (5, .int v5)] [] S) {v0 : Nat} {v1 : Int32} {v2 : Int32} {v3 : Int32} {v4 : Int32} {v5 : Int32} {S : HS} (h : B_X11_laysWays_11 Q X3 X11 v0 v1 v2 v3 v4 v5 S) : WS X 7 0 0 11 [(0, .ref v0), (1, .int v1), (2, .int v2), (3, .int v3), (4, .int v4), (5, .int v5)] [] S := by
  refine r_iload (pc := 11) C dX11_laysWays_11 5 rfl ?_
  refine r_aload_n (pc := 13) C dX11_laysWays_13 0 rfl ?_
  obtain ⟨o_v0, h⟩ := h
  obtain ⟨a1, ea1, h⟩ := h
  refine r_getr (pc := 14) C fL_X11_338 dX11_laysWays_14 o_v0 ea1 ?_
  obtain ⟨o_a1, h⟩ := h
  refine r_getNi (pc := 17) C fN_X11_190 dX11_laysWays_17 o_a1 ?_
  refine r_topi (fun x2 ex2 => ?_)
  have h := h x2 ex2
  refine r_icmp_ge (pc := 20) C (tgt := 91) dX11_laysWays_20 (by decide) (fun c3 => ?_) (fun c3 => ?_)
  · have h := h.1 c3
    obtain ⟨x4, ex4⟩ : ∃ z : Int32, z = v4 + (-1 : Int32) := ⟨_, rfl⟩
    have h := h x4 ex4
    refine r_iinc (pc := 91) C (v := x4) (lv' := [(4, .int x4), (0, .ref v0), (1, .int v1), (2, .int v2), (3, .int v3), (5, .int v5)]) dX11_laysWays_91 4 rfl ex4.symm (by decide) rfl ?_
    refine r_goto (pc := 94) C (tgt := 3) dX11_laysWays_94 (by decide) ?_
    exact r_sub [1, 2, 3, 4, 0] rfl (hX3 v0 v1 v2 v3 x4 S h)
  · have h := h.2 c3
    refine r_iload (pc := 23) C dX11_laysWays_23 5 rfl ?_
    refine r_iload (pc := 25) C dX11_laysWays_25 4 rfl ?_
    refine r_callSi0 (pc := 27) C (rest := []) rfl [.int v5, .int v4] yS_X11_spotOf g_1687 (c_X11_spotOf h) dX11_laysWays_27 rfl rfl (Nat.le_of_ble_eq_true rfl) ⟨by decide, by decide⟩ ⟨by decide, by decide⟩ ⟨rfl, rfl⟩ (fun x7 S5 h g6 => ?_)
    have h := h g6
    have o_a1 := gr_ob g6 o_a1
    have o_v0 := gr_ob g6 o_v0
    refine r_istore (pc := 30) C dX11_laysWays_30 (by decide) (lv' := [(6, .int x7), (0, .ref v0), (1, .int v1), (2, .int v2), (3, .int v3), (4, .int v4), (5, .int v5)]) rfl ?_
    refine r_aload_n (pc := 32) C dX11_laysWays_32 1 rfl ?_
    obtain ⟨a8, ea8, h⟩ := h
    refine r_getr (pc := 33) C fL_X11_17 dX11_laysWays_33 o_v0 ea8 ?_
    refine r_iload (pc := 36) C dX11_laysWays_36 0 rfl ?_
    refine r_iload (pc := 38) C dX11_laysWays_38 6 rfl ?_
    refine r_iload_n (pc := 40) C dX11_laysWays_40 3 rfl ?_
    refine r_icmp_ne (pc := 41) C (tgt := 48) dX11_laysWays_41 (by decide) (fun c9 => ?_) (fun c9 => ?_)
    · have h := h.1 c9
      refine r_ldc2 (pc := 48) C (v := (-1 : Int64)) dX11_laysWays_48 g_1690 ?_
      exact r_sub [1, 2, 3, 4, 5, 6, 0] rfl (T_X11_laysWays_51 C E ht hn hX3 hX11 h)
    · have h := h.2 c9
      refine r_lconst (pc := 44) C (v := (0 : Int64)) dX11_laysWays_44 (by decide) ?_
      refine r_goto (pc := 45) C (tgt := 51) dX11_laysWays_45 (by decide) ?_
      exact r_sub [1, 2, 3, 4, 5, 6, 0] rfl (T_X11_laysWays_51 C E ht hn hX3 hX11 h)
theorem T_X11_laysWays_11 {X : CX} {Q : HS → Prop} (C : Cx X cX11_laysWays RX11 7 rm_X11_laysWays) (E : ReV X rm_X11_laysWays Q) (ht : (xh X).sig.returnType = none) (hn : (xh X).name = yX11_laysWays.name) {X3 : Nat → Int32 → Int32 → Int32 → Int32 → HS → Prop} (hX3 : ∀ (v0 : Nat) (v1 : Int32) (v2 : Int32) (v3 : Int32) (v4 : Int32) (S : HS), X3 v0 v1 v2 v3 v4 S → WS X 7 0 0 3 [(0, .ref v0), (1, .int v1), (2, .int v2), (3, .int v3), (4, .int v4)] [] S) {v0 : Nat} {v1 : Int32} {v2 : Int32} {v3 : Int32} {v4 : Int32} {v5 : Int32} {S : HS} (h : P_X11_laysWays_11 Q X3 v0 v1 v2 v3 v4 v5 S) : WS X 7 0 0 11 [(0, .ref v0), (1, .int v1), (2, .int v2), (3, .int v3), (4, .int v4), (5, .int v5)] [] S :=
  h (fun v0 v1 v2 v3 v4 v5 S => WS X 7 0 0 11 [(0, .ref v0), (1, .int v1), (2, .int v2), (3, .int v3), (4, .int v4), (5, .int v5)] [] S) (fun v0 v1 v2 v3 v4 v5 S hh => TB_X11_laysWays_11 C E ht hn hX3 (fun v0 v1 v2 v3 v4 v5 S z => z) hh)
def B_X11_laysWays_3 (Q : HS → Prop) (X3 : Nat → Int32 → Int32 → Int32 → Int32 → HS → Prop) (v0 : Nat) (v1 : Int32) (v2 : Int32) (v3 : Int32) (v4 : Int32) (S : HS) : Prop := ((v4 < 0) → (Q S)) ∧ ((¬ v4 < 0) → (P_X11_laysWays_11 Q X3 v0 v1 v2 v3 v4 (0 : Int32) S))
def P_X11_laysWays_3 (Q : HS → Prop) (v0 : Nat) (v1 : Int32) (v2 : Int32) (v3 : Int32) (v4 : Int32) (S : HS) : Prop := ∀ X3 : Nat → Int32 → Int32 → Int32 → Int32 → HS → Prop, (∀ (v0 : Nat) (v1 : Int32) (v2 : Int32) (v3 : Int32) (v4 : Int32) (S : HS), B_X11_laysWays_3 Q X3 v0 v1 v2 v3 v4 S → X3 v0 v1 v2 v3 v4 S) → X3 v0 v1 v2 v3 v4 S
set_option maxRecDepth 20000 in
set_option maxHeartbeats 4000000 in
theorem TB_X11_laysWays_3 {X : CX} {Q : HS → Prop} (C : Cx X cX11_laysWays RX11 7 rm_X11_laysWays) (E : ReV X rm_X11_laysWays Q) (ht : (xh X).sig.returnType = none) (hn : (xh X).name = yX11_laysWays.name) {X3 : Nat → Int32 → Int32 → Int32 → Int32 → HS → Prop} (hX3 : ∀ (v0 : Nat) (v1 : Int32) (v2 : Int32) (v3 : Int32) (v4 : Int32) (S : HS), X3 v0 v1 v2 v3 v4 S → WS X 7 0 0 3 [(0, .ref v0), (1, .int v1), (2, .int v2), (3, .int v3), (4, .int v4)] [] S) {v0 : Nat} {v1 : Int32} {v2 : Int32} {v3 : Int32} {v4 : Int32} {S : HS} (h : B_X11_laysWays_3 Q X3 v0 v1 v2 v3 v4 S) : WS X 7 0 0 3 [(0, .ref v0), (1, .int v1), (2, .int v2), (3, .int v3), (4, .int v4)] [] S := by
  refine r_iload (pc := 3) C dX11_laysWays_3 4 rfl ?_
  refine r_if_lt (pc := 5) C (tgt := 97) dX11_laysWays_5 (by decide) (fun c1 => ?_) (fun c1 => ?_)
  · have h := h.1 c1
    exact r_vret (pc := 97) C E ht dX11_laysWays_97 (by decide) (by decide) h
  · have h := h.2 c1
    refine r_iconst (pc := 8) C (v := (0 : Int32)) dX11_laysWays_8 (by decide) ?_
    refine r_istore (pc := 9) C dX11_laysWays_9 (by decide) (lv' := [(5, .int (0 : Int32)), (0, .ref v0), (1, .int v1), (2, .int v2), (3, .int v3), (4, .int v4)]) rfl ?_
    exact r_sub [1, 2, 3, 4, 5, 0] rfl (T_X11_laysWays_11 C E ht hn hX3 h)
theorem T_X11_laysWays_3 {X : CX} {Q : HS → Prop} (C : Cx X cX11_laysWays RX11 7 rm_X11_laysWays) (E : ReV X rm_X11_laysWays Q) (ht : (xh X).sig.returnType = none) (hn : (xh X).name = yX11_laysWays.name) {v0 : Nat} {v1 : Int32} {v2 : Int32} {v3 : Int32} {v4 : Int32} {S : HS} (h : P_X11_laysWays_3 Q v0 v1 v2 v3 v4 S) : WS X 7 0 0 3 [(0, .ref v0), (1, .int v1), (2, .int v2), (3, .int v3), (4, .int v4)] [] S :=
  h (fun v0 v1 v2 v3 v4 S => WS X 7 0 0 3 [(0, .ref v0), (1, .int v1), (2, .int v2), (3, .int v3), (4, .int v4)] [] S) (fun v0 v1 v2 v3 v4 S hh => TB_X11_laysWays_3 C E ht hn (fun v0 v1 v2 v3 v4 S z => z) hh)
def P_X11_laysWays_0 (Q : HS → Prop) (v0 : Nat) (v1 : Int32) (v2 : Int32) (v3 : Int32) (S : HS) : Prop := P_X11_laysWays_3 Q v0 v1 v2 v3 v3 S
set_option maxRecDepth 20000 in
set_option maxHeartbeats 4000000 in
theorem T_X11_laysWays_0 {X : CX} {Q : HS → Prop} (C : Cx X cX11_laysWays RX11 7 rm_X11_laysWays) (E : ReV X rm_X11_laysWays Q) (ht : (xh X).sig.returnType = none) (hn : (xh X).name = yX11_laysWays.name) {v0 : Nat} {v1 : Int32} {v2 : Int32} {v3 : Int32} {S : HS} (h : P_X11_laysWays_0 Q v0 v1 v2 v3 S) : WS X 7 0 0 0 [(0, .ref v0), (1, .int v1), (2, .int v2), (3, .int v3)] [] S := by
  refine r_iload_n (pc := 0) C dX11_laysWays_0 3 rfl ?_
  refine r_istore (pc := 1) C dX11_laysWays_1 (by decide) (lv' := [(4, .int v3), (0, .ref v0), (1, .int v1), (2, .int v2), (3, .int v3)]) rfl ?_
  exact r_sub [1, 2, 3, 4, 0] rfl (T_X11_laysWays_3 C E ht hn h)
def P_X11_laysWays (v0 : Nat) (v1 : Int32) (v2 : Int32) (v3 : Int32) (Q : HS → Prop) (S : HS) : Prop := P_X11_laysWays_0 Q v0 v1 v2 v3 S
theorem c_X11_laysWays {l : Launch} {Ee : EE} {S : HS} {v0 : Nat} {v1 : Int32} {v2 : Int32} {v3 : Int32} {Q : HS → Prop} (h : P_X11_laysWays v0 v1 v2 v3 Q S) : MV l yX11_laysWays cX11_laysWays 7 none rm_X11_laysWays Ee S [.ref v0, .int v1, .int v2, .int v3] Q :=
  openV (by decide) (Nat.le_of_ble_eq_true rfl) (fun X C E ht hn hE hl => by subst hE; exact r_sub [0, 1, 2, 3] rfl (T_X11_laysWays_0 C E ht hn h))
def rm_X11_refusesWay : Room := { frames := 9, cells := 0, slots := 0, locals := 243 }
def P_X11_refusesWay_0 (Q : Int32 → HS → Prop) (v0 : Nat) (v1 : Int32) (v2 : Int32) (v3 : Int32) (v4 : Int32) (v5 : Int32) (S : HS) : Prop := ob S v0 11 ∧ (P_X11_isWalker v0 v1 (fun x3 S1 => Gr S S1 → bl x3 → (((x3 = 0) → (Q (1 : Int32) S1)) ∧ ((¬ x3 = 0) → (P_X11_isPlace v0 v2 (fun x7 S5 => Gr S1 S5 → bl x7 → (((x7 = 0) → (Q (1 : Int32) S5)) ∧ ((¬ x7 = 0) → (P_X11_isPlace v0 v3 (fun x11 S9 => Gr S5 S9 → bl x11 → (((¬ x11 = 0) → (P_X11_in v5 (0 : Int32) (400 : Int32) (fun x15 S13 => Gr S9 S13 → bl x15 → (((x15 = 0) → (Q (2 : Int32) S13)) ∧ ((¬ x15 = 0) → (P_X11_in v4 (0 : Int32) v5 (fun x19 S17 => Gr S13 S17 → bl x19 → (((¬ x19 = 0) → (P_X11_laysWays v0 v1 v3 v5 (fun S21 => Gr S17 S21 → (∃ a24 : Nat, fR S21 v0 16 = some a24 ∧ (P_X11_spotOf v2 v4 (fun x27 S25 => Gr S21 S25 → (ob S25 a24 14 ∧ (vp_in x27 (hN S25 a24) ∧ ∀ x29 : Int64, x29 = fJ S25 a24 x27.toNatClampNeg → (((¬ (lg_cmp x29 (-1 : Int64)) = 0) → (Q (0 : Int32) S25)) ∧ (((lg_cmp x29 (-1 : Int64)) = 0) → (Q (6 : Int32) S25)))))) S21))) S17)) ∧ ((x19 = 0) → (Q (2 : Int32) S17)))) S13)))) S9)) ∧ ((x11 = 0) → (Q (1 : Int32) S9)))) S5)))) S1)))) S)
set_option maxRecDepth 20000 in
set_option maxHeartbeats 4000000 in
theorem T_X11_refusesWay_0 {X : CX} {Q : Int32 → HS → Prop} (C : Cx X cX11_refusesWay RX11 6 rm_X11_refusesWay) (E : ReI X rm_X11_refusesWay Q) (ht : (xh X).sig.returnType = (some .int)) (hn : (xh X).name = yX11_refusesWay.name) {v0 : Nat} {v1 : Int32} {v2 : Int32} {v3 : Int32} {v4 : Int32} {v5 : Int32} {S : HS} (h : P_X11_refusesWay_0 Q v0 v1 v2 v3 v4 v5 S) : WS X 6 0 0 0 [(0, .ref v0), (1, .int v1), (2, .int v2), (3, .int v3), (4, .int v4), (5, .int v5)] [] S := by
  refine r_aload_n (pc := 0) C dX11_refusesWay_0 0 rfl ?_
  refine r_iload_n (pc := 1) C dX11_refusesWay_1 1 rfl ?_
  obtain ⟨o_v0, h⟩ := h
  refine r_callVi0 (pc := 2) C (rest := []) (a := v0) o_v0 [.int v1] yV_X11_isWalker g_1538 (c_X11_isWalker h) dX11_refusesWay_2 rfl rfl (Nat.le_of_ble_eq_true rfl) ⟨by decide, by decide⟩ ⟨by decide, by decide⟩ ⟨rfl, rfl⟩ (fun x3 S1 h g2 => ?_)
  have bx3 := h.1
  have h := h.2 g2 bx3
  have o_v0 := gr_ob g2 o_v0
  refine r_if_eq (pc := 5) C (tgt := 24) dX11_refusesWay_5 (by decide) (fun c4 => ?_) (fun c4 => ?_)
  · have h := h.1 c4
    refine r_iconst (pc := 24) C (v := (1 : Int32)) dX11_refusesWay_24 (by decide) ?_
    exact r_iret (pc := 25) C E ht dX11_refusesWay_25 (by decide) (by decide) h
  · have h := h.2 c4
    refine r_aload_n (pc := 8) C dX11_refusesWay_8 0 rfl ?_
    refine r_iload_n (pc := 9) C dX11_refusesWay_9 2 rfl ?_
    refine r_callVi0 (pc := 10) C (rest := []) (a := v0) o_v0 [.int v2] yV_X11_isPlace g_1679 (c_X11_isPlace h) dX11_refusesWay_10 rfl rfl (Nat.le_of_ble_eq_true rfl) ⟨by decide, by decide⟩ ⟨by decide, by decide⟩ ⟨rfl, rfl⟩ (fun x7 S5 h g6 => ?_)
    have bx7 := h.1
    have h := h.2 g6 bx7
    have o_v0 := gr_ob g6 o_v0
    refine r_if_eq (pc := 13) C (tgt := 24) dX11_refusesWay_13 (by decide) (fun c8 => ?_) (fun c8 => ?_)
    · have h := h.1 c8
      refine r_iconst (pc := 24) C (v := (1 : Int32)) dX11_refusesWay_24 (by decide) ?_
      exact r_iret (pc := 25) C E ht dX11_refusesWay_25 (by decide) (by decide) h
    · have h := h.2 c8
      refine r_aload_n (pc := 16) C dX11_refusesWay_16 0 rfl ?_
      refine r_iload_n (pc := 17) C dX11_refusesWay_17 3 rfl ?_
      refine r_callVi0 (pc := 18) C (rest := []) (a := v0) o_v0 [.int v3] yV_X11_isPlace g_1679 (c_X11_isPlace h) dX11_refusesWay_18 rfl rfl (Nat.le_of_ble_eq_true rfl) ⟨by decide, by decide⟩ ⟨by decide, by decide⟩ ⟨rfl, rfl⟩ (fun x11 S9 h g10 => ?_)
      have bx11 := h.1
      have h := h.2 g10 bx11
      have o_v0 := gr_ob g10 o_v0
      refine r_if_ne (pc := 21) C (tgt := 26) dX11_refusesWay_21 (by decide) (fun c12 => ?_) (fun c12 => ?_)
      · have h := h.1 c12
        refine r_iload (pc := 26) C dX11_refusesWay_26 5 rfl ?_
        refine r_iconst (pc := 28) C (v := (0 : Int32)) dX11_refusesWay_28 (by decide) ?_
        refine r_sipush (pc := 29) C (v := (400 : Int32)) dX11_refusesWay_29 (by decide) ?_
        refine r_callSi0 (pc := 32) C (rest := []) rfl [.int v5, .int (0 : Int32), .int (400 : Int32)] yS_X11_in g_1434 (c_X11_in h) dX11_refusesWay_32 rfl rfl (Nat.le_of_ble_eq_true rfl) ⟨by decide, by decide⟩ ⟨by decide, by decide⟩ ⟨rfl, rfl⟩ (fun x15 S13 h g14 => ?_)
        have bx15 := h.1
        have h := h.2 g14 bx15
        have o_v0 := gr_ob g14 o_v0
        refine r_if_eq (pc := 35) C (tgt := 49) dX11_refusesWay_35 (by decide) (fun c16 => ?_) (fun c16 => ?_)
        · have h := h.1 c16
          refine r_iconst (pc := 49) C (v := (2 : Int32)) dX11_refusesWay_49 (by decide) ?_
          exact r_iret (pc := 50) C E ht dX11_refusesWay_50 (by decide) (by decide) h
        · have h := h.2 c16
          refine r_iload (pc := 38) C dX11_refusesWay_38 4 rfl ?_
          refine r_iconst (pc := 40) C (v := (0 : Int32)) dX11_refusesWay_40 (by decide) ?_
          refine r_iload (pc := 41) C dX11_refusesWay_41 5 rfl ?_
          refine r_callSi0 (pc := 43) C (rest := []) rfl [.int v4, .int (0 : Int32), .int v5] yS_X11_in g_1434 (c_X11_in h) dX11_refusesWay_43 rfl rfl (Nat.le_of_ble_eq_true rfl) ⟨by decide, by decide⟩ ⟨by decide, by decide⟩ ⟨rfl, rfl⟩ (fun x19 S17 h g18 => ?_)
          have bx19 := h.1
          have h := h.2 g18 bx19
          have o_v0 := gr_ob g18 o_v0
          refine r_if_ne (pc := 46) C (tgt := 51) dX11_refusesWay_46 (by decide) (fun c20 => ?_) (fun c20 => ?_)
          · have h := h.1 c20
            refine r_aload_n (pc := 51) C dX11_refusesWay_51 0 rfl ?_
            refine r_iload_n (pc := 52) C dX11_refusesWay_52 1 rfl ?_
            refine r_iload_n (pc := 53) C dX11_refusesWay_53 3 rfl ?_
            refine r_iload (pc := 54) C dX11_refusesWay_54 5 rfl ?_
            refine r_callVv0 (pc := 56) C (rest := []) (a := v0) o_v0 [.int v1, .int v3, .int v5] yV_X11_laysWays g_1683 (c_X11_laysWays h) dX11_refusesWay_56 rfl rfl (Nat.le_of_ble_eq_true rfl) ⟨by decide, by decide⟩ ⟨by decide, by decide⟩ ⟨rfl, rfl⟩ (fun S21 h g22 => ?_)
            have h := h g22
            have o_v0 := gr_ob g22 o_v0
            refine r_aload_n (pc := 59) C dX11_refusesWay_59 0 rfl ?_
            obtain ⟨a24, ea24, h⟩ := h
            refine r_getr (pc := 60) C fL_X11_17 dX11_refusesWay_60 o_v0 ea24 ?_
            refine r_iload_n (pc := 63) C dX11_refusesWay_63 2 rfl ?_
            refine r_iload (pc := 64) C dX11_refusesWay_64 4 rfl ?_
            refine r_callSi0 (pc := 66) C (rest := [.ref a24]) rfl [.int v2, .int v4] yS_X11_spotOf g_1687 (c_X11_spotOf h) dX11_refusesWay_66 rfl rfl (Nat.le_of_ble_eq_true rfl) ⟨by decide, by decide⟩ ⟨by decide, by decide⟩ ⟨rfl, rfl⟩ (fun x27 S25 h g26 => ?_)
            have h := h g26
            have o_v0 := gr_ob g26 o_v0
            obtain ⟨o_a24, h⟩ := h
            obtain ⟨i28, h⟩ := h
            refine r_lald (pc := 69) C dX11_refusesWay_69 o_a24 i28 ?_
            refine r_topl (fun x29 ex29 => ?_)
            have h := h x29 ex29
            refine r_ldc2 (pc := 70) C (v := (-1 : Int64)) dX11_refusesWay_70 g_1690 ?_
            refine r_lcmp (pc := 73) C dX11_refusesWay_73 ?_
            refine r_if_ne (pc := 74) C (tgt := 82) dX11_refusesWay_74 (by decide) (fun c30 => ?_) (fun c30 => ?_)
            · have h := h.1 c30
              refine r_iconst (pc := 82) C (v := (0 : Int32)) dX11_refusesWay_82 (by decide) ?_
              exact r_iret (pc := 83) C E ht dX11_refusesWay_83 (by decide) (by decide) h
            · have h := h.2 c30
              refine r_bipush (pc := 77) C (v := (6 : Int32)) dX11_refusesWay_77 (by decide) ?_
              refine r_goto (pc := 79) C (tgt := 83) dX11_refusesWay_79 (by decide) ?_
              exact r_iret (pc := 83) C E ht dX11_refusesWay_83 (by decide) (by decide) h
          · have h := h.2 c20
            refine r_iconst (pc := 49) C (v := (2 : Int32)) dX11_refusesWay_49 (by decide) ?_
            exact r_iret (pc := 50) C E ht dX11_refusesWay_50 (by decide) (by decide) h
      · have h := h.2 c12
        refine r_iconst (pc := 24) C (v := (1 : Int32)) dX11_refusesWay_24 (by decide) ?_
        exact r_iret (pc := 25) C E ht dX11_refusesWay_25 (by decide) (by decide) h
def P_X11_refusesWay (v0 : Nat) (v1 : Int32) (v2 : Int32) (v3 : Int32) (v4 : Int32) (v5 : Int32) (Q : Int32 → HS → Prop) (S : HS) : Prop := P_X11_refusesWay_0 Q v0 v1 v2 v3 v4 v5 S
theorem c_X11_refusesWay {l : Launch} {Ee : EE} {S : HS} {v0 : Nat} {v1 : Int32} {v2 : Int32} {v3 : Int32} {v4 : Int32} {v5 : Int32} {Q : Int32 → HS → Prop} (h : P_X11_refusesWay v0 v1 v2 v3 v4 v5 Q S) : MI l yX11_refusesWay cX11_refusesWay 6 (some .int) rm_X11_refusesWay Ee S [.ref v0, .int v1, .int v2, .int v3, .int v4, .int v5] Q :=
  openI (by decide) (Nat.le_of_ble_eq_true rfl) (fun X C E ht hn hE hl => by subst hE; exact r_sub [0, 1, 2, 3, 4, 5] rfl (T_X11_refusesWay_0 C E ht hn h))
def rm_X11_least : Room := { frames := 10, cells := 0, slots := 0, locals := 268 }
def P_X11_least_0 (Q : Int64 → HS → Prop) (v0 : Nat) (v1 : Int32) (v2 : Int32) (v3 : Int32) (v4 : Int32) (v5 : Int32) (v6 : Int32) (S : HS) : Prop := ob S v0 11 ∧ (∀ S1 : HS, S1 = sI S v0 0 (0 : Int32) → (P_X11_refusesWay v0 v1 v2 v3 v4 v5 (fun x4 S2 => Gr S1 S2 → (((x4 ≤ 0) → (∃ a6 : Nat, fR S2 v0 16 = some a6 ∧ (P_X11_spotOf v2 v4 (fun x9 S7 => Gr S2 S7 → (ob S7 a6 14 ∧ (vp_in x9 (hN S7 a6) ∧ ∀ x11 : Int64, x11 = fJ S7 a6 x9.toNatClampNeg → (P_X11_told v0 x11 (252000 : Int64) v6 (fun x14 S12 => Gr S7 S12 → (Q x14 S12)) S7)))) S2))) ∧ ((¬ x4 ≤ 0) → (P_X11_refused v0 x4 (fun x17 S15 => Gr S2 S15 → (Q x17.toInt64 S15)) S2)))) S1))
set_option maxRecDepth 20000 in
set_option maxHeartbeats 4000000 in
theorem T_X11_least_0 {X : CX} {Q : Int64 → HS → Prop} (C : Cx X cX11_least RX11 8 rm_X11_least) (E : ReJ X rm_X11_least Q) (ht : (xh X).sig.returnType = (some .long)) (hn : (xh X).name = yX11_least.name) {v0 : Nat} {v1 : Int32} {v2 : Int32} {v3 : Int32} {v4 : Int32} {v5 : Int32} {v6 : Int32} {S : HS} (h : P_X11_least_0 Q v0 v1 v2 v3 v4 v5 v6 S) : WS X 8 0 0 0 [(0, .ref v0), (1, .int v1), (2, .int v2), (3, .int v3), (4, .int v4), (5, .int v5), (6, .int v6)] [] S := by
  refine r_aload_n (pc := 0) C dX11_least_0 0 rfl ?_
  refine r_iconst (pc := 1) C (v := (0 : Int32)) dX11_least_1 (by decide) ?_
  obtain ⟨o_v0, h⟩ := h
  refine r_puti (pc := 2) C pfL_X11_40 dX11_least_2 o_v0 ?_
  refine r_heap (fun S1 eS1 => ?_)
  have h := h S1 eS1
  have o_v0 := ob_I eS1 o_v0
  refine r_aload_n (pc := 5) C dX11_least_5 0 rfl ?_
  refine r_iload_n (pc := 6) C dX11_least_6 1 rfl ?_
  refine r_iload_n (pc := 7) C dX11_least_7 2 rfl ?_
  refine r_iload_n (pc := 8) C dX11_least_8 3 rfl ?_
  refine r_iload (pc := 9) C dX11_least_9 4 rfl ?_
  refine r_iload (pc := 11) C dX11_least_11 5 rfl ?_
  refine r_callVi0 (pc := 13) C (rest := []) (a := v0) o_v0 [.int v1, .int v2, .int v3, .int v4, .int v5] yV_X11_refusesWay g_1675 (c_X11_refusesWay h) dX11_least_13 rfl rfl (Nat.le_of_ble_eq_true rfl) ⟨by decide, by decide⟩ ⟨by decide, by decide⟩ ⟨rfl, rfl⟩ (fun x4 S2 h g3 => ?_)
  have h := h g3
  have o_v0 := gr_ob g3 o_v0
  refine r_istore (pc := 16) C dX11_least_16 (by decide) (lv' := [(7, .int x4), (0, .ref v0), (1, .int v1), (2, .int v2), (3, .int v3), (4, .int v4), (5, .int v5), (6, .int v6)]) rfl ?_
  refine r_iload (pc := 18) C dX11_least_18 0 rfl ?_
  refine r_if_le (pc := 20) C (tgt := 33) dX11_least_20 (by decide) (fun c5 => ?_) (fun c5 => ?_)
  · have h := h.1 c5
    refine r_aload_n (pc := 33) C dX11_least_33 1 rfl ?_
    refine r_aload_n (pc := 34) C dX11_least_34 1 rfl ?_
    obtain ⟨a6, ea6, h⟩ := h
    refine r_getr (pc := 35) C fL_X11_17 dX11_least_35 o_v0 ea6 ?_
    refine r_iload_n (pc := 38) C dX11_least_38 3 rfl ?_
    refine r_iload (pc := 39) C dX11_least_39 5 rfl ?_
    refine r_callSi0 (pc := 41) C (rest := [.ref a6, .ref v0]) rfl [.int v2, .int v4] yS_X11_spotOf g_1687 (c_X11_spotOf h) dX11_least_41 rfl rfl (Nat.le_of_ble_eq_true rfl) ⟨by decide, by decide⟩ ⟨by decide, by decide⟩ ⟨rfl, rfl⟩ (fun x9 S7 h g8 => ?_)
    have h := h g8
    have o_v0 := gr_ob g8 o_v0
    obtain ⟨o_a6, h⟩ := h
    obtain ⟨i10, h⟩ := h
    refine r_lald (pc := 44) C dX11_least_44 o_a6 i10 ?_
    refine r_topl (fun x11 ex11 => ?_)
    have h := h x11 ex11
    refine r_ldc2 (pc := 45) C (v := (252000 : Int64)) dX11_least_45 g_1602 ?_
    refine r_iload (pc := 48) C dX11_least_48 7 rfl ?_
    refine r_callVl0 (pc := 50) C (rest := []) (a := v0) o_v0 [.long x11, .long (252000 : Int64), .int v6] yV_X11_told g_1586 (c_X11_told h) dX11_least_50 rfl rfl (Nat.le_of_ble_eq_true rfl) ⟨by decide, by decide⟩ ⟨by decide, by decide⟩ ⟨rfl, rfl⟩ (fun x14 S12 h g13 => ?_)
    have h := h g13
    have o_a6 := gr_ob g13 o_a6
    have o_v0 := gr_ob g13 o_v0
    exact r_lret (pc := 53) C E ht dX11_least_53 (by decide) (by decide) h
  · have h := h.2 c5
    refine r_aload_n (pc := 23) C dX11_least_23 1 rfl ?_
    refine r_iload (pc := 24) C dX11_least_24 0 rfl ?_
    refine r_callVi0 (pc := 26) C (rest := []) (a := v0) o_v0 [.int x4] yV_X11_refused g_1250 (c_X11_refused h) dX11_least_26 rfl rfl (Nat.le_of_ble_eq_true rfl) ⟨by decide, by decide⟩ ⟨by decide, by decide⟩ ⟨rfl, rfl⟩ (fun x17 S15 h g16 => ?_)
    have h := h g16
    have o_v0 := gr_ob g16 o_v0
    refine r_i2l (pc := 29) C dX11_least_29 ?_
    refine r_goto (pc := 30) C (tgt := 53) dX11_least_30 (by decide) ?_
    exact r_lret (pc := 53) C E ht dX11_least_53 (by decide) (by decide) h
def P_X11_least (v0 : Nat) (v1 : Int32) (v2 : Int32) (v3 : Int32) (v4 : Int32) (v5 : Int32) (v6 : Int32) (Q : Int64 → HS → Prop) (S : HS) : Prop := P_X11_least_0 Q v0 v1 v2 v3 v4 v5 v6 S
theorem c_X11_least {l : Launch} {Ee : EE} {S : HS} {v0 : Nat} {v1 : Int32} {v2 : Int32} {v3 : Int32} {v4 : Int32} {v5 : Int32} {v6 : Int32} {Q : Int64 → HS → Prop} (h : P_X11_least v0 v1 v2 v3 v4 v5 v6 Q S) : MJ l yX11_least cX11_least 8 (some .long) rm_X11_least Ee S [.ref v0, .int v1, .int v2, .int v3, .int v4, .int v5, .int v6] Q :=
  openJ (by decide) (Nat.le_of_ble_eq_true rfl) (fun X C E ht hn hE hl => by subst hE; exact r_sub [0, 1, 2, 3, 4, 5, 6] rfl (T_X11_least_0 C E ht hn h))
def rm_X11_led : Room := { frames := 1, cells := 0, slots := 0, locals := 20 }
def P_X11_led_80 (Q : Int32 → HS → Prop) (X9 : Nat → Int32 → Int32 → Int32 → HS → Prop) (v0 : Nat) (v1 : Int32) (v2 : Int32) (v3 : Int32) (S : HS) : Prop := ∀ x1 : Int32, x1 = v3 + (1 : Int32) → (X9 v0 v1 v2 x1 S)
set_option maxRecDepth 20000 in
set_option maxHeartbeats 4000000 in
theorem T_X11_led_80 {X : CX} {Q : Int32 → HS → Prop} (C : Cx X cX11_led RX11 4 rm_X11_led) (E : ReI X rm_X11_led Q) (ht : (xh X).sig.returnType = (some .int)) (hn : (xh X).name = yX11_led.name) {X9 : Nat → Int32 → Int32 → Int32 → HS → Prop} (hX9 : ∀ (v0 : Nat) (v1 : Int32) (v2 : Int32) (v3 : Int32) (S : HS), X9 v0 v1 v2 v3 S → WS X 4 0 0 9 [(0, .ref v0), (1, .int v1), (2, .int v2), (3, .int v3)] [] S) {v0 : Nat} {v1 : Int32} {v2 : Int32} {v3 : Int32} {S : HS} (h : P_X11_led_80 Q X9 v0 v1 v2 v3 S) : WS X 4 0 0 80 [(0, .ref v0), (1, .int v1), (2, .int v2), (3, .int v3)] [] S := by
  obtain ⟨x1, ex1⟩ : ∃ z : Int32, z = v3 + (1 : Int32) := ⟨_, rfl⟩
  have h := h x1 ex1
  refine r_iinc (pc := 80) C (v := x1) (lv' := [(3, .int x1), (0, .ref v0), (1, .int v1), (2, .int v2)]) dX11_led_80 3 rfl ex1.symm (by decide) rfl ?_
  refine r_goto (pc := 83) C (tgt := 9) dX11_led_83 (by decide) ?_
  exact r_sub [1, 2, 3, 0] rfl (hX9 v0 v1 v2 x1 S h)
def P_X11_led_70 (Q : Int32 → HS → Prop) (X9 : Nat → Int32 → Int32 → Int32 → HS → Prop) (v0 : Nat) (v1 : Int32) (v2 : Int32) (v3 : Int32) (S : HS) : Prop := ((¬ v2 = v1) → (∀ x2 : Int32, x2 = v2 + (1 : Int32) → (P_X11_led_80 Q X9 v0 v1 x2 v3 S))) ∧ ((v2 = v1) → (Q v3 S))
set_option maxRecDepth 20000 in
set_option maxHeartbeats 4000000 in
theorem T_X11_led_70 {X : CX} {Q : Int32 → HS → Prop} (C : Cx X cX11_led RX11 4 rm_X11_led) (E : ReI X rm_X11_led Q) (ht : (xh X).sig.returnType = (some .int)) (hn : (xh X).name = yX11_led.name) {X9 : Nat → Int32 → Int32 → Int32 → HS → Prop} (hX9 : ∀ (v0 : Nat) (v1 : Int32) (v2 : Int32) (v3 : Int32) (S : HS), X9 v0 v1 v2 v3 S → WS X 4 0 0 9 [(0, .ref v0), (1, .int v1), (2, .int v2), (3, .int v3)] [] S) {v0 : Nat} {v1 : Int32} {v2 : Int32} {v3 : Int32} {S : HS} (h : P_X11_led_70 Q X9 v0 v1 v2 v3 S) : WS X 4 0 0 70 [(0, .ref v0), (1, .int v1), (2, .int v2), (3, .int v3)] [] S := by
  refine r_iload_n (pc := 70) C dX11_led_70 2 rfl ?_
  refine r_iload_n (pc := 71) C dX11_led_71 1 rfl ?_
  refine r_icmp_ne (pc := 72) C (tgt := 77) dX11_led_72 (by decide) (fun c1 => ?_) (fun c1 => ?_)
  · have h := h.1 c1
    obtain ⟨x2, ex2⟩ : ∃ z : Int32, z = v2 + (1 : Int32) := ⟨_, rfl⟩
    have h := h x2 ex2
    refine r_iinc (pc := 77) C (v := x2) (lv' := [(2, .int x2), (0, .ref v0), (1, .int v1), (3, .int v3)]) dX11_led_77 2 rfl ex2.symm (by decide) rfl ?_
    exact r_sub [1, 2, 0, 3] rfl (T_X11_led_80 C E ht hn hX9 h)
  · have h := h.2 c1
    refine r_iload_n (pc := 75) C dX11_led_75 3 rfl ?_
    exact r_iret (pc := 76) C E ht dX11_led_76 (by decide) (by decide) h
def B_X11_led_9 (Q : Int32 → HS → Prop) (X9 : Nat → Int32 → Int32 → Int32 → HS → Prop) (v0 : Nat) (v1 : Int32) (v2 : Int32) (v3 : Int32) (S : HS) : Prop := ob S v0 11 ∧ (P_X11_isDay v0 (fun x3 S1 => Gr S S1 → bl x3 → (((x3 = 0) → (∀ S5 : HS, S5 = sI S1 v0 0 (1 : Int32) → (Q (0 : Int32) S5))) ∧ ((¬ x3 = 0) → (∃ a6 : Nat, fR S1 v0 3 = some a6 ∧ (ob S1 a6 10 ∧ (∀ x7 : Int32, x7 = fI S1 a6 3 → (((x7 ≤ v3) → (∀ S9 : HS, S9 = sI S1 v0 0 (1 : Int32) → (Q (0 : Int32) S9))) ∧ ((¬ x7 ≤ v3) → (∃ a10 : Nat, fR S1 v0 3 = some a10 ∧ (ob S1 a10 10 ∧ (∃ a11 : Nat, fR S1 a10 13 = some a11 ∧ (ob S1 a11 13 ∧ (vp_in v3 (hN S1 a11) ∧ ∀ x13 : Int32, x13 = fI S1 a11 v3.toNatClampNeg → (∃ a14 : Nat, fR S1 v0 21 = some a14 ∧ (ob S1 a14 14 ∧ (vp_in (0 : Int32) (hN S1 a14) ∧ ∀ x16 : Int64, x16 = fJ S1 a14 (0 : Int32).toNatClampNeg → ((((lg_cmp x13.toInt64 x16) = 0) → (P_X11_led_70 Q X9 v0 v1 v2 v3 S1)) ∧ ((¬ (lg_cmp x13.toInt64 x16) = 0) → (∃ a18 : Nat, fR S1 v0 3 = some a18 ∧ (ob S1 a18 10 ∧ (∃ a19 : Nat, fR S1 a18 14 = some a19 ∧ (ob S1 a19 13 ∧ (vp_in v3 (hN S1 a19) ∧ ∀ x21 : Int32, x21 = fI S1 a19 v3.toNatClampNeg → (∃ a22 : Nat, fR S1 v0 21 = some a22 ∧ (ob S1 a22 14 ∧ (vp_in (0 : Int32) (hN S1 a22) ∧ ∀ x24 : Int64, x24 = fJ S1 a22 (0 : Int32).toNatClampNeg → ((((lg_cmp x21.toInt64 x24) = 0) → (P_X11_led_70 Q X9 v0 v1 v2 v3 S1)) ∧ ((¬ (lg_cmp x21.toInt64 x24) = 0) → (P_X11_led_80 Q X9 v0 v1 v2 v3 S1))))))))))))))))))))))))))))) S)
def P_X11_led_9 (Q : Int32 → HS → Prop) (v0 : Nat) (v1 : Int32) (v2 : Int32) (v3 : Int32) (S : HS) : Prop := ∀ X9 : Nat → Int32 → Int32 → Int32 → HS → Prop, (∀ (v0 : Nat) (v1 : Int32) (v2 : Int32) (v3 : Int32) (S : HS), B_X11_led_9 Q X9 v0 v1 v2 v3 S → X9 v0 v1 v2 v3 S) → X9 v0 v1 v2 v3 S
set_option maxRecDepth 20000 in
set_option maxHeartbeats 4000000 in
theorem TB_X11_led_9 {X : CX} {Q : Int32 → HS → Prop} (C : Cx X cX11_led RX11 4 rm_X11_led) (E : ReI X rm_X11_led Q) (ht : (xh X).sig.returnType = (some .int)) (hn : (xh X).name = yX11_led.name) {X9 : Nat → Int32 → Int32 → Int32 → HS → Prop} (hX9 : ∀ (v0 : Nat) (v1 : Int32) (v2 : Int32) (v3 : Int32) (S : HS), X9 v0 v1 v2 v3 S → WS X 4 0 0 9 [(0, .ref v0), (1, .int v1), (2, .int v2), (3, .int v3)] [] S) {v0 : Nat} {v1 : Int32} {v2 : Int32} {v3 : Int32} {S : HS} (h : B_X11_led_9 Q X9 v0 v1 v2 v3 S) : WS X 4 0 0 9 [(0, .ref v0), (1, .int v1), (2, .int v2), (3, .int v3)] [] S := by
  refine r_aload_n (pc := 9) C dX11_led_9 0 rfl ?_
  obtain ⟨o_v0, h⟩ := h
  refine r_callVi0 (pc := 10) C (rest := []) (a := v0) o_v0 [] yV_X11_isDay g_1779 (c_X11_isDay h) dX11_led_10 rfl rfl (Nat.le_of_ble_eq_true rfl) ⟨by decide, by decide⟩ ⟨by decide, by decide⟩ ⟨rfl, rfl⟩ (fun x3 S1 h g2 => ?_)
  have bx3 := h.1
  have h := h.2 g2 bx3
  have o_v0 := gr_ob g2 o_v0
  refine r_if_eq (pc := 13) C (tgt := 86) dX11_led_13 (by decide) (fun c4 => ?_) (fun c4 => ?_)
  · have h := h.1 c4
    refine r_aload_n (pc := 86) C dX11_led_86 0 rfl ?_
    refine r_iconst (pc := 87) C (v := (1 : Int32)) dX11_led_87 (by decide) ?_
    refine r_puti (pc := 88) C pfL_X11_40 dX11_led_88 o_v0 ?_
    refine r_heap (fun S5 eS5 => ?_)
    have h := h S5 eS5
    have o_v0 := ob_I eS5 o_v0
    refine r_iconst (pc := 91) C (v := (0 : Int32)) dX11_led_91 (by decide) ?_
    exact r_iret (pc := 92) C E ht dX11_led_92 (by decide) (by decide) h
  · have h := h.2 c4
    refine r_iload_n (pc := 16) C dX11_led_16 3 rfl ?_
    refine r_aload_n (pc := 17) C dX11_led_17 0 rfl ?_
    obtain ⟨a6, ea6, h⟩ := h
    refine r_getr (pc := 18) C fL_X11_338 dX11_led_18 o_v0 ea6 ?_
    obtain ⟨o_a6, h⟩ := h
    refine r_getNi (pc := 21) C fN_X11_264 dX11_led_21 o_a6 ?_
    refine r_topi (fun x7 ex7 => ?_)
    have h := h x7 ex7
    refine r_icmp_ge (pc := 24) C (tgt := 86) dX11_led_24 (by decide) (fun c8 => ?_) (fun c8 => ?_)
    · have h := h.1 c8
      refine r_aload_n (pc := 86) C dX11_led_86 0 rfl ?_
      refine r_iconst (pc := 87) C (v := (1 : Int32)) dX11_led_87 (by decide) ?_
      refine r_puti (pc := 88) C pfL_X11_40 dX11_led_88 o_v0 ?_
      refine r_heap (fun S9 eS9 => ?_)
      have h := h S9 eS9
      have o_a6 := ob_I eS9 o_a6
      have o_v0 := ob_I eS9 o_v0
      refine r_iconst (pc := 91) C (v := (0 : Int32)) dX11_led_91 (by decide) ?_
      exact r_iret (pc := 92) C E ht dX11_led_92 (by decide) (by decide) h
    · have h := h.2 c8
      refine r_aload_n (pc := 27) C dX11_led_27 0 rfl ?_
      obtain ⟨a10, ea10, h⟩ := h
      refine r_getr (pc := 28) C fL_X11_338 dX11_led_28 o_v0 ea10 ?_
      obtain ⟨o_a10, h⟩ := h
      obtain ⟨a11, ea11, h⟩ := h
      refine r_getNr (pc := 31) C fN_X11_270 dX11_led_31 o_a10 ea11 ?_
      refine r_iload_n (pc := 34) C dX11_led_34 3 rfl ?_
      obtain ⟨o_a11, h⟩ := h
      obtain ⟨i12, h⟩ := h
      refine r_iald (pc := 35) C dX11_led_35 o_a11 i12 ?_
      refine r_topi (fun x13 ex13 => ?_)
      have h := h x13 ex13
      refine r_i2l (pc := 36) C dX11_led_36 ?_
      refine r_aload_n (pc := 37) C dX11_led_37 0 rfl ?_
      obtain ⟨a14, ea14, h⟩ := h
      refine r_getr (pc := 38) C fL_X11_31 dX11_led_38 o_v0 ea14 ?_
      refine r_iconst (pc := 41) C (v := (0 : Int32)) dX11_led_41 (by decide) ?_
      obtain ⟨o_a14, h⟩ := h
      obtain ⟨i15, h⟩ := h
      refine r_lald (pc := 42) C dX11_led_42 o_a14 i15 ?_
      refine r_topl (fun x16 ex16 => ?_)
      have h := h x16 ex16
      refine r_lcmp (pc := 43) C dX11_led_43 ?_
      refine r_if_eq (pc := 44) C (tgt := 70) dX11_led_44 (by decide) (fun c17 => ?_) (fun c17 => ?_)
      · have h := h.1 c17
        exact r_sub [0, 1, 2, 3] rfl (T_X11_led_70 C E ht hn hX9 h)
      · have h := h.2 c17
        refine r_aload_n (pc := 47) C dX11_led_47 0 rfl ?_
        obtain ⟨a18, ea18, h⟩ := h
        refine r_getr (pc := 48) C fL_X11_338 dX11_led_48 o_v0 ea18 ?_
        obtain ⟨o_a18, h⟩ := h
        obtain ⟨a19, ea19, h⟩ := h
        refine r_getNr (pc := 51) C fN_X11_273 dX11_led_51 o_a18 ea19 ?_
        refine r_iload_n (pc := 54) C dX11_led_54 3 rfl ?_
        obtain ⟨o_a19, h⟩ := h
        obtain ⟨i20, h⟩ := h
        refine r_iald (pc := 55) C dX11_led_55 o_a19 i20 ?_
        refine r_topi (fun x21 ex21 => ?_)
        have h := h x21 ex21
        refine r_i2l (pc := 56) C dX11_led_56 ?_
        refine r_aload_n (pc := 57) C dX11_led_57 0 rfl ?_
        obtain ⟨a22, ea22, h⟩ := h
        refine r_getr (pc := 58) C fL_X11_31 dX11_led_58 o_v0 ea22 ?_
        refine r_iconst (pc := 61) C (v := (0 : Int32)) dX11_led_61 (by decide) ?_
        obtain ⟨o_a22, h⟩ := h
        obtain ⟨i23, h⟩ := h
        refine r_lald (pc := 62) C dX11_led_62 o_a22 i23 ?_
        refine r_topl (fun x24 ex24 => ?_)
        have h := h x24 ex24
        refine r_lcmp (pc := 63) C dX11_led_63 ?_
        refine r_if_eq (pc := 64) C (tgt := 70) dX11_led_64 (by decide) (fun c25 => ?_) (fun c25 => ?_)
        · have h := h.1 c25
          exact r_sub [0, 1, 2, 3] rfl (T_X11_led_70 C E ht hn hX9 h)
        · have h := h.2 c25
          refine r_goto (pc := 67) C (tgt := 80) dX11_led_67 (by decide) ?_
          exact r_sub [0, 1, 2, 3] rfl (T_X11_led_80 C E ht hn hX9 h)
theorem T_X11_led_9 {X : CX} {Q : Int32 → HS → Prop} (C : Cx X cX11_led RX11 4 rm_X11_led) (E : ReI X rm_X11_led Q) (ht : (xh X).sig.returnType = (some .int)) (hn : (xh X).name = yX11_led.name) {v0 : Nat} {v1 : Int32} {v2 : Int32} {v3 : Int32} {S : HS} (h : P_X11_led_9 Q v0 v1 v2 v3 S) : WS X 4 0 0 9 [(0, .ref v0), (1, .int v1), (2, .int v2), (3, .int v3)] [] S :=
  h (fun v0 v1 v2 v3 S => WS X 4 0 0 9 [(0, .ref v0), (1, .int v1), (2, .int v2), (3, .int v3)] [] S) (fun v0 v1 v2 v3 S hh => TB_X11_led_9 C E ht hn (fun v0 v1 v2 v3 S z => z) hh)
def P_X11_led_0 (Q : Int32 → HS → Prop) (v0 : Nat) (v1 : Int32) (S : HS) : Prop := ob S v0 11 ∧ (∀ S1 : HS, S1 = sI S v0 0 (0 : Int32) → (P_X11_led_9 Q v0 v1 (0 : Int32) (0 : Int32) S1))
set_option maxRecDepth 20000 in
set_option maxHeartbeats 4000000 in
theorem T_X11_led_0 {X : CX} {Q : Int32 → HS → Prop} (C : Cx X cX11_led RX11 4 rm_X11_led) (E : ReI X rm_X11_led Q) (ht : (xh X).sig.returnType = (some .int)) (hn : (xh X).name = yX11_led.name) {v0 : Nat} {v1 : Int32} {S : HS} (h : P_X11_led_0 Q v0 v1 S) : WS X 4 0 0 0 [(0, .ref v0), (1, .int v1)] [] S := by
  refine r_aload_n (pc := 0) C dX11_led_0 0 rfl ?_
  refine r_iconst (pc := 1) C (v := (0 : Int32)) dX11_led_1 (by decide) ?_
  obtain ⟨o_v0, h⟩ := h
  refine r_puti (pc := 2) C pfL_X11_40 dX11_led_2 o_v0 ?_
  refine r_heap (fun S1 eS1 => ?_)
  have h := h S1 eS1
  have o_v0 := ob_I eS1 o_v0
  refine r_iconst (pc := 5) C (v := (0 : Int32)) dX11_led_5 (by decide) ?_
  refine r_istore_n (pc := 6) C dX11_led_6 rfl (by decide) (lv' := [(2, .int (0 : Int32)), (0, .ref v0), (1, .int v1)]) rfl ?_
  refine r_iconst (pc := 7) C (v := (0 : Int32)) dX11_led_7 (by decide) ?_
  refine r_istore_n (pc := 8) C dX11_led_8 rfl (by decide) (lv' := [(3, .int (0 : Int32)), (2, .int (0 : Int32)), (0, .ref v0), (1, .int v1)]) rfl ?_
  exact r_sub [2, 3, 1, 0] rfl (T_X11_led_9 C E ht hn h)
def P_X11_led (v0 : Nat) (v1 : Int32) (Q : Int32 → HS → Prop) (S : HS) : Prop := P_X11_led_0 Q v0 v1 S
theorem c_X11_led {l : Launch} {Ee : EE} {S : HS} {v0 : Nat} {v1 : Int32} {Q : Int32 → HS → Prop} (h : P_X11_led v0 v1 Q S) : MI l yX11_led cX11_led 4 (some .int) rm_X11_led Ee S [.ref v0, .int v1] Q :=
  openI (by decide) (Nat.le_of_ble_eq_true rfl) (fun X C E ht hn hE hl => by subst hE; exact r_sub [0, 1] rfl (T_X11_led_0 C E ht hn h))
def rm_X11_lee : Room := { frames := 5, cells := 0, slots := 0, locals := 138 }
def P_X11_lee_0 (Q : Int64 → HS → Prop) (v0 : Nat) (v1 : Int32) (v2 : Int32) (v3 : Int32) (v4 : Int32) (v5 : Int32) (v6 : Int32) (v7 : Int32) (S : HS) : Prop := ob S v0 11 ∧ (∀ S1 : HS, S1 = sI S v0 0 (0 : Int32) → (P_X11_refusesTwo v0 v1 v2 v3 v4 v5 v6 (fun x4 S2 => Gr S1 S2 → (((x4 ≤ 0) → (P_X11_together v0 v1 v2 v3 v4 v5 v6 (fun x8 S6 => Gr S2 S6 → (P_X11_told v0 x8 (2520 : Int64) v7 (fun x11 S9 => Gr S6 S9 → (Q x11 S9)) S6)) S2)) ∧ ((¬ x4 ≤ 0) → (P_X11_refused v0 x4 (fun x14 S12 => Gr S2 S12 → (Q x14.toInt64 S12)) S2)))) S1))
set_option maxRecDepth 20000 in
set_option maxHeartbeats 4000000 in
theorem T_X11_lee_0 {X : CX} {Q : Int64 → HS → Prop} (C : Cx X cX11_lee RX11 9 rm_X11_lee) (E : ReJ X rm_X11_lee Q) (ht : (xh X).sig.returnType = (some .long)) (hn : (xh X).name = yX11_lee.name) {v0 : Nat} {v1 : Int32} {v2 : Int32} {v3 : Int32} {v4 : Int32} {v5 : Int32} {v6 : Int32} {v7 : Int32} {S : HS} (h : P_X11_lee_0 Q v0 v1 v2 v3 v4 v5 v6 v7 S) : WS X 9 0 0 0 [(0, .ref v0), (1, .int v1), (2, .int v2), (3, .int v3), (4, .int v4), (5, .int v5), (6, .int v6), (7, .int v7)] [] S := by
  refine r_aload_n (pc := 0) C dX11_lee_0 0 rfl ?_
  refine r_iconst (pc := 1) C (v := (0 : Int32)) dX11_lee_1 (by decide) ?_
  obtain ⟨o_v0, h⟩ := h
  refine r_puti (pc := 2) C pfL_X11_40 dX11_lee_2 o_v0 ?_
  refine r_heap (fun S1 eS1 => ?_)
  have h := h S1 eS1
  have o_v0 := ob_I eS1 o_v0
  refine r_aload_n (pc := 5) C dX11_lee_5 0 rfl ?_
  refine r_iload_n (pc := 6) C dX11_lee_6 1 rfl ?_
  refine r_iload_n (pc := 7) C dX11_lee_7 2 rfl ?_
  refine r_iload_n (pc := 8) C dX11_lee_8 3 rfl ?_
  refine r_iload (pc := 9) C dX11_lee_9 4 rfl ?_
  refine r_iload (pc := 11) C dX11_lee_11 5 rfl ?_
  refine r_iload (pc := 13) C dX11_lee_13 6 rfl ?_
  refine r_callVi0 (pc := 15) C (rest := []) (a := v0) o_v0 [.int v1, .int v2, .int v3, .int v4, .int v5, .int v6] yV_X11_refusesTwo g_1659 (c_X11_refusesTwo h) dX11_lee_15 rfl rfl (Nat.le_of_ble_eq_true rfl) ⟨by decide, by decide⟩ ⟨by decide, by decide⟩ ⟨rfl, rfl⟩ (fun x4 S2 h g3 => ?_)
  have h := h g3
  have o_v0 := gr_ob g3 o_v0
  refine r_istore (pc := 18) C dX11_lee_18 (by decide) (lv' := [(8, .int x4), (0, .ref v0), (1, .int v1), (2, .int v2), (3, .int v3), (4, .int v4), (5, .int v5), (6, .int v6), (7, .int v7)]) rfl ?_
  refine r_iload (pc := 20) C dX11_lee_20 0 rfl ?_
  refine r_if_le (pc := 22) C (tgt := 35) dX11_lee_22 (by decide) (fun c5 => ?_) (fun c5 => ?_)
  · have h := h.1 c5
    refine r_aload_n (pc := 35) C dX11_lee_35 1 rfl ?_
    refine r_aload_n (pc := 36) C dX11_lee_36 1 rfl ?_
    refine r_iload_n (pc := 37) C dX11_lee_37 2 rfl ?_
    refine r_iload_n (pc := 38) C dX11_lee_38 3 rfl ?_
    refine r_iload_n (pc := 39) C dX11_lee_39 4 rfl ?_
    refine r_iload (pc := 40) C dX11_lee_40 5 rfl ?_
    refine r_iload (pc := 42) C dX11_lee_42 6 rfl ?_
    refine r_iload (pc := 44) C dX11_lee_44 7 rfl ?_
    refine r_callVl0 (pc := 46) C (rest := [.ref v0]) (a := v0) o_v0 [.int v1, .int v2, .int v3, .int v4, .int v5, .int v6] yV_X11_together g_1663 (c_X11_together h) dX11_lee_46 rfl rfl (Nat.le_of_ble_eq_true rfl) ⟨by decide, by decide⟩ ⟨by decide, by decide⟩ ⟨rfl, rfl⟩ (fun x8 S6 h g7 => ?_)
    have h := h g7
    have o_v0 := gr_ob g7 o_v0
    refine r_ldc2 (pc := 49) C (v := (2520 : Int64)) dX11_lee_49 g_1585 ?_
    refine r_iload (pc := 52) C dX11_lee_52 8 rfl ?_
    refine r_callVl0 (pc := 54) C (rest := []) (a := v0) o_v0 [.long x8, .long (2520 : Int64), .int v7] yV_X11_told g_1586 (c_X11_told h) dX11_lee_54 rfl rfl (Nat.le_of_ble_eq_true rfl) ⟨by decide, by decide⟩ ⟨by decide, by decide⟩ ⟨rfl, rfl⟩ (fun x11 S9 h g10 => ?_)
    have h := h g10
    have o_v0 := gr_ob g10 o_v0
    exact r_lret (pc := 57) C E ht dX11_lee_57 (by decide) (by decide) h
  · have h := h.2 c5
    refine r_aload_n (pc := 25) C dX11_lee_25 1 rfl ?_
    refine r_iload (pc := 26) C dX11_lee_26 0 rfl ?_
    refine r_callVi0 (pc := 28) C (rest := []) (a := v0) o_v0 [.int x4] yV_X11_refused g_1250 (c_X11_refused h) dX11_lee_28 rfl rfl (Nat.le_of_ble_eq_true rfl) ⟨by decide, by decide⟩ ⟨by decide, by decide⟩ ⟨rfl, rfl⟩ (fun x14 S12 h g13 => ?_)
    have h := h g13
    have o_v0 := gr_ob g13 o_v0
    refine r_i2l (pc := 31) C dX11_lee_31 ?_
    refine r_goto (pc := 32) C (tgt := 57) dX11_lee_32 (by decide) ?_
    exact r_lret (pc := 57) C E ht dX11_lee_57 (by decide) (by decide) h
def P_X11_lee (v0 : Nat) (v1 : Int32) (v2 : Int32) (v3 : Int32) (v4 : Int32) (v5 : Int32) (v6 : Int32) (v7 : Int32) (Q : Int64 → HS → Prop) (S : HS) : Prop := P_X11_lee_0 Q v0 v1 v2 v3 v4 v5 v6 v7 S
theorem c_X11_lee {l : Launch} {Ee : EE} {S : HS} {v0 : Nat} {v1 : Int32} {v2 : Int32} {v3 : Int32} {v4 : Int32} {v5 : Int32} {v6 : Int32} {v7 : Int32} {Q : Int64 → HS → Prop} (h : P_X11_lee v0 v1 v2 v3 v4 v5 v6 v7 Q S) : MJ l yX11_lee cX11_lee 9 (some .long) rm_X11_lee Ee S [.ref v0, .int v1, .int v2, .int v3, .int v4, .int v5, .int v6, .int v7] Q :=
  openJ (by decide) (Nat.le_of_ble_eq_true rfl) (fun X C E ht hn hE hl => by subst hE; exact r_sub [0, 1, 2, 3, 4, 5, 6, 7] rfl (T_X11_lee_0 C E ht hn h))
def rm_X11_lies : Room := { frames := 6, cells := 0, slots := 0, locals := 165 }
def P_X11_lies_50 (Q : Int32 → HS → Prop) (X22 : Nat → Int32 → Int32 → HS → Prop) (v0 : Nat) (v2 : Int32) (s0 : Int32) (s1 : Int32) (S : HS) : Prop := ∀ x1 : Int32, x1 = s0 ||| s1 → (∀ x2 : Int32, x2 = v2 + (1 : Int32) → (X22 v0 x1 x2 S))
set_option maxRecDepth 20000 in
set_option maxHeartbeats 4000000 in
theorem T_X11_lies_50 {X : CX} {Q : Int32 → HS → Prop} (C : Cx X cX11_lies RX11 3 rm_X11_lies) (E : ReI X rm_X11_lies Q) (ht : (xh X).sig.returnType = (some .int)) (hn : (xh X).name = yX11_lies.name) {X22 : Nat → Int32 → Int32 → HS → Prop} (hX22 : ∀ (v0 : Nat) (v1 : Int32) (v2 : Int32) (S : HS), X22 v0 v1 v2 S → WS X 3 0 0 22 [(0, .ref v0), (1, .int v1), (2, .int v2)] [] S) {v0 : Nat} {v2 : Int32} {s0 : Int32} {s1 : Int32} {S : HS} (h : P_X11_lies_50 Q X22 v0 v2 s0 s1 S) : WS X 3 0 0 50 [(0, .ref v0), (2, .int v2)] [.int s1, .int s0] S := by
  refine r_ior (pc := 50) C dX11_lies_50 ?_
  refine r_topi (fun x1 ex1 => ?_)
  have h := h x1 ex1
  refine r_istore_n (pc := 51) C dX11_lies_51 rfl (by decide) (lv' := [(1, .int x1), (0, .ref v0), (2, .int v2)]) rfl ?_
  obtain ⟨x2, ex2⟩ : ∃ z : Int32, z = v2 + (1 : Int32) := ⟨_, rfl⟩
  have h := h x2 ex2
  refine r_iinc (pc := 52) C (v := x2) (lv' := [(2, .int x2), (1, .int x1), (0, .ref v0)]) dX11_lies_52 2 rfl ex2.symm (by decide) rfl ?_
  refine r_goto (pc := 55) C (tgt := 22) dX11_lies_55 (by decide) ?_
  exact r_sub [2, 1, 0] rfl (hX22 v0 x1 x2 S h)
def B_X11_lies_22 (Q : Int32 → HS → Prop) (X22 : Nat → Int32 → Int32 → HS → Prop) (v0 : Nat) (v1 : Int32) (v2 : Int32) (S : HS) : Prop := ob S v0 11 ∧ (∃ a1 : Nat, fR S v0 3 = some a1 ∧ (ob S a1 10 ∧ (∀ x2 : Int32, x2 = fI S a1 5 → (((x2 ≤ v2) → (P_X11_good v0 v1 (fun x6 S4 => Gr S S4 → (Q x6 S4)) S)) ∧ ((¬ x2 ≤ v2) → (P_X11_fitOf v0 v2 (-1 : Int32) (fun x9 S7 => Gr S S7 → (((¬ x9 = 0) → (P_X11_lies_50 Q X22 v0 v2 v1 (0 : Int32) S7)) ∧ ((x9 = 0) → (P_X11_lies_50 Q X22 v0 v2 v1 ((1 : Int32) <<< (v2 &&& 31)) S7)))) S))))))
def P_X11_lies_22 (Q : Int32 → HS → Prop) (v0 : Nat) (v1 : Int32) (v2 : Int32) (S : HS) : Prop := ∀ X22 : Nat → Int32 → Int32 → HS → Prop, (∀ (v0 : Nat) (v1 : Int32) (v2 : Int32) (S : HS), B_X11_lies_22 Q X22 v0 v1 v2 S → X22 v0 v1 v2 S) → X22 v0 v1 v2 S
set_option maxRecDepth 20000 in
set_option maxHeartbeats 4000000 in
theorem TB_X11_lies_22 {X : CX} {Q : Int32 → HS → Prop} (C : Cx X cX11_lies RX11 3 rm_X11_lies) (E : ReI X rm_X11_lies Q) (ht : (xh X).sig.returnType = (some .int)) (hn : (xh X).name = yX11_lies.name) {X22 : Nat → Int32 → Int32 → HS → Prop} (hX22 : ∀ (v0 : Nat) (v1 : Int32) (v2 : Int32) (S : HS), X22 v0 v1 v2 S → WS X 3 0 0 22 [(0, .ref v0), (1, .int v1), (2, .int v2)] [] S) {v0 : Nat} {v1 : Int32} {v2 : Int32} {S : HS} (h : B_X11_lies_22 Q X22 v0 v1 v2 S) : WS X 3 0 0 22 [(0, .ref v0), (1, .int v1), (2, .int v2)] [] S := by
  refine r_iload_n (pc := 22) C dX11_lies_22 2 rfl ?_
  refine r_aload_n (pc := 23) C dX11_lies_23 0 rfl ?_
  obtain ⟨o_v0, h⟩ := h
  obtain ⟨a1, ea1, h⟩ := h
  refine r_getr (pc := 24) C fL_X11_338 dX11_lies_24 o_v0 ea1 ?_
  obtain ⟨o_a1, h⟩ := h
  refine r_getNi (pc := 27) C fN_X11_323 dX11_lies_27 o_a1 ?_
  refine r_topi (fun x2 ex2 => ?_)
  have h := h x2 ex2
  refine r_icmp_ge (pc := 30) C (tgt := 58) dX11_lies_30 (by decide) (fun c3 => ?_) (fun c3 => ?_)
  · have h := h.1 c3
    refine r_aload_n (pc := 58) C dX11_lies_58 0 rfl ?_
    refine r_iload_n (pc := 59) C dX11_lies_59 1 rfl ?_
    refine r_callVi0 (pc := 60) C (rest := []) (a := v0) o_v0 [.int v1] yV_X11_good g_1518 (c_X11_good h) dX11_lies_60 rfl rfl (Nat.le_of_ble_eq_true rfl) ⟨by decide, by decide⟩ ⟨by decide, by decide⟩ ⟨rfl, rfl⟩ (fun x6 S4 h g5 => ?_)
    have h := h g5
    have o_a1 := gr_ob g5 o_a1
    have o_v0 := gr_ob g5 o_v0
    exact r_iret (pc := 63) C E ht dX11_lies_63 (by decide) (by decide) h
  · have h := h.2 c3
    refine r_iload_n (pc := 33) C dX11_lies_33 1 rfl ?_
    refine r_aload_n (pc := 34) C dX11_lies_34 0 rfl ?_
    refine r_iload_n (pc := 35) C dX11_lies_35 2 rfl ?_
    refine r_iconst (pc := 36) C (v := (-1 : Int32)) dX11_lies_36 (by decide) ?_
    refine r_callVi0 (pc := 37) C (rest := [.int v1]) (a := v0) o_v0 [.int v2, .int (-1 : Int32)] yV_X11_fitOf g_1755 (c_X11_fitOf h) dX11_lies_37 rfl rfl (Nat.le_of_ble_eq_true rfl) ⟨by decide, by decide⟩ ⟨by decide, by decide⟩ ⟨rfl, rfl⟩ (fun x9 S7 h g8 => ?_)
    have h := h g8
    have o_a1 := gr_ob g8 o_a1
    have o_v0 := gr_ob g8 o_v0
    refine r_if_ne (pc := 40) C (tgt := 49) dX11_lies_40 (by decide) (fun c10 => ?_) (fun c10 => ?_)
    · have h := h.1 c10
      refine r_iconst (pc := 49) C (v := (0 : Int32)) dX11_lies_49 (by decide) ?_
      exact r_sub [0, 2] rfl (T_X11_lies_50 C E ht hn hX22 h)
    · have h := h.2 c10
      refine r_iconst (pc := 43) C (v := (1 : Int32)) dX11_lies_43 (by decide) ?_
      refine r_iload_n (pc := 44) C dX11_lies_44 2 rfl ?_
      refine r_ishl (pc := 45) C dX11_lies_45 ?_
      refine r_goto (pc := 46) C (tgt := 50) dX11_lies_46 (by decide) ?_
      exact r_sub [0, 2] rfl (T_X11_lies_50 C E ht hn hX22 h)
theorem T_X11_lies_22 {X : CX} {Q : Int32 → HS → Prop} (C : Cx X cX11_lies RX11 3 rm_X11_lies) (E : ReI X rm_X11_lies Q) (ht : (xh X).sig.returnType = (some .int)) (hn : (xh X).name = yX11_lies.name) {v0 : Nat} {v1 : Int32} {v2 : Int32} {S : HS} (h : P_X11_lies_22 Q v0 v1 v2 S) : WS X 3 0 0 22 [(0, .ref v0), (1, .int v1), (2, .int v2)] [] S :=
  h (fun v0 v1 v2 S => WS X 3 0 0 22 [(0, .ref v0), (1, .int v1), (2, .int v2)] [] S) (fun v0 v1 v2 S hh => TB_X11_lies_22 C E ht hn (fun v0 v1 v2 S z => z) hh)
def P_X11_lies_0 (Q : Int32 → HS → Prop) (v0 : Nat) (S : HS) : Prop := ob S v0 11 ∧ (∀ S1 : HS, S1 = sI S v0 0 (0 : Int32) → ((fR S1 v0 3 = none → (P_X11_refused v0 (1 : Int32) (fun x6 S4 => Gr S1 S4 → (Q x6 S4)) S1)) ∧ (∀ a2 : Nat, fR S1 v0 3 = some a2 → (P_X11_lies_22 Q v0 (0 : Int32) (0 : Int32) S1))))
set_option maxRecDepth 20000 in
set_option maxHeartbeats 4000000 in
theorem T_X11_lies_0 {X : CX} {Q : Int32 → HS → Prop} (C : Cx X cX11_lies RX11 3 rm_X11_lies) (E : ReI X rm_X11_lies Q) (ht : (xh X).sig.returnType = (some .int)) (hn : (xh X).name = yX11_lies.name) {v0 : Nat} {S : HS} (h : P_X11_lies_0 Q v0 S) : WS X 3 0 0 0 [(0, .ref v0)] [] S := by
  refine r_aload_n (pc := 0) C dX11_lies_0 0 rfl ?_
  refine r_iconst (pc := 1) C (v := (0 : Int32)) dX11_lies_1 (by decide) ?_
  obtain ⟨o_v0, h⟩ := h
  refine r_puti (pc := 2) C pfL_X11_40 dX11_lies_2 o_v0 ?_
  refine r_heap (fun S1 eS1 => ?_)
  have h := h S1 eS1
  have o_v0 := ob_I eS1 o_v0
  refine r_aload_n (pc := 5) C dX11_lies_5 0 rfl ?_
  rcases e3 : fR S1 v0 3 with _ | a2
  · refine r_get0 (pc := 6) C fL_X11_338 dX11_lies_6 o_v0 e3 ?_
    refine r_ifnonnull0 (pc := 9) C dX11_lies_9 ?_
    have h := h.1 e3
    refine r_aload_n (pc := 12) C dX11_lies_12 0 rfl ?_
    refine r_iconst (pc := 13) C (v := (1 : Int32)) dX11_lies_13 (by decide) ?_
    refine r_callVi0 (pc := 14) C (rest := []) (a := v0) o_v0 [.int (1 : Int32)] yV_X11_refused g_1250 (c_X11_refused h) dX11_lies_14 rfl rfl (Nat.le_of_ble_eq_true rfl) ⟨by decide, by decide⟩ ⟨by decide, by decide⟩ ⟨rfl, rfl⟩ (fun x6 S4 h g5 => ?_)
    have h := h g5
    have o_v0 := gr_ob g5 o_v0
    exact r_iret (pc := 17) C E ht dX11_lies_17 (by decide) (by decide) h
  · refine r_getr (pc := 6) C fL_X11_338 dX11_lies_6 o_v0 e3 ?_
    refine r_ifnonnull (pc := 9) C (tgt := 18) dX11_lies_9 (by decide) ?_
    have h := h.2 a2 e3
    refine r_iconst (pc := 18) C (v := (0 : Int32)) dX11_lies_18 (by decide) ?_
    refine r_istore_n (pc := 19) C dX11_lies_19 rfl (by decide) (lv' := [(1, .int (0 : Int32)), (0, .ref v0)]) rfl ?_
    refine r_iconst (pc := 20) C (v := (0 : Int32)) dX11_lies_20 (by decide) ?_
    refine r_istore_n (pc := 21) C dX11_lies_21 rfl (by decide) (lv' := [(2, .int (0 : Int32)), (1, .int (0 : Int32)), (0, .ref v0)]) rfl ?_
    exact r_sub [2, 1, 0] rfl (T_X11_lies_22 C E ht hn h)
def P_X11_lies (v0 : Nat) (Q : Int32 → HS → Prop) (S : HS) : Prop := P_X11_lies_0 Q v0 S
theorem c_X11_lies {l : Launch} {Ee : EE} {S : HS} {v0 : Nat} {Q : Int32 → HS → Prop} (h : P_X11_lies v0 Q S) : MI l yX11_lies cX11_lies 3 (some .int) rm_X11_lies Ee S [.ref v0] Q :=
  openI (by decide) (Nat.le_of_ble_eq_true rfl) (fun X C E ht hn hE hl => by subst hE; exact r_sub [0] rfl (T_X11_lies_0 C E ht hn h))
def rm_X11_mark : Room := { frames := 1, cells := 0, slots := 0, locals := 21 }
def B_X11_mark_34 (Q : Int32 → HS → Prop) (X34 : Nat → Int32 → HS → Prop) (v0 : Nat) (v1 : Int32) (S : HS) : Prop := (((7 : Int32) ≤ v1) → (ob S v0 11 ∧ (∀ x2 : Int32, x2 = fI S v0 25 → (∀ x3 : Int32, x3 = x2 + (1 : Int32) → (∀ S4 : HS, S4 = sI S v0 25 x3 → (∀ x5 : Int32, x5 = fI S4 v0 25 → (P_X11_good v0 (x5 - (1 : Int32)) (fun x8 S6 => Gr S4 S6 → (Q x8 S6)) S4))))))) ∧ ((¬ (7 : Int32) ≤ v1) → (ob S v0 11 ∧ (∃ a9 : Nat, fR S v0 23 = some a9 ∧ (∀ x10 : Int32, x10 = fI S v0 25 → (∃ a11 : Nat, fR S v0 21 = some a11 ∧ (ob S a11 14 ∧ (vp_in v1 (hN S a11) ∧ ∀ x13 : Int64, x13 = fJ S a11 v1.toNatClampNeg → (ob S a9 14 ∧ (vp_in (((7 : Int32) * x10) + v1) (hN S a9) ∧ (∀ S15 : HS, S15 = sJ S a9 (((7 : Int32) * x10) + v1).toNatClampNeg x13 → (∀ x16 : Int32, x16 = v1 + (1 : Int32) → (X34 v0 x16 S15))))))))))))
def P_X11_mark_34 (Q : Int32 → HS → Prop) (v0 : Nat) (v1 : Int32) (S : HS) : Prop := ∀ X34 : Nat → Int32 → HS → Prop, (∀ (v0 : Nat) (v1 : Int32) (S : HS), B_X11_mark_34 Q X34 v0 v1 S → X34 v0 v1 S) → X34 v0 v1 S
set_option maxRecDepth 20000 in
set_option maxHeartbeats 4000000 in
theorem TB_X11_mark_34 {X : CX} {Q : Int32 → HS → Prop} (C : Cx X cX11_mark RX11 2 rm_X11_mark) (E : ReI X rm_X11_mark Q) (ht : (xh X).sig.returnType = (some .int)) (hn : (xh X).name = yX11_mark.name) {X34 : Nat → Int32 → HS → Prop} (hX34 : ∀ (v0 : Nat) (v1 : Int32) (S : HS), X34 v0 v1 S → WS X 2 0 0 34 [(0, .ref v0), (1, .int v1)] [] S) {v0 : Nat} {v1 : Int32} {S : HS} (h : B_X11_mark_34 Q X34 v0 v1 S) : WS X 2 0 0 34 [(0, .ref v0), (1, .int v1)] [] S := by
  refine r_iload_n (pc := 34) C dX11_mark_34 1 rfl ?_
  refine r_bipush (pc := 35) C (v := (7 : Int32)) dX11_mark_35 (by decide) ?_
  refine r_icmp_ge (pc := 37) C (tgt := 66) dX11_mark_37 (by decide) (fun c1 => ?_) (fun c1 => ?_)
  · have h := h.1 c1
    refine r_aload_n (pc := 66) C dX11_mark_66 0 rfl ?_
    refine r_dup (pc := 67) C dX11_mark_67 rfl ?_
    obtain ⟨o_v0, h⟩ := h
    refine r_geti (pc := 68) C fL_X11_343 dX11_mark_68 o_v0 ?_
    refine r_topi (fun x2 ex2 => ?_)
    have h := h x2 ex2
    refine r_iconst (pc := 71) C (v := (1 : Int32)) dX11_mark_71 (by decide) ?_
    refine r_iadd (pc := 72) C dX11_mark_72 ?_
    refine r_topi (fun x3 ex3 => ?_)
    have h := h x3 ex3
    refine r_puti (pc := 73) C pfL_X11_343 dX11_mark_73 o_v0 ?_
    refine r_heap (fun S4 eS4 => ?_)
    have h := h S4 eS4
    have o_v0 := ob_I eS4 o_v0
    refine r_aload_n (pc := 76) C dX11_mark_76 0 rfl ?_
    refine r_aload_n (pc := 77) C dX11_mark_77 0 rfl ?_
    refine r_geti (pc := 78) C fL_X11_343 dX11_mark_78 o_v0 ?_
    refine r_topi (fun x5 ex5 => ?_)
    have h := h x5 ex5
    refine r_iconst (pc := 81) C (v := (1 : Int32)) dX11_mark_81 (by decide) ?_
    refine r_isub (pc := 82) C dX11_mark_82 ?_
    refine r_callVi0 (pc := 83) C (rest := []) (a := v0) o_v0 [.int (x5 - (1 : Int32))] yV_X11_good g_1518 (c_X11_good h) dX11_mark_83 rfl rfl (Nat.le_of_ble_eq_true rfl) ⟨by decide, by decide⟩ ⟨by decide, by decide⟩ ⟨rfl, rfl⟩ (fun x8 S6 h g7 => ?_)
    have h := h g7
    have o_v0 := gr_ob g7 o_v0
    exact r_iret (pc := 86) C E ht dX11_mark_86 (by decide) (by decide) h
  · have h := h.2 c1
    refine r_aload_n (pc := 40) C dX11_mark_40 0 rfl ?_
    obtain ⟨o_v0, h⟩ := h
    obtain ⟨a9, ea9, h⟩ := h
    refine r_getr (pc := 41) C fL_X11_37 dX11_mark_41 o_v0 ea9 ?_
    refine r_bipush (pc := 44) C (v := (7 : Int32)) dX11_mark_44 (by decide) ?_
    refine r_aload_n (pc := 46) C dX11_mark_46 0 rfl ?_
    refine r_geti (pc := 47) C fL_X11_343 dX11_mark_47 o_v0 ?_
    refine r_topi (fun x10 ex10 => ?_)
    have h := h x10 ex10
    refine r_imul (pc := 50) C dX11_mark_50 ?_
    refine r_iload_n (pc := 51) C dX11_mark_51 1 rfl ?_
    refine r_iadd (pc := 52) C dX11_mark_52 ?_
    refine r_aload_n (pc := 53) C dX11_mark_53 0 rfl ?_
    obtain ⟨a11, ea11, h⟩ := h
    refine r_getr (pc := 54) C fL_X11_31 dX11_mark_54 o_v0 ea11 ?_
    refine r_iload_n (pc := 57) C dX11_mark_57 1 rfl ?_
    obtain ⟨o_a11, h⟩ := h
    obtain ⟨i12, h⟩ := h
    refine r_lald (pc := 58) C dX11_mark_58 o_a11 i12 ?_
    refine r_topl (fun x13 ex13 => ?_)
    have h := h x13 ex13
    obtain ⟨o_a9, h⟩ := h
    obtain ⟨i14, h⟩ := h
    refine r_last (pc := 59) C dX11_mark_59 o_a9 i14 ?_
    refine r_heap (fun S15 eS15 => ?_)
    have h := h S15 eS15
    have o_a11 := ob_J eS15 o_a11
    have o_a9 := ob_J eS15 o_a9
    have o_v0 := ob_J eS15 o_v0
    obtain ⟨x16, ex16⟩ : ∃ z : Int32, z = v1 + (1 : Int32) := ⟨_, rfl⟩
    have h := h x16 ex16
    refine r_iinc (pc := 60) C (v := x16) (lv' := [(1, .int x16), (0, .ref v0)]) dX11_mark_60 1 rfl ex16.symm (by decide) rfl ?_
    refine r_goto (pc := 63) C (tgt := 34) dX11_mark_63 (by decide) ?_
    exact r_sub [1, 0] rfl (hX34 v0 x16 S15 h)
theorem T_X11_mark_34 {X : CX} {Q : Int32 → HS → Prop} (C : Cx X cX11_mark RX11 2 rm_X11_mark) (E : ReI X rm_X11_mark Q) (ht : (xh X).sig.returnType = (some .int)) (hn : (xh X).name = yX11_mark.name) {v0 : Nat} {v1 : Int32} {S : HS} (h : P_X11_mark_34 Q v0 v1 S) : WS X 2 0 0 34 [(0, .ref v0), (1, .int v1)] [] S :=
  h (fun v0 v1 S => WS X 2 0 0 34 [(0, .ref v0), (1, .int v1)] [] S) (fun v0 v1 S hh => TB_X11_mark_34 C E ht hn (fun v0 v1 S z => z) hh)
def P_X11_mark_0 (Q : Int32 → HS → Prop) (v0 : Nat) (S : HS) : Prop := ob S v0 11 ∧ (∀ S1 : HS, S1 = sI S v0 0 (0 : Int32) → (P_X11_isDay v0 (fun x4 S2 => Gr S1 S2 → bl x4 → (((¬ x4 = 0) → (∀ x6 : Int32, x6 = fI S2 v0 25 → (((¬ x6 = (3 : Int32)) → (P_X11_mark_34 Q v0 (0 : Int32) S2)) ∧ ((x6 = (3 : Int32)) → (P_X11_refused v0 (3 : Int32) (fun x10 S8 => Gr S2 S8 → (Q x10 S8)) S2))))) ∧ ((x4 = 0) → (P_X11_refused v0 (1 : Int32) (fun x13 S11 => Gr S2 S11 → (Q x13 S11)) S2)))) S1))
set_option maxRecDepth 20000 in
set_option maxHeartbeats 4000000 in
theorem T_X11_mark_0 {X : CX} {Q : Int32 → HS → Prop} (C : Cx X cX11_mark RX11 2 rm_X11_mark) (E : ReI X rm_X11_mark Q) (ht : (xh X).sig.returnType = (some .int)) (hn : (xh X).name = yX11_mark.name) {v0 : Nat} {S : HS} (h : P_X11_mark_0 Q v0 S) : WS X 2 0 0 0 [(0, .ref v0)] [] S := by
  refine r_aload_n (pc := 0) C dX11_mark_0 0 rfl ?_
  refine r_iconst (pc := 1) C (v := (0 : Int32)) dX11_mark_1 (by decide) ?_
  obtain ⟨o_v0, h⟩ := h
  refine r_puti (pc := 2) C pfL_X11_40 dX11_mark_2 o_v0 ?_
  refine r_heap (fun S1 eS1 => ?_)
  have h := h S1 eS1
  have o_v0 := ob_I eS1 o_v0
  refine r_aload_n (pc := 5) C dX11_mark_5 0 rfl ?_
  refine r_callVi0 (pc := 6) C (rest := []) (a := v0) o_v0 [] yV_X11_isDay g_1779 (c_X11_isDay h) dX11_mark_6 rfl rfl (Nat.le_of_ble_eq_true rfl) ⟨by decide, by decide⟩ ⟨by decide, by decide⟩ ⟨rfl, rfl⟩ (fun x4 S2 h g3 => ?_)
  have bx4 := h.1
  have h := h.2 g3 bx4
  have o_v0 := gr_ob g3 o_v0
  refine r_if_ne (pc := 9) C (tgt := 18) dX11_mark_9 (by decide) (fun c5 => ?_) (fun c5 => ?_)
  · have h := h.1 c5
    refine r_aload_n (pc := 18) C dX11_mark_18 0 rfl ?_
    refine r_geti (pc := 19) C fL_X11_343 dX11_mark_19 o_v0 ?_
    refine r_topi (fun x6 ex6 => ?_)
    have h := h x6 ex6
    refine r_iconst (pc := 22) C (v := (3 : Int32)) dX11_mark_22 (by decide) ?_
    refine r_icmp_ne (pc := 23) C (tgt := 32) dX11_mark_23 (by decide) (fun c7 => ?_) (fun c7 => ?_)
    · have h := h.1 c7
      refine r_iconst (pc := 32) C (v := (0 : Int32)) dX11_mark_32 (by decide) ?_
      refine r_istore_n (pc := 33) C dX11_mark_33 rfl (by decide) (lv' := [(1, .int (0 : Int32)), (0, .ref v0)]) rfl ?_
      exact r_sub [1, 0] rfl (T_X11_mark_34 C E ht hn h)
    · have h := h.2 c7
      refine r_aload_n (pc := 26) C dX11_mark_26 0 rfl ?_
      refine r_iconst (pc := 27) C (v := (3 : Int32)) dX11_mark_27 (by decide) ?_
      refine r_callVi0 (pc := 28) C (rest := []) (a := v0) o_v0 [.int (3 : Int32)] yV_X11_refused g_1250 (c_X11_refused h) dX11_mark_28 rfl rfl (Nat.le_of_ble_eq_true rfl) ⟨by decide, by decide⟩ ⟨by decide, by decide⟩ ⟨rfl, rfl⟩ (fun x10 S8 h g9 => ?_)
      have h := h g9
      have o_v0 := gr_ob g9 o_v0
      exact r_iret (pc := 31) C E ht dX11_mark_31 (by decide) (by decide) h
  · have h := h.2 c5
    refine r_aload_n (pc := 12) C dX11_mark_12 0 rfl ?_
    refine r_iconst (pc := 13) C (v := (1 : Int32)) dX11_mark_13 (by decide) ?_
    refine r_callVi0 (pc := 14) C (rest := []) (a := v0) o_v0 [.int (1 : Int32)] yV_X11_refused g_1250 (c_X11_refused h) dX11_mark_14 rfl rfl (Nat.le_of_ble_eq_true rfl) ⟨by decide, by decide⟩ ⟨by decide, by decide⟩ ⟨rfl, rfl⟩ (fun x13 S11 h g12 => ?_)
    have h := h g12
    have o_v0 := gr_ob g12 o_v0
    exact r_iret (pc := 17) C E ht dX11_mark_17 (by decide) (by decide) h
def P_X11_mark (v0 : Nat) (Q : Int32 → HS → Prop) (S : HS) : Prop := P_X11_mark_0 Q v0 S
theorem c_X11_mark {l : Launch} {Ee : EE} {S : HS} {v0 : Nat} {Q : Int32 → HS → Prop} (h : P_X11_mark v0 Q S) : MI l yX11_mark cX11_mark 2 (some .int) rm_X11_mark Ee S [.ref v0] Q :=
  openI (by decide) (Nat.le_of_ble_eq_true rfl) (fun X C E ht hn hE hl => by subst hE; exact r_sub [0] rfl (T_X11_mark_0 C E ht hn h))
def rm_X11_mean : Room := { frames := 6, cells := 0, slots := 0, locals := 163 }
def P_X11_mean_0 (Q : Int64 → HS → Prop) (v0 : Nat) (v1 : Int32) (v2 : Int32) (v3 : Int32) (v4 : Int32) (v5 : Int32) (v6 : Int32) (S : HS) : Prop := ob S v0 11 ∧ (∀ S1 : HS, S1 = sI S v0 0 (0 : Int32) → (P_X11_refuses v0 v1 v2 v3 v4 v5 (fun x4 S2 => Gr S1 S2 → (((x4 ≤ 0) → (P_X11_wetOf v0 v1 v2 v3 v4 v5 (fun x8 S6 => Gr S2 S6 → (∃ a9 : Nat, fR S6 v0 3 = some a9 ∧ (ob S6 a9 10 ∧ (∃ a10 : Nat, fR S6 a9 11 = some a10 ∧ (ob S6 a10 13 ∧ (vp_in v4 (hN S6 a10) ∧ ∀ x12 : Int32, x12 = fI S6 a10 v4.toNatClampNeg → (P_X11_told v0 (x8 * x12.toInt64) (252000 : Int64) v6 (fun x15 S13 => Gr S6 S13 → (Q x15 S13)) S6))))))) S2)) ∧ ((¬ x4 ≤ 0) → (P_X11_refused v0 x4 (fun x18 S16 => Gr S2 S16 → (Q x18.toInt64 S16)) S2)))) S1))
set_option maxRecDepth 20000 in
set_option maxHeartbeats 4000000 in
theorem T_X11_mean_0 {X : CX} {Q : Int64 → HS → Prop} (C : Cx X cX11_mean RX11 8 rm_X11_mean) (E : ReJ X rm_X11_mean Q) (ht : (xh X).sig.returnType = (some .long)) (hn : (xh X).name = yX11_mean.name) {v0 : Nat} {v1 : Int32} {v2 : Int32} {v3 : Int32} {v4 : Int32} {v5 : Int32} {v6 : Int32} {S : HS} (h : P_X11_mean_0 Q v0 v1 v2 v3 v4 v5 v6 S) : WS X 8 0 0 0 [(0, .ref v0), (1, .int v1), (2, .int v2), (3, .int v3), (4, .int v4), (5, .int v5), (6, .int v6)] [] S := by
  refine r_aload_n (pc := 0) C dX11_mean_0 0 rfl ?_
  refine r_iconst (pc := 1) C (v := (0 : Int32)) dX11_mean_1 (by decide) ?_
  obtain ⟨o_v0, h⟩ := h
  refine r_puti (pc := 2) C pfL_X11_40 dX11_mean_2 o_v0 ?_
  refine r_heap (fun S1 eS1 => ?_)
  have h := h S1 eS1
  have o_v0 := ob_I eS1 o_v0
  refine r_aload_n (pc := 5) C dX11_mean_5 0 rfl ?_
  refine r_iload_n (pc := 6) C dX11_mean_6 1 rfl ?_
  refine r_iload_n (pc := 7) C dX11_mean_7 2 rfl ?_
  refine r_iload_n (pc := 8) C dX11_mean_8 3 rfl ?_
  refine r_iload (pc := 9) C dX11_mean_9 4 rfl ?_
  refine r_iload (pc := 11) C dX11_mean_11 5 rfl ?_
  refine r_callVi0 (pc := 13) C (rest := []) (a := v0) o_v0 [.int v1, .int v2, .int v3, .int v4, .int v5] yV_X11_refuses g_1534 (c_X11_refuses h) dX11_mean_13 rfl rfl (Nat.le_of_ble_eq_true rfl) ⟨by decide, by decide⟩ ⟨by decide, by decide⟩ ⟨rfl, rfl⟩ (fun x4 S2 h g3 => ?_)
  have h := h g3
  have o_v0 := gr_ob g3 o_v0
  refine r_istore (pc := 16) C dX11_mean_16 (by decide) (lv' := [(7, .int x4), (0, .ref v0), (1, .int v1), (2, .int v2), (3, .int v3), (4, .int v4), (5, .int v5), (6, .int v6)]) rfl ?_
  refine r_iload (pc := 18) C dX11_mean_18 0 rfl ?_
  refine r_if_le (pc := 20) C (tgt := 33) dX11_mean_20 (by decide) (fun c5 => ?_) (fun c5 => ?_)
  · have h := h.1 c5
    refine r_aload_n (pc := 33) C dX11_mean_33 1 rfl ?_
    refine r_aload_n (pc := 34) C dX11_mean_34 1 rfl ?_
    refine r_iload_n (pc := 35) C dX11_mean_35 2 rfl ?_
    refine r_iload_n (pc := 36) C dX11_mean_36 3 rfl ?_
    refine r_iload_n (pc := 37) C dX11_mean_37 4 rfl ?_
    refine r_iload (pc := 38) C dX11_mean_38 5 rfl ?_
    refine r_iload (pc := 40) C dX11_mean_40 6 rfl ?_
    refine r_callVl0 (pc := 42) C (rest := [.ref v0]) (a := v0) o_v0 [.int v1, .int v2, .int v3, .int v4, .int v5] yV_X11_wetOf g_1594 (c_X11_wetOf h) dX11_mean_42 rfl rfl (Nat.le_of_ble_eq_true rfl) ⟨by decide, by decide⟩ ⟨by decide, by decide⟩ ⟨rfl, rfl⟩ (fun x8 S6 h g7 => ?_)
    have h := h g7
    have o_v0 := gr_ob g7 o_v0
    refine r_aload_n (pc := 45) C dX11_mean_45 1 rfl ?_
    obtain ⟨a9, ea9, h⟩ := h
    refine r_getr (pc := 46) C fL_X11_338 dX11_mean_46 o_v0 ea9 ?_
    obtain ⟨o_a9, h⟩ := h
    obtain ⟨a10, ea10, h⟩ := h
    refine r_getNr (pc := 49) C fN_X11_246 dX11_mean_49 o_a9 ea10 ?_
    refine r_iload (pc := 52) C dX11_mean_52 5 rfl ?_
    obtain ⟨o_a10, h⟩ := h
    obtain ⟨i11, h⟩ := h
    refine r_iald (pc := 54) C dX11_mean_54 o_a10 i11 ?_
    refine r_topi (fun x12 ex12 => ?_)
    have h := h x12 ex12
    refine r_i2l (pc := 55) C dX11_mean_55 ?_
    refine r_lmul (pc := 56) C dX11_mean_56 ?_
    refine r_ldc2 (pc := 57) C (v := (252000 : Int64)) dX11_mean_57 g_1602 ?_
    refine r_iload (pc := 60) C dX11_mean_60 7 rfl ?_
    refine r_callVl0 (pc := 62) C (rest := []) (a := v0) o_v0 [.long (x8 * x12.toInt64), .long (252000 : Int64), .int v6] yV_X11_told g_1586 (c_X11_told h) dX11_mean_62 rfl rfl (Nat.le_of_ble_eq_true rfl) ⟨by decide, by decide⟩ ⟨by decide, by decide⟩ ⟨rfl, rfl⟩ (fun x15 S13 h g14 => ?_)
    have h := h g14
    have o_a10 := gr_ob g14 o_a10
    have o_a9 := gr_ob g14 o_a9
    have o_v0 := gr_ob g14 o_v0
    exact r_lret (pc := 65) C E ht dX11_mean_65 (by decide) (by decide) h
  · have h := h.2 c5
    refine r_aload_n (pc := 23) C dX11_mean_23 1 rfl ?_
    refine r_iload (pc := 24) C dX11_mean_24 0 rfl ?_
    refine r_callVi0 (pc := 26) C (rest := []) (a := v0) o_v0 [.int x4] yV_X11_refused g_1250 (c_X11_refused h) dX11_mean_26 rfl rfl (Nat.le_of_ble_eq_true rfl) ⟨by decide, by decide⟩ ⟨by decide, by decide⟩ ⟨rfl, rfl⟩ (fun x18 S16 h g17 => ?_)
    have h := h g17
    have o_v0 := gr_ob g17 o_v0
    refine r_i2l (pc := 29) C dX11_mean_29 ?_
    refine r_goto (pc := 30) C (tgt := 65) dX11_mean_30 (by decide) ?_
    exact r_lret (pc := 65) C E ht dX11_mean_65 (by decide) (by decide) h
def P_X11_mean (v0 : Nat) (v1 : Int32) (v2 : Int32) (v3 : Int32) (v4 : Int32) (v5 : Int32) (v6 : Int32) (Q : Int64 → HS → Prop) (S : HS) : Prop := P_X11_mean_0 Q v0 v1 v2 v3 v4 v5 v6 S
theorem c_X11_mean {l : Launch} {Ee : EE} {S : HS} {v0 : Nat} {v1 : Int32} {v2 : Int32} {v3 : Int32} {v4 : Int32} {v5 : Int32} {v6 : Int32} {Q : Int64 → HS → Prop} (h : P_X11_mean v0 v1 v2 v3 v4 v5 v6 Q S) : MJ l yX11_mean cX11_mean 8 (some .long) rm_X11_mean Ee S [.ref v0, .int v1, .int v2, .int v3, .int v4, .int v5, .int v6] Q :=
  openJ (by decide) (Nat.le_of_ble_eq_true rfl) (fun X C E ht hn hE hl => by subst hE; exact r_sub [0, 1, 2, 3, 4, 5, 6] rfl (T_X11_mean_0 C E ht hn h))
def rm_X11_minutes : Room := { frames := 2, cells := 0, slots := 0, locals := 44 }
def P_X11_minutes_21 (Q : Int32 → HS → Prop) (v0 : Nat) (S : HS) : Prop := ob S v0 11 ∧ (P_X11_refused v0 (1 : Int32) (fun x3 S1 => Gr S S1 → (Q x3 S1)) S)
set_option maxRecDepth 20000 in
set_option maxHeartbeats 4000000 in
theorem T_X11_minutes_21 {X : CX} {Q : Int32 → HS → Prop} (C : Cx X cX11_minutes RX11 4 rm_X11_minutes) (E : ReI X rm_X11_minutes Q) (ht : (xh X).sig.returnType = (some .int)) (hn : (xh X).name = yX11_minutes.name) {v0 : Nat} {S : HS} (h : P_X11_minutes_21 Q v0 S) : WS X 4 0 0 21 [(0, .ref v0)] [] S := by
  refine r_aload_n (pc := 21) C dX11_minutes_21 0 rfl ?_
  refine r_iconst (pc := 22) C (v := (1 : Int32)) dX11_minutes_22 (by decide) ?_
  obtain ⟨o_v0, h⟩ := h
  refine r_callVi0 (pc := 23) C (rest := []) (a := v0) o_v0 [.int (1 : Int32)] yV_X11_refused g_1250 (c_X11_refused h) dX11_minutes_23 rfl rfl (Nat.le_of_ble_eq_true rfl) ⟨by decide, by decide⟩ ⟨by decide, by decide⟩ ⟨rfl, rfl⟩ (fun x3 S1 h g2 => ?_)
  have h := h g2
  have o_v0 := gr_ob g2 o_v0
  exact r_iret (pc := 26) C E ht dX11_minutes_26 (by decide) (by decide) h
def P_X11_minutes_0 (Q : Int32 → HS → Prop) (v0 : Nat) (v1 : Int32) (v2 : Int32) (v3 : Int32) (S : HS) : Prop := ob S v0 11 ∧ (∀ S1 : HS, S1 = sI S v0 0 (0 : Int32) → (P_X11_isWalker v0 v1 (fun x4 S2 => Gr S1 S2 → bl x4 → (((x4 = 0) → (P_X11_minutes_21 Q v0 S2)) ∧ ((¬ x4 = 0) → (P_X11_isRoad v0 v2 (fun x8 S6 => Gr S2 S6 → bl x8 → (((¬ x8 = 0) → (P_X11_isSpeed v0 v1 v3 (fun x12 S10 => Gr S6 S10 → bl x12 → (((x12 = 0) → (P_X11_refused v0 (2 : Int32) (fun x16 S14 => Gr S10 S14 → (Q x16 S14)) S10)) ∧ ((¬ x12 = 0) → (∃ a17 : Nat, fR S10 v0 3 = some a17 ∧ (ob S10 a17 10 ∧ (P_X10_minutes a17 v2 v3 (fun x20 S18 => Gr S10 S18 → (P_X11_good v0 x20 (fun x23 S21 => Gr S18 S21 → (Q x23 S21)) S18)) S10)))))) S6)) ∧ ((x8 = 0) → (P_X11_minutes_21 Q v0 S6)))) S2)))) S1))
set_option maxRecDepth 20000 in
set_option maxHeartbeats 4000000 in
theorem T_X11_minutes_0 {X : CX} {Q : Int32 → HS → Prop} (C : Cx X cX11_minutes RX11 4 rm_X11_minutes) (E : ReI X rm_X11_minutes Q) (ht : (xh X).sig.returnType = (some .int)) (hn : (xh X).name = yX11_minutes.name) {v0 : Nat} {v1 : Int32} {v2 : Int32} {v3 : Int32} {S : HS} (h : P_X11_minutes_0 Q v0 v1 v2 v3 S) : WS X 4 0 0 0 [(0, .ref v0), (1, .int v1), (2, .int v2), (3, .int v3)] [] S := by
  refine r_aload_n (pc := 0) C dX11_minutes_0 0 rfl ?_
  refine r_iconst (pc := 1) C (v := (0 : Int32)) dX11_minutes_1 (by decide) ?_
  obtain ⟨o_v0, h⟩ := h
  refine r_puti (pc := 2) C pfL_X11_40 dX11_minutes_2 o_v0 ?_
  refine r_heap (fun S1 eS1 => ?_)
  have h := h S1 eS1
  have o_v0 := ob_I eS1 o_v0
  refine r_aload_n (pc := 5) C dX11_minutes_5 0 rfl ?_
  refine r_iload_n (pc := 6) C dX11_minutes_6 1 rfl ?_
  refine r_callVi0 (pc := 7) C (rest := []) (a := v0) o_v0 [.int v1] yV_X11_isWalker g_1538 (c_X11_isWalker h) dX11_minutes_7 rfl rfl (Nat.le_of_ble_eq_true rfl) ⟨by decide, by decide⟩ ⟨by decide, by decide⟩ ⟨rfl, rfl⟩ (fun x4 S2 h g3 => ?_)
  have bx4 := h.1
  have h := h.2 g3 bx4
  have o_v0 := gr_ob g3 o_v0
  refine r_if_eq (pc := 10) C (tgt := 21) dX11_minutes_10 (by decide) (fun c5 => ?_) (fun c5 => ?_)
  · have h := h.1 c5
    exact r_sub [0] rfl (T_X11_minutes_21 C E ht hn h)
  · have h := h.2 c5
    refine r_aload_n (pc := 13) C dX11_minutes_13 0 rfl ?_
    refine r_iload_n (pc := 14) C dX11_minutes_14 2 rfl ?_
    refine r_callVi0 (pc := 15) C (rest := []) (a := v0) o_v0 [.int v2] yV_X11_isRoad g_1542 (c_X11_isRoad h) dX11_minutes_15 rfl rfl (Nat.le_of_ble_eq_true rfl) ⟨by decide, by decide⟩ ⟨by decide, by decide⟩ ⟨rfl, rfl⟩ (fun x8 S6 h g7 => ?_)
    have bx8 := h.1
    have h := h.2 g7 bx8
    have o_v0 := gr_ob g7 o_v0
    refine r_if_ne (pc := 18) C (tgt := 27) dX11_minutes_18 (by decide) (fun c9 => ?_) (fun c9 => ?_)
    · have h := h.1 c9
      refine r_aload_n (pc := 27) C dX11_minutes_27 0 rfl ?_
      refine r_iload_n (pc := 28) C dX11_minutes_28 1 rfl ?_
      refine r_iload_n (pc := 29) C dX11_minutes_29 3 rfl ?_
      refine r_callVi0 (pc := 30) C (rest := []) (a := v0) o_v0 [.int v1, .int v3] yV_X11_isSpeed g_1550 (c_X11_isSpeed h) dX11_minutes_30 rfl rfl (Nat.le_of_ble_eq_true rfl) ⟨by decide, by decide⟩ ⟨by decide, by decide⟩ ⟨rfl, rfl⟩ (fun x12 S10 h g11 => ?_)
      have bx12 := h.1
      have h := h.2 g11 bx12
      have o_v0 := gr_ob g11 o_v0
      refine r_if_eq (pc := 33) C (tgt := 52) dX11_minutes_33 (by decide) (fun c13 => ?_) (fun c13 => ?_)
      · have h := h.1 c13
        refine r_aload_n (pc := 52) C dX11_minutes_52 0 rfl ?_
        refine r_iconst (pc := 53) C (v := (2 : Int32)) dX11_minutes_53 (by decide) ?_
        refine r_callVi0 (pc := 54) C (rest := []) (a := v0) o_v0 [.int (2 : Int32)] yV_X11_refused g_1250 (c_X11_refused h) dX11_minutes_54 rfl rfl (Nat.le_of_ble_eq_true rfl) ⟨by decide, by decide⟩ ⟨by decide, by decide⟩ ⟨rfl, rfl⟩ (fun x16 S14 h g15 => ?_)
        have h := h g15
        have o_v0 := gr_ob g15 o_v0
        exact r_iret (pc := 57) C E ht dX11_minutes_57 (by decide) (by decide) h
      · have h := h.2 c13
        refine r_aload_n (pc := 36) C dX11_minutes_36 0 rfl ?_
        refine r_aload_n (pc := 37) C dX11_minutes_37 0 rfl ?_
        obtain ⟨a17, ea17, h⟩ := h
        refine r_getr (pc := 38) C fL_X11_338 dX11_minutes_38 o_v0 ea17 ?_
        refine r_iload_n (pc := 41) C dX11_minutes_41 2 rfl ?_
        refine r_iload_n (pc := 42) C dX11_minutes_42 3 rfl ?_
        obtain ⟨o_a17, h⟩ := h
        refine r_callVi0 (pc := 43) C (rest := [.ref v0]) (a := a17) o_a17 [.int v2, .int v3] yV_X10_minutes g_1607 (c_X10_minutes h) dX11_minutes_43 rfl rfl (Nat.le_of_ble_eq_true rfl) ⟨by decide, by decide⟩ ⟨by decide, by decide⟩ ⟨rfl, rfl⟩ (fun x20 S18 h g19 => ?_)
        have h := h g19
        have o_a17 := gr_ob g19 o_a17
        have o_v0 := gr_ob g19 o_v0
        refine r_callVi0 (pc := 46) C (rest := []) (a := v0) o_v0 [.int x20] yV_X11_good g_1518 (c_X11_good h) dX11_minutes_46 rfl rfl (Nat.le_of_ble_eq_true rfl) ⟨by decide, by decide⟩ ⟨by decide, by decide⟩ ⟨rfl, rfl⟩ (fun x23 S21 h g22 => ?_)
        have h := h g22
        have o_a17 := gr_ob g22 o_a17
        have o_v0 := gr_ob g22 o_v0
        refine r_goto (pc := 49) C (tgt := 57) dX11_minutes_49 (by decide) ?_
        exact r_iret (pc := 57) C E ht dX11_minutes_57 (by decide) (by decide) h
    · have h := h.2 c9
      exact r_sub [0] rfl (T_X11_minutes_21 C E ht hn h)
def P_X11_minutes (v0 : Nat) (v1 : Int32) (v2 : Int32) (v3 : Int32) (Q : Int32 → HS → Prop) (S : HS) : Prop := P_X11_minutes_0 Q v0 v1 v2 v3 S
theorem c_X11_minutes {l : Launch} {Ee : EE} {S : HS} {v0 : Nat} {v1 : Int32} {v2 : Int32} {v3 : Int32} {Q : Int32 → HS → Prop} (h : P_X11_minutes v0 v1 v2 v3 Q S) : MI l yX11_minutes cX11_minutes 4 (some .int) rm_X11_minutes Ee S [.ref v0, .int v1, .int v2, .int v3] Q :=
  openI (by decide) (Nat.le_of_ble_eq_true rfl) (fun X C E ht hn hE hl => by subst hE; exact r_sub [0, 1, 2, 3] rfl (T_X11_minutes_0 C E ht hn h))
def rm_X11_names : Room := { frames := 0, cells := 0, slots := 0, locals := 0 }
def P_X11_names_0 (Q : HS → Prop) (v0 : Nat) (v1 : Int64) (v3 : Int32) (v4 : Int32) (S : HS) : Prop := ob S v0 11 ∧ (∃ a1 : Nat, fR S v0 4 = some a1 ∧ (ob S a1 10 ∧ (∃ a2 : Nat, fR S a1 28 = some a2 ∧ (∃ a3 : Nat, fR S v0 4 = some a3 ∧ (ob S a3 10 ∧ (∀ x4 : Int32, x4 = fI S a3 6 → (ob S a2 14 ∧ (vp_in x4 (hN S a2) ∧ (∀ S6 : HS, S6 = sJ S a2 x4.toNatClampNeg v1 → (∃ a7 : Nat, fR S6 v0 4 = some a7 ∧ (ob S6 a7 10 ∧ (∃ a8 : Nat, fR S6 a7 29 = some a8 ∧ (∃ a9 : Nat, fR S6 v0 4 = some a9 ∧ (ob S6 a9 10 ∧ (∀ x10 : Int32, x10 = fI S6 a9 6 → (ob S6 a8 13 ∧ (vp_in x10 (hN S6 a8) ∧ (∀ S12 : HS, S12 = sI S6 a8 x10.toNatClampNeg v3 → (∃ a13 : Nat, fR S12 v0 4 = some a13 ∧ (ob S12 a13 10 ∧ (∃ a14 : Nat, fR S12 a13 30 = some a14 ∧ (∃ a15 : Nat, fR S12 v0 4 = some a15 ∧ (ob S12 a15 10 ∧ (∀ x16 : Int32, x16 = fI S12 a15 6 → (ob S12 a14 13 ∧ (vp_in x16 (hN S12 a14) ∧ (∀ S18 : HS, S18 = sI S12 a14 x16.toNatClampNeg v4 → (∃ a19 : Nat, fR S18 v0 4 = some a19 ∧ (ob S18 a19 10 ∧ (∀ x20 : Int32, x20 = fI S18 a19 6 → (∀ x21 : Int32, x21 = x20 + (1 : Int32) → (∀ S22 : HS, S22 = sI S18 a19 6 x21 → (Q S22)))))))))))))))))))))))))))))))))
set_option maxRecDepth 20000 in
set_option maxHeartbeats 4000000 in
theorem T_X11_names_0 {X : CX} {Q : HS → Prop} (C : Cx X cX11_names RX11 5 rm_X11_names) (E : ReV X rm_X11_names Q) (ht : (xh X).sig.returnType = none) (hn : (xh X).name = yX11_names.name) {v0 : Nat} {v1 : Int64} {v3 : Int32} {v4 : Int32} {S : HS} (h : P_X11_names_0 Q v0 v1 v3 v4 S) : WS X 5 0 0 0 [(0, .ref v0), (1, .long v1), (3, .int v3), (4, .int v4)] [] S := by
  refine r_aload_n (pc := 0) C dX11_names_0 0 rfl ?_
  obtain ⟨o_v0, h⟩ := h
  obtain ⟨a1, ea1, h⟩ := h
  refine r_getr (pc := 1) C fL_X11_147 dX11_names_1 o_v0 ea1 ?_
  obtain ⟨o_a1, h⟩ := h
  obtain ⟨a2, ea2, h⟩ := h
  refine r_getNr (pc := 4) C fN_X11_164 dX11_names_4 o_a1 ea2 ?_
  refine r_aload_n (pc := 7) C dX11_names_7 0 rfl ?_
  obtain ⟨a3, ea3, h⟩ := h
  refine r_getr (pc := 8) C fL_X11_147 dX11_names_8 o_v0 ea3 ?_
  obtain ⟨o_a3, h⟩ := h
  refine r_getNi (pc := 11) C fN_X11_167 dX11_names_11 o_a3 ?_
  refine r_topi (fun x4 ex4 => ?_)
  have h := h x4 ex4
  refine r_lload_n (pc := 14) C dX11_names_14 1 rfl ?_
  obtain ⟨o_a2, h⟩ := h
  obtain ⟨i5, h⟩ := h
  refine r_last (pc := 15) C dX11_names_15 o_a2 i5 ?_
  refine r_heap (fun S6 eS6 => ?_)
  have h := h S6 eS6
  have o_a1 := ob_J eS6 o_a1
  have o_a2 := ob_J eS6 o_a2
  have o_a3 := ob_J eS6 o_a3
  have o_v0 := ob_J eS6 o_v0
  refine r_aload_n (pc := 16) C dX11_names_16 0 rfl ?_
  obtain ⟨a7, ea7, h⟩ := h
  refine r_getr (pc := 17) C fL_X11_147 dX11_names_17 o_v0 ea7 ?_
  obtain ⟨o_a7, h⟩ := h
  obtain ⟨a8, ea8, h⟩ := h
  refine r_getNr (pc := 20) C fN_X11_170 dX11_names_20 o_a7 ea8 ?_
  refine r_aload_n (pc := 23) C dX11_names_23 0 rfl ?_
  obtain ⟨a9, ea9, h⟩ := h
  refine r_getr (pc := 24) C fL_X11_147 dX11_names_24 o_v0 ea9 ?_
  obtain ⟨o_a9, h⟩ := h
  refine r_getNi (pc := 27) C fN_X11_167 dX11_names_27 o_a9 ?_
  refine r_topi (fun x10 ex10 => ?_)
  have h := h x10 ex10
  refine r_iload_n (pc := 30) C dX11_names_30 2 rfl ?_
  obtain ⟨o_a8, h⟩ := h
  obtain ⟨i11, h⟩ := h
  refine r_iast (pc := 31) C dX11_names_31 o_a8 i11 ?_
  refine r_heap (fun S12 eS12 => ?_)
  have h := h S12 eS12
  have o_a1 := ob_I eS12 o_a1
  have o_a2 := ob_I eS12 o_a2
  have o_a3 := ob_I eS12 o_a3
  have o_a7 := ob_I eS12 o_a7
  have o_a8 := ob_I eS12 o_a8
  have o_a9 := ob_I eS12 o_a9
  have o_v0 := ob_I eS12 o_v0
  refine r_aload_n (pc := 32) C dX11_names_32 0 rfl ?_
  obtain ⟨a13, ea13, h⟩ := h
  refine r_getr (pc := 33) C fL_X11_147 dX11_names_33 o_v0 ea13 ?_
  obtain ⟨o_a13, h⟩ := h
  obtain ⟨a14, ea14, h⟩ := h
  refine r_getNr (pc := 36) C fN_X11_173 dX11_names_36 o_a13 ea14 ?_
  refine r_aload_n (pc := 39) C dX11_names_39 0 rfl ?_
  obtain ⟨a15, ea15, h⟩ := h
  refine r_getr (pc := 40) C fL_X11_147 dX11_names_40 o_v0 ea15 ?_
  obtain ⟨o_a15, h⟩ := h
  refine r_getNi (pc := 43) C fN_X11_167 dX11_names_43 o_a15 ?_
  refine r_topi (fun x16 ex16 => ?_)
  have h := h x16 ex16
  refine r_iload (pc := 46) C dX11_names_46 3 rfl ?_
  obtain ⟨o_a14, h⟩ := h
  obtain ⟨i17, h⟩ := h
  refine r_iast (pc := 48) C dX11_names_48 o_a14 i17 ?_
  refine r_heap (fun S18 eS18 => ?_)
  have h := h S18 eS18
  have o_a1 := ob_I eS18 o_a1
  have o_a13 := ob_I eS18 o_a13
  have o_a14 := ob_I eS18 o_a14
  have o_a15 := ob_I eS18 o_a15
  have o_a2 := ob_I eS18 o_a2
  have o_a3 := ob_I eS18 o_a3
  have o_a7 := ob_I eS18 o_a7
  have o_a8 := ob_I eS18 o_a8
  have o_a9 := ob_I eS18 o_a9
  have o_v0 := ob_I eS18 o_v0
  refine r_aload_n (pc := 49) C dX11_names_49 0 rfl ?_
  obtain ⟨a19, ea19, h⟩ := h
  refine r_getr (pc := 50) C fL_X11_147 dX11_names_50 o_v0 ea19 ?_
  refine r_dup (pc := 53) C dX11_names_53 rfl ?_
  obtain ⟨o_a19, h⟩ := h
  refine r_getNi (pc := 54) C fN_X11_167 dX11_names_54 o_a19 ?_
  refine r_topi (fun x20 ex20 => ?_)
  have h := h x20 ex20
  refine r_iconst (pc := 57) C (v := (1 : Int32)) dX11_names_57 (by decide) ?_
  refine r_iadd (pc := 58) C dX11_names_58 ?_
  refine r_topi (fun x21 ex21 => ?_)
  have h := h x21 ex21
  refine r_putNi (pc := 59) C pfN_X11_167 dX11_names_59 o_a19 ?_
  refine r_heap (fun S22 eS22 => ?_)
  have h := h S22 eS22
  have o_a1 := ob_I eS22 o_a1
  have o_a13 := ob_I eS22 o_a13
  have o_a14 := ob_I eS22 o_a14
  have o_a15 := ob_I eS22 o_a15
  have o_a19 := ob_I eS22 o_a19
  have o_a2 := ob_I eS22 o_a2
  have o_a3 := ob_I eS22 o_a3
  have o_a7 := ob_I eS22 o_a7
  have o_a8 := ob_I eS22 o_a8
  have o_a9 := ob_I eS22 o_a9
  have o_v0 := ob_I eS22 o_v0
  exact r_vret (pc := 62) C E ht dX11_names_62 (by decide) (by decide) h
def P_X11_names (v0 : Nat) (v1 : Int64) (v3 : Int32) (v4 : Int32) (Q : HS → Prop) (S : HS) : Prop := P_X11_names_0 Q v0 v1 v3 v4 S
theorem c_X11_names {l : Launch} {Ee : EE} {S : HS} {v0 : Nat} {v1 : Int64} {v3 : Int32} {v4 : Int32} {Q : HS → Prop} (h : P_X11_names v0 v1 v3 v4 Q S) : MV l yX11_names cX11_names 5 none rm_X11_names Ee S [.ref v0, .long v1, .int v3, .int v4] Q :=
  openV (by decide) (Nat.le_of_ble_eq_true rfl) (fun X C E ht hn hE hl => by subst hE; exact r_sub [0, 1, 2, 3] rfl (T_X11_names_0 C E ht hn h))
def rm_X11_needs : Room := { frames := 7, cells := 0, slots := 0, locals := 164 }
def P_X11_needs_13 (Q : HS → Prop) (v0 : Nat) (S : HS) : Prop := ob S v0 11 ∧ (P_X11_goesOn v0 (fun S1 => Gr S S1 → (Q S1)) S)
set_option maxRecDepth 20000 in
set_option maxHeartbeats 4000000 in
theorem T_X11_needs_13 {X : CX} {Q : HS → Prop} (C : Cx X cX11_needs RX11 2 rm_X11_needs) (E : ReV X rm_X11_needs Q) (ht : (xh X).sig.returnType = none) (hn : (xh X).name = yX11_needs.name) {v0 : Nat} {S : HS} (h : P_X11_needs_13 Q v0 S) : WS X 2 0 0 13 [(0, .ref v0)] [] S := by
  refine r_aload_n (pc := 13) C dX11_needs_13 0 rfl ?_
  obtain ⟨o_v0, h⟩ := h
  refine r_callVv0 (pc := 14) C (rest := []) (a := v0) o_v0 [] yV_X11_goesOn g_1380 (c_X11_goesOn h) dX11_needs_14 rfl rfl (Nat.le_of_ble_eq_true rfl) ⟨by decide, by decide⟩ ⟨by decide, by decide⟩ ⟨rfl, rfl⟩ (fun S1 h g2 => ?_)
  have h := h g2
  have o_v0 := gr_ob g2 o_v0
  exact r_vret (pc := 17) C E ht dX11_needs_17 (by decide) (by decide) h
def P_X11_needs_0 (Q : HS → Prop) (v0 : Nat) (v1 : Nat) (S : HS) : Prop := ob S v0 11 ∧ (P_X11_isWord v0 v1 (fun x3 S1 => Gr S S1 → bl x3 → (((¬ x3 = 0) → (P_X11_needs_13 Q v0 S1)) ∧ ((x3 = 0) → (P_X11_flaw v0 (1 : Int32) (fun S5 => Gr S1 S5 → (P_X11_needs_13 Q v0 S5)) S1)))) S)
set_option maxRecDepth 20000 in
set_option maxHeartbeats 4000000 in
theorem T_X11_needs_0 {X : CX} {Q : HS → Prop} (C : Cx X cX11_needs RX11 2 rm_X11_needs) (E : ReV X rm_X11_needs Q) (ht : (xh X).sig.returnType = none) (hn : (xh X).name = yX11_needs.name) {v0 : Nat} {v1 : Nat} {S : HS} (h : P_X11_needs_0 Q v0 v1 S) : WS X 2 0 0 0 [(0, .ref v0), (1, .ref (eK (xE X) v1))] [] S := by
  refine r_aload_n (pc := 0) C dX11_needs_0 0 rfl ?_
  refine r_aload_n (pc := 1) C dX11_needs_1 1 rfl ?_
  obtain ⟨o_v0, h⟩ := h
  refine r_callVi0 (pc := 2) C (rest := []) (a := v0) o_v0 [.ref (eK (xE X) v1)] yV_X11_isWord g_1404 (c_X11_isWord h) dX11_needs_2 rfl rfl (Nat.le_of_ble_eq_true rfl) ⟨by decide, by decide⟩ ⟨by decide, by decide⟩ ⟨rfl, rfl⟩ (fun x3 S1 h g2 => ?_)
  have bx3 := h.1
  have h := h.2 g2 bx3
  have o_v0 := gr_ob g2 o_v0
  refine r_if_ne (pc := 5) C (tgt := 13) dX11_needs_5 (by decide) (fun c4 => ?_) (fun c4 => ?_)
  · have h := h.1 c4
    exact r_sub [0] rfl (T_X11_needs_13 C E ht hn h)
  · have h := h.2 c4
    refine r_aload_n (pc := 8) C dX11_needs_8 0 rfl ?_
    refine r_iconst (pc := 9) C (v := (1 : Int32)) dX11_needs_9 (by decide) ?_
    refine r_callVv0 (pc := 10) C (rest := []) (a := v0) o_v0 [.int (1 : Int32)] yV_X11_flaw g_1417 (c_X11_flaw h) dX11_needs_10 rfl rfl (Nat.le_of_ble_eq_true rfl) ⟨by decide, by decide⟩ ⟨by decide, by decide⟩ ⟨rfl, rfl⟩ (fun S5 h g6 => ?_)
    have h := h g6
    have o_v0 := gr_ob g6 o_v0
    exact r_sub [0] rfl (T_X11_needs_13 C E ht hn h)
def P_X11_needs (v0 : Nat) (v1 : Nat) (Q : HS → Prop) (S : HS) : Prop := P_X11_needs_0 Q v0 v1 S
theorem c_X11_needs {l : Launch} {Ee : EE} {S : HS} {v0 : Nat} {v1 : Nat} {Q : HS → Prop} (h : P_X11_needs v0 v1 Q S) : MV l yX11_needs cX11_needs 2 none rm_X11_needs Ee S [.ref v0, .ref (eK Ee v1)] Q :=
  openV (by decide) (Nat.le_of_ble_eq_true rfl) (fun X C E ht hn hE hl => by subst hE; exact r_sub [0, 1] rfl (T_X11_needs_0 C E ht hn h))
def rm_X11_off : Room := { frames := 9, cells := 0, slots := 0, locals := 243 }
def P_X11_off_29 (Q : Int32 → HS → Prop) (v0 : Nat) (S : HS) : Prop := ob S v0 11 ∧ (P_X11_refused v0 (1 : Int32) (fun x3 S1 => Gr S S1 → (Q x3 S1)) S)
set_option maxRecDepth 20000 in
set_option maxHeartbeats 4000000 in
theorem T_X11_off_29 {X : CX} {Q : Int32 → HS → Prop} (C : Cx X cX11_off RX11 7 rm_X11_off) (E : ReI X rm_X11_off Q) (ht : (xh X).sig.returnType = (some .int)) (hn : (xh X).name = yX11_off.name) {v0 : Nat} {S : HS} (h : P_X11_off_29 Q v0 S) : WS X 7 0 0 29 [(0, .ref v0)] [] S := by
  refine r_aload_n (pc := 29) C dX11_off_29 0 rfl ?_
  refine r_iconst (pc := 30) C (v := (1 : Int32)) dX11_off_30 (by decide) ?_
  obtain ⟨o_v0, h⟩ := h
  refine r_callVi0 (pc := 31) C (rest := []) (a := v0) o_v0 [.int (1 : Int32)] yV_X11_refused g_1250 (c_X11_refused h) dX11_off_31 rfl rfl (Nat.le_of_ble_eq_true rfl) ⟨by decide, by decide⟩ ⟨by decide, by decide⟩ ⟨rfl, rfl⟩ (fun x3 S1 h g2 => ?_)
  have h := h g2
  have o_v0 := gr_ob g2 o_v0
  exact r_iret (pc := 34) C E ht dX11_off_34 (by decide) (by decide) h
def P_X11_off_128 (Q : Int32 → HS → Prop) (X67 : Nat → Int32 → Int32 → Int32 → Int32 → HS → Prop) (v0 : Nat) (v2 : Int32) (v4 : Int32) (v5 : Int32) (v6 : Int32) (S : HS) : Prop := ∀ x1 : Int32, x1 = v6 + (1 : Int32) → (X67 v0 v2 v4 v5 x1 S)
set_option maxRecDepth 20000 in
set_option maxHeartbeats 4000000 in
theorem T_X11_off_128 {X : CX} {Q : Int32 → HS → Prop} (C : Cx X cX11_off RX11 7 rm_X11_off) (E : ReI X rm_X11_off Q) (ht : (xh X).sig.returnType = (some .int)) (hn : (xh X).name = yX11_off.name) {X67 : Nat → Int32 → Int32 → Int32 → Int32 → HS → Prop} (hX67 : ∀ (v0 : Nat) (v2 : Int32) (v4 : Int32) (v5 : Int32) (v6 : Int32) (S : HS), X67 v0 v2 v4 v5 v6 S → WS X 7 0 0 67 [(0, .ref v0), (2, .int v2), (4, .int v4), (5, .int v5), (6, .int v6)] [] S) {v0 : Nat} {v2 : Int32} {v4 : Int32} {v5 : Int32} {v6 : Int32} {S : HS} (h : P_X11_off_128 Q X67 v0 v2 v4 v5 v6 S) : WS X 7 0 0 128 [(0, .ref v0), (2, .int v2), (4, .int v4), (5, .int v5), (6, .int v6)] [] S := by
  obtain ⟨x1, ex1⟩ : ∃ z : Int32, z = v6 + (1 : Int32) := ⟨_, rfl⟩
  have h := h x1 ex1
  refine r_iinc (pc := 128) C (v := x1) (lv' := [(6, .int x1), (0, .ref v0), (2, .int v2), (4, .int v4), (5, .int v5)]) dX11_off_128 4 rfl ex1.symm (by decide) rfl ?_
  refine r_goto (pc := 131) C (tgt := 67) dX11_off_131 (by decide) ?_
  exact r_sub [1, 2, 3, 4, 0] rfl (hX67 v0 v2 v4 v5 x1 S h)
def P_X11_off_124 (Q : Int32 → HS → Prop) (X67 : Nat → Int32 → Int32 → Int32 → Int32 → HS → Prop) (v0 : Nat) (v2 : Int32) (v4 : Int32) (v6 : Int32) (S : HS) : Prop := P_X11_off_128 Q X67 v0 v2 v4 v6 v6 S
set_option maxRecDepth 20000 in
set_option maxHeartbeats 4000000 in
theorem T_X11_off_124 {X : CX} {Q : Int32 → HS → Prop} (C : Cx X cX11_off RX11 7 rm_X11_off) (E : ReI X rm_X11_off Q) (ht : (xh X).sig.returnType = (some .int)) (hn : (xh X).name = yX11_off.name) {X67 : Nat → Int32 → Int32 → Int32 → Int32 → HS → Prop} (hX67 : ∀ (v0 : Nat) (v2 : Int32) (v4 : Int32) (v5 : Int32) (v6 : Int32) (S : HS), X67 v0 v2 v4 v5 v6 S → WS X 7 0 0 67 [(0, .ref v0), (2, .int v2), (4, .int v4), (5, .int v5), (6, .int v6)] [] S) {v0 : Nat} {v2 : Int32} {v4 : Int32} {v6 : Int32} {S : HS} (h : P_X11_off_124 Q X67 v0 v2 v4 v6 S) : WS X 7 0 0 124 [(0, .ref v0), (2, .int v2), (4, .int v4), (6, .int v6)] [] S := by
  refine r_iload (pc := 124) C dX11_off_124 3 rfl ?_
  refine r_istore (pc := 126) C dX11_off_126 (by decide) (lv' := [(5, .int v6), (0, .ref v0), (2, .int v2), (4, .int v4), (6, .int v6)]) rfl ?_
  exact r_sub [1, 2, 3, 0, 4] rfl (T_X11_off_128 C E ht hn hX67 h)
def B_X11_off_67 (Q : Int32 → HS → Prop) (X67 : Nat → Int32 → Int32 → Int32 → Int32 → HS → Prop) (v0 : Nat) (v2 : Int32) (v4 : Int32) (v5 : Int32) (v6 : Int32) (S : HS) : Prop := ((v4 < v6) → (((¬ v5 = (-1 : Int32)) → (ob S v0 11 ∧ (P_X11_good v0 v5 (fun x5 S3 => Gr S S3 → (Q x5 S3)) S))) ∧ ((v5 = (-1 : Int32)) → (ob S v0 11 ∧ (P_X11_refused v0 (6 : Int32) (fun x8 S6 => Gr S S6 → (Q x8 S6)) S))))) ∧ ((¬ v4 < v6) → (ob S v0 11 ∧ (∃ a9 : Nat, fR S v0 16 = some a9 ∧ (P_X11_spotOf v2 v6 (fun x12 S10 => Gr S S10 → (ob S10 a9 14 ∧ (vp_in x12 (hN S10 a9) ∧ ∀ x14 : Int64, x14 = fJ S10 a9 x12.toNatClampNeg → ((((lg_cmp x14 (-1 : Int64)) = 0) → (P_X11_off_128 Q X67 v0 v2 v4 v5 v6 S10)) ∧ ((¬ (lg_cmp x14 (-1 : Int64)) = 0) → (((v5 = (-1 : Int32)) → (P_X11_off_124 Q X67 v0 v2 v4 v6 S10)) ∧ ((¬ v5 = (-1 : Int32)) → (∃ a17 : Nat, fR S10 v0 16 = some a17 ∧ (P_X11_spotOf v2 v6 (fun x20 S18 => Gr S10 S18 → (ob S18 a17 14 ∧ (vp_in x20 (hN S18 a17) ∧ ∀ x22 : Int64, x22 = fJ S18 a17 x20.toNatClampNeg → (∃ a23 : Nat, fR S18 v0 16 = some a23 ∧ (P_X11_spotOf v2 v5 (fun x26 S24 => Gr S18 S24 → (ob S24 a23 14 ∧ (vp_in x26 (hN S24 a23) ∧ ∀ x28 : Int64, x28 = fJ S24 a23 x26.toNatClampNeg → (((0 ≤ (lg_cmp x22 x28)) → (P_X11_off_128 Q X67 v0 v2 v4 v5 v6 S24)) ∧ ((¬ 0 ≤ (lg_cmp x22 x28)) → (P_X11_off_124 Q X67 v0 v2 v4 v6 S24)))))) S18))))) S10))))))))) S))))
def P_X11_off_67 (Q : Int32 → HS → Prop) (v0 : Nat) (v2 : Int32) (v4 : Int32) (v5 : Int32) (v6 : Int32) (S : HS) : Prop := ∀ X67 : Nat → Int32 → Int32 → Int32 → Int32 → HS → Prop, (∀ (v0 : Nat) (v2 : Int32) (v4 : Int32) (v5 : Int32) (v6 : Int32) (S : HS), B_X11_off_67 Q X67 v0 v2 v4 v5 v6 S → X67 v0 v2 v4 v5 v6 S) → X67 v0 v2 v4 v5 v6 S
set_option maxRecDepth 20000 in
set_option maxHeartbeats 4000000 in
theorem TB_X11_off_67 {X : CX} {Q : Int32 → HS → Prop} (C : Cx X cX11_off RX11 7 rm_X11_off) (E : ReI X rm_X11_off Q) (ht : (xh X).sig.returnType = (some .int)) (hn : (xh X).name = yX11_off.name) {X67 : Nat → Int32 → Int32 → Int32 → Int32 → HS → Prop} (hX67 : ∀ (v0 : Nat) (v2 : Int32) (v4 : Int32) (v5 : Int32) (v6 : Int32) (S : HS), X67 v0 v2 v4 v5 v6 S → WS X 7 0 0 67 [(0, .ref v0), (2, .int v2), (4, .int v4), (5, .int v5), (6, .int v6)] [] S) {v0 : Nat} {v2 : Int32} {v4 : Int32} {v5 : Int32} {v6 : Int32} {S : HS} (h : B_X11_off_67 Q X67 v0 v2 v4 v5 v6 S) : WS X 7 0 0 67 [(0, .ref v0), (2, .int v2), (4, .int v4), (5, .int v5), (6, .int v6)] [] S := by
  refine r_iload (pc := 67) C dX11_off_67 4 rfl ?_
  refine r_iload (pc := 69) C dX11_off_69 2 rfl ?_
  refine r_icmp_gt (pc := 71) C (tgt := 134) dX11_off_71 (by decide) (fun c1 => ?_) (fun c1 => ?_)
  · have h := h.1 c1
    refine r_iload (pc := 134) C dX11_off_134 3 rfl ?_
    refine r_iconst (pc := 136) C (v := (-1 : Int32)) dX11_off_136 (by decide) ?_
    refine r_icmp_ne (pc := 137) C (tgt := 149) dX11_off_137 (by decide) (fun c2 => ?_) (fun c2 => ?_)
    · have h := h.1 c2
      refine r_aload_n (pc := 149) C dX11_off_149 0 rfl ?_
      refine r_iload (pc := 150) C dX11_off_150 3 rfl ?_
      obtain ⟨o_v0, h⟩ := h
      refine r_callVi0 (pc := 152) C (rest := []) (a := v0) o_v0 [.int v5] yV_X11_good g_1518 (c_X11_good h) dX11_off_152 rfl rfl (Nat.le_of_ble_eq_true rfl) ⟨by decide, by decide⟩ ⟨by decide, by decide⟩ ⟨rfl, rfl⟩ (fun x5 S3 h g4 => ?_)
      have h := h g4
      have o_v0 := gr_ob g4 o_v0
      exact r_iret (pc := 155) C E ht dX11_off_155 (by decide) (by decide) h
    · have h := h.2 c2
      refine r_aload_n (pc := 140) C dX11_off_140 0 rfl ?_
      refine r_bipush (pc := 141) C (v := (6 : Int32)) dX11_off_141 (by decide) ?_
      obtain ⟨o_v0, h⟩ := h
      refine r_callVi0 (pc := 143) C (rest := []) (a := v0) o_v0 [.int (6 : Int32)] yV_X11_refused g_1250 (c_X11_refused h) dX11_off_143 rfl rfl (Nat.le_of_ble_eq_true rfl) ⟨by decide, by decide⟩ ⟨by decide, by decide⟩ ⟨rfl, rfl⟩ (fun x8 S6 h g7 => ?_)
      have h := h g7
      have o_v0 := gr_ob g7 o_v0
      refine r_goto (pc := 146) C (tgt := 155) dX11_off_146 (by decide) ?_
      exact r_iret (pc := 155) C E ht dX11_off_155 (by decide) (by decide) h
  · have h := h.2 c1
    refine r_aload_n (pc := 74) C dX11_off_74 0 rfl ?_
    obtain ⟨o_v0, h⟩ := h
    obtain ⟨a9, ea9, h⟩ := h
    refine r_getr (pc := 75) C fL_X11_17 dX11_off_75 o_v0 ea9 ?_
    refine r_iload_n (pc := 78) C dX11_off_78 1 rfl ?_
    refine r_iload (pc := 79) C dX11_off_79 4 rfl ?_
    refine r_callSi0 (pc := 81) C (rest := [.ref a9]) rfl [.int v2, .int v6] yS_X11_spotOf g_1687 (c_X11_spotOf h) dX11_off_81 rfl rfl (Nat.le_of_ble_eq_true rfl) ⟨by decide, by decide⟩ ⟨by decide, by decide⟩ ⟨rfl, rfl⟩ (fun x12 S10 h g11 => ?_)
    have h := h g11
    have o_v0 := gr_ob g11 o_v0
    obtain ⟨o_a9, h⟩ := h
    obtain ⟨i13, h⟩ := h
    refine r_lald (pc := 84) C dX11_off_84 o_a9 i13 ?_
    refine r_topl (fun x14 ex14 => ?_)
    have h := h x14 ex14
    refine r_ldc2 (pc := 85) C (v := (-1 : Int64)) dX11_off_85 g_1690 ?_
    refine r_lcmp (pc := 88) C dX11_off_88 ?_
    refine r_if_eq (pc := 89) C (tgt := 128) dX11_off_89 (by decide) (fun c15 => ?_) (fun c15 => ?_)
    · have h := h.1 c15
      exact r_sub [0, 1, 2, 3, 4] rfl (T_X11_off_128 C E ht hn hX67 h)
    · have h := h.2 c15
      refine r_iload (pc := 92) C dX11_off_92 3 rfl ?_
      refine r_iconst (pc := 94) C (v := (-1 : Int32)) dX11_off_94 (by decide) ?_
      refine r_icmp_eq (pc := 95) C (tgt := 124) dX11_off_95 (by decide) (fun c16 => ?_) (fun c16 => ?_)
      · have h := h.1 c16
        exact r_sub [0, 1, 2, 4] rfl (T_X11_off_124 C E ht hn hX67 h)
      · have h := h.2 c16
        refine r_aload_n (pc := 98) C dX11_off_98 0 rfl ?_
        obtain ⟨a17, ea17, h⟩ := h
        refine r_getr (pc := 99) C fL_X11_17 dX11_off_99 o_v0 ea17 ?_
        refine r_iload_n (pc := 102) C dX11_off_102 1 rfl ?_
        refine r_iload (pc := 103) C dX11_off_103 4 rfl ?_
        refine r_callSi0 (pc := 105) C (rest := [.ref a17]) rfl [.int v2, .int v6] yS_X11_spotOf g_1687 (c_X11_spotOf h) dX11_off_105 rfl rfl (Nat.le_of_ble_eq_true rfl) ⟨by decide, by decide⟩ ⟨by decide, by decide⟩ ⟨rfl, rfl⟩ (fun x20 S18 h g19 => ?_)
        have h := h g19
        have o_a9 := gr_ob g19 o_a9
        have o_v0 := gr_ob g19 o_v0
        obtain ⟨o_a17, h⟩ := h
        obtain ⟨i21, h⟩ := h
        refine r_lald (pc := 108) C dX11_off_108 o_a17 i21 ?_
        refine r_topl (fun x22 ex22 => ?_)
        have h := h x22 ex22
        refine r_aload_n (pc := 109) C dX11_off_109 0 rfl ?_
        obtain ⟨a23, ea23, h⟩ := h
        refine r_getr (pc := 110) C fL_X11_17 dX11_off_110 o_v0 ea23 ?_
        refine r_iload_n (pc := 113) C dX11_off_113 1 rfl ?_
        refine r_iload (pc := 114) C dX11_off_114 3 rfl ?_
        refine r_callSi0 (pc := 116) C (rest := [.ref a23, .long x22]) rfl [.int v2, .int v5] yS_X11_spotOf g_1687 (c_X11_spotOf h) dX11_off_116 rfl rfl (Nat.le_of_ble_eq_true rfl) ⟨by decide, by decide⟩ ⟨by decide, by decide⟩ ⟨rfl, rfl⟩ (fun x26 S24 h g25 => ?_)
        have h := h g25
        have o_a17 := gr_ob g25 o_a17
        have o_a9 := gr_ob g25 o_a9
        have o_v0 := gr_ob g25 o_v0
        obtain ⟨o_a23, h⟩ := h
        obtain ⟨i27, h⟩ := h
        refine r_lald (pc := 119) C dX11_off_119 o_a23 i27 ?_
        refine r_topl (fun x28 ex28 => ?_)
        have h := h x28 ex28
        refine r_lcmp (pc := 120) C dX11_off_120 ?_
        refine r_if_ge (pc := 121) C (tgt := 128) dX11_off_121 (by decide) (fun c29 => ?_) (fun c29 => ?_)
        · have h := h.1 c29
          exact r_sub [0, 1, 2, 3, 4] rfl (T_X11_off_128 C E ht hn hX67 h)
        · have h := h.2 c29
          exact r_sub [0, 1, 2, 4] rfl (T_X11_off_124 C E ht hn hX67 h)
theorem T_X11_off_67 {X : CX} {Q : Int32 → HS → Prop} (C : Cx X cX11_off RX11 7 rm_X11_off) (E : ReI X rm_X11_off Q) (ht : (xh X).sig.returnType = (some .int)) (hn : (xh X).name = yX11_off.name) {v0 : Nat} {v2 : Int32} {v4 : Int32} {v5 : Int32} {v6 : Int32} {S : HS} (h : P_X11_off_67 Q v0 v2 v4 v5 v6 S) : WS X 7 0 0 67 [(0, .ref v0), (2, .int v2), (4, .int v4), (5, .int v5), (6, .int v6)] [] S :=
  h (fun v0 v2 v4 v5 v6 S => WS X 7 0 0 67 [(0, .ref v0), (2, .int v2), (4, .int v4), (5, .int v5), (6, .int v6)] [] S) (fun v0 v2 v4 v5 v6 S hh => TB_X11_off_67 C E ht hn (fun v0 v2 v4 v5 v6 S z => z) hh)
def P_X11_off_0 (Q : Int32 → HS → Prop) (v0 : Nat) (v1 : Int32) (v2 : Int32) (v3 : Int32) (v4 : Int32) (S : HS) : Prop := ob S v0 11 ∧ (∀ S1 : HS, S1 = sI S v0 0 (0 : Int32) → (P_X11_isWalker v0 v1 (fun x4 S2 => Gr S1 S2 → bl x4 → (((x4 = 0) → (P_X11_off_29 Q v0 S2)) ∧ ((¬ x4 = 0) → (P_X11_isPlace v0 v2 (fun x8 S6 => Gr S2 S6 → bl x8 → (((x8 = 0) → (P_X11_off_29 Q v0 S6)) ∧ ((¬ x8 = 0) → (P_X11_isPlace v0 v3 (fun x12 S10 => Gr S6 S10 → bl x12 → (((¬ x12 = 0) → (P_X11_in v4 (0 : Int32) (400 : Int32) (fun x16 S14 => Gr S10 S14 → bl x16 → (((¬ x16 = 0) → (P_X11_laysWays v0 v1 v3 v4 (fun S18 => Gr S14 S18 → (P_X11_off_67 Q v0 v2 v4 (-1 : Int32) (0 : Int32) S18)) S14)) ∧ ((x16 = 0) → (P_X11_refused v0 (2 : Int32) (fun x23 S21 => Gr S14 S21 → (Q x23 S21)) S14)))) S10)) ∧ ((x12 = 0) → (P_X11_off_29 Q v0 S10)))) S6)))) S2)))) S1))
set_option maxRecDepth 20000 in
set_option maxHeartbeats 4000000 in
theorem T_X11_off_0 {X : CX} {Q : Int32 → HS → Prop} (C : Cx X cX11_off RX11 7 rm_X11_off) (E : ReI X rm_X11_off Q) (ht : (xh X).sig.returnType = (some .int)) (hn : (xh X).name = yX11_off.name) {v0 : Nat} {v1 : Int32} {v2 : Int32} {v3 : Int32} {v4 : Int32} {S : HS} (h : P_X11_off_0 Q v0 v1 v2 v3 v4 S) : WS X 7 0 0 0 [(0, .ref v0), (1, .int v1), (2, .int v2), (3, .int v3), (4, .int v4)] [] S := by
  refine r_aload_n (pc := 0) C dX11_off_0 0 rfl ?_
  refine r_iconst (pc := 1) C (v := (0 : Int32)) dX11_off_1 (by decide) ?_
  obtain ⟨o_v0, h⟩ := h
  refine r_puti (pc := 2) C pfL_X11_40 dX11_off_2 o_v0 ?_
  refine r_heap (fun S1 eS1 => ?_)
  have h := h S1 eS1
  have o_v0 := ob_I eS1 o_v0
  refine r_aload_n (pc := 5) C dX11_off_5 0 rfl ?_
  refine r_iload_n (pc := 6) C dX11_off_6 1 rfl ?_
  refine r_callVi0 (pc := 7) C (rest := []) (a := v0) o_v0 [.int v1] yV_X11_isWalker g_1538 (c_X11_isWalker h) dX11_off_7 rfl rfl (Nat.le_of_ble_eq_true rfl) ⟨by decide, by decide⟩ ⟨by decide, by decide⟩ ⟨rfl, rfl⟩ (fun x4 S2 h g3 => ?_)
  have bx4 := h.1
  have h := h.2 g3 bx4
  have o_v0 := gr_ob g3 o_v0
  refine r_if_eq (pc := 10) C (tgt := 29) dX11_off_10 (by decide) (fun c5 => ?_) (fun c5 => ?_)
  · have h := h.1 c5
    exact r_sub [0] rfl (T_X11_off_29 C E ht hn h)
  · have h := h.2 c5
    refine r_aload_n (pc := 13) C dX11_off_13 0 rfl ?_
    refine r_iload_n (pc := 14) C dX11_off_14 2 rfl ?_
    refine r_callVi0 (pc := 15) C (rest := []) (a := v0) o_v0 [.int v2] yV_X11_isPlace g_1679 (c_X11_isPlace h) dX11_off_15 rfl rfl (Nat.le_of_ble_eq_true rfl) ⟨by decide, by decide⟩ ⟨by decide, by decide⟩ ⟨rfl, rfl⟩ (fun x8 S6 h g7 => ?_)
    have bx8 := h.1
    have h := h.2 g7 bx8
    have o_v0 := gr_ob g7 o_v0
    refine r_if_eq (pc := 18) C (tgt := 29) dX11_off_18 (by decide) (fun c9 => ?_) (fun c9 => ?_)
    · have h := h.1 c9
      exact r_sub [0] rfl (T_X11_off_29 C E ht hn h)
    · have h := h.2 c9
      refine r_aload_n (pc := 21) C dX11_off_21 0 rfl ?_
      refine r_iload_n (pc := 22) C dX11_off_22 3 rfl ?_
      refine r_callVi0 (pc := 23) C (rest := []) (a := v0) o_v0 [.int v3] yV_X11_isPlace g_1679 (c_X11_isPlace h) dX11_off_23 rfl rfl (Nat.le_of_ble_eq_true rfl) ⟨by decide, by decide⟩ ⟨by decide, by decide⟩ ⟨rfl, rfl⟩ (fun x12 S10 h g11 => ?_)
      have bx12 := h.1
      have h := h.2 g11 bx12
      have o_v0 := gr_ob g11 o_v0
      refine r_if_ne (pc := 26) C (tgt := 35) dX11_off_26 (by decide) (fun c13 => ?_) (fun c13 => ?_)
      · have h := h.1 c13
        refine r_iload (pc := 35) C dX11_off_35 4 rfl ?_
        refine r_iconst (pc := 37) C (v := (0 : Int32)) dX11_off_37 (by decide) ?_
        refine r_sipush (pc := 38) C (v := (400 : Int32)) dX11_off_38 (by decide) ?_
        refine r_callSi0 (pc := 41) C (rest := []) rfl [.int v4, .int (0 : Int32), .int (400 : Int32)] yS_X11_in g_1434 (c_X11_in h) dX11_off_41 rfl rfl (Nat.le_of_ble_eq_true rfl) ⟨by decide, by decide⟩ ⟨by decide, by decide⟩ ⟨rfl, rfl⟩ (fun x16 S14 h g15 => ?_)
        have bx16 := h.1
        have h := h.2 g15 bx16
        have o_v0 := gr_ob g15 o_v0
        refine r_if_ne (pc := 44) C (tgt := 53) dX11_off_44 (by decide) (fun c17 => ?_) (fun c17 => ?_)
        · have h := h.1 c17
          refine r_aload_n (pc := 53) C dX11_off_53 0 rfl ?_
          refine r_iload_n (pc := 54) C dX11_off_54 1 rfl ?_
          refine r_iload_n (pc := 55) C dX11_off_55 3 rfl ?_
          refine r_iload (pc := 56) C dX11_off_56 4 rfl ?_
          refine r_callVv0 (pc := 58) C (rest := []) (a := v0) o_v0 [.int v1, .int v3, .int v4] yV_X11_laysWays g_1683 (c_X11_laysWays h) dX11_off_58 rfl rfl (Nat.le_of_ble_eq_true rfl) ⟨by decide, by decide⟩ ⟨by decide, by decide⟩ ⟨rfl, rfl⟩ (fun S18 h g19 => ?_)
          have h := h g19
          have o_v0 := gr_ob g19 o_v0
          refine r_iconst (pc := 61) C (v := (-1 : Int32)) dX11_off_61 (by decide) ?_
          refine r_istore (pc := 62) C dX11_off_62 (by decide) (lv' := [(5, .int (-1 : Int32)), (0, .ref v0), (1, .int v1), (2, .int v2), (3, .int v3), (4, .int v4)]) rfl ?_
          refine r_iconst (pc := 64) C (v := (0 : Int32)) dX11_off_64 (by decide) ?_
          refine r_istore (pc := 65) C dX11_off_65 (by decide) (lv' := [(6, .int (0 : Int32)), (5, .int (-1 : Int32)), (0, .ref v0), (1, .int v1), (2, .int v2), (3, .int v3), (4, .int v4)]) rfl ?_
          exact r_sub [2, 4, 6, 1, 0] rfl (T_X11_off_67 C E ht hn h)
        · have h := h.2 c17
          refine r_aload_n (pc := 47) C dX11_off_47 0 rfl ?_
          refine r_iconst (pc := 48) C (v := (2 : Int32)) dX11_off_48 (by decide) ?_
          refine r_callVi0 (pc := 49) C (rest := []) (a := v0) o_v0 [.int (2 : Int32)] yV_X11_refused g_1250 (c_X11_refused h) dX11_off_49 rfl rfl (Nat.le_of_ble_eq_true rfl) ⟨by decide, by decide⟩ ⟨by decide, by decide⟩ ⟨rfl, rfl⟩ (fun x23 S21 h g22 => ?_)
          have h := h g22
          have o_v0 := gr_ob g22 o_v0
          exact r_iret (pc := 52) C E ht dX11_off_52 (by decide) (by decide) h
      · have h := h.2 c13
        exact r_sub [0] rfl (T_X11_off_29 C E ht hn h)
def P_X11_off (v0 : Nat) (v1 : Int32) (v2 : Int32) (v3 : Int32) (v4 : Int32) (Q : Int32 → HS → Prop) (S : HS) : Prop := P_X11_off_0 Q v0 v1 v2 v3 v4 S
theorem c_X11_off {l : Launch} {Ee : EE} {S : HS} {v0 : Nat} {v1 : Int32} {v2 : Int32} {v3 : Int32} {v4 : Int32} {Q : Int32 → HS → Prop} (h : P_X11_off v0 v1 v2 v3 v4 Q S) : MI l yX11_off cX11_off 7 (some .int) rm_X11_off Ee S [.ref v0, .int v1, .int v2, .int v3, .int v4] Q :=
  openI (by decide) (Nat.le_of_ble_eq_true rfl) (fun X C E ht hn hE hl => by subst hE; exact r_sub [0, 1, 2, 3, 4] rfl (T_X11_off_0 C E ht hn h))
def rm_X11_readFresh : Room := { frames := 8, cells := 0, slots := 0, locals := 184 }
def P_X11_readFresh_32 (Q : Int64 → HS → Prop) (v0 : Nat) (S : HS) : Prop := ob S v0 11 ∧ (∀ x1 : Int64, x1 = fJ S v0 15 → (P_X11_goesOn v0 (fun S2 => Gr S S2 → (Q x1 S2)) S))
set_option maxRecDepth 20000 in
set_option maxHeartbeats 4000000 in
theorem T_X11_readFresh_32 {X : CX} {Q : Int64 → HS → Prop} (C : Cx X cX11_readFresh RX11 3 rm_X11_readFresh) (E : ReJ X rm_X11_readFresh Q) (ht : (xh X).sig.returnType = (some .long)) (hn : (xh X).name = yX11_readFresh.name) {v0 : Nat} {S : HS} (h : P_X11_readFresh_32 Q v0 S) : WS X 3 0 0 32 [(0, .ref v0)] [] S := by
  refine r_aload_n (pc := 32) C dX11_readFresh_32 0 rfl ?_
  obtain ⟨o_v0, h⟩ := h
  refine r_getl (pc := 33) C fL_X11_87 dX11_readFresh_33 o_v0 ?_
  refine r_topl (fun x1 ex1 => ?_)
  have h := h x1 ex1
  refine r_lstore_n (pc := 36) C dX11_readFresh_36 rfl (by decide) (lv' := [(1, .long x1), (0, .ref v0)]) rfl ?_
  refine r_aload_n (pc := 37) C dX11_readFresh_37 1 rfl ?_
  refine r_callVv0 (pc := 38) C (rest := []) (a := v0) o_v0 [] yV_X11_goesOn g_1380 (c_X11_goesOn h) dX11_readFresh_38 rfl rfl (Nat.le_of_ble_eq_true rfl) ⟨by decide, by decide⟩ ⟨by decide, by decide⟩ ⟨rfl, rfl⟩ (fun S2 h g3 => ?_)
  have h := h g3
  have o_v0 := gr_ob g3 o_v0
  refine r_lload_n (pc := 41) C dX11_readFresh_41 0 rfl ?_
  exact r_lret (pc := 42) C E ht dX11_readFresh_42 (by decide) (by decide) h
def P_X11_readFresh_12 (Q : Int64 → HS → Prop) (v0 : Nat) (S : HS) : Prop := ob S v0 11 ∧ (∃ a1 : Nat, fR S v0 4 = some a1 ∧ (∀ x2 : Int64, x2 = fJ S v0 15 → (ob S a1 10 ∧ (P_X10_find a1 x2 (fun x5 S3 => Gr S S3 → (((x5 = (-1 : Int32)) → (P_X11_readFresh_32 Q v0 S3)) ∧ ((¬ x5 = (-1 : Int32)) → (P_X11_flaw v0 (3 : Int32) (fun S7 => Gr S3 S7 → (P_X11_readFresh_32 Q v0 S7)) S3)))) S))))
set_option maxRecDepth 20000 in
set_option maxHeartbeats 4000000 in
theorem T_X11_readFresh_12 {X : CX} {Q : Int64 → HS → Prop} (C : Cx X cX11_readFresh RX11 3 rm_X11_readFresh) (E : ReJ X rm_X11_readFresh Q) (ht : (xh X).sig.returnType = (some .long)) (hn : (xh X).name = yX11_readFresh.name) {v0 : Nat} {S : HS} (h : P_X11_readFresh_12 Q v0 S) : WS X 3 0 0 12 [(0, .ref v0)] [] S := by
  refine r_aload_n (pc := 12) C dX11_readFresh_12 0 rfl ?_
  obtain ⟨o_v0, h⟩ := h
  obtain ⟨a1, ea1, h⟩ := h
  refine r_getr (pc := 13) C fL_X11_147 dX11_readFresh_13 o_v0 ea1 ?_
  refine r_aload_n (pc := 16) C dX11_readFresh_16 0 rfl ?_
  refine r_getl (pc := 17) C fL_X11_87 dX11_readFresh_17 o_v0 ?_
  refine r_topl (fun x2 ex2 => ?_)
  have h := h x2 ex2
  obtain ⟨o_a1, h⟩ := h
  refine r_callVi0 (pc := 20) C (rest := []) (a := a1) o_a1 [.long x2] yV_X10_find g_1477 (c_X10_find h) dX11_readFresh_20 rfl rfl (Nat.le_of_ble_eq_true rfl) ⟨by decide, by decide⟩ ⟨by decide, by decide⟩ ⟨rfl, rfl⟩ (fun x5 S3 h g4 => ?_)
  have h := h g4
  have o_a1 := gr_ob g4 o_a1
  have o_v0 := gr_ob g4 o_v0
  refine r_iconst (pc := 23) C (v := (-1 : Int32)) dX11_readFresh_23 (by decide) ?_
  refine r_icmp_eq (pc := 24) C (tgt := 32) dX11_readFresh_24 (by decide) (fun c6 => ?_) (fun c6 => ?_)
  · have h := h.1 c6
    exact r_sub [0] rfl (T_X11_readFresh_32 C E ht hn h)
  · have h := h.2 c6
    refine r_aload_n (pc := 27) C dX11_readFresh_27 0 rfl ?_
    refine r_iconst (pc := 28) C (v := (3 : Int32)) dX11_readFresh_28 (by decide) ?_
    refine r_callVv0 (pc := 29) C (rest := []) (a := v0) o_v0 [.int (3 : Int32)] yV_X11_flaw g_1417 (c_X11_flaw h) dX11_readFresh_29 rfl rfl (Nat.le_of_ble_eq_true rfl) ⟨by decide, by decide⟩ ⟨by decide, by decide⟩ ⟨rfl, rfl⟩ (fun S7 h g8 => ?_)
    have h := h g8
    have o_a1 := gr_ob g8 o_a1
    have o_v0 := gr_ob g8 o_v0
    exact r_sub [0] rfl (T_X11_readFresh_32 C E ht hn h)
def P_X11_readFresh_0 (Q : Int64 → HS → Prop) (v0 : Nat) (S : HS) : Prop := ob S v0 11 ∧ (P_X11_isName v0 (fun x3 S1 => Gr S S1 → bl x3 → (((¬ x3 = 0) → (P_X11_readFresh_12 Q v0 S1)) ∧ ((x3 = 0) → (P_X11_flaw v0 (1 : Int32) (fun S5 => Gr S1 S5 → (P_X11_readFresh_12 Q v0 S5)) S1)))) S)
set_option maxRecDepth 20000 in
set_option maxHeartbeats 4000000 in
theorem T_X11_readFresh_0 {X : CX} {Q : Int64 → HS → Prop} (C : Cx X cX11_readFresh RX11 3 rm_X11_readFresh) (E : ReJ X rm_X11_readFresh Q) (ht : (xh X).sig.returnType = (some .long)) (hn : (xh X).name = yX11_readFresh.name) {v0 : Nat} {S : HS} (h : P_X11_readFresh_0 Q v0 S) : WS X 3 0 0 0 [(0, .ref v0)] [] S := by
  refine r_aload_n (pc := 0) C dX11_readFresh_0 0 rfl ?_
  obtain ⟨o_v0, h⟩ := h
  refine r_callVi0 (pc := 1) C (rest := []) (a := v0) o_v0 [] yV_X11_isName g_1467 (c_X11_isName h) dX11_readFresh_1 rfl rfl (Nat.le_of_ble_eq_true rfl) ⟨by decide, by decide⟩ ⟨by decide, by decide⟩ ⟨rfl, rfl⟩ (fun x3 S1 h g2 => ?_)
  have bx3 := h.1
  have h := h.2 g2 bx3
  have o_v0 := gr_ob g2 o_v0
  refine r_if_ne (pc := 4) C (tgt := 12) dX11_readFresh_4 (by decide) (fun c4 => ?_) (fun c4 => ?_)
  · have h := h.1 c4
    exact r_sub [0] rfl (T_X11_readFresh_12 C E ht hn h)
  · have h := h.2 c4
    refine r_aload_n (pc := 7) C dX11_readFresh_7 0 rfl ?_
    refine r_iconst (pc := 8) C (v := (1 : Int32)) dX11_readFresh_8 (by decide) ?_
    refine r_callVv0 (pc := 9) C (rest := []) (a := v0) o_v0 [.int (1 : Int32)] yV_X11_flaw g_1417 (c_X11_flaw h) dX11_readFresh_9 rfl rfl (Nat.le_of_ble_eq_true rfl) ⟨by decide, by decide⟩ ⟨by decide, by decide⟩ ⟨rfl, rfl⟩ (fun S5 h g6 => ?_)
    have h := h g6
    have o_v0 := gr_ob g6 o_v0
    exact r_sub [0] rfl (T_X11_readFresh_12 C E ht hn h)
def P_X11_readFresh (v0 : Nat) (Q : Int64 → HS → Prop) (S : HS) : Prop := P_X11_readFresh_0 Q v0 S
theorem c_X11_readFresh {l : Launch} {Ee : EE} {S : HS} {v0 : Nat} {Q : Int64 → HS → Prop} (h : P_X11_readFresh v0 Q S) : MJ l yX11_readFresh cX11_readFresh 3 (some .long) rm_X11_readFresh Ee S [.ref v0] Q :=
  openJ (by decide) (Nat.le_of_ble_eq_true rfl) (fun X C E ht hn hE hl => by subst hE; exact r_sub [0] rfl (T_X11_readFresh_0 C E ht hn h))
def rm_X11_readWhole : Room := { frames := 2, cells := 0, slots := 0, locals := 43 }
def P_X11_readWhole_49 (Q : Int32 → HS → Prop) (v0 : Nat) (s0 : Int32) (S : HS) : Prop := ob S v0 11 ∧ (P_X11_goesOn v0 (fun S1 => Gr S S1 → (Q s0 S1)) S)
set_option maxRecDepth 20000 in
set_option maxHeartbeats 4000000 in
theorem T_X11_readWhole_49 {X : CX} {Q : Int32 → HS → Prop} (C : Cx X cX11_readWhole RX11 4 rm_X11_readWhole) (E : ReI X rm_X11_readWhole Q) (ht : (xh X).sig.returnType = (some .int)) (hn : (xh X).name = yX11_readWhole.name) {v0 : Nat} {s0 : Int32} {S : HS} (h : P_X11_readWhole_49 Q v0 s0 S) : WS X 4 0 0 49 [(0, .ref v0)] [.int s0] S := by
  refine r_istore_n (pc := 49) C dX11_readWhole_49 rfl (by decide) (lv' := [(3, .int s0), (0, .ref v0)]) rfl ?_
  refine r_aload_n (pc := 50) C dX11_readWhole_50 1 rfl ?_
  obtain ⟨o_v0, h⟩ := h
  refine r_callVv0 (pc := 51) C (rest := []) (a := v0) o_v0 [] yV_X11_goesOn g_1380 (c_X11_goesOn h) dX11_readWhole_51 rfl rfl (Nat.le_of_ble_eq_true rfl) ⟨by decide, by decide⟩ ⟨by decide, by decide⟩ ⟨rfl, rfl⟩ (fun S1 h g2 => ?_)
  have h := h g2
  have o_v0 := gr_ob g2 o_v0
  refine r_iload_n (pc := 54) C dX11_readWhole_54 0 rfl ?_
  exact r_iret (pc := 55) C E ht dX11_readWhole_55 (by decide) (by decide) h
def P_X11_readWhole_33 (Q : Int32 → HS → Prop) (v0 : Nat) (v1 : Int32) (S : HS) : Prop := ob S v0 11 ∧ (∀ x1 : Int32, x1 = fI S v0 9 → (((¬ x1 = (5 : Int32)) → (∀ x3 : Int32, x3 = fI S v0 12 → (P_X11_readWhole_49 Q v0 x3 S))) ∧ ((x1 = (5 : Int32)) → (P_X11_readWhole_49 Q v0 v1 S))))
set_option maxRecDepth 20000 in
set_option maxHeartbeats 4000000 in
theorem T_X11_readWhole_33 {X : CX} {Q : Int32 → HS → Prop} (C : Cx X cX11_readWhole RX11 4 rm_X11_readWhole) (E : ReI X rm_X11_readWhole Q) (ht : (xh X).sig.returnType = (some .int)) (hn : (xh X).name = yX11_readWhole.name) {v0 : Nat} {v1 : Int32} {S : HS} (h : P_X11_readWhole_33 Q v0 v1 S) : WS X 4 0 0 33 [(0, .ref v0), (1, .int v1)] [] S := by
  refine r_aload_n (pc := 33) C dX11_readWhole_33 0 rfl ?_
  obtain ⟨o_v0, h⟩ := h
  refine r_geti (pc := 34) C fL_X11_68 dX11_readWhole_34 o_v0 ?_
  refine r_topi (fun x1 ex1 => ?_)
  have h := h x1 ex1
  refine r_iconst (pc := 37) C (v := (5 : Int32)) dX11_readWhole_37 (by decide) ?_
  refine r_icmp_ne (pc := 38) C (tgt := 45) dX11_readWhole_38 (by decide) (fun c2 => ?_) (fun c2 => ?_)
  · have h := h.1 c2
    refine r_aload_n (pc := 45) C dX11_readWhole_45 0 rfl ?_
    refine r_geti (pc := 46) C fL_X11_94 dX11_readWhole_46 o_v0 ?_
    refine r_topi (fun x3 ex3 => ?_)
    have h := h x3 ex3
    exact r_sub [0] rfl (T_X11_readWhole_49 C E ht hn h)
  · have h := h.2 c2
    refine r_iload_n (pc := 41) C dX11_readWhole_41 1 rfl ?_
    refine r_goto (pc := 42) C (tgt := 49) dX11_readWhole_42 (by decide) ?_
    exact r_sub [0] rfl (T_X11_readWhole_49 C E ht hn h)
def P_X11_readWhole_0 (Q : Int32 → HS → Prop) (v0 : Nat) (v1 : Int32) (v2 : Int32) (S : HS) : Prop := ob S v0 11 ∧ (∀ x1 : Int32, x1 = fI S v0 9 → (((x1 = (3 : Int32)) → (∀ x3 : Int32, x3 = fI S v0 12 → (P_X11_in x3 v1 v2 (fun x6 S4 => Gr S S4 → bl x6 → (((¬ x6 = 0) → (P_X11_readWhole_33 Q v0 v1 S4)) ∧ ((x6 = 0) → (P_X11_flaw v0 (4 : Int32) (fun S8 => Gr S4 S8 → (P_X11_readWhole_33 Q v0 v1 S8)) S4)))) S))) ∧ ((¬ x1 = (3 : Int32)) → (P_X11_flaw v0 (1 : Int32) (fun S11 => Gr S S11 → (P_X11_readWhole_33 Q v0 v1 S11)) S))))
set_option maxRecDepth 20000 in
set_option maxHeartbeats 4000000 in
theorem T_X11_readWhole_0 {X : CX} {Q : Int32 → HS → Prop} (C : Cx X cX11_readWhole RX11 4 rm_X11_readWhole) (E : ReI X rm_X11_readWhole Q) (ht : (xh X).sig.returnType = (some .int)) (hn : (xh X).name = yX11_readWhole.name) {v0 : Nat} {v1 : Int32} {v2 : Int32} {S : HS} (h : P_X11_readWhole_0 Q v0 v1 v2 S) : WS X 4 0 0 0 [(0, .ref v0), (1, .int v1), (2, .int v2)] [] S := by
  refine r_aload_n (pc := 0) C dX11_readWhole_0 0 rfl ?_
  obtain ⟨o_v0, h⟩ := h
  refine r_geti (pc := 1) C fL_X11_68 dX11_readWhole_1 o_v0 ?_
  refine r_topi (fun x1 ex1 => ?_)
  have h := h x1 ex1
  refine r_iconst (pc := 4) C (v := (3 : Int32)) dX11_readWhole_4 (by decide) ?_
  refine r_icmp_eq (pc := 5) C (tgt := 16) dX11_readWhole_5 (by decide) (fun c2 => ?_) (fun c2 => ?_)
  · have h := h.1 c2
    refine r_aload_n (pc := 16) C dX11_readWhole_16 0 rfl ?_
    refine r_geti (pc := 17) C fL_X11_94 dX11_readWhole_17 o_v0 ?_
    refine r_topi (fun x3 ex3 => ?_)
    have h := h x3 ex3
    refine r_iload_n (pc := 20) C dX11_readWhole_20 1 rfl ?_
    refine r_iload_n (pc := 21) C dX11_readWhole_21 2 rfl ?_
    refine r_callSi0 (pc := 22) C (rest := []) rfl [.int x3, .int v1, .int v2] yS_X11_in g_1434 (c_X11_in h) dX11_readWhole_22 rfl rfl (Nat.le_of_ble_eq_true rfl) ⟨by decide, by decide⟩ ⟨by decide, by decide⟩ ⟨rfl, rfl⟩ (fun x6 S4 h g5 => ?_)
    have bx6 := h.1
    have h := h.2 g5 bx6
    have o_v0 := gr_ob g5 o_v0
    refine r_if_ne (pc := 25) C (tgt := 33) dX11_readWhole_25 (by decide) (fun c7 => ?_) (fun c7 => ?_)
    · have h := h.1 c7
      exact r_sub [0, 1] rfl (T_X11_readWhole_33 C E ht hn h)
    · have h := h.2 c7
      refine r_aload_n (pc := 28) C dX11_readWhole_28 0 rfl ?_
      refine r_iconst (pc := 29) C (v := (4 : Int32)) dX11_readWhole_29 (by decide) ?_
      refine r_callVv0 (pc := 30) C (rest := []) (a := v0) o_v0 [.int (4 : Int32)] yV_X11_flaw g_1417 (c_X11_flaw h) dX11_readWhole_30 rfl rfl (Nat.le_of_ble_eq_true rfl) ⟨by decide, by decide⟩ ⟨by decide, by decide⟩ ⟨rfl, rfl⟩ (fun S8 h g9 => ?_)
      have h := h g9
      have o_v0 := gr_ob g9 o_v0
      exact r_sub [0, 1] rfl (T_X11_readWhole_33 C E ht hn h)
  · have h := h.2 c2
    refine r_aload_n (pc := 8) C dX11_readWhole_8 0 rfl ?_
    refine r_iconst (pc := 9) C (v := (1 : Int32)) dX11_readWhole_9 (by decide) ?_
    refine r_callVv0 (pc := 10) C (rest := []) (a := v0) o_v0 [.int (1 : Int32)] yV_X11_flaw g_1417 (c_X11_flaw h) dX11_readWhole_10 rfl rfl (Nat.le_of_ble_eq_true rfl) ⟨by decide, by decide⟩ ⟨by decide, by decide⟩ ⟨rfl, rfl⟩ (fun S11 h g12 => ?_)
    have h := h g12
    have o_v0 := gr_ob g12 o_v0
    refine r_goto (pc := 13) C (tgt := 33) dX11_readWhole_13 (by decide) ?_
    exact r_sub [0, 1] rfl (T_X11_readWhole_33 C E ht hn h)
def P_X11_readWhole (v0 : Nat) (v1 : Int32) (v2 : Int32) (Q : Int32 → HS → Prop) (S : HS) : Prop := P_X11_readWhole_0 Q v0 v1 v2 S
theorem c_X11_readWhole {l : Launch} {Ee : EE} {S : HS} {v0 : Nat} {v1 : Int32} {v2 : Int32} {Q : Int32 → HS → Prop} (h : P_X11_readWhole v0 v1 v2 Q S) : MI l yX11_readWhole cX11_readWhole 4 (some .int) rm_X11_readWhole Ee S [.ref v0, .int v1, .int v2] Q :=
  openI (by decide) (Nat.le_of_ble_eq_true rfl) (fun X C E ht hn hE hl => by subst hE; exact r_sub [0, 1, 2] rfl (T_X11_readWhole_0 C E ht hn h))
def rm_X11_readPlace : Room := { frames := 9, cells := 0, slots := 0, locals := 206 }
def P_X11_readPlace_50 (Q : HS → Prop) (v0 : Nat) (v1 : Int64) (v3 : Int32) (s0 : Int32) (S : HS) : Prop := ob S v0 11 ∧ (∀ x1 : Int32, x1 = fI S v0 9 → (((¬ x1 = (5 : Int32)) → (∃ a3 : Nat, fR S v0 4 = some a3 ∧ (ob S a3 10 ∧ (∀ x4 : Int32, x4 = fI S a3 2 → (P_X11_names v0 v1 (0 : Int32) x4 (fun S5 => Gr S S5 → (∃ a8 : Nat, fR S5 v0 4 = some a8 ∧ (ob S5 a8 10 ∧ (∃ a9 : Nat, fR S5 a8 18 = some a9 ∧ (∃ a10 : Nat, fR S5 v0 4 = some a10 ∧ (ob S5 a10 10 ∧ (∀ x11 : Int32, x11 = fI S5 a10 2 → (ob S5 a9 15 ∧ (vp_in x11 (hN S5 a9) ∧ (∀ S13 : HS, S13 = sI S5 a9 x11.toNatClampNeg (vp_nar .boolean v3) → (∃ a14 : Nat, fR S13 v0 4 = some a14 ∧ (ob S13 a14 10 ∧ (∃ a15 : Nat, fR S13 a14 12 = some a15 ∧ (∃ a16 : Nat, fR S13 v0 4 = some a16 ∧ (ob S13 a16 10 ∧ (∀ x17 : Int32, x17 = fI S13 a16 2 → (ob S13 a15 13 ∧ (vp_in x17 (hN S13 a15) ∧ (∀ S19 : HS, S19 = sI S13 a15 x17.toNatClampNeg s0 → (∃ a20 : Nat, fR S19 v0 4 = some a20 ∧ (ob S19 a20 10 ∧ (∀ x21 : Int32, x21 = fI S19 a20 2 → (∀ x22 : Int32, x22 = x21 + (1 : Int32) → (∀ S23 : HS, S23 = sI S19 a20 2 x22 → (Q S23))))))))))))))))))))))))) S))))) ∧ ((x1 = (5 : Int32)) → (Q S))))
set_option maxRecDepth 20000 in
set_option maxHeartbeats 4000000 in
theorem T_X11_readPlace_50 {X : CX} {Q : HS → Prop} (C : Cx X cX11_readPlace RX11 5 rm_X11_readPlace) (E : ReV X rm_X11_readPlace Q) (ht : (xh X).sig.returnType = none) (hn : (xh X).name = yX11_readPlace.name) {v0 : Nat} {v1 : Int64} {v3 : Int32} {s0 : Int32} {S : HS} (h : P_X11_readPlace_50 Q v0 v1 v3 s0 S) : WS X 5 0 0 50 [(0, .ref v0), (1, .long v1), (3, .int v3)] [.int s0] S := by
  refine r_istore (pc := 50) C dX11_readPlace_50 (by decide) (lv' := [(4, .int s0), (0, .ref v0), (1, .long v1), (3, .int v3)]) rfl ?_
  refine r_aload_n (pc := 52) C dX11_readPlace_52 1 rfl ?_
  obtain ⟨o_v0, h⟩ := h
  refine r_geti (pc := 53) C fL_X11_68 dX11_readPlace_53 o_v0 ?_
  refine r_topi (fun x1 ex1 => ?_)
  have h := h x1 ex1
  refine r_iconst (pc := 56) C (v := (5 : Int32)) dX11_readPlace_56 (by decide) ?_
  refine r_icmp_ne (pc := 57) C (tgt := 61) dX11_readPlace_57 (by decide) (fun c2 => ?_) (fun c2 => ?_)
  · have h := h.1 c2
    refine r_aload_n (pc := 61) C dX11_readPlace_61 1 rfl ?_
    refine r_lload_n (pc := 62) C dX11_readPlace_62 2 rfl ?_
    refine r_iconst (pc := 63) C (v := (0 : Int32)) dX11_readPlace_63 (by decide) ?_
    refine r_aload_n (pc := 64) C dX11_readPlace_64 1 rfl ?_
    obtain ⟨a3, ea3, h⟩ := h
    refine r_getr (pc := 65) C fL_X11_147 dX11_readPlace_65 o_v0 ea3 ?_
    obtain ⟨o_a3, h⟩ := h
    refine r_getNi (pc := 68) C fN_X11_190 dX11_readPlace_68 o_a3 ?_
    refine r_topi (fun x4 ex4 => ?_)
    have h := h x4 ex4
    refine r_callVv0 (pc := 71) C (rest := []) (a := v0) o_v0 [.long v1, .int (0 : Int32), .int x4] yV_X11_names g_1485 (c_X11_names h) dX11_readPlace_71 rfl rfl (Nat.le_of_ble_eq_true rfl) ⟨by decide, by decide⟩ ⟨by decide, by decide⟩ ⟨rfl, rfl⟩ (fun S5 h g6 => ?_)
    have h := h g6
    have o_a3 := gr_ob g6 o_a3
    have o_v0 := gr_ob g6 o_v0
    refine r_aload_n (pc := 74) C dX11_readPlace_74 1 rfl ?_
    obtain ⟨a8, ea8, h⟩ := h
    refine r_getr (pc := 75) C fL_X11_147 dX11_readPlace_75 o_v0 ea8 ?_
    obtain ⟨o_a8, h⟩ := h
    obtain ⟨a9, ea9, h⟩ := h
    refine r_getNr (pc := 78) C fN_X11_258 dX11_readPlace_78 o_a8 ea9 ?_
    refine r_aload_n (pc := 81) C dX11_readPlace_81 1 rfl ?_
    obtain ⟨a10, ea10, h⟩ := h
    refine r_getr (pc := 82) C fL_X11_147 dX11_readPlace_82 o_v0 ea10 ?_
    obtain ⟨o_a10, h⟩ := h
    refine r_getNi (pc := 85) C fN_X11_190 dX11_readPlace_85 o_a10 ?_
    refine r_topi (fun x11 ex11 => ?_)
    have h := h x11 ex11
    refine r_iload_n (pc := 88) C dX11_readPlace_88 3 rfl ?_
    obtain ⟨o_a9, h⟩ := h
    obtain ⟨i12, h⟩ := h
    refine r_zast (pc := 89) C dX11_readPlace_89 o_a9 i12 ?_
    refine r_heap (fun S13 eS13 => ?_)
    have h := h S13 eS13
    have o_a10 := ob_I eS13 o_a10
    have o_a3 := ob_I eS13 o_a3
    have o_a8 := ob_I eS13 o_a8
    have o_a9 := ob_I eS13 o_a9
    have o_v0 := ob_I eS13 o_v0
    refine r_aload_n (pc := 90) C dX11_readPlace_90 1 rfl ?_
    obtain ⟨a14, ea14, h⟩ := h
    refine r_getr (pc := 91) C fL_X11_147 dX11_readPlace_91 o_v0 ea14 ?_
    obtain ⟨o_a14, h⟩ := h
    obtain ⟨a15, ea15, h⟩ := h
    refine r_getNr (pc := 94) C fN_X11_262 dX11_readPlace_94 o_a14 ea15 ?_
    refine r_aload_n (pc := 97) C dX11_readPlace_97 1 rfl ?_
    obtain ⟨a16, ea16, h⟩ := h
    refine r_getr (pc := 98) C fL_X11_147 dX11_readPlace_98 o_v0 ea16 ?_
    obtain ⟨o_a16, h⟩ := h
    refine r_getNi (pc := 101) C fN_X11_190 dX11_readPlace_101 o_a16 ?_
    refine r_topi (fun x17 ex17 => ?_)
    have h := h x17 ex17
    refine r_iload (pc := 104) C dX11_readPlace_104 0 rfl ?_
    obtain ⟨o_a15, h⟩ := h
    obtain ⟨i18, h⟩ := h
    refine r_iast (pc := 106) C dX11_readPlace_106 o_a15 i18 ?_
    refine r_heap (fun S19 eS19 => ?_)
    have h := h S19 eS19
    have o_a10 := ob_I eS19 o_a10
    have o_a14 := ob_I eS19 o_a14
    have o_a15 := ob_I eS19 o_a15
    have o_a16 := ob_I eS19 o_a16
    have o_a3 := ob_I eS19 o_a3
    have o_a8 := ob_I eS19 o_a8
    have o_a9 := ob_I eS19 o_a9
    have o_v0 := ob_I eS19 o_v0
    refine r_aload_n (pc := 107) C dX11_readPlace_107 1 rfl ?_
    obtain ⟨a20, ea20, h⟩ := h
    refine r_getr (pc := 108) C fL_X11_147 dX11_readPlace_108 o_v0 ea20 ?_
    refine r_dup (pc := 111) C dX11_readPlace_111 rfl ?_
    obtain ⟨o_a20, h⟩ := h
    refine r_getNi (pc := 112) C fN_X11_190 dX11_readPlace_112 o_a20 ?_
    refine r_topi (fun x21 ex21 => ?_)
    have h := h x21 ex21
    refine r_iconst (pc := 115) C (v := (1 : Int32)) dX11_readPlace_115 (by decide) ?_
    refine r_iadd (pc := 116) C dX11_readPlace_116 ?_
    refine r_topi (fun x22 ex22 => ?_)
    have h := h x22 ex22
    refine r_putNi (pc := 117) C pfN_X11_190 dX11_readPlace_117 o_a20 ?_
    refine r_heap (fun S23 eS23 => ?_)
    have h := h S23 eS23
    have o_a10 := ob_I eS23 o_a10
    have o_a14 := ob_I eS23 o_a14
    have o_a15 := ob_I eS23 o_a15
    have o_a16 := ob_I eS23 o_a16
    have o_a20 := ob_I eS23 o_a20
    have o_a3 := ob_I eS23 o_a3
    have o_a8 := ob_I eS23 o_a8
    have o_a9 := ob_I eS23 o_a9
    have o_v0 := ob_I eS23 o_v0
    exact r_vret (pc := 120) C E ht dX11_readPlace_120 (by decide) (by decide) h
  · have h := h.2 c2
    exact r_vret (pc := 60) C E ht dX11_readPlace_60 (by decide) (by decide) h
def P_X11_readPlace_48 (Q : HS → Prop) (v0 : Nat) (v1 : Int64) (v3 : Int32) (S : HS) : Prop := P_X11_readPlace_50 Q v0 v1 v3 (-2 : Int32) S
set_option maxRecDepth 20000 in
set_option maxHeartbeats 4000000 in
theorem T_X11_readPlace_48 {X : CX} {Q : HS → Prop} (C : Cx X cX11_readPlace RX11 5 rm_X11_readPlace) (E : ReV X rm_X11_readPlace Q) (ht : (xh X).sig.returnType = none) (hn : (xh X).name = yX11_readPlace.name) {v0 : Nat} {v1 : Int64} {v3 : Int32} {S : HS} (h : P_X11_readPlace_48 Q v0 v1 v3 S) : WS X 5 0 0 48 [(0, .ref v0), (1, .long v1), (3, .int v3)] [] S := by
  refine r_bipush (pc := 48) C (v := (-2 : Int32)) dX11_readPlace_48 (by decide) ?_
  exact r_sub [0, 1, 2] rfl (T_X11_readPlace_50 C E ht hn h)
def P_X11_readPlace_0 (Q : HS → Prop) (v0 : Nat) (S : HS) : Prop := ob S v0 11 ∧ (∃ a1 : Nat, fR S v0 4 = some a1 ∧ (ob S a1 10 ∧ (∀ x2 : Int32, x2 = fI S a1 2 → (P_X11_begins v0 x2 (8 : Int32) (fun S3 => Gr S S3 → (P_X11_readFresh v0 (fun x8 S6 => Gr S3 S6 → (P_X11_eatsWord v0 42 (fun x11 S9 => Gr S6 S9 → bl x11 → (((¬ x11 = 0) → (P_X11_readPlace_48 Q v0 x8 x11 S9)) ∧ ((x11 = 0) → (P_X11_eatsWord v0 43 (fun x15 S13 => Gr S9 S13 → bl x15 → (((x15 = 0) → (P_X11_readPlace_48 Q v0 x8 x11 S13)) ∧ ((¬ x15 = 0) → (P_X11_readWhole v0 (0 : Int32) (9 : Int32) (fun x19 S17 => Gr S13 S17 → (P_X11_readPlace_50 Q v0 x8 x11 x19 S17)) S13)))) S9)))) S6)) S3)) S))))
set_option maxRecDepth 20000 in
set_option maxHeartbeats 4000000 in
theorem T_X11_readPlace_0 {X : CX} {Q : HS → Prop} (C : Cx X cX11_readPlace RX11 5 rm_X11_readPlace) (E : ReV X rm_X11_readPlace Q) (ht : (xh X).sig.returnType = none) (hn : (xh X).name = yX11_readPlace.name) {v0 : Nat} {S : HS} (h : P_X11_readPlace_0 Q v0 S) : WS X 5 0 0 0 [(0, .ref v0)] [] S := by
  refine r_aload_n (pc := 0) C dX11_readPlace_0 0 rfl ?_
  refine r_aload_n (pc := 1) C dX11_readPlace_1 0 rfl ?_
  obtain ⟨o_v0, h⟩ := h
  obtain ⟨a1, ea1, h⟩ := h
  refine r_getr (pc := 2) C fL_X11_147 dX11_readPlace_2 o_v0 ea1 ?_
  obtain ⟨o_a1, h⟩ := h
  refine r_getNi (pc := 5) C fN_X11_190 dX11_readPlace_5 o_a1 ?_
  refine r_topi (fun x2 ex2 => ?_)
  have h := h x2 ex2
  refine r_bipush (pc := 8) C (v := (8 : Int32)) dX11_readPlace_8 (by decide) ?_
  refine r_callVv0 (pc := 10) C (rest := []) (a := v0) o_v0 [.int x2, .int (8 : Int32)] yV_X11_begins g_1442 (c_X11_begins h) dX11_readPlace_10 rfl rfl (Nat.le_of_ble_eq_true rfl) ⟨by decide, by decide⟩ ⟨by decide, by decide⟩ ⟨rfl, rfl⟩ (fun S3 h g4 => ?_)
  have h := h g4
  have o_a1 := gr_ob g4 o_a1
  have o_v0 := gr_ob g4 o_v0
  refine r_aload_n (pc := 13) C dX11_readPlace_13 0 rfl ?_
  refine r_callVl0 (pc := 14) C (rest := []) (a := v0) o_v0 [] yV_X11_readFresh g_1463 (c_X11_readFresh h) dX11_readPlace_14 rfl rfl (Nat.le_of_ble_eq_true rfl) ⟨by decide, by decide⟩ ⟨by decide, by decide⟩ ⟨rfl, rfl⟩ (fun x8 S6 h g7 => ?_)
  have h := h g7
  have o_a1 := gr_ob g7 o_a1
  have o_v0 := gr_ob g7 o_v0
  refine r_lstore_n (pc := 17) C dX11_readPlace_17 rfl (by decide) (lv' := [(1, .long x8), (0, .ref v0)]) rfl ?_
  refine r_aload_n (pc := 18) C dX11_readPlace_18 1 rfl ?_
  refine r_lds (pc := 19) C 42 rfl dX11_readPlace_19 ?_
  refine r_callVi0 (pc := 21) C (rest := []) (a := v0) o_v0 [.ref (eK (xE X) 42)] yV_X11_eatsWord g_1481 (c_X11_eatsWord h) dX11_readPlace_21 rfl rfl (Nat.le_of_ble_eq_true rfl) ⟨by decide, by decide⟩ ⟨by decide, by decide⟩ ⟨rfl, rfl⟩ (fun x11 S9 h g10 => ?_)
  have bx11 := h.1
  have h := h.2 g10 bx11
  have o_a1 := gr_ob g10 o_a1
  have o_v0 := gr_ob g10 o_v0
  refine r_istore_n (pc := 24) C dX11_readPlace_24 rfl (by decide) (lv' := [(3, .int x11), (1, .long x8), (0, .ref v0)]) rfl ?_
  refine r_iload_n (pc := 25) C dX11_readPlace_25 0 rfl ?_
  refine r_if_ne (pc := 26) C (tgt := 48) dX11_readPlace_26 (by decide) (fun c12 => ?_) (fun c12 => ?_)
  · have h := h.1 c12
    exact r_sub [2, 1, 0] rfl (T_X11_readPlace_48 C E ht hn h)
  · have h := h.2 c12
    refine r_aload_n (pc := 29) C dX11_readPlace_29 2 rfl ?_
    refine r_lds (pc := 30) C 43 rfl dX11_readPlace_30 ?_
    refine r_callVi0 (pc := 32) C (rest := []) (a := v0) o_v0 [.ref (eK (xE X) 43)] yV_X11_eatsWord g_1481 (c_X11_eatsWord h) dX11_readPlace_32 rfl rfl (Nat.le_of_ble_eq_true rfl) ⟨by decide, by decide⟩ ⟨by decide, by decide⟩ ⟨rfl, rfl⟩ (fun x15 S13 h g14 => ?_)
    have bx15 := h.1
    have h := h.2 g14 bx15
    have o_a1 := gr_ob g14 o_a1
    have o_v0 := gr_ob g14 o_v0
    refine r_if_eq (pc := 35) C (tgt := 48) dX11_readPlace_35 (by decide) (fun c16 => ?_) (fun c16 => ?_)
    · have h := h.1 c16
      exact r_sub [2, 1, 0] rfl (T_X11_readPlace_48 C E ht hn h)
    · have h := h.2 c16
      refine r_aload_n (pc := 38) C dX11_readPlace_38 2 rfl ?_
      refine r_iconst (pc := 39) C (v := (0 : Int32)) dX11_readPlace_39 (by decide) ?_
      refine r_bipush (pc := 40) C (v := (9 : Int32)) dX11_readPlace_40 (by decide) ?_
      refine r_callVi0 (pc := 42) C (rest := []) (a := v0) o_v0 [.int (0 : Int32), .int (9 : Int32)] yV_X11_readWhole g_1430 (c_X11_readWhole h) dX11_readPlace_42 rfl rfl (Nat.le_of_ble_eq_true rfl) ⟨by decide, by decide⟩ ⟨by decide, by decide⟩ ⟨rfl, rfl⟩ (fun x19 S17 h g18 => ?_)
      have h := h g18
      have o_a1 := gr_ob g18 o_a1
      have o_v0 := gr_ob g18 o_v0
      refine r_goto (pc := 45) C (tgt := 50) dX11_readPlace_45 (by decide) ?_
      exact r_sub [2, 1, 0] rfl (T_X11_readPlace_50 C E ht hn h)
def P_X11_readPlace (v0 : Nat) (Q : HS → Prop) (S : HS) : Prop := P_X11_readPlace_0 Q v0 S
theorem c_X11_readPlace {l : Launch} {Ee : EE} {S : HS} {v0 : Nat} {Q : HS → Prop} (h : P_X11_readPlace v0 Q S) : MV l yX11_readPlace cX11_readPlace 5 none rm_X11_readPlace Ee S [.ref v0] Q :=
  openV (by decide) (Nat.le_of_ble_eq_true rfl) (fun X C E ht hn hE hl => by subst hE; exact r_sub [0] rfl (T_X11_readPlace_0 C E ht hn h))
end
