def rm_X11_refuses : Room := { frames := 2, cells := 0, slots := 0, locals := 44 }
def P_X11_refuses_0 (Q : Int32 → HS → Prop) (v0 : Nat) (v1 : Int32) (v2 : Int32) (v3 : Int32) (v4 : Int32) (v5 : Int32) (S : HS) : Prop := ob S v0 11 ∧ (P_X11_isWalker v0 v1 (fun x3 S1 => Gr S S1 → bl x3 → (((x3 = 0) → (Q (1 : Int32) S1)) ∧ ((¬ x3 = 0) → (P_X11_isRoad v0 v2 (fun x7 S5 => Gr S1 S5 → bl x7 → (((x7 = 0) → (Q (1 : Int32) S5)) ∧ ((¬ x7 = 0) → (P_X11_in v3 (0 : Int32) (1 : Int32) (fun x11 S9 => Gr S5 S9 → bl x11 → (((x11 = 0) → (Q (1 : Int32) S9)) ∧ ((¬ x11 = 0) → (P_X11_isHour v0 v4 (fun x15 S13 => Gr S9 S13 → bl x15 → (((¬ x15 = 0) → (P_X11_isSpeed v0 v1 v5 (fun x19 S17 => Gr S13 S17 → bl x19 → (((x19 = 0) → (Q (2 : Int32) S17)) ∧ ((¬ x19 = 0) → (Q (0 : Int32) S17)))) S13)) ∧ ((x15 = 0) → (Q (1 : Int32) S13)))) S9)))) S5)))) S1)))) S)
set_option maxRecDepth 20000 in
set_option maxHeartbeats 4000000 in
theorem T_X11_refuses_0 {X : CX} {Q : Int32 → HS → Prop} (C : Cx X cX11_refuses RX11 6 rm_X11_refuses) (E : ReI X rm_X11_refuses Q) (ht : (xh X).sig.returnType = (some .int)) (hn : (xh X).name = yX11_refuses.name) {v0 : Nat} {v1 : Int32} {v2 : Int32} {v3 : Int32} {v4 : Int32} {v5 : Int32} {S : HS} (h : P_X11_refuses_0 Q v0 v1 v2 v3 v4 v5 S) : WS X 6 0 0 0 [(0, .ref v0), (1, .int v1), (2, .int v2), (3, .int v3), (4, .int v4), (5, .int v5)] [] S := by
  refine r_aload_n (pc := 0) C dX11_refuses_0 0 rfl ?_
  refine r_iload_n (pc := 1) C dX11_refuses_1 1 rfl ?_
  obtain ⟨o_v0, h⟩ := h
  refine r_callVi0 (pc := 2) C (rest := []) (a := v0) o_v0 [.int v1] yV_X11_isWalker g_1538 (c_X11_isWalker h) dX11_refuses_2 rfl rfl (Nat.le_of_ble_eq_true rfl) ⟨by decide, by decide⟩ ⟨by decide, by decide⟩ ⟨rfl, rfl⟩ (fun x3 S1 h g2 => ?_)
  have bx3 := h.1
  have h := h.2 g2 bx3
  have o_v0 := gr_ob g2 o_v0
  refine r_if_eq (pc := 5) C (tgt := 34) dX11_refuses_5 (by decide) (fun c4 => ?_) (fun c4 => ?_)
  · have h := h.1 c4
    refine r_iconst (pc := 34) C (v := (1 : Int32)) dX11_refuses_34 (by decide) ?_
    exact r_iret (pc := 35) C E ht dX11_refuses_35 (by decide) (by decide) h
  · have h := h.2 c4
    refine r_aload_n (pc := 8) C dX11_refuses_8 0 rfl ?_
    refine r_iload_n (pc := 9) C dX11_refuses_9 2 rfl ?_
    refine r_callVi0 (pc := 10) C (rest := []) (a := v0) o_v0 [.int v2] yV_X11_isRoad g_1542 (c_X11_isRoad h) dX11_refuses_10 rfl rfl (Nat.le_of_ble_eq_true rfl) ⟨by decide, by decide⟩ ⟨by decide, by decide⟩ ⟨rfl, rfl⟩ (fun x7 S5 h g6 => ?_)
    have bx7 := h.1
    have h := h.2 g6 bx7
    have o_v0 := gr_ob g6 o_v0
    refine r_if_eq (pc := 13) C (tgt := 34) dX11_refuses_13 (by decide) (fun c8 => ?_) (fun c8 => ?_)
    · have h := h.1 c8
      refine r_iconst (pc := 34) C (v := (1 : Int32)) dX11_refuses_34 (by decide) ?_
      exact r_iret (pc := 35) C E ht dX11_refuses_35 (by decide) (by decide) h
    · have h := h.2 c8
      refine r_iload_n (pc := 16) C dX11_refuses_16 3 rfl ?_
      refine r_iconst (pc := 17) C (v := (0 : Int32)) dX11_refuses_17 (by decide) ?_
      refine r_iconst (pc := 18) C (v := (1 : Int32)) dX11_refuses_18 (by decide) ?_
      refine r_callSi0 (pc := 19) C (rest := []) rfl [.int v3, .int (0 : Int32), .int (1 : Int32)] yS_X11_in g_1434 (c_X11_in h) dX11_refuses_19 rfl rfl (Nat.le_of_ble_eq_true rfl) ⟨by decide, by decide⟩ ⟨by decide, by decide⟩ ⟨rfl, rfl⟩ (fun x11 S9 h g10 => ?_)
      have bx11 := h.1
      have h := h.2 g10 bx11
      have o_v0 := gr_ob g10 o_v0
      refine r_if_eq (pc := 22) C (tgt := 34) dX11_refuses_22 (by decide) (fun c12 => ?_) (fun c12 => ?_)
      · have h := h.1 c12
        refine r_iconst (pc := 34) C (v := (1 : Int32)) dX11_refuses_34 (by decide) ?_
        exact r_iret (pc := 35) C E ht dX11_refuses_35 (by decide) (by decide) h
      · have h := h.2 c12
        refine r_aload_n (pc := 25) C dX11_refuses_25 0 rfl ?_
        refine r_iload (pc := 26) C dX11_refuses_26 4 rfl ?_
        refine r_callVi0 (pc := 28) C (rest := []) (a := v0) o_v0 [.int v4] yV_X11_isHour g_1546 (c_X11_isHour h) dX11_refuses_28 rfl rfl (Nat.le_of_ble_eq_true rfl) ⟨by decide, by decide⟩ ⟨by decide, by decide⟩ ⟨rfl, rfl⟩ (fun x15 S13 h g14 => ?_)
        have bx15 := h.1
        have h := h.2 g14 bx15
        have o_v0 := gr_ob g14 o_v0
        refine r_if_ne (pc := 31) C (tgt := 36) dX11_refuses_31 (by decide) (fun c16 => ?_) (fun c16 => ?_)
        · have h := h.1 c16
          refine r_aload_n (pc := 36) C dX11_refuses_36 0 rfl ?_
          refine r_iload_n (pc := 37) C dX11_refuses_37 1 rfl ?_
          refine r_iload (pc := 38) C dX11_refuses_38 5 rfl ?_
          refine r_callVi0 (pc := 40) C (rest := []) (a := v0) o_v0 [.int v1, .int v5] yV_X11_isSpeed g_1550 (c_X11_isSpeed h) dX11_refuses_40 rfl rfl (Nat.le_of_ble_eq_true rfl) ⟨by decide, by decide⟩ ⟨by decide, by decide⟩ ⟨rfl, rfl⟩ (fun x19 S17 h g18 => ?_)
          have bx19 := h.1
          have h := h.2 g18 bx19
          have o_v0 := gr_ob g18 o_v0
          refine r_if_eq (pc := 43) C (tgt := 50) dX11_refuses_43 (by decide) (fun c20 => ?_) (fun c20 => ?_)
          · have h := h.1 c20
            refine r_iconst (pc := 50) C (v := (2 : Int32)) dX11_refuses_50 (by decide) ?_
            exact r_iret (pc := 51) C E ht dX11_refuses_51 (by decide) (by decide) h
          · have h := h.2 c20
            refine r_iconst (pc := 46) C (v := (0 : Int32)) dX11_refuses_46 (by decide) ?_
            refine r_goto (pc := 47) C (tgt := 51) dX11_refuses_47 (by decide) ?_
            exact r_iret (pc := 51) C E ht dX11_refuses_51 (by decide) (by decide) h
        · have h := h.2 c16
          refine r_iconst (pc := 34) C (v := (1 : Int32)) dX11_refuses_34 (by decide) ?_
          exact r_iret (pc := 35) C E ht dX11_refuses_35 (by decide) (by decide) h
def P_X11_refuses (v0 : Nat) (v1 : Int32) (v2 : Int32) (v3 : Int32) (v4 : Int32) (v5 : Int32) (Q : Int32 → HS → Prop) (S : HS) : Prop := P_X11_refuses_0 Q v0 v1 v2 v3 v4 v5 S
theorem c_X11_refuses {l : Launch} {Ee : EE} {S : HS} {v0 : Nat} {v1 : Int32} {v2 : Int32} {v3 : Int32} {v4 : Int32} {v5 : Int32} {Q : Int32 → HS → Prop} (h : P_X11_refuses v0 v1 v2 v3 v4 v5 Q S) : MI l yX11_refuses cX11_refuses 6 (some .int) rm_X11_refuses Ee S [.ref v0, .int v1, .int v2, .int v3, .int v4, .int v5] Q :=
  openI (by decide) (Nat.le_of_ble_eq_true rfl) (fun X C E ht hn hE hl => by subst hE; exact r_sub [0, 1, 2, 3, 4, 5] rfl (T_X11_refuses_0 C E ht hn h))
def rm_X11_told : Room := { frames := 1, cells := 0, slots := 0, locals := 21 }
def B_X11_told_12 (Q : Int64 → HS → Prop) (X12 : Int64 → Int64 → Int32 → Int64 → Int64 → HS → Prop) (v1 : Int64) (v3 : Int64) (v5 : Int32) (v6 : Int64) (v8 : Int64) (S : HS) : Prop := (((lg_cmp v8 (0 : Int64)) = 0) → (((v5 = 0) → (¬ v6 = 0 ∧ ∀ x4 : Int64, x4 = v1 / v6 → (Q x4 S))) ∧ ((¬ v5 = 0) → (¬ v6 = 0 ∧ ∀ x6 : Int64, x6 = v3 / v6 → (Q x6 S))))) ∧ ((¬ (lg_cmp v8 (0 : Int64)) = 0) → (¬ v8 = 0 ∧ ∀ x8 : Int64, x8 = v6 - v6 / v8 * v8 → (X12 v1 v3 v5 v8 x8 S)))
def P_X11_told_12 (Q : Int64 → HS → Prop) (v1 : Int64) (v3 : Int64) (v5 : Int32) (v6 : Int64) (v8 : Int64) (S : HS) : Prop := ∀ X12 : Int64 → Int64 → Int32 → Int64 → Int64 → HS → Prop, (∀ (v1 : Int64) (v3 : Int64) (v5 : Int32) (v6 : Int64) (v8 : Int64) (S : HS), B_X11_told_12 Q X12 v1 v3 v5 v6 v8 S → X12 v1 v3 v5 v6 v8 S) → X12 v1 v3 v5 v6 v8 S
set_option maxRecDepth 20000 in
set_option maxHeartbeats 4000000 in
theorem TB_X11_told_12 {X : CX} {Q : Int64 → HS → Prop} (C : Cx X cX11_told RX11 12 rm_X11_told) (E : ReJ X rm_X11_told Q) (ht : (xh X).sig.returnType = (some .long)) (hn : (xh X).name = yX11_told.name) {X12 : Int64 → Int64 → Int32 → Int64 → Int64 → HS → Prop} (hX12 : ∀ (v1 : Int64) (v3 : Int64) (v5 : Int32) (v6 : Int64) (v8 : Int64) (S : HS), X12 v1 v3 v5 v6 v8 S → WS X 12 0 0 12 [(1, .long v1), (3, .long v3), (5, .int v5), (6, .long v6), (8, .long v8)] [] S) {v1 : Int64} {v3 : Int64} {v5 : Int32} {v6 : Int64} {v8 : Int64} {S : HS} (h : B_X11_told_12 Q X12 v1 v3 v5 v6 v8 S) : WS X 12 0 0 12 [(1, .long v1), (3, .long v3), (5, .int v5), (6, .long v6), (8, .long v8)] [] S := by
  refine r_lload (pc := 12) C dX11_told_12 4 rfl ?_
  refine r_lconst (pc := 14) C (v := (0 : Int64)) dX11_told_14 (by decide) ?_
  refine r_lcmp (pc := 15) C dX11_told_15 ?_
  refine r_if_eq (pc := 16) C (tgt := 37) dX11_told_16 (by decide) (fun c1 => ?_) (fun c1 => ?_)
  · have h := h.1 c1
    refine r_iload (pc := 37) C dX11_told_37 2 rfl ?_
    refine r_if_eq (pc := 39) C (tgt := 46) dX11_told_39 (by decide) (fun c2 => ?_) (fun c2 => ?_)
    · have h := h.1 c2
      refine r_lload_n (pc := 46) C dX11_told_46 0 rfl ?_
      refine r_lload (pc := 47) C dX11_told_47 3 rfl ?_
      obtain ⟨q3, h⟩ := h
      refine r_ldiv (pc := 49) C dX11_told_49 q3 ?_
      refine r_topl (fun x4 ex4 => ?_)
      have h := h x4 ex4
      exact r_lret (pc := 50) C E ht dX11_told_50 (by decide) (by decide) h
    · have h := h.2 c2
      refine r_lload_n (pc := 42) C dX11_told_42 1 rfl ?_
      refine r_goto (pc := 43) C (tgt := 47) dX11_told_43 (by decide) ?_
      refine r_lload (pc := 47) C dX11_told_47 3 rfl ?_
      obtain ⟨q5, h⟩ := h
      refine r_ldiv (pc := 49) C dX11_told_49 q5 ?_
      refine r_topl (fun x6 ex6 => ?_)
      have h := h x6 ex6
      exact r_lret (pc := 50) C E ht dX11_told_50 (by decide) (by decide) h
  · have h := h.2 c1
    refine r_lload (pc := 19) C dX11_told_19 3 rfl ?_
    refine r_lload (pc := 21) C dX11_told_21 4 rfl ?_
    obtain ⟨q7, h⟩ := h
    refine r_lrem (pc := 23) C dX11_told_23 q7 ?_
    refine r_topl (fun x8 ex8 => ?_)
    have h := h x8 ex8
    refine r_lstore (pc := 24) C dX11_told_24 (by decide) (lv' := [(10, .long x8), (1, .long v1), (3, .long v3), (5, .int v5), (6, .long v6), (8, .long v8)]) rfl ?_
    refine r_lload (pc := 26) C dX11_told_26 5 rfl ?_
    refine r_lstore (pc := 28) C dX11_told_28 (by decide) (lv' := [(6, .long v8), (10, .long x8), (1, .long v1), (3, .long v3), (5, .int v5), (8, .long v8)]) rfl ?_
    refine r_lload (pc := 30) C dX11_told_30 1 rfl ?_
    refine r_lstore (pc := 32) C dX11_told_32 (by decide) (lv' := [(8, .long x8), (6, .long v8), (10, .long x8), (1, .long v1), (3, .long v3), (5, .int v5)]) rfl ?_
    refine r_goto (pc := 34) C (tgt := 12) dX11_told_34 (by decide) ?_
    exact r_sub [3, 4, 5, 1, 0] rfl (hX12 v1 v3 v5 v8 x8 S h)
theorem T_X11_told_12 {X : CX} {Q : Int64 → HS → Prop} (C : Cx X cX11_told RX11 12 rm_X11_told) (E : ReJ X rm_X11_told Q) (ht : (xh X).sig.returnType = (some .long)) (hn : (xh X).name = yX11_told.name) {v1 : Int64} {v3 : Int64} {v5 : Int32} {v6 : Int64} {v8 : Int64} {S : HS} (h : P_X11_told_12 Q v1 v3 v5 v6 v8 S) : WS X 12 0 0 12 [(1, .long v1), (3, .long v3), (5, .int v5), (6, .long v6), (8, .long v8)] [] S :=
  h (fun v1 v3 v5 v6 v8 S => WS X 12 0 0 12 [(1, .long v1), (3, .long v3), (5, .int v5), (6, .long v6), (8, .long v8)] [] S) (fun v1 v3 v5 v6 v8 S hh => TB_X11_told_12 C E ht hn (fun v1 v3 v5 v6 v8 S z => z) hh)
def P_X11_told_0 (Q : Int64 → HS → Prop) (v0 : Nat) (v1 : Int64) (v3 : Int64) (v5 : Int32) (S : HS) : Prop := ob S v0 11 ∧ (P_X11_good v0 (0 : Int32) (fun x3 S1 => Gr S S1 → (P_X11_told_12 Q v1 v3 v5 v1 v3 S1)) S)
set_option maxRecDepth 20000 in
set_option maxHeartbeats 4000000 in
theorem T_X11_told_0 {X : CX} {Q : Int64 → HS → Prop} (C : Cx X cX11_told RX11 12 rm_X11_told) (E : ReJ X rm_X11_told Q) (ht : (xh X).sig.returnType = (some .long)) (hn : (xh X).name = yX11_told.name) {v0 : Nat} {v1 : Int64} {v3 : Int64} {v5 : Int32} {S : HS} (h : P_X11_told_0 Q v0 v1 v3 v5 S) : WS X 12 0 0 0 [(0, .ref v0), (1, .long v1), (3, .long v3), (5, .int v5)] [] S := by
  refine r_aload_n (pc := 0) C dX11_told_0 0 rfl ?_
  refine r_iconst (pc := 1) C (v := (0 : Int32)) dX11_told_1 (by decide) ?_
  obtain ⟨o_v0, h⟩ := h
  refine r_callVi0 (pc := 2) C (rest := []) (a := v0) o_v0 [.int (0 : Int32)] yV_X11_good g_1518 (c_X11_good h) dX11_told_2 rfl rfl (Nat.le_of_ble_eq_true rfl) ⟨by decide, by decide⟩ ⟨by decide, by decide⟩ ⟨rfl, rfl⟩ (fun x3 S1 h g2 => ?_)
  have h := h g2
  have o_v0 := gr_ob g2 o_v0
  refine r_pop (pc := 5) C dX11_told_5 rfl ?_
  refine r_lload_n (pc := 6) C dX11_told_6 1 rfl ?_
  refine r_lstore (pc := 7) C dX11_told_7 (by decide) (lv' := [(6, .long v1), (0, .ref v0), (1, .long v1), (3, .long v3), (5, .int v5)]) rfl ?_
  refine r_lload_n (pc := 9) C dX11_told_9 3 rfl ?_
  refine r_lstore (pc := 10) C dX11_told_10 (by decide) (lv' := [(8, .long v3), (6, .long v1), (0, .ref v0), (1, .long v1), (3, .long v3), (5, .int v5)]) rfl ?_
  exact r_sub [3, 4, 5, 1, 0] rfl (T_X11_told_12 C E ht hn h)
def P_X11_told (v0 : Nat) (v1 : Int64) (v3 : Int64) (v5 : Int32) (Q : Int64 → HS → Prop) (S : HS) : Prop := P_X11_told_0 Q v0 v1 v3 v5 S
theorem c_X11_told {l : Launch} {Ee : EE} {S : HS} {v0 : Nat} {v1 : Int64} {v3 : Int64} {v5 : Int32} {Q : Int64 → HS → Prop} (h : P_X11_told v0 v1 v3 v5 Q S) : MJ l yX11_told cX11_told 12 (some .long) rm_X11_told Ee S [.ref v0, .long v1, .long v3, .int v5] Q :=
  openJ (by decide) (Nat.le_of_ble_eq_true rfl) (fun X C E ht hn hE hl => by subst hE; exact r_sub [0, 1, 2, 3] rfl (T_X11_told_0 C E ht hn h))
def rm_X11_face : Room := { frames := 5, cells := 0, slots := 0, locals := 135 }
def P_X11_face_30 (Q : Int64 → HS → Prop) (v0 : Nat) (v1 : Int32) (v2 : Int32) (v3 : Int32) (v4 : Int32) (v5 : Int32) (v6 : Int32) (v7 : Int32) (s0 : Int32) (S : HS) : Prop := ((s0 ≤ 0) → (ob S v0 11 ∧ (P_X11_partsOf v0 v1 v2 v3 v4 v5 v6 (fun x4 S2 => Gr S S2 → (P_X11_told v0 x4 (2520 : Int64) v7 (fun x7 S5 => Gr S2 S5 → (Q x7 S5)) S2)) S))) ∧ ((¬ s0 ≤ 0) → (ob S v0 11 ∧ (P_X11_refused v0 s0 (fun x10 S8 => Gr S S8 → (Q x10.toInt64 S8)) S)))
set_option maxRecDepth 20000 in
set_option maxHeartbeats 4000000 in
theorem T_X11_face_30 {X : CX} {Q : Int64 → HS → Prop} (C : Cx X cX11_face RX11 9 rm_X11_face) (E : ReJ X rm_X11_face Q) (ht : (xh X).sig.returnType = (some .long)) (hn : (xh X).name = yX11_face.name) {v0 : Nat} {v1 : Int32} {v2 : Int32} {v3 : Int32} {v4 : Int32} {v5 : Int32} {v6 : Int32} {v7 : Int32} {s0 : Int32} {S : HS} (h : P_X11_face_30 Q v0 v1 v2 v3 v4 v5 v6 v7 s0 S) : WS X 9 0 0 30 [(0, .ref v0), (1, .int v1), (2, .int v2), (3, .int v3), (4, .int v4), (5, .int v5), (6, .int v6), (7, .int v7)] [.int s0] S := by
  refine r_istore (pc := 30) C dX11_face_30 (by decide) (lv' := [(8, .int s0), (0, .ref v0), (1, .int v1), (2, .int v2), (3, .int v3), (4, .int v4), (5, .int v5), (6, .int v6), (7, .int v7)]) rfl ?_
  refine r_iload (pc := 32) C dX11_face_32 0 rfl ?_
  refine r_if_le (pc := 34) C (tgt := 47) dX11_face_34 (by decide) (fun c1 => ?_) (fun c1 => ?_)
  · have h := h.1 c1
    refine r_aload_n (pc := 47) C dX11_face_47 1 rfl ?_
    refine r_aload_n (pc := 48) C dX11_face_48 1 rfl ?_
    refine r_iload_n (pc := 49) C dX11_face_49 2 rfl ?_
    refine r_iload_n (pc := 50) C dX11_face_50 3 rfl ?_
    refine r_iload_n (pc := 51) C dX11_face_51 4 rfl ?_
    refine r_iload (pc := 52) C dX11_face_52 5 rfl ?_
    refine r_iload (pc := 54) C dX11_face_54 6 rfl ?_
    refine r_iload (pc := 56) C dX11_face_56 7 rfl ?_
    obtain ⟨o_v0, h⟩ := h
    refine r_callVl0 (pc := 58) C (rest := [.ref v0]) (a := v0) o_v0 [.int v1, .int v2, .int v3, .int v4, .int v5, .int v6] yV_X11_partsOf g_1554 (c_X11_partsOf h) dX11_face_58 rfl rfl (Nat.le_of_ble_eq_true rfl) ⟨by decide, by decide⟩ ⟨by decide, by decide⟩ ⟨rfl, rfl⟩ (fun x4 S2 h g3 => ?_)
    have h := h g3
    have o_v0 := gr_ob g3 o_v0
    refine r_ldc2 (pc := 61) C (v := (2520 : Int64)) dX11_face_61 g_1585 ?_
    refine r_iload (pc := 64) C dX11_face_64 8 rfl ?_
    refine r_callVl0 (pc := 66) C (rest := []) (a := v0) o_v0 [.long x4, .long (2520 : Int64), .int v7] yV_X11_told g_1586 (c_X11_told h) dX11_face_66 rfl rfl (Nat.le_of_ble_eq_true rfl) ⟨by decide, by decide⟩ ⟨by decide, by decide⟩ ⟨rfl, rfl⟩ (fun x7 S5 h g6 => ?_)
    have h := h g6
    have o_v0 := gr_ob g6 o_v0
    exact r_lret (pc := 69) C E ht dX11_face_69 (by decide) (by decide) h
  · have h := h.2 c1
    refine r_aload_n (pc := 37) C dX11_face_37 1 rfl ?_
    refine r_iload (pc := 38) C dX11_face_38 0 rfl ?_
    obtain ⟨o_v0, h⟩ := h
    refine r_callVi0 (pc := 40) C (rest := []) (a := v0) o_v0 [.int s0] yV_X11_refused g_1250 (c_X11_refused h) dX11_face_40 rfl rfl (Nat.le_of_ble_eq_true rfl) ⟨by decide, by decide⟩ ⟨by decide, by decide⟩ ⟨rfl, rfl⟩ (fun x10 S8 h g9 => ?_)
    have h := h g9
    have o_v0 := gr_ob g9 o_v0
    refine r_i2l (pc := 43) C dX11_face_43 ?_
    refine r_goto (pc := 44) C (tgt := 69) dX11_face_44 (by decide) ?_
    exact r_lret (pc := 69) C E ht dX11_face_69 (by decide) (by decide) h
def P_X11_face_0 (Q : Int64 → HS → Prop) (v0 : Nat) (v1 : Int32) (v2 : Int32) (v3 : Int32) (v4 : Int32) (v5 : Int32) (v6 : Int32) (v7 : Int32) (S : HS) : Prop := ob S v0 11 ∧ (∀ S1 : HS, S1 = sI S v0 0 (0 : Int32) → (P_X11_in v6 (0 : Int32) (4 : Int32) (fun x4 S2 => Gr S1 S2 → bl x4 → (((x4 = 0) → (P_X11_face_30 Q v0 v1 v2 v3 v4 v5 v6 v7 (1 : Int32) S2)) ∧ ((¬ x4 = 0) → (P_X11_refuses v0 v1 v2 v3 v4 v5 (fun x8 S6 => Gr S2 S6 → (P_X11_face_30 Q v0 v1 v2 v3 v4 v5 v6 v7 x8 S6)) S2)))) S1))
set_option maxRecDepth 20000 in
set_option maxHeartbeats 4000000 in
theorem T_X11_face_0 {X : CX} {Q : Int64 → HS → Prop} (C : Cx X cX11_face RX11 9 rm_X11_face) (E : ReJ X rm_X11_face Q) (ht : (xh X).sig.returnType = (some .long)) (hn : (xh X).name = yX11_face.name) {v0 : Nat} {v1 : Int32} {v2 : Int32} {v3 : Int32} {v4 : Int32} {v5 : Int32} {v6 : Int32} {v7 : Int32} {S : HS} (h : P_X11_face_0 Q v0 v1 v2 v3 v4 v5 v6 v7 S) : WS X 9 0 0 0 [(0, .ref v0), (1, .int v1), (2, .int v2), (3, .int v3), (4, .int v4), (5, .int v5), (6, .int v6), (7, .int v7)] [] S := by
  refine r_aload_n (pc := 0) C dX11_face_0 0 rfl ?_
  refine r_iconst (pc := 1) C (v := (0 : Int32)) dX11_face_1 (by decide) ?_
  obtain ⟨o_v0, h⟩ := h
  refine r_puti (pc := 2) C pfL_X11_40 dX11_face_2 o_v0 ?_
  refine r_heap (fun S1 eS1 => ?_)
  have h := h S1 eS1
  have o_v0 := ob_I eS1 o_v0
  refine r_iload (pc := 5) C dX11_face_5 6 rfl ?_
  refine r_iconst (pc := 7) C (v := (0 : Int32)) dX11_face_7 (by decide) ?_
  refine r_iconst (pc := 8) C (v := (4 : Int32)) dX11_face_8 (by decide) ?_
  refine r_callSi0 (pc := 9) C (rest := []) rfl [.int v6, .int (0 : Int32), .int (4 : Int32)] yS_X11_in g_1434 (c_X11_in h) dX11_face_9 rfl rfl (Nat.le_of_ble_eq_true rfl) ⟨by decide, by decide⟩ ⟨by decide, by decide⟩ ⟨rfl, rfl⟩ (fun x4 S2 h g3 => ?_)
  have bx4 := h.1
  have h := h.2 g3 bx4
  have o_v0 := gr_ob g3 o_v0
  refine r_if_eq (pc := 12) C (tgt := 29) dX11_face_12 (by decide) (fun c5 => ?_) (fun c5 => ?_)
  · have h := h.1 c5
    refine r_iconst (pc := 29) C (v := (1 : Int32)) dX11_face_29 (by decide) ?_
    exact r_sub [0, 1, 2, 3, 4, 5, 6, 7] rfl (T_X11_face_30 C E ht hn h)
  · have h := h.2 c5
    refine r_aload_n (pc := 15) C dX11_face_15 0 rfl ?_
    refine r_iload_n (pc := 16) C dX11_face_16 1 rfl ?_
    refine r_iload_n (pc := 17) C dX11_face_17 2 rfl ?_
    refine r_iload_n (pc := 18) C dX11_face_18 3 rfl ?_
    refine r_iload (pc := 19) C dX11_face_19 4 rfl ?_
    refine r_iload (pc := 21) C dX11_face_21 5 rfl ?_
    refine r_callVi0 (pc := 23) C (rest := []) (a := v0) o_v0 [.int v1, .int v2, .int v3, .int v4, .int v5] yV_X11_refuses g_1534 (c_X11_refuses h) dX11_face_23 rfl rfl (Nat.le_of_ble_eq_true rfl) ⟨by decide, by decide⟩ ⟨by decide, by decide⟩ ⟨rfl, rfl⟩ (fun x8 S6 h g7 => ?_)
    have h := h g7
    have o_v0 := gr_ob g7 o_v0
    refine r_goto (pc := 26) C (tgt := 30) dX11_face_26 (by decide) ?_
    exact r_sub [0, 1, 2, 3, 4, 5, 6, 7] rfl (T_X11_face_30 C E ht hn h)
def P_X11_face (v0 : Nat) (v1 : Int32) (v2 : Int32) (v3 : Int32) (v4 : Int32) (v5 : Int32) (v6 : Int32) (v7 : Int32) (Q : Int64 → HS → Prop) (S : HS) : Prop := P_X11_face_0 Q v0 v1 v2 v3 v4 v5 v6 v7 S
theorem c_X11_face {l : Launch} {Ee : EE} {S : HS} {v0 : Nat} {v1 : Int32} {v2 : Int32} {v3 : Int32} {v4 : Int32} {v5 : Int32} {v6 : Int32} {v7 : Int32} {Q : Int64 → HS → Prop} (h : P_X11_face v0 v1 v2 v3 v4 v5 v6 v7 Q S) : MJ l yX11_face cX11_face 9 (some .long) rm_X11_face Ee S [.ref v0, .int v1, .int v2, .int v3, .int v4, .int v5, .int v6, .int v7] Q :=
  openJ (by decide) (Nat.le_of_ble_eq_true rfl) (fun X C E ht hn hE hl => by subst hE; exact r_sub [0, 1, 2, 3, 4, 5, 6, 7] rfl (T_X11_face_0 C E ht hn h))
def rm_X11_fault : Room := { frames := 0, cells := 0, slots := 0, locals := 0 }
def P_X11_fault_0 (Q : Int32 → HS → Prop) (v0 : Nat) (S : HS) : Prop := ob S v0 11 ∧ (∀ S1 : HS, S1 = sI S v0 0 (0 : Int32) → (∀ x2 : Int32, x2 = fI S1 v0 13 → (Q x2 S1)))
set_option maxRecDepth 20000 in
set_option maxHeartbeats 4000000 in
theorem T_X11_fault_0 {X : CX} {Q : Int32 → HS → Prop} (C : Cx X cX11_fault RX11 1 rm_X11_fault) (E : ReI X rm_X11_fault Q) (ht : (xh X).sig.returnType = (some .int)) (hn : (xh X).name = yX11_fault.name) {v0 : Nat} {S : HS} (h : P_X11_fault_0 Q v0 S) : WS X 1 0 0 0 [(0, .ref v0)] [] S := by
  refine r_aload_n (pc := 0) C dX11_fault_0 0 rfl ?_
  refine r_iconst (pc := 1) C (v := (0 : Int32)) dX11_fault_1 (by decide) ?_
  obtain ⟨o_v0, h⟩ := h
  refine r_puti (pc := 2) C pfL_X11_40 dX11_fault_2 o_v0 ?_
  refine r_heap (fun S1 eS1 => ?_)
  have h := h S1 eS1
  have o_v0 := ob_I eS1 o_v0
  refine r_aload_n (pc := 5) C dX11_fault_5 0 rfl ?_
  refine r_geti (pc := 6) C fL_X11_97 dX11_fault_6 o_v0 ?_
  refine r_topi (fun x2 ex2 => ?_)
  have h := h x2 ex2
  exact r_iret (pc := 9) C E ht dX11_fault_9 (by decide) (by decide) h
def P_X11_fault (v0 : Nat) (Q : Int32 → HS → Prop) (S : HS) : Prop := P_X11_fault_0 Q v0 S
theorem c_X11_fault {l : Launch} {Ee : EE} {S : HS} {v0 : Nat} {Q : Int32 → HS → Prop} (h : P_X11_fault v0 Q S) : MI l yX11_fault cX11_fault 1 (some .int) rm_X11_fault Ee S [.ref v0] Q :=
  openI (by decide) (Nat.le_of_ble_eq_true rfl) (fun X C E ht hn hE hl => by subst hE; exact r_sub [0] rfl (T_X11_fault_0 C E ht hn h))
def rm_X11_feed : Room := { frames := 0, cells := 0, slots := 0, locals := 0 }
def P_X11_feed_76 (Q : Int32 → HS → Prop) (X23 : Nat → Int32 → Int32 → Int32 → Int32 → Int32 → Int32 → HS → Prop) (v0 : Nat) (v1 : Int32) (v2 : Int32) (v3 : Int32) (v4 : Int32) (v5 : Int32) (v6 : Int32) (s0 : Int32) (S : HS) : Prop := ob S v0 11 ∧ (∃ a1 : Nat, fR S v0 5 = some a1 ∧ (∀ x2 : Int32, x2 = fI S v0 6 → (∀ x3 : Int32, x3 = v6 - v6 / (4 : Int32) * (4 : Int32) → (ob S a1 12 ∧ (∀ x5 : Int32, x5 = (s0 >>> (((24 : Int32) - ((8 : Int32) * x3)) &&& 31)).toInt8.toInt32 → (vp_in x2 (hN S a1) ∧ (∀ S6 : HS, S6 = sI S a1 x2.toNatClampNeg (vp_nar .byte x5) → (∀ x7 : Int32, x7 = fI S6 v0 6 → (∀ x8 : Int32, x8 = x7 + (1 : Int32) → (∀ S9 : HS, S9 = sI S6 v0 6 x8 → (∀ x10 : Int32, x10 = v6 + (1 : Int32) → (X23 v0 v1 v2 v3 v4 v5 x10 S9))))))))))))
set_option maxRecDepth 20000 in
set_option maxHeartbeats 4000000 in
theorem T_X11_feed_76 {X : CX} {Q : Int32 → HS → Prop} (C : Cx X cX11_feed RX11 8 rm_X11_feed) (E : ReI X rm_X11_feed Q) (ht : (xh X).sig.returnType = (some .int)) (hn : (xh X).name = yX11_feed.name) {X23 : Nat → Int32 → Int32 → Int32 → Int32 → Int32 → Int32 → HS → Prop} (hX23 : ∀ (v0 : Nat) (v1 : Int32) (v2 : Int32) (v3 : Int32) (v4 : Int32) (v5 : Int32) (v6 : Int32) (S : HS), X23 v0 v1 v2 v3 v4 v5 v6 S → WS X 8 0 0 23 [(0, .ref v0), (1, .int v1), (2, .int v2), (3, .int v3), (4, .int v4), (5, .int v5), (6, .int v6)] [] S) {v0 : Nat} {v1 : Int32} {v2 : Int32} {v3 : Int32} {v4 : Int32} {v5 : Int32} {v6 : Int32} {s0 : Int32} {S : HS} (h : P_X11_feed_76 Q X23 v0 v1 v2 v3 v4 v5 v6 s0 S) : WS X 8 0 0 76 [(0, .ref v0), (1, .int v1), (2, .int v2), (3, .int v3), (4, .int v4), (5, .int v5), (6, .int v6)] [.int s0] S := by
  refine r_istore (pc := 76) C dX11_feed_76 (by decide) (lv' := [(7, .int s0), (0, .ref v0), (1, .int v1), (2, .int v2), (3, .int v3), (4, .int v4), (5, .int v5), (6, .int v6)]) rfl ?_
  refine r_aload_n (pc := 78) C dX11_feed_78 1 rfl ?_
  obtain ⟨o_v0, h⟩ := h
  obtain ⟨a1, ea1, h⟩ := h
  refine r_getr (pc := 79) C fL_X11_13 dX11_feed_79 o_v0 ea1 ?_
  refine r_aload_n (pc := 82) C dX11_feed_82 1 rfl ?_
  refine r_geti (pc := 83) C fL_X11_331 dX11_feed_83 o_v0 ?_
  refine r_topi (fun x2 ex2 => ?_)
  have h := h x2 ex2
  refine r_iload (pc := 86) C dX11_feed_86 0 rfl ?_
  refine r_bipush (pc := 88) C (v := (24 : Int32)) dX11_feed_88 (by decide) ?_
  refine r_bipush (pc := 90) C (v := (8 : Int32)) dX11_feed_90 (by decide) ?_
  refine r_iload (pc := 92) C dX11_feed_92 7 rfl ?_
  refine r_iconst (pc := 94) C (v := (4 : Int32)) dX11_feed_94 (by decide) ?_
  refine r_irem (pc := 95) C dX11_feed_95 (by decide) ?_
  refine r_topi (fun x3 ex3 => ?_)
  have h := h x3 ex3
  refine r_imul (pc := 96) C dX11_feed_96 ?_
  refine r_isub (pc := 97) C dX11_feed_97 ?_
  refine r_ishr (pc := 98) C dX11_feed_98 ?_
  refine r_i2b (pc := 99) C dX11_feed_99 ?_
  obtain ⟨o_a1, h⟩ := h
  refine r_topi (fun x5 ex5 => ?_)
  have h := h x5 ex5
  obtain ⟨i4, h⟩ := h
  refine r_bast (pc := 100) C dX11_feed_100 o_a1 i4 ?_
  refine r_heap (fun S6 eS6 => ?_)
  have h := h S6 eS6
  have o_a1 := ob_I eS6 o_a1
  have o_v0 := ob_I eS6 o_v0
  refine r_aload_n (pc := 101) C dX11_feed_101 1 rfl ?_
  refine r_dup (pc := 102) C dX11_feed_102 rfl ?_
  refine r_geti (pc := 103) C fL_X11_331 dX11_feed_103 o_v0 ?_
  refine r_topi (fun x7 ex7 => ?_)
  have h := h x7 ex7
  refine r_iconst (pc := 106) C (v := (1 : Int32)) dX11_feed_106 (by decide) ?_
  refine r_iadd (pc := 107) C dX11_feed_107 ?_
  refine r_topi (fun x8 ex8 => ?_)
  have h := h x8 ex8
  refine r_puti (pc := 108) C pfL_X11_331 dX11_feed_108 o_v0 ?_
  refine r_heap (fun S9 eS9 => ?_)
  have h := h S9 eS9
  have o_a1 := ob_I eS9 o_a1
  have o_v0 := ob_I eS9 o_v0
  obtain ⟨x10, ex10⟩ : ∃ z : Int32, z = v6 + (1 : Int32) := ⟨_, rfl⟩
  have h := h x10 ex10
  refine r_iinc (pc := 111) C (v := x10) (lv' := [(6, .int x10), (7, .int s0), (0, .ref v0), (1, .int v1), (2, .int v2), (3, .int v3), (4, .int v4), (5, .int v5)]) dX11_feed_111 7 rfl ex10.symm (by decide) rfl ?_
  refine r_goto (pc := 114) C (tgt := 23) dX11_feed_114 (by decide) ?_
  exact r_sub [2, 3, 4, 5, 6, 7, 0] rfl (hX23 v0 v1 v2 v3 v4 v5 x10 S9 h)
def B_X11_feed_23 (Q : Int32 → HS → Prop) (X23 : Nat → Int32 → Int32 → Int32 → Int32 → Int32 → Int32 → HS → Prop) (v0 : Nat) (v1 : Int32) (v2 : Int32) (v3 : Int32) (v4 : Int32) (v5 : Int32) (v6 : Int32) (S : HS) : Prop := (((20 : Int32) ≤ v6) → (ob S v0 11 ∧ (∀ x2 : Int32, x2 = fI S v0 6 → (Q x2 S)))) ∧ ((¬ (20 : Int32) ≤ v6) → ((((4 : Int32) ≤ v6) → ((((8 : Int32) ≤ v6) → ((((12 : Int32) ≤ v6) → ((((16 : Int32) ≤ v6) → (P_X11_feed_76 Q X23 v0 v1 v2 v3 v4 v5 v6 v5 S)) ∧ ((¬ (16 : Int32) ≤ v6) → (P_X11_feed_76 Q X23 v0 v1 v2 v3 v4 v5 v6 v4 S)))) ∧ ((¬ (12 : Int32) ≤ v6) → (P_X11_feed_76 Q X23 v0 v1 v2 v3 v4 v5 v6 v3 S)))) ∧ ((¬ (8 : Int32) ≤ v6) → (P_X11_feed_76 Q X23 v0 v1 v2 v3 v4 v5 v6 v2 S)))) ∧ ((¬ (4 : Int32) ≤ v6) → (P_X11_feed_76 Q X23 v0 v1 v2 v3 v4 v5 v6 v1 S))))
def P_X11_feed_23 (Q : Int32 → HS → Prop) (v0 : Nat) (v1 : Int32) (v2 : Int32) (v3 : Int32) (v4 : Int32) (v5 : Int32) (v6 : Int32) (S : HS) : Prop := ∀ X23 : Nat → Int32 → Int32 → Int32 → Int32 → Int32 → Int32 → HS → Prop, (∀ (v0 : Nat) (v1 : Int32) (v2 : Int32) (v3 : Int32) (v4 : Int32) (v5 : Int32) (v6 : Int32) (S : HS), B_X11_feed_23 Q X23 v0 v1 v2 v3 v4 v5 v6 S → X23 v0 v1 v2 v3 v4 v5 v6 S) → X23 v0 v1 v2 v3 v4 v5 v6 S
set_option maxRecDepth 20000 in
set_option maxHeartbeats 4000000 in
theorem TB_X11_feed_23 {X : CX} {Q : Int32 → HS → Prop} (C : Cx X cX11_feed RX11 8 rm_X11_feed) (E : ReI X rm_X11_feed Q) (ht : (xh X).sig.returnType = (some .int)) (hn : (xh X).name = yX11_feed.name) {X23 : Nat → Int32 → Int32 → Int32 → Int32 → Int32 → Int32 → HS → Prop} (hX23 : ∀ (v0 : Nat) (v1 : Int32) (v2 : Int32) (v3 : Int32) (v4 : Int32) (v5 : Int32) (v6 : Int32) (S : HS), X23 v0 v1 v2 v3 v4 v5 v6 S → WS X 8 0 0 23 [(0, .ref v0), (1, .int v1), (2, .int v2), (3, .int v3), (4, .int v4), (5, .int v5), (6, .int v6)] [] S) {v0 : Nat} {v1 : Int32} {v2 : Int32} {v3 : Int32} {v4 : Int32} {v5 : Int32} {v6 : Int32} {S : HS} (h : B_X11_feed_23 Q X23 v0 v1 v2 v3 v4 v5 v6 S) : WS X 8 0 0 23 [(0, .ref v0), (1, .int v1), (2, .int v2), (3, .int v3), (4, .int v4), (5, .int v5), (6, .int v6)] [] S := by
  refine r_iload (pc := 23) C dX11_feed_23 6 rfl ?_
  refine r_bipush (pc := 25) C (v := (20 : Int32)) dX11_feed_25 (by decide) ?_
  refine r_icmp_ge (pc := 27) C (tgt := 117) dX11_feed_27 (by decide) (fun c1 => ?_) (fun c1 => ?_)
  · have h := h.1 c1
    refine r_aload_n (pc := 117) C dX11_feed_117 0 rfl ?_
    obtain ⟨o_v0, h⟩ := h
    refine r_geti (pc := 118) C fL_X11_331 dX11_feed_118 o_v0 ?_
    refine r_topi (fun x2 ex2 => ?_)
    have h := h x2 ex2
    exact r_iret (pc := 121) C E ht dX11_feed_121 (by decide) (by decide) h
  · have h := h.2 c1
    refine r_iload (pc := 30) C dX11_feed_30 6 rfl ?_
    refine r_iconst (pc := 32) C (v := (4 : Int32)) dX11_feed_32 (by decide) ?_
    refine r_icmp_ge (pc := 33) C (tgt := 40) dX11_feed_33 (by decide) (fun c3 => ?_) (fun c3 => ?_)
    · have h := h.1 c3
      refine r_iload (pc := 40) C dX11_feed_40 6 rfl ?_
      refine r_bipush (pc := 42) C (v := (8 : Int32)) dX11_feed_42 (by decide) ?_
      refine r_icmp_ge (pc := 44) C (tgt := 51) dX11_feed_44 (by decide) (fun c4 => ?_) (fun c4 => ?_)
      · have h := h.1 c4
        refine r_iload (pc := 51) C dX11_feed_51 6 rfl ?_
        refine r_bipush (pc := 53) C (v := (12 : Int32)) dX11_feed_53 (by decide) ?_
        refine r_icmp_ge (pc := 55) C (tgt := 62) dX11_feed_55 (by decide) (fun c5 => ?_) (fun c5 => ?_)
        · have h := h.1 c5
          refine r_iload (pc := 62) C dX11_feed_62 6 rfl ?_
          refine r_bipush (pc := 64) C (v := (16 : Int32)) dX11_feed_64 (by decide) ?_
          refine r_icmp_ge (pc := 66) C (tgt := 74) dX11_feed_66 (by decide) (fun c6 => ?_) (fun c6 => ?_)
          · have h := h.1 c6
            refine r_iload (pc := 74) C dX11_feed_74 5 rfl ?_
            exact r_sub [0, 1, 2, 3, 4, 5, 6] rfl (T_X11_feed_76 C E ht hn hX23 h)
          · have h := h.2 c6
            refine r_iload (pc := 69) C dX11_feed_69 4 rfl ?_
            refine r_goto (pc := 71) C (tgt := 76) dX11_feed_71 (by decide) ?_
            exact r_sub [0, 1, 2, 3, 4, 5, 6] rfl (T_X11_feed_76 C E ht hn hX23 h)
        · have h := h.2 c5
          refine r_iload_n (pc := 58) C dX11_feed_58 3 rfl ?_
          refine r_goto (pc := 59) C (tgt := 76) dX11_feed_59 (by decide) ?_
          exact r_sub [0, 1, 2, 3, 4, 5, 6] rfl (T_X11_feed_76 C E ht hn hX23 h)
      · have h := h.2 c4
        refine r_iload_n (pc := 47) C dX11_feed_47 2 rfl ?_
        refine r_goto (pc := 48) C (tgt := 76) dX11_feed_48 (by decide) ?_
        exact r_sub [0, 1, 2, 3, 4, 5, 6] rfl (T_X11_feed_76 C E ht hn hX23 h)
    · have h := h.2 c3
      refine r_iload_n (pc := 36) C dX11_feed_36 1 rfl ?_
      refine r_goto (pc := 37) C (tgt := 76) dX11_feed_37 (by decide) ?_
      exact r_sub [0, 1, 2, 3, 4, 5, 6] rfl (T_X11_feed_76 C E ht hn hX23 h)
theorem T_X11_feed_23 {X : CX} {Q : Int32 → HS → Prop} (C : Cx X cX11_feed RX11 8 rm_X11_feed) (E : ReI X rm_X11_feed Q) (ht : (xh X).sig.returnType = (some .int)) (hn : (xh X).name = yX11_feed.name) {v0 : Nat} {v1 : Int32} {v2 : Int32} {v3 : Int32} {v4 : Int32} {v5 : Int32} {v6 : Int32} {S : HS} (h : P_X11_feed_23 Q v0 v1 v2 v3 v4 v5 v6 S) : WS X 8 0 0 23 [(0, .ref v0), (1, .int v1), (2, .int v2), (3, .int v3), (4, .int v4), (5, .int v5), (6, .int v6)] [] S :=
  h (fun v0 v1 v2 v3 v4 v5 v6 S => WS X 8 0 0 23 [(0, .ref v0), (1, .int v1), (2, .int v2), (3, .int v3), (4, .int v4), (5, .int v5), (6, .int v6)] [] S) (fun v0 v1 v2 v3 v4 v5 v6 S hh => TB_X11_feed_23 C E ht hn (fun v0 v1 v2 v3 v4 v5 v6 S z => z) hh)
def P_X11_feed_0 (Q : Int32 → HS → Prop) (v0 : Nat) (v1 : Int32) (v2 : Int32) (v3 : Int32) (v4 : Int32) (v5 : Int32) (S : HS) : Prop := ob S v0 11 ∧ (∀ S1 : HS, S1 = sI S v0 0 (0 : Int32) → (∀ x2 : Int32, x2 = fI S1 v0 6 → ((((x2 + (20 : Int32)) ≤ (900 : Int32)) → (P_X11_feed_23 Q v0 v1 v2 v3 v4 v5 (0 : Int32) S1)) ∧ ((¬ (x2 + (20 : Int32)) ≤ (900 : Int32)) → (Q (-1 : Int32) S1)))))
set_option maxRecDepth 20000 in
set_option maxHeartbeats 4000000 in
theorem T_X11_feed_0 {X : CX} {Q : Int32 → HS → Prop} (C : Cx X cX11_feed RX11 8 rm_X11_feed) (E : ReI X rm_X11_feed Q) (ht : (xh X).sig.returnType = (some .int)) (hn : (xh X).name = yX11_feed.name) {v0 : Nat} {v1 : Int32} {v2 : Int32} {v3 : Int32} {v4 : Int32} {v5 : Int32} {S : HS} (h : P_X11_feed_0 Q v0 v1 v2 v3 v4 v5 S) : WS X 8 0 0 0 [(0, .ref v0), (1, .int v1), (2, .int v2), (3, .int v3), (4, .int v4), (5, .int v5)] [] S := by
  refine r_aload_n (pc := 0) C dX11_feed_0 0 rfl ?_
  refine r_iconst (pc := 1) C (v := (0 : Int32)) dX11_feed_1 (by decide) ?_
  obtain ⟨o_v0, h⟩ := h
  refine r_puti (pc := 2) C pfL_X11_40 dX11_feed_2 o_v0 ?_
  refine r_heap (fun S1 eS1 => ?_)
  have h := h S1 eS1
  have o_v0 := ob_I eS1 o_v0
  refine r_aload_n (pc := 5) C dX11_feed_5 0 rfl ?_
  refine r_geti (pc := 6) C fL_X11_331 dX11_feed_6 o_v0 ?_
  refine r_topi (fun x2 ex2 => ?_)
  have h := h x2 ex2
  refine r_bipush (pc := 9) C (v := (20 : Int32)) dX11_feed_9 (by decide) ?_
  refine r_iadd (pc := 11) C dX11_feed_11 ?_
  refine r_sipush (pc := 12) C (v := (900 : Int32)) dX11_feed_12 (by decide) ?_
  refine r_icmp_le (pc := 15) C (tgt := 20) dX11_feed_15 (by decide) (fun c3 => ?_) (fun c3 => ?_)
  · have h := h.1 c3
    refine r_iconst (pc := 20) C (v := (0 : Int32)) dX11_feed_20 (by decide) ?_
    refine r_istore (pc := 21) C dX11_feed_21 (by decide) (lv' := [(6, .int (0 : Int32)), (0, .ref v0), (1, .int v1), (2, .int v2), (3, .int v3), (4, .int v4), (5, .int v5)]) rfl ?_
    exact r_sub [1, 2, 3, 4, 5, 6, 0] rfl (T_X11_feed_23 C E ht hn h)
  · have h := h.2 c3
    refine r_iconst (pc := 18) C (v := (-1 : Int32)) dX11_feed_18 (by decide) ?_
    exact r_iret (pc := 19) C E ht dX11_feed_19 (by decide) (by decide) h
def P_X11_feed (v0 : Nat) (v1 : Int32) (v2 : Int32) (v3 : Int32) (v4 : Int32) (v5 : Int32) (Q : Int32 → HS → Prop) (S : HS) : Prop := P_X11_feed_0 Q v0 v1 v2 v3 v4 v5 S
theorem c_X11_feed {l : Launch} {Ee : EE} {S : HS} {v0 : Nat} {v1 : Int32} {v2 : Int32} {v3 : Int32} {v4 : Int32} {v5 : Int32} {Q : Int32 → HS → Prop} (h : P_X11_feed v0 v1 v2 v3 v4 v5 Q S) : MI l yX11_feed cX11_feed 8 (some .int) rm_X11_feed Ee S [.ref v0, .int v1, .int v2, .int v3, .int v4, .int v5] Q :=
  openI (by decide) (Nat.le_of_ble_eq_true rfl) (fun X C E ht hn hE hl => by subst hE; exact r_sub [0, 1, 2, 3, 4, 5] rfl (T_X11_feed_0 C E ht hn h))
def rm_X11_refusesTwo : Room := { frames := 3, cells := 0, slots := 0, locals := 69 }
def P_X11_refusesTwo_0 (Q : Int32 → HS → Prop) (v0 : Nat) (v1 : Int32) (v2 : Int32) (v3 : Int32) (v4 : Int32) (v5 : Int32) (v6 : Int32) (S : HS) : Prop := ((v1 = v2) → (Q (1 : Int32) S)) ∧ ((¬ v1 = v2) → (ob S v0 11 ∧ (P_X11_isWalker v0 v2 (fun x4 S2 => Gr S S2 → bl x4 → (((¬ x4 = 0) → (P_X11_refuses v0 v1 v3 v4 v5 v6 (fun x8 S6 => Gr S2 S6 → (((x8 ≤ 0) → (P_X11_isSpeed v0 v2 v6 (fun x12 S10 => Gr S6 S10 → bl x12 → (((x12 = 0) → (Q (2 : Int32) S10)) ∧ ((¬ x12 = 0) → (Q (0 : Int32) S10)))) S6)) ∧ ((¬ x8 ≤ 0) → (Q x8 S6)))) S2)) ∧ ((x4 = 0) → (Q (1 : Int32) S2)))) S)))
set_option maxRecDepth 20000 in
set_option maxHeartbeats 4000000 in
theorem T_X11_refusesTwo_0 {X : CX} {Q : Int32 → HS → Prop} (C : Cx X cX11_refusesTwo RX11 8 rm_X11_refusesTwo) (E : ReI X rm_X11_refusesTwo Q) (ht : (xh X).sig.returnType = (some .int)) (hn : (xh X).name = yX11_refusesTwo.name) {v0 : Nat} {v1 : Int32} {v2 : Int32} {v3 : Int32} {v4 : Int32} {v5 : Int32} {v6 : Int32} {S : HS} (h : P_X11_refusesTwo_0 Q v0 v1 v2 v3 v4 v5 v6 S) : WS X 8 0 0 0 [(0, .ref v0), (1, .int v1), (2, .int v2), (3, .int v3), (4, .int v4), (5, .int v5), (6, .int v6)] [] S := by
  refine r_iload_n (pc := 0) C dX11_refusesTwo_0 1 rfl ?_
  refine r_iload_n (pc := 1) C dX11_refusesTwo_1 2 rfl ?_
  refine r_icmp_eq (pc := 2) C (tgt := 13) dX11_refusesTwo_2 (by decide) (fun c1 => ?_) (fun c1 => ?_)
  · have h := h.1 c1
    refine r_iconst (pc := 13) C (v := (1 : Int32)) dX11_refusesTwo_13 (by decide) ?_
    exact r_iret (pc := 14) C E ht dX11_refusesTwo_14 (by decide) (by decide) h
  · have h := h.2 c1
    refine r_aload_n (pc := 5) C dX11_refusesTwo_5 0 rfl ?_
    refine r_iload_n (pc := 6) C dX11_refusesTwo_6 2 rfl ?_
    obtain ⟨o_v0, h⟩ := h
    refine r_callVi0 (pc := 7) C (rest := []) (a := v0) o_v0 [.int v2] yV_X11_isWalker g_1538 (c_X11_isWalker h) dX11_refusesTwo_7 rfl rfl (Nat.le_of_ble_eq_true rfl) ⟨by decide, by decide⟩ ⟨by decide, by decide⟩ ⟨rfl, rfl⟩ (fun x4 S2 h g3 => ?_)
    have bx4 := h.1
    have h := h.2 g3 bx4
    have o_v0 := gr_ob g3 o_v0
    refine r_if_ne (pc := 10) C (tgt := 15) dX11_refusesTwo_10 (by decide) (fun c5 => ?_) (fun c5 => ?_)
    · have h := h.1 c5
      refine r_aload_n (pc := 15) C dX11_refusesTwo_15 0 rfl ?_
      refine r_iload_n (pc := 16) C dX11_refusesTwo_16 1 rfl ?_
      refine r_iload_n (pc := 17) C dX11_refusesTwo_17 3 rfl ?_
      refine r_iload (pc := 18) C dX11_refusesTwo_18 4 rfl ?_
      refine r_iload (pc := 20) C dX11_refusesTwo_20 5 rfl ?_
      refine r_iload (pc := 22) C dX11_refusesTwo_22 6 rfl ?_
      refine r_callVi0 (pc := 24) C (rest := []) (a := v0) o_v0 [.int v1, .int v3, .int v4, .int v5, .int v6] yV_X11_refuses g_1534 (c_X11_refuses h) dX11_refusesTwo_24 rfl rfl (Nat.le_of_ble_eq_true rfl) ⟨by decide, by decide⟩ ⟨by decide, by decide⟩ ⟨rfl, rfl⟩ (fun x8 S6 h g7 => ?_)
      have h := h g7
      have o_v0 := gr_ob g7 o_v0
      refine r_istore (pc := 27) C dX11_refusesTwo_27 (by decide) (lv' := [(7, .int x8), (0, .ref v0), (1, .int v1), (2, .int v2), (3, .int v3), (4, .int v4), (5, .int v5), (6, .int v6)]) rfl ?_
      refine r_iload (pc := 29) C dX11_refusesTwo_29 0 rfl ?_
      refine r_if_le (pc := 31) C (tgt := 39) dX11_refusesTwo_31 (by decide) (fun c9 => ?_) (fun c9 => ?_)
      · have h := h.1 c9
        refine r_aload_n (pc := 39) C dX11_refusesTwo_39 1 rfl ?_
        refine r_iload_n (pc := 40) C dX11_refusesTwo_40 3 rfl ?_
        refine r_iload (pc := 41) C dX11_refusesTwo_41 7 rfl ?_
        refine r_callVi0 (pc := 43) C (rest := []) (a := v0) o_v0 [.int v2, .int v6] yV_X11_isSpeed g_1550 (c_X11_isSpeed h) dX11_refusesTwo_43 rfl rfl (Nat.le_of_ble_eq_true rfl) ⟨by decide, by decide⟩ ⟨by decide, by decide⟩ ⟨rfl, rfl⟩ (fun x12 S10 h g11 => ?_)
        have bx12 := h.1
        have h := h.2 g11 bx12
        have o_v0 := gr_ob g11 o_v0
        refine r_if_eq (pc := 46) C (tgt := 53) dX11_refusesTwo_46 (by decide) (fun c13 => ?_) (fun c13 => ?_)
        · have h := h.1 c13
          refine r_iconst (pc := 53) C (v := (2 : Int32)) dX11_refusesTwo_53 (by decide) ?_
          exact r_iret (pc := 54) C E ht dX11_refusesTwo_54 (by decide) (by decide) h
        · have h := h.2 c13
          refine r_iconst (pc := 49) C (v := (0 : Int32)) dX11_refusesTwo_49 (by decide) ?_
          refine r_goto (pc := 50) C (tgt := 54) dX11_refusesTwo_50 (by decide) ?_
          exact r_iret (pc := 54) C E ht dX11_refusesTwo_54 (by decide) (by decide) h
      · have h := h.2 c9
        refine r_iload (pc := 34) C dX11_refusesTwo_34 0 rfl ?_
        refine r_goto (pc := 36) C (tgt := 54) dX11_refusesTwo_36 (by decide) ?_
        exact r_iret (pc := 54) C E ht dX11_refusesTwo_54 (by decide) (by decide) h
    · have h := h.2 c5
      refine r_iconst (pc := 13) C (v := (1 : Int32)) dX11_refusesTwo_13 (by decide) ?_
      exact r_iret (pc := 14) C E ht dX11_refusesTwo_14 (by decide) (by decide) h
def P_X11_refusesTwo (v0 : Nat) (v1 : Int32) (v2 : Int32) (v3 : Int32) (v4 : Int32) (v5 : Int32) (v6 : Int32) (Q : Int32 → HS → Prop) (S : HS) : Prop := P_X11_refusesTwo_0 Q v0 v1 v2 v3 v4 v5 v6 S
theorem c_X11_refusesTwo {l : Launch} {Ee : EE} {S : HS} {v0 : Nat} {v1 : Int32} {v2 : Int32} {v3 : Int32} {v4 : Int32} {v5 : Int32} {v6 : Int32} {Q : Int32 → HS → Prop} (h : P_X11_refusesTwo v0 v1 v2 v3 v4 v5 v6 Q S) : MI l yX11_refusesTwo cX11_refusesTwo 8 (some .int) rm_X11_refusesTwo Ee S [.ref v0, .int v1, .int v2, .int v3, .int v4, .int v5, .int v6] Q :=
  openI (by decide) (Nat.le_of_ble_eq_true rfl) (fun X C E ht hn hE hl => by subst hE; exact r_sub [0, 1, 2, 3, 4, 5, 6] rfl (T_X11_refusesTwo_0 C E ht hn h))
def rm_X11_together : Room := { frames := 4, cells := 0, slots := 0, locals := 109 }
def B_X11_together_6 (Q : Int64 → HS → Prop) (X6 : Nat → Int32 → Int32 → Int32 → Int32 → Int32 → Int32 → Int64 → Int32 → HS → Prop) (v0 : Nat) (v1 : Int32) (v2 : Int32) (v3 : Int32) (v4 : Int32) (v5 : Int32) (v6 : Int32) (v7 : Int64) (v9 : Int32) (S : HS) : Prop := (((5 : Int32) ≤ v9) → (ob S v0 11 ∧ (∃ a2 : Nat, fR S v0 3 = some a2 ∧ (ob S a2 10 ∧ (∃ a3 : Nat, fR S a2 16 = some a3 ∧ (ob S a3 13 ∧ (vp_in v3 (hN S a3) ∧ ∀ x5 : Int32, x5 = fI S a3 v3.toNatClampNeg → (∃ a6 : Nat, fR S v0 3 = some a6 ∧ (ob S a6 10 ∧ (∃ a7 : Nat, fR S a6 17 = some a7 ∧ (ob S a7 13 ∧ (vp_in v3 (hN S a7) ∧ ∀ x9 : Int32, x9 = fI S a7 v3.toNatClampNeg → (¬ v6 = 0 ∧ ∀ x11 : Int32, x11 = (2520 : Int32) / v6 → (Q ((v7 * ((x5 - x9).toInt64)) * x11.toInt64) S)))))))))))))) ∧ ((¬ (5 : Int32) ≤ v9) → (ob S v0 11 ∧ (∃ a12 : Nat, fR S v0 3 = some a12 ∧ (ob S a12 10 ∧ (∃ a13 : Nat, fR S a12 22 = some a13 ∧ (ob S a13 13 ∧ (vp_in v2 (hN S a13) ∧ ∀ x15 : Int32, x15 = fI S a13 v2.toNatClampNeg → (P_X11_inTime v0 v1 v3 v4 v5 v6 v9 (0 : Int32) x15 (fun x18 S16 => Gr S S16 → (∀ x19 : Int64, x19 = v7 + x18.toInt64 → (∃ a20 : Nat, fR S16 v0 3 = some a20 ∧ (ob S16 a20 10 ∧ (∃ a21 : Nat, fR S16 a20 22 = some a21 ∧ (ob S16 a21 13 ∧ (vp_in v1 (hN S16 a21) ∧ ∀ x23 : Int32, x23 = fI S16 a21 v1.toNatClampNeg → (P_X11_inTime v0 v2 v3 v4 v5 v6 v9 x23 (0 : Int32) (fun x26 S24 => Gr S16 S24 → (∀ x27 : Int64, x27 = x19 + x26.toInt64 → (∀ x28 : Int32, x28 = v9 + (1 : Int32) → (X6 v0 v1 v2 v3 v4 v5 v6 x27 x28 S24)))) S16)))))))) S))))))))
def P_X11_together_6 (Q : Int64 → HS → Prop) (v0 : Nat) (v1 : Int32) (v2 : Int32) (v3 : Int32) (v4 : Int32) (v5 : Int32) (v6 : Int32) (v7 : Int64) (v9 : Int32) (S : HS) : Prop := ∀ X6 : Nat → Int32 → Int32 → Int32 → Int32 → Int32 → Int32 → Int64 → Int32 → HS → Prop, (∀ (v0 : Nat) (v1 : Int32) (v2 : Int32) (v3 : Int32) (v4 : Int32) (v5 : Int32) (v6 : Int32) (v7 : Int64) (v9 : Int32) (S : HS), B_X11_together_6 Q X6 v0 v1 v2 v3 v4 v5 v6 v7 v9 S → X6 v0 v1 v2 v3 v4 v5 v6 v7 v9 S) → X6 v0 v1 v2 v3 v4 v5 v6 v7 v9 S
set_option maxRecDepth 20000 in
set_option maxHeartbeats 4000000 in
theorem TB_X11_together_6 {X : CX} {Q : Int64 → HS → Prop} (C : Cx X cX11_together RX11 10 rm_X11_together) (E : ReJ X rm_X11_together Q) (ht : (xh X).sig.returnType = (some .long)) (hn : (xh X).name = yX11_together.name) {X6 : Nat → Int32 → Int32 → Int32 → Int32 → Int32 → Int32 → Int64 → Int32 → HS → Prop} (hX6 : ∀ (v0 : Nat) (v1 : Int32) (v2 : Int32) (v3 : Int32) (v4 : Int32) (v5 : Int32) (v6 : Int32) (v7 : Int64) (v9 : Int32) (S : HS), X6 v0 v1 v2 v3 v4 v5 v6 v7 v9 S → WS X 10 0 0 6 [(0, .ref v0), (1, .int v1), (2, .int v2), (3, .int v3), (4, .int v4), (5, .int v5), (6, .int v6), (7, .long v7), (9, .int v9)] [] S) {v0 : Nat} {v1 : Int32} {v2 : Int32} {v3 : Int32} {v4 : Int32} {v5 : Int32} {v6 : Int32} {v7 : Int64} {v9 : Int32} {S : HS} (h : B_X11_together_6 Q X6 v0 v1 v2 v3 v4 v5 v6 v7 v9 S) : WS X 10 0 0 6 [(0, .ref v0), (1, .int v1), (2, .int v2), (3, .int v3), (4, .int v4), (5, .int v5), (6, .int v6), (7, .long v7), (9, .int v9)] [] S := by
  refine r_iload (pc := 6) C dX11_together_6 8 rfl ?_
  refine r_iconst (pc := 8) C (v := (5 : Int32)) dX11_together_8 (by decide) ?_
  refine r_icmp_ge (pc := 9) C (tgt := 78) dX11_together_9 (by decide) (fun c1 => ?_) (fun c1 => ?_)
  · have h := h.1 c1
    refine r_lload (pc := 78) C dX11_together_78 7 rfl ?_
    refine r_aload_n (pc := 80) C dX11_together_80 0 rfl ?_
    obtain ⟨o_v0, h⟩ := h
    obtain ⟨a2, ea2, h⟩ := h
    refine r_getr (pc := 81) C fL_X11_338 dX11_together_81 o_v0 ea2 ?_
    obtain ⟨o_a2, h⟩ := h
    obtain ⟨a3, ea3, h⟩ := h
    refine r_getNr (pc := 84) C fN_X11_279 dX11_together_84 o_a2 ea3 ?_
    refine r_iload_n (pc := 87) C dX11_together_87 3 rfl ?_
    obtain ⟨o_a3, h⟩ := h
    obtain ⟨i4, h⟩ := h
    refine r_iald (pc := 88) C dX11_together_88 o_a3 i4 ?_
    refine r_topi (fun x5 ex5 => ?_)
    have h := h x5 ex5
    refine r_aload_n (pc := 89) C dX11_together_89 0 rfl ?_
    obtain ⟨a6, ea6, h⟩ := h
    refine r_getr (pc := 90) C fL_X11_338 dX11_together_90 o_v0 ea6 ?_
    obtain ⟨o_a6, h⟩ := h
    obtain ⟨a7, ea7, h⟩ := h
    refine r_getNr (pc := 93) C fN_X11_282 dX11_together_93 o_a6 ea7 ?_
    refine r_iload_n (pc := 96) C dX11_together_96 3 rfl ?_
    obtain ⟨o_a7, h⟩ := h
    obtain ⟨i8, h⟩ := h
    refine r_iald (pc := 97) C dX11_together_97 o_a7 i8 ?_
    refine r_topi (fun x9 ex9 => ?_)
    have h := h x9 ex9
    refine r_isub (pc := 98) C dX11_together_98 ?_
    refine r_i2l (pc := 99) C dX11_together_99 ?_
    refine r_lmul (pc := 100) C dX11_together_100 ?_
    refine r_sipush (pc := 101) C (v := (2520 : Int32)) dX11_together_101 (by decide) ?_
    refine r_iload (pc := 104) C dX11_together_104 6 rfl ?_
    obtain ⟨q10, h⟩ := h
    refine r_idiv (pc := 106) C dX11_together_106 q10 ?_
    refine r_topi (fun x11 ex11 => ?_)
    have h := h x11 ex11
    refine r_i2l (pc := 107) C dX11_together_107 ?_
    refine r_lmul (pc := 108) C dX11_together_108 ?_
    exact r_lret (pc := 109) C E ht dX11_together_109 (by decide) (by decide) h
  · have h := h.2 c1
    refine r_lload (pc := 12) C dX11_together_12 7 rfl ?_
    refine r_aload_n (pc := 14) C dX11_together_14 0 rfl ?_
    refine r_iload_n (pc := 15) C dX11_together_15 1 rfl ?_
    refine r_iload_n (pc := 16) C dX11_together_16 3 rfl ?_
    refine r_iload (pc := 17) C dX11_together_17 4 rfl ?_
    refine r_iload (pc := 19) C dX11_together_19 5 rfl ?_
    refine r_iload (pc := 21) C dX11_together_21 6 rfl ?_
    refine r_iload (pc := 23) C dX11_together_23 8 rfl ?_
    refine r_iconst (pc := 25) C (v := (0 : Int32)) dX11_together_25 (by decide) ?_
    refine r_aload_n (pc := 26) C dX11_together_26 0 rfl ?_
    obtain ⟨o_v0, h⟩ := h
    obtain ⟨a12, ea12, h⟩ := h
    refine r_getr (pc := 27) C fL_X11_338 dX11_together_27 o_v0 ea12 ?_
    obtain ⟨o_a12, h⟩ := h
    obtain ⟨a13, ea13, h⟩ := h
    refine r_getNr (pc := 30) C fN_X11_311 dX11_together_30 o_a12 ea13 ?_
    refine r_iload_n (pc := 33) C dX11_together_33 2 rfl ?_
    obtain ⟨o_a13, h⟩ := h
    obtain ⟨i14, h⟩ := h
    refine r_iald (pc := 34) C dX11_together_34 o_a13 i14 ?_
    refine r_topi (fun x15 ex15 => ?_)
    have h := h x15 ex15
    refine r_callVi0 (pc := 35) C (rest := [.long v7]) (a := v0) o_v0 [.int v1, .int v3, .int v4, .int v5, .int v6, .int v9, .int (0 : Int32), .int x15] yV_X11_inTime g_1558 (c_X11_inTime h) dX11_together_35 rfl rfl (Nat.le_of_ble_eq_true rfl) ⟨by decide, by decide⟩ ⟨by decide, by decide⟩ ⟨rfl, rfl⟩ (fun x18 S16 h g17 => ?_)
    have h := h g17
    have o_a12 := gr_ob g17 o_a12
    have o_a13 := gr_ob g17 o_a13
    have o_v0 := gr_ob g17 o_v0
    refine r_i2l (pc := 38) C dX11_together_38 ?_
    refine r_ladd (pc := 39) C dX11_together_39 ?_
    refine r_topl (fun x19 ex19 => ?_)
    have h := h x19 ex19
    refine r_lstore (pc := 40) C dX11_together_40 (by decide) (lv' := [(7, .long x19), (0, .ref v0), (1, .int v1), (2, .int v2), (3, .int v3), (4, .int v4), (5, .int v5), (6, .int v6), (9, .int v9)]) rfl ?_
    refine r_lload (pc := 42) C dX11_together_42 0 rfl ?_
    refine r_aload_n (pc := 44) C dX11_together_44 1 rfl ?_
    refine r_iload_n (pc := 45) C dX11_together_45 3 rfl ?_
    refine r_iload_n (pc := 46) C dX11_together_46 4 rfl ?_
    refine r_iload (pc := 47) C dX11_together_47 5 rfl ?_
    refine r_iload (pc := 49) C dX11_together_49 6 rfl ?_
    refine r_iload (pc := 51) C dX11_together_51 7 rfl ?_
    refine r_iload (pc := 53) C dX11_together_53 8 rfl ?_
    refine r_aload_n (pc := 55) C dX11_together_55 1 rfl ?_
    obtain ⟨a20, ea20, h⟩ := h
    refine r_getr (pc := 56) C fL_X11_338 dX11_together_56 o_v0 ea20 ?_
    obtain ⟨o_a20, h⟩ := h
    obtain ⟨a21, ea21, h⟩ := h
    refine r_getNr (pc := 59) C fN_X11_311 dX11_together_59 o_a20 ea21 ?_
    refine r_iload_n (pc := 62) C dX11_together_62 2 rfl ?_
    obtain ⟨o_a21, h⟩ := h
    obtain ⟨i22, h⟩ := h
    refine r_iald (pc := 63) C dX11_together_63 o_a21 i22 ?_
    refine r_topi (fun x23 ex23 => ?_)
    have h := h x23 ex23
    refine r_iconst (pc := 64) C (v := (0 : Int32)) dX11_together_64 (by decide) ?_
    refine r_callVi0 (pc := 65) C (rest := [.long x19]) (a := v0) o_v0 [.int v2, .int v3, .int v4, .int v5, .int v6, .int v9, .int x23, .int (0 : Int32)] yV_X11_inTime g_1558 (c_X11_inTime h) dX11_together_65 rfl rfl (Nat.le_of_ble_eq_true rfl) ⟨by decide, by decide⟩ ⟨by decide, by decide⟩ ⟨rfl, rfl⟩ (fun x26 S24 h g25 => ?_)
    have h := h g25
    have o_a12 := gr_ob g25 o_a12
    have o_a13 := gr_ob g25 o_a13
    have o_a20 := gr_ob g25 o_a20
    have o_a21 := gr_ob g25 o_a21
    have o_v0 := gr_ob g25 o_v0
    refine r_i2l (pc := 68) C dX11_together_68 ?_
    refine r_ladd (pc := 69) C dX11_together_69 ?_
    refine r_topl (fun x27 ex27 => ?_)
    have h := h x27 ex27
    refine r_lstore (pc := 70) C dX11_together_70 (by decide) (lv' := [(7, .long x27), (0, .ref v0), (1, .int v1), (2, .int v2), (3, .int v3), (4, .int v4), (5, .int v5), (6, .int v6), (9, .int v9)]) rfl ?_
    obtain ⟨x28, ex28⟩ : ∃ z : Int32, z = v9 + (1 : Int32) := ⟨_, rfl⟩
    have h := h x28 ex28
    refine r_iinc (pc := 72) C (v := x28) (lv' := [(9, .int x28), (7, .long x27), (0, .ref v0), (1, .int v1), (2, .int v2), (3, .int v3), (4, .int v4), (5, .int v5), (6, .int v6)]) dX11_together_72 8 rfl ex28.symm (by decide) rfl ?_
    refine r_goto (pc := 75) C (tgt := 6) dX11_together_75 (by decide) ?_
    exact r_sub [2, 3, 4, 5, 6, 7, 8, 1, 0] rfl (hX6 v0 v1 v2 v3 v4 v5 v6 x27 x28 S24 h)
theorem T_X11_together_6 {X : CX} {Q : Int64 → HS → Prop} (C : Cx X cX11_together RX11 10 rm_X11_together) (E : ReJ X rm_X11_together Q) (ht : (xh X).sig.returnType = (some .long)) (hn : (xh X).name = yX11_together.name) {v0 : Nat} {v1 : Int32} {v2 : Int32} {v3 : Int32} {v4 : Int32} {v5 : Int32} {v6 : Int32} {v7 : Int64} {v9 : Int32} {S : HS} (h : P_X11_together_6 Q v0 v1 v2 v3 v4 v5 v6 v7 v9 S) : WS X 10 0 0 6 [(0, .ref v0), (1, .int v1), (2, .int v2), (3, .int v3), (4, .int v4), (5, .int v5), (6, .int v6), (7, .long v7), (9, .int v9)] [] S :=
  h (fun v0 v1 v2 v3 v4 v5 v6 v7 v9 S => WS X 10 0 0 6 [(0, .ref v0), (1, .int v1), (2, .int v2), (3, .int v3), (4, .int v4), (5, .int v5), (6, .int v6), (7, .long v7), (9, .int v9)] [] S) (fun v0 v1 v2 v3 v4 v5 v6 v7 v9 S hh => TB_X11_together_6 C E ht hn (fun v0 v1 v2 v3 v4 v5 v6 v7 v9 S z => z) hh)
def P_X11_together_0 (Q : Int64 → HS → Prop) (v0 : Nat) (v1 : Int32) (v2 : Int32) (v3 : Int32) (v4 : Int32) (v5 : Int32) (v6 : Int32) (S : HS) : Prop := P_X11_together_6 Q v0 v1 v2 v3 v4 v5 v6 (0 : Int64) (0 : Int32) S
set_option maxRecDepth 20000 in
set_option maxHeartbeats 4000000 in
theorem T_X11_together_0 {X : CX} {Q : Int64 → HS → Prop} (C : Cx X cX11_together RX11 10 rm_X11_together) (E : ReJ X rm_X11_together Q) (ht : (xh X).sig.returnType = (some .long)) (hn : (xh X).name = yX11_together.name) {v0 : Nat} {v1 : Int32} {v2 : Int32} {v3 : Int32} {v4 : Int32} {v5 : Int32} {v6 : Int32} {S : HS} (h : P_X11_together_0 Q v0 v1 v2 v3 v4 v5 v6 S) : WS X 10 0 0 0 [(0, .ref v0), (1, .int v1), (2, .int v2), (3, .int v3), (4, .int v4), (5, .int v5), (6, .int v6)] [] S := by
  refine r_lconst (pc := 0) C (v := (0 : Int64)) dX11_together_0 (by decide) ?_
  refine r_lstore (pc := 1) C dX11_together_1 (by decide) (lv' := [(7, .long (0 : Int64)), (0, .ref v0), (1, .int v1), (2, .int v2), (3, .int v3), (4, .int v4), (5, .int v5), (6, .int v6)]) rfl ?_
  refine r_iconst (pc := 3) C (v := (0 : Int32)) dX11_together_3 (by decide) ?_
  refine r_istore (pc := 4) C dX11_together_4 (by decide) (lv' := [(9, .int (0 : Int32)), (7, .long (0 : Int64)), (0, .ref v0), (1, .int v1), (2, .int v2), (3, .int v3), (4, .int v4), (5, .int v5), (6, .int v6)]) rfl ?_
  exact r_sub [2, 3, 4, 5, 6, 7, 8, 1, 0] rfl (T_X11_together_6 C E ht hn h)
def P_X11_together (v0 : Nat) (v1 : Int32) (v2 : Int32) (v3 : Int32) (v4 : Int32) (v5 : Int32) (v6 : Int32) (Q : Int64 → HS → Prop) (S : HS) : Prop := P_X11_together_0 Q v0 v1 v2 v3 v4 v5 v6 S
theorem c_X11_together {l : Launch} {Ee : EE} {S : HS} {v0 : Nat} {v1 : Int32} {v2 : Int32} {v3 : Int32} {v4 : Int32} {v5 : Int32} {v6 : Int32} {Q : Int64 → HS → Prop} (h : P_X11_together v0 v1 v2 v3 v4 v5 v6 Q S) : MJ l yX11_together cX11_together 10 (some .long) rm_X11_together Ee S [.ref v0, .int v1, .int v2, .int v3, .int v4, .int v5, .int v6] Q :=
  openJ (by decide) (Nat.le_of_ble_eq_true rfl) (fun X C E ht hn hE hl => by subst hE; exact r_sub [0, 1, 2, 3, 4, 5, 6] rfl (T_X11_together_0 C E ht hn h))
def rm_X11_first : Room := { frames := 5, cells := 0, slots := 0, locals := 138 }
def P_X11_first_89 (Q : Int32 → HS → Prop) (s0 : Nat) (s1 : Int32) (S : HS) : Prop := ob S s0 11 ∧ (P_X11_good s0 s1 (fun x3 S1 => Gr S S1 → (Q x3 S1)) S)
set_option maxRecDepth 20000 in
set_option maxHeartbeats 4000000 in
theorem T_X11_first_89 {X : CX} {Q : Int32 → HS → Prop} (C : Cx X cX11_first RX11 12 rm_X11_first) (E : ReI X rm_X11_first Q) (ht : (xh X).sig.returnType = (some .int)) (hn : (xh X).name = yX11_first.name) {s0 : Nat} {s1 : Int32} {S : HS} (h : P_X11_first_89 Q s0 s1 S) : WS X 12 0 0 89 [] [.int s1, .ref s0] S := by
  obtain ⟨o_s0, h⟩ := h
  refine r_callVi0 (pc := 89) C (rest := []) (a := s0) o_s0 [.int s1] yV_X11_good g_1518 (c_X11_good h) dX11_first_89 rfl rfl (Nat.le_of_ble_eq_true rfl) ⟨by decide, by decide⟩ ⟨by decide, by decide⟩ ⟨rfl, rfl⟩ (fun x3 S1 h g2 => ?_)
  have h := h g2
  have o_s0 := gr_ob g2 o_s0
  exact r_iret (pc := 92) C E ht dX11_first_92 (by decide) (by decide) h
def P_X11_first_0 (Q : Int32 → HS → Prop) (v0 : Nat) (v1 : Int32) (v2 : Int32) (v3 : Int32) (v4 : Int32) (v5 : Int32) (v6 : Int32) (S : HS) : Prop := ob S v0 11 ∧ (∀ S1 : HS, S1 = sI S v0 0 (0 : Int32) → (P_X11_refusesTwo v0 v1 v2 v3 v4 v5 v6 (fun x4 S2 => Gr S1 S2 → (((x4 ≤ 0) → (P_X11_together v0 v1 v2 v3 v4 v5 v6 (fun x8 S6 => Gr S2 S6 → (P_X11_together v0 v2 v1 v3 v4 v5 v6 (fun x11 S9 => Gr S6 S9 → (((0 ≤ (lg_cmp x8 x11)) → (((0 ≤ (lg_cmp x11 x8)) → (P_X11_first_89 Q v0 (-2 : Int32) S9)) ∧ ((¬ 0 ≤ (lg_cmp x11 x8)) → (P_X11_first_89 Q v0 (1 : Int32) S9)))) ∧ ((¬ 0 ≤ (lg_cmp x8 x11)) → (P_X11_first_89 Q v0 (0 : Int32) S9)))) S6)) S2)) ∧ ((¬ x4 ≤ 0) → (P_X11_refused v0 x4 (fun x16 S14 => Gr S2 S14 → (Q x16 S14)) S2)))) S1))
set_option maxRecDepth 20000 in
set_option maxHeartbeats 4000000 in
theorem T_X11_first_0 {X : CX} {Q : Int32 → HS → Prop} (C : Cx X cX11_first RX11 12 rm_X11_first) (E : ReI X rm_X11_first Q) (ht : (xh X).sig.returnType = (some .int)) (hn : (xh X).name = yX11_first.name) {v0 : Nat} {v1 : Int32} {v2 : Int32} {v3 : Int32} {v4 : Int32} {v5 : Int32} {v6 : Int32} {S : HS} (h : P_X11_first_0 Q v0 v1 v2 v3 v4 v5 v6 S) : WS X 12 0 0 0 [(0, .ref v0), (1, .int v1), (2, .int v2), (3, .int v3), (4, .int v4), (5, .int v5), (6, .int v6)] [] S := by
  refine r_aload_n (pc := 0) C dX11_first_0 0 rfl ?_
  refine r_iconst (pc := 1) C (v := (0 : Int32)) dX11_first_1 (by decide) ?_
  obtain ⟨o_v0, h⟩ := h
  refine r_puti (pc := 2) C pfL_X11_40 dX11_first_2 o_v0 ?_
  refine r_heap (fun S1 eS1 => ?_)
  have h := h S1 eS1
  have o_v0 := ob_I eS1 o_v0
  refine r_aload_n (pc := 5) C dX11_first_5 0 rfl ?_
  refine r_iload_n (pc := 6) C dX11_first_6 1 rfl ?_
  refine r_iload_n (pc := 7) C dX11_first_7 2 rfl ?_
  refine r_iload_n (pc := 8) C dX11_first_8 3 rfl ?_
  refine r_iload (pc := 9) C dX11_first_9 4 rfl ?_
  refine r_iload (pc := 11) C dX11_first_11 5 rfl ?_
  refine r_iload (pc := 13) C dX11_first_13 6 rfl ?_
  refine r_callVi0 (pc := 15) C (rest := []) (a := v0) o_v0 [.int v1, .int v2, .int v3, .int v4, .int v5, .int v6] yV_X11_refusesTwo g_1659 (c_X11_refusesTwo h) dX11_first_15 rfl rfl (Nat.le_of_ble_eq_true rfl) ⟨by decide, by decide⟩ ⟨by decide, by decide⟩ ⟨rfl, rfl⟩ (fun x4 S2 h g3 => ?_)
  have h := h g3
  have o_v0 := gr_ob g3 o_v0
  refine r_istore (pc := 18) C dX11_first_18 (by decide) (lv' := [(7, .int x4), (0, .ref v0), (1, .int v1), (2, .int v2), (3, .int v3), (4, .int v4), (5, .int v5), (6, .int v6)]) rfl ?_
  refine r_iload (pc := 20) C dX11_first_20 0 rfl ?_
  refine r_if_le (pc := 22) C (tgt := 32) dX11_first_22 (by decide) (fun c5 => ?_) (fun c5 => ?_)
  · have h := h.1 c5
    refine r_aload_n (pc := 32) C dX11_first_32 1 rfl ?_
    refine r_iload_n (pc := 33) C dX11_first_33 2 rfl ?_
    refine r_iload_n (pc := 34) C dX11_first_34 3 rfl ?_
    refine r_iload_n (pc := 35) C dX11_first_35 4 rfl ?_
    refine r_iload (pc := 36) C dX11_first_36 5 rfl ?_
    refine r_iload (pc := 38) C dX11_first_38 6 rfl ?_
    refine r_iload (pc := 40) C dX11_first_40 7 rfl ?_
    refine r_callVl0 (pc := 42) C (rest := []) (a := v0) o_v0 [.int v1, .int v2, .int v3, .int v4, .int v5, .int v6] yV_X11_together g_1663 (c_X11_together h) dX11_first_42 rfl rfl (Nat.le_of_ble_eq_true rfl) ⟨by decide, by decide⟩ ⟨by decide, by decide⟩ ⟨rfl, rfl⟩ (fun x8 S6 h g7 => ?_)
    have h := h g7
    have o_v0 := gr_ob g7 o_v0
    refine r_lstore (pc := 45) C dX11_first_45 (by decide) (lv' := [(8, .long x8), (7, .int x4), (0, .ref v0), (1, .int v1), (2, .int v2), (3, .int v3), (4, .int v4), (5, .int v5), (6, .int v6)]) rfl ?_
    refine r_aload_n (pc := 47) C dX11_first_47 2 rfl ?_
    refine r_iload_n (pc := 48) C dX11_first_48 4 rfl ?_
    refine r_iload_n (pc := 49) C dX11_first_49 3 rfl ?_
    refine r_iload_n (pc := 50) C dX11_first_50 5 rfl ?_
    refine r_iload (pc := 51) C dX11_first_51 6 rfl ?_
    refine r_iload (pc := 53) C dX11_first_53 7 rfl ?_
    refine r_iload (pc := 55) C dX11_first_55 8 rfl ?_
    refine r_callVl0 (pc := 57) C (rest := []) (a := v0) o_v0 [.int v2, .int v1, .int v3, .int v4, .int v5, .int v6] yV_X11_together g_1663 (c_X11_together h) dX11_first_57 rfl rfl (Nat.le_of_ble_eq_true rfl) ⟨by decide, by decide⟩ ⟨by decide, by decide⟩ ⟨rfl, rfl⟩ (fun x11 S9 h g10 => ?_)
    have h := h g10
    have o_v0 := gr_ob g10 o_v0
    refine r_lstore (pc := 60) C dX11_first_60 (by decide) (lv' := [(10, .long x11), (8, .long x8), (7, .int x4), (0, .ref v0), (1, .int v1), (2, .int v2), (3, .int v3), (4, .int v4), (5, .int v5), (6, .int v6)]) rfl ?_
    refine r_aload_n (pc := 62) C dX11_first_62 3 rfl ?_
    refine r_lload (pc := 63) C dX11_first_63 1 rfl ?_
    refine r_lload (pc := 65) C dX11_first_65 0 rfl ?_
    refine r_lcmp (pc := 67) C dX11_first_67 ?_
    refine r_if_ge (pc := 68) C (tgt := 75) dX11_first_68 (by decide) (fun c12 => ?_) (fun c12 => ?_)
    · have h := h.1 c12
      refine r_lload (pc := 75) C dX11_first_75 0 rfl ?_
      refine r_lload (pc := 77) C dX11_first_77 1 rfl ?_
      refine r_lcmp (pc := 79) C dX11_first_79 ?_
      refine r_if_ge (pc := 80) C (tgt := 87) dX11_first_80 (by decide) (fun c13 => ?_) (fun c13 => ?_)
      · have h := h.1 c13
        refine r_bipush (pc := 87) C (v := (-2 : Int32)) dX11_first_87 (by decide) ?_
        exact r_sub [] rfl (T_X11_first_89 C E ht hn h)
      · have h := h.2 c13
        refine r_iconst (pc := 83) C (v := (1 : Int32)) dX11_first_83 (by decide) ?_
        refine r_goto (pc := 84) C (tgt := 89) dX11_first_84 (by decide) ?_
        exact r_sub [] rfl (T_X11_first_89 C E ht hn h)
    · have h := h.2 c12
      refine r_iconst (pc := 71) C (v := (0 : Int32)) dX11_first_71 (by decide) ?_
      refine r_goto (pc := 72) C (tgt := 89) dX11_first_72 (by decide) ?_
      exact r_sub [] rfl (T_X11_first_89 C E ht hn h)
  · have h := h.2 c5
    refine r_aload_n (pc := 25) C dX11_first_25 1 rfl ?_
    refine r_iload (pc := 26) C dX11_first_26 0 rfl ?_
    refine r_callVi0 (pc := 28) C (rest := []) (a := v0) o_v0 [.int x4] yV_X11_refused g_1250 (c_X11_refused h) dX11_first_28 rfl rfl (Nat.le_of_ble_eq_true rfl) ⟨by decide, by decide⟩ ⟨by decide, by decide⟩ ⟨rfl, rfl⟩ (fun x16 S14 h g15 => ?_)
    have h := h g15
    have o_v0 := gr_ob g15 o_v0
    exact r_iret (pc := 31) C E ht dX11_first_31 (by decide) (by decide) h
def P_X11_first (v0 : Nat) (v1 : Int32) (v2 : Int32) (v3 : Int32) (v4 : Int32) (v5 : Int32) (v6 : Int32) (Q : Int32 → HS → Prop) (S : HS) : Prop := P_X11_first_0 Q v0 v1 v2 v3 v4 v5 v6 S
theorem c_X11_first {l : Launch} {Ee : EE} {S : HS} {v0 : Nat} {v1 : Int32} {v2 : Int32} {v3 : Int32} {v4 : Int32} {v5 : Int32} {v6 : Int32} {Q : Int32 → HS → Prop} (h : P_X11_first v0 v1 v2 v3 v4 v5 v6 Q S) : MI l yX11_first cX11_first 12 (some .int) rm_X11_first Ee S [.ref v0, .int v1, .int v2, .int v3, .int v4, .int v5, .int v6] Q :=
  openI (by decide) (Nat.le_of_ble_eq_true rfl) (fun X C E ht hn hE hl => by subst hE; exact r_sub [0, 1, 2, 3, 4, 5, 6] rfl (T_X11_first_0 C E ht hn h))
def rm_X11_fitOf : Room := { frames := 5, cells := 0, slots := 0, locals := 135 }
def P_X11_fitOf_137 (Q : Int32 → HS → Prop) (X16 : Nat → Int32 → Int32 → Int32 → Int32 → Int32 → HS → Prop) (X31 : Nat → Int32 → Int32 → Int32 → Int32 → Int32 → Int32 → HS → Prop) (X40 : Nat → Int32 → Int32 → Int32 → Int32 → Int32 → Int32 → Int32 → HS → Prop) (X63 : Nat → Int32 → Int32 → Int32 → Int32 → Int32 → Int32 → Int32 → Int32 → HS → Prop) (X83 : Nat → Int32 → Int32 → Int32 → Int32 → Int32 → Int32 → Int32 → Int32 → Int32 → Int32 → HS → Prop) (v0 : Nat) (v1 : Int32) (v2 : Int32) (v3 : Int32) (v4 : Int32) (v5 : Int32) (v6 : Int32) (v7 : Int32) (v8 : Int32) (v10 : Int32) (s0 : Int32) (S : HS) : Prop := ∀ x1 : Int32, x1 = v10 + (1 : Int32) → (X83 v0 v1 v2 v3 v4 v5 v6 v7 v8 s0 x1 S)
set_option maxRecDepth 20000 in
set_option maxHeartbeats 4000000 in
theorem T_X11_fitOf_137 {X : CX} {Q : Int32 → HS → Prop} (C : Cx X cX11_fitOf RX11 11 rm_X11_fitOf) (E : ReI X rm_X11_fitOf Q) (ht : (xh X).sig.returnType = (some .int)) (hn : (xh X).name = yX11_fitOf.name) {X16 : Nat → Int32 → Int32 → Int32 → Int32 → Int32 → HS → Prop} (hX16 : ∀ (v0 : Nat) (v1 : Int32) (v2 : Int32) (v3 : Int32) (v4 : Int32) (v5 : Int32) (S : HS), X16 v0 v1 v2 v3 v4 v5 S → WS X 11 0 0 16 [(0, .ref v0), (1, .int v1), (2, .int v2), (3, .int v3), (4, .int v4), (5, .int v5)] [] S) {X31 : Nat → Int32 → Int32 → Int32 → Int32 → Int32 → Int32 → HS → Prop} (hX31 : ∀ (v0 : Nat) (v1 : Int32) (v2 : Int32) (v3 : Int32) (v4 : Int32) (v5 : Int32) (v6 : Int32) (S : HS), X31 v0 v1 v2 v3 v4 v5 v6 S → WS X 11 0 0 31 [(0, .ref v0), (1, .int v1), (2, .int v2), (3, .int v3), (4, .int v4), (5, .int v5), (6, .int v6)] [] S) {X40 : Nat → Int32 → Int32 → Int32 → Int32 → Int32 → Int32 → Int32 → HS → Prop} (hX40 : ∀ (v0 : Nat) (v1 : Int32) (v2 : Int32) (v3 : Int32) (v4 : Int32) (v5 : Int32) (v6 : Int32) (v7 : Int32) (S : HS), X40 v0 v1 v2 v3 v4 v5 v6 v7 S → WS X 11 0 0 40 [(0, .ref v0), (1, .int v1), (2, .int v2), (3, .int v3), (4, .int v4), (5, .int v5), (6, .int v6), (7, .int v7)] [] S) {X63 : Nat → Int32 → Int32 → Int32 → Int32 → Int32 → Int32 → Int32 → Int32 → HS → Prop} (hX63 : ∀ (v0 : Nat) (v1 : Int32) (v2 : Int32) (v3 : Int32) (v4 : Int32) (v5 : Int32) (v6 : Int32) (v7 : Int32) (v8 : Int32) (S : HS), X63 v0 v1 v2 v3 v4 v5 v6 v7 v8 S → WS X 11 0 0 63 [(0, .ref v0), (1, .int v1), (2, .int v2), (3, .int v3), (4, .int v4), (5, .int v5), (6, .int v6), (7, .int v7), (8, .int v8)] [] S) {X83 : Nat → Int32 → Int32 → Int32 → Int32 → Int32 → Int32 → Int32 → Int32 → Int32 → Int32 → HS → Prop} (hX83 : ∀ (v0 : Nat) (v1 : Int32) (v2 : Int32) (v3 : Int32) (v4 : Int32) (v5 : Int32) (v6 : Int32) (v7 : Int32) (v8 : Int32) (v9 : Int32) (v10 : Int32) (S : HS), X83 v0 v1 v2 v3 v4 v5 v6 v7 v8 v9 v10 S → WS X 11 0 0 83 [(0, .ref v0), (1, .int v1), (2, .int v2), (3, .int v3), (4, .int v4), (5, .int v5), (6, .int v6), (7, .int v7), (8, .int v8), (9, .int v9), (10, .int v10)] [] S) {v0 : Nat} {v1 : Int32} {v2 : Int32} {v3 : Int32} {v4 : Int32} {v5 : Int32} {v6 : Int32} {v7 : Int32} {v8 : Int32} {v10 : Int32} {s0 : Int32} {S : HS} (h : P_X11_fitOf_137 Q X16 X31 X40 X63 X83 v0 v1 v2 v3 v4 v5 v6 v7 v8 v10 s0 S) : WS X 11 0 0 137 [(0, .ref v0), (1, .int v1), (2, .int v2), (3, .int v3), (4, .int v4), (5, .int v5), (6, .int v6), (7, .int v7), (8, .int v8), (10, .int v10)] [.int s0] S := by
  refine r_istore (pc := 137) C dX11_fitOf_137 (by decide) (lv' := [(9, .int s0), (0, .ref v0), (1, .int v1), (2, .int v2), (3, .int v3), (4, .int v4), (5, .int v5), (6, .int v6), (7, .int v7), (8, .int v8), (10, .int v10)]) rfl ?_
  obtain ⟨x1, ex1⟩ : ∃ z : Int32, z = v10 + (1 : Int32) := ⟨_, rfl⟩
  have h := h x1 ex1
  refine r_iinc (pc := 139) C (v := x1) (lv' := [(10, .int x1), (9, .int s0), (0, .ref v0), (1, .int v1), (2, .int v2), (3, .int v3), (4, .int v4), (5, .int v5), (6, .int v6), (7, .int v7), (8, .int v8)]) dX11_fitOf_139 10 rfl ex1.symm (by decide) rfl ?_
  refine r_goto (pc := 142) C (tgt := 83) dX11_fitOf_142 (by decide) ?_
  exact r_sub [2, 3, 4, 5, 6, 7, 8, 9, 10, 1, 0] rfl (hX83 v0 v1 v2 v3 v4 v5 v6 v7 v8 s0 x1 S h)
def P_X11_fitOf_136 (Q : Int32 → HS → Prop) (X16 : Nat → Int32 → Int32 → Int32 → Int32 → Int32 → HS → Prop) (X31 : Nat → Int32 → Int32 → Int32 → Int32 → Int32 → Int32 → HS → Prop) (X40 : Nat → Int32 → Int32 → Int32 → Int32 → Int32 → Int32 → Int32 → HS → Prop) (X63 : Nat → Int32 → Int32 → Int32 → Int32 → Int32 → Int32 → Int32 → Int32 → HS → Prop) (X83 : Nat → Int32 → Int32 → Int32 → Int32 → Int32 → Int32 → Int32 → Int32 → Int32 → Int32 → HS → Prop) (v0 : Nat) (v1 : Int32) (v2 : Int32) (v3 : Int32) (v4 : Int32) (v5 : Int32) (v6 : Int32) (v7 : Int32) (v8 : Int32) (v10 : Int32) (S : HS) : Prop := P_X11_fitOf_137 Q X16 X31 X40 X63 X83 v0 v1 v2 v3 v4 v5 v6 v7 v8 v10 (0 : Int32) S
set_option maxRecDepth 20000 in
set_option maxHeartbeats 4000000 in
theorem T_X11_fitOf_136 {X : CX} {Q : Int32 → HS → Prop} (C : Cx X cX11_fitOf RX11 11 rm_X11_fitOf) (E : ReI X rm_X11_fitOf Q) (ht : (xh X).sig.returnType = (some .int)) (hn : (xh X).name = yX11_fitOf.name) {X16 : Nat → Int32 → Int32 → Int32 → Int32 → Int32 → HS → Prop} (hX16 : ∀ (v0 : Nat) (v1 : Int32) (v2 : Int32) (v3 : Int32) (v4 : Int32) (v5 : Int32) (S : HS), X16 v0 v1 v2 v3 v4 v5 S → WS X 11 0 0 16 [(0, .ref v0), (1, .int v1), (2, .int v2), (3, .int v3), (4, .int v4), (5, .int v5)] [] S) {X31 : Nat → Int32 → Int32 → Int32 → Int32 → Int32 → Int32 → HS → Prop} (hX31 : ∀ (v0 : Nat) (v1 : Int32) (v2 : Int32) (v3 : Int32) (v4 : Int32) (v5 : Int32) (v6 : Int32) (S : HS), X31 v0 v1 v2 v3 v4 v5 v6 S → WS X 11 0 0 31 [(0, .ref v0), (1, .int v1), (2, .int v2), (3, .int v3), (4, .int v4), (5, .int v5), (6, .int v6)] [] S) {X40 : Nat → Int32 → Int32 → Int32 → Int32 → Int32 → Int32 → Int32 → HS → Prop} (hX40 : ∀ (v0 : Nat) (v1 : Int32) (v2 : Int32) (v3 : Int32) (v4 : Int32) (v5 : Int32) (v6 : Int32) (v7 : Int32) (S : HS), X40 v0 v1 v2 v3 v4 v5 v6 v7 S → WS X 11 0 0 40 [(0, .ref v0), (1, .int v1), (2, .int v2), (3, .int v3), (4, .int v4), (5, .int v5), (6, .int v6), (7, .int v7)] [] S) {X63 : Nat → Int32 → Int32 → Int32 → Int32 → Int32 → Int32 → Int32 → Int32 → HS → Prop} (hX63 : ∀ (v0 : Nat) (v1 : Int32) (v2 : Int32) (v3 : Int32) (v4 : Int32) (v5 : Int32) (v6 : Int32) (v7 : Int32) (v8 : Int32) (S : HS), X63 v0 v1 v2 v3 v4 v5 v6 v7 v8 S → WS X 11 0 0 63 [(0, .ref v0), (1, .int v1), (2, .int v2), (3, .int v3), (4, .int v4), (5, .int v5), (6, .int v6), (7, .int v7), (8, .int v8)] [] S) {X83 : Nat → Int32 → Int32 → Int32 → Int32 → Int32 → Int32 → Int32 → Int32 → Int32 → Int32 → HS → Prop} (hX83 : ∀ (v0 : Nat) (v1 : Int32) (v2 : Int32) (v3 : Int32) (v4 : Int32) (v5 : Int32) (v6 : Int32) (v7 : Int32) (v8 : Int32) (v9 : Int32) (v10 : Int32) (S : HS), X83 v0 v1 v2 v3 v4 v5 v6 v7 v8 v9 v10 S → WS X 11 0 0 83 [(0, .ref v0), (1, .int v1), (2, .int v2), (3, .int v3), (4, .int v4), (5, .int v5), (6, .int v6), (7, .int v7), (8, .int v8), (9, .int v9), (10, .int v10)] [] S) {v0 : Nat} {v1 : Int32} {v2 : Int32} {v3 : Int32} {v4 : Int32} {v5 : Int32} {v6 : Int32} {v7 : Int32} {v8 : Int32} {v10 : Int32} {S : HS} (h : P_X11_fitOf_136 Q X16 X31 X40 X63 X83 v0 v1 v2 v3 v4 v5 v6 v7 v8 v10 S) : WS X 11 0 0 136 [(0, .ref v0), (1, .int v1), (2, .int v2), (3, .int v3), (4, .int v4), (5, .int v5), (6, .int v6), (7, .int v7), (8, .int v8), (10, .int v10)] [] S := by
  refine r_iconst (pc := 136) C (v := (0 : Int32)) dX11_fitOf_136 (by decide) ?_
  exact r_sub [0, 1, 2, 3, 4, 5, 6, 7, 8, 9] rfl (T_X11_fitOf_137 C E ht hn hX16 hX31 hX40 hX63 hX83 h)
def P_X11_fitOf_184 (Q : Int32 → HS → Prop) (X16 : Nat → Int32 → Int32 → Int32 → Int32 → Int32 → HS → Prop) (X31 : Nat → Int32 → Int32 → Int32 → Int32 → Int32 → Int32 → HS → Prop) (X40 : Nat → Int32 → Int32 → Int32 → Int32 → Int32 → Int32 → Int32 → HS → Prop) (X63 : Nat → Int32 → Int32 → Int32 → Int32 → Int32 → Int32 → Int32 → Int32 → HS → Prop) (v0 : Nat) (v1 : Int32) (v2 : Int32) (v3 : Int32) (v4 : Int32) (v5 : Int32) (v6 : Int32) (v7 : Int32) (v8 : Int32) (S : HS) : Prop := ∀ x1 : Int32, x1 = v8 + (1 : Int32) → (X63 v0 v1 v2 v3 v4 v5 v6 v7 x1 S)
set_option maxRecDepth 20000 in
set_option maxHeartbeats 4000000 in
theorem T_X11_fitOf_184 {X : CX} {Q : Int32 → HS → Prop} (C : Cx X cX11_fitOf RX11 11 rm_X11_fitOf) (E : ReI X rm_X11_fitOf Q) (ht : (xh X).sig.returnType = (some .int)) (hn : (xh X).name = yX11_fitOf.name) {X16 : Nat → Int32 → Int32 → Int32 → Int32 → Int32 → HS → Prop} (hX16 : ∀ (v0 : Nat) (v1 : Int32) (v2 : Int32) (v3 : Int32) (v4 : Int32) (v5 : Int32) (S : HS), X16 v0 v1 v2 v3 v4 v5 S → WS X 11 0 0 16 [(0, .ref v0), (1, .int v1), (2, .int v2), (3, .int v3), (4, .int v4), (5, .int v5)] [] S) {X31 : Nat → Int32 → Int32 → Int32 → Int32 → Int32 → Int32 → HS → Prop} (hX31 : ∀ (v0 : Nat) (v1 : Int32) (v2 : Int32) (v3 : Int32) (v4 : Int32) (v5 : Int32) (v6 : Int32) (S : HS), X31 v0 v1 v2 v3 v4 v5 v6 S → WS X 11 0 0 31 [(0, .ref v0), (1, .int v1), (2, .int v2), (3, .int v3), (4, .int v4), (5, .int v5), (6, .int v6)] [] S) {X40 : Nat → Int32 → Int32 → Int32 → Int32 → Int32 → Int32 → Int32 → HS → Prop} (hX40 : ∀ (v0 : Nat) (v1 : Int32) (v2 : Int32) (v3 : Int32) (v4 : Int32) (v5 : Int32) (v6 : Int32) (v7 : Int32) (S : HS), X40 v0 v1 v2 v3 v4 v5 v6 v7 S → WS X 11 0 0 40 [(0, .ref v0), (1, .int v1), (2, .int v2), (3, .int v3), (4, .int v4), (5, .int v5), (6, .int v6), (7, .int v7)] [] S) {X63 : Nat → Int32 → Int32 → Int32 → Int32 → Int32 → Int32 → Int32 → Int32 → HS → Prop} (hX63 : ∀ (v0 : Nat) (v1 : Int32) (v2 : Int32) (v3 : Int32) (v4 : Int32) (v5 : Int32) (v6 : Int32) (v7 : Int32) (v8 : Int32) (S : HS), X63 v0 v1 v2 v3 v4 v5 v6 v7 v8 S → WS X 11 0 0 63 [(0, .ref v0), (1, .int v1), (2, .int v2), (3, .int v3), (4, .int v4), (5, .int v5), (6, .int v6), (7, .int v7), (8, .int v8)] [] S) {v0 : Nat} {v1 : Int32} {v2 : Int32} {v3 : Int32} {v4 : Int32} {v5 : Int32} {v6 : Int32} {v7 : Int32} {v8 : Int32} {S : HS} (h : P_X11_fitOf_184 Q X16 X31 X40 X63 v0 v1 v2 v3 v4 v5 v6 v7 v8 S) : WS X 11 0 0 184 [(0, .ref v0), (1, .int v1), (2, .int v2), (3, .int v3), (4, .int v4), (5, .int v5), (6, .int v6), (7, .int v7), (8, .int v8)] [] S := by
  obtain ⟨x1, ex1⟩ : ∃ z : Int32, z = v8 + (1 : Int32) := ⟨_, rfl⟩
  have h := h x1 ex1
  refine r_iinc (pc := 184) C (v := x1) (lv' := [(8, .int x1), (0, .ref v0), (1, .int v1), (2, .int v2), (3, .int v3), (4, .int v4), (5, .int v5), (6, .int v6), (7, .int v7)]) dX11_fitOf_184 8 rfl ex1.symm (by decide) rfl ?_
  refine r_goto (pc := 187) C (tgt := 63) dX11_fitOf_187 (by decide) ?_
  exact r_sub [1, 2, 3, 4, 5, 6, 7, 8, 0] rfl (hX63 v0 v1 v2 v3 v4 v5 v6 v7 x1 S h)
def B_X11_fitOf_83 (Q : Int32 → HS → Prop) (X16 : Nat → Int32 → Int32 → Int32 → Int32 → Int32 → HS → Prop) (X31 : Nat → Int32 → Int32 → Int32 → Int32 → Int32 → Int32 → HS → Prop) (X40 : Nat → Int32 → Int32 → Int32 → Int32 → Int32 → Int32 → Int32 → HS → Prop) (X63 : Nat → Int32 → Int32 → Int32 → Int32 → Int32 → Int32 → Int32 → Int32 → HS → Prop) (X83 : Nat → Int32 → Int32 → Int32 → Int32 → Int32 → Int32 → Int32 → Int32 → Int32 → Int32 → HS → Prop) (v0 : Nat) (v1 : Int32) (v2 : Int32) (v3 : Int32) (v4 : Int32) (v5 : Int32) (v6 : Int32) (v7 : Int32) (v8 : Int32) (v9 : Int32) (v10 : Int32) (S : HS) : Prop := (((5 : Int32) ≤ v10) → (((¬ v9 = 0) → (((¬ v4 = v2) → (∀ x4 : Int32, x4 = v4 + (1 : Int32) → (P_X11_fitOf_184 Q X16 X31 X40 X63 v0 v1 v2 v3 x4 v5 v6 v7 v8 S))) ∧ ((v4 = v2) → (Q (((((1000 : Int32) * v5) + ((100 : Int32) * v6)) + ((10 : Int32) * v7)) + v8) S)))) ∧ ((v9 = 0) → (P_X11_fitOf_184 Q X16 X31 X40 X63 v0 v1 v2 v3 v4 v5 v6 v7 v8 S)))) ∧ ((¬ (5 : Int32) ≤ v10) → (((v9 = 0) → (P_X11_fitOf_136 Q X16 X31 X40 X63 X83 v0 v1 v2 v3 v4 v5 v6 v7 v8 v10 S)) ∧ ((¬ v9 = 0) → (ob S v0 11 ∧ (P_X11_partsOf v0 v3 v5 v6 v7 v8 v10 (fun x8 S6 => Gr S S6 → (∃ a9 : Nat, fR S6 v0 3 = some a9 ∧ (ob S6 a9 10 ∧ (∃ a10 : Nat, fR S6 a9 27 = some a10 ∧ (ob S6 a10 13 ∧ (∀ x12 : Int32, x12 = ((5 : Int32) * v1) + v10 → (vp_in x12 (hN S6 a10) ∧ ∀ x13 : Int32, x13 = fI S6 a10 x12.toNatClampNeg → (((¬ (lg_cmp x8 ((2520 : Int64) * x13.toInt64)) = 0) → (P_X11_fitOf_136 Q X16 X31 X40 X63 X83 v0 v1 v2 v3 v4 v5 v6 v7 v8 v10 S6)) ∧ (((lg_cmp x8 ((2520 : Int64) * x13.toInt64)) = 0) → (P_X11_fitOf_137 Q X16 X31 X40 X63 X83 v0 v1 v2 v3 v4 v5 v6 v7 v8 v10 (1 : Int32) S6)))))))))) S)))))
def P_X11_fitOf_83 (Q : Int32 → HS → Prop) (X16 : Nat → Int32 → Int32 → Int32 → Int32 → Int32 → HS → Prop) (X31 : Nat → Int32 → Int32 → Int32 → Int32 → Int32 → Int32 → HS → Prop) (X40 : Nat → Int32 → Int32 → Int32 → Int32 → Int32 → Int32 → Int32 → HS → Prop) (X63 : Nat → Int32 → Int32 → Int32 → Int32 → Int32 → Int32 → Int32 → Int32 → HS → Prop) (v0 : Nat) (v1 : Int32) (v2 : Int32) (v3 : Int32) (v4 : Int32) (v5 : Int32) (v6 : Int32) (v7 : Int32) (v8 : Int32) (v9 : Int32) (v10 : Int32) (S : HS) : Prop := ∀ X83 : Nat → Int32 → Int32 → Int32 → Int32 → Int32 → Int32 → Int32 → Int32 → Int32 → Int32 → HS → Prop, (∀ (v0 : Nat) (v1 : Int32) (v2 : Int32) (v3 : Int32) (v4 : Int32) (v5 : Int32) (v6 : Int32) (v7 : Int32) (v8 : Int32) (v9 : Int32) (v10 : Int32) (S : HS), B_X11_fitOf_83 Q X16 X31 X40 X63 X83 v0 v1 v2 v3 v4 v5 v6 v7 v8 v9 v10 S → X83 v0 v1 v2 v3 v4 v5 v6 v7 v8 v9 v10 S) → X83 v0 v1 v2 v3 v4 v5 v6 v7 v8 v9 v10 S
set_option maxRecDepth 20000 in
set_option maxHeartbeats 4000000 in
theorem TB_X11_fitOf_83 {X : CX} {Q : Int32 → HS → Prop} (C : Cx X cX11_fitOf RX11 11 rm_X11_fitOf) (E : ReI X rm_X11_fitOf Q) (ht : (xh X).sig.returnType = (some .int)) (hn : (xh X).name = yX11_fitOf.name) {X16 : Nat → Int32 → Int32 → Int32 → Int32 → Int32 → HS → Prop} (hX16 : ∀ (v0 : Nat) (v1 : Int32) (v2 : Int32) (v3 : Int32) (v4 : Int32) (v5 : Int32) (S : HS), X16 v0 v1 v2 v3 v4 v5 S → WS X 11 0 0 16 [(0, .ref v0), (1, .int v1), (2, .int v2), (3, .int v3), (4, .int v4), (5, .int v5)] [] S) {X31 : Nat → Int32 → Int32 → Int32 → Int32 → Int32 → Int32 → HS → Prop} (hX31 : ∀ (v0 : Nat) (v1 : Int32) (v2 : Int32) (v3 : Int32) (v4 : Int32) (v5 : Int32) (v6 : Int32) (S : HS), X31 v0 v1 v2 v3 v4 v5 v6 S → WS X 11 0 0 31 [(0, .ref v0), (1, .int v1), (2, .int v2), (3, .int v3), (4, .int v4), (5, .int v5), (6, .int v6)] [] S) {X40 : Nat → Int32 → Int32 → Int32 → Int32 → Int32 → Int32 → Int32 → HS → Prop} (hX40 : ∀ (v0 : Nat) (v1 : Int32) (v2 : Int32) (v3 : Int32) (v4 : Int32) (v5 : Int32) (v6 : Int32) (v7 : Int32) (S : HS), X40 v0 v1 v2 v3 v4 v5 v6 v7 S → WS X 11 0 0 40 [(0, .ref v0), (1, .int v1), (2, .int v2), (3, .int v3), (4, .int v4), (5, .int v5), (6, .int v6), (7, .int v7)] [] S) {X63 : Nat → Int32 → Int32 → Int32 → Int32 → Int32 → Int32 → Int32 → Int32 → HS → Prop} (hX63 : ∀ (v0 : Nat) (v1 : Int32) (v2 : Int32) (v3 : Int32) (v4 : Int32) (v5 : Int32) (v6 : Int32) (v7 : Int32) (v8 : Int32) (S : HS), X63 v0 v1 v2 v3 v4 v5 v6 v7 v8 S → WS X 11 0 0 63 [(0, .ref v0), (1, .int v1), (2, .int v2), (3, .int v3), (4, .int v4), (5, .int v5), (6, .int v6), (7, .int v7), (8, .int v8)] [] S) {X83 : Nat → Int32 → Int32 → Int32 → Int32 → Int32 → Int32 → Int32 → Int32 → Int32 → Int32 → HS → Prop} (hX83 : ∀ (v0 : Nat) (v1 : Int32) (v2 : Int32) (v3 : Int32) (v4 : Int32) (v5 : Int32) (v6 : Int32) (v7 : Int32) (v8 : Int32) (v9 : Int32) (v10 : Int32) (S : HS), X83 v0 v1 v2 v3 v4 v5 v6 v7 v8 v9 v10 S → WS X 11 0 0 83 [(0, .ref v0), (1, .int v1), (2, .int v2), (3, .int v3), (4, .int v4), (5, .int v5), (6, .int v6), (7, .int v7), (8, .int v8), (9, .int v9), (10, .int v10)] [] S) {v0 : Nat} {v1 : Int32} {v2 : Int32} {v3 : Int32} {v4 : Int32} {v5 : Int32} {v6 : Int32} {v7 : Int32} {v8 : Int32} {v9 : Int32} {v10 : Int32} {S : HS} (h : B_X11_fitOf_83 Q X16 X31 X40 X63 X83 v0 v1 v2 v3 v4 v5 v6 v7 v8 v9 v10 S) : WS X 11 0 0 83 [(0, .ref v0), (1, .int v1), (2, .int v2), (3, .int v3), (4, .int v4), (5, .int v5), (6, .int v6), (7, .int v7), (8, .int v8), (9, .int v9), (10, .int v10)] [] S := by
  refine r_iload (pc := 83) C dX11_fitOf_83 10 rfl ?_
  refine r_iconst (pc := 85) C (v := (5 : Int32)) dX11_fitOf_85 (by decide) ?_
  refine r_icmp_ge (pc := 86) C (tgt := 145) dX11_fitOf_86 (by decide) (fun c1 => ?_) (fun c1 => ?_)
  · have h := h.1 c1
    refine r_iload (pc := 145) C dX11_fitOf_145 9 rfl ?_
    refine r_if_ne (pc := 147) C (tgt := 153) dX11_fitOf_147 (by decide) (fun c2 => ?_) (fun c2 => ?_)
    · have h := h.1 c2
      refine r_iload (pc := 153) C dX11_fitOf_153 4 rfl ?_
      refine r_iload_n (pc := 155) C dX11_fitOf_155 2 rfl ?_
      refine r_icmp_ne (pc := 156) C (tgt := 181) dX11_fitOf_156 (by decide) (fun c3 => ?_) (fun c3 => ?_)
      · have h := h.1 c3
        obtain ⟨x4, ex4⟩ : ∃ z : Int32, z = v4 + (1 : Int32) := ⟨_, rfl⟩
        have h := h x4 ex4
        refine r_iinc (pc := 181) C (v := x4) (lv' := [(4, .int x4), (0, .ref v0), (1, .int v1), (2, .int v2), (3, .int v3), (5, .int v5), (6, .int v6), (7, .int v7), (8, .int v8), (9, .int v9), (10, .int v10)]) dX11_fitOf_181 4 rfl ex4.symm (by decide) rfl ?_
        exact r_sub [1, 2, 3, 4, 0, 5, 6, 7, 8] rfl (T_X11_fitOf_184 C E ht hn hX16 hX31 hX40 hX63 h)
      · have h := h.2 c3
        refine r_sipush (pc := 159) C (v := (1000 : Int32)) dX11_fitOf_159 (by decide) ?_
        refine r_iload (pc := 162) C dX11_fitOf_162 5 rfl ?_
        refine r_imul (pc := 164) C dX11_fitOf_164 ?_
        refine r_bipush (pc := 165) C (v := (100 : Int32)) dX11_fitOf_165 (by decide) ?_
        refine r_iload (pc := 167) C dX11_fitOf_167 6 rfl ?_
        refine r_imul (pc := 169) C dX11_fitOf_169 ?_
        refine r_iadd (pc := 170) C dX11_fitOf_170 ?_
        refine r_bipush (pc := 171) C (v := (10 : Int32)) dX11_fitOf_171 (by decide) ?_
        refine r_iload (pc := 173) C dX11_fitOf_173 7 rfl ?_
        refine r_imul (pc := 175) C dX11_fitOf_175 ?_
        refine r_iadd (pc := 176) C dX11_fitOf_176 ?_
        refine r_iload (pc := 177) C dX11_fitOf_177 8 rfl ?_
        refine r_iadd (pc := 179) C dX11_fitOf_179 ?_
        exact r_iret (pc := 180) C E ht dX11_fitOf_180 (by decide) (by decide) h
    · have h := h.2 c2
      refine r_goto (pc := 150) C (tgt := 184) dX11_fitOf_150 (by decide) ?_
      exact r_sub [0, 1, 2, 3, 4, 5, 6, 7, 8] rfl (T_X11_fitOf_184 C E ht hn hX16 hX31 hX40 hX63 h)
  · have h := h.2 c1
    refine r_iload (pc := 89) C dX11_fitOf_89 9 rfl ?_
    refine r_if_eq (pc := 91) C (tgt := 136) dX11_fitOf_91 (by decide) (fun c5 => ?_) (fun c5 => ?_)
    · have h := h.1 c5
      exact r_sub [0, 1, 2, 3, 4, 5, 6, 7, 8, 10] rfl (T_X11_fitOf_136 C E ht hn hX16 hX31 hX40 hX63 hX83 h)
    · have h := h.2 c5
      refine r_aload_n (pc := 94) C dX11_fitOf_94 0 rfl ?_
      refine r_iload_n (pc := 95) C dX11_fitOf_95 3 rfl ?_
      refine r_iload (pc := 96) C dX11_fitOf_96 5 rfl ?_
      refine r_iload (pc := 98) C dX11_fitOf_98 6 rfl ?_
      refine r_iload (pc := 100) C dX11_fitOf_100 7 rfl ?_
      refine r_iload (pc := 102) C dX11_fitOf_102 8 rfl ?_
      refine r_iload (pc := 104) C dX11_fitOf_104 10 rfl ?_
      obtain ⟨o_v0, h⟩ := h
      refine r_callVl0 (pc := 106) C (rest := []) (a := v0) o_v0 [.int v3, .int v5, .int v6, .int v7, .int v8, .int v10] yV_X11_partsOf g_1554 (c_X11_partsOf h) dX11_fitOf_106 rfl rfl (Nat.le_of_ble_eq_true rfl) ⟨by decide, by decide⟩ ⟨by decide, by decide⟩ ⟨rfl, rfl⟩ (fun x8 S6 h g7 => ?_)
      have h := h g7
      have o_v0 := gr_ob g7 o_v0
      refine r_ldc2 (pc := 109) C (v := (2520 : Int64)) dX11_fitOf_109 g_1585 ?_
      refine r_aload_n (pc := 112) C dX11_fitOf_112 0 rfl ?_
      obtain ⟨a9, ea9, h⟩ := h
      refine r_getr (pc := 113) C fL_X11_338 dX11_fitOf_113 o_v0 ea9 ?_
      obtain ⟨o_a9, h⟩ := h
      obtain ⟨a10, ea10, h⟩ := h
      refine r_getNr (pc := 116) C fN_X11_326 dX11_fitOf_116 o_a9 ea10 ?_
      refine r_iconst (pc := 119) C (v := (5 : Int32)) dX11_fitOf_119 (by decide) ?_
      refine r_iload_n (pc := 120) C dX11_fitOf_120 1 rfl ?_
      refine r_imul (pc := 121) C dX11_fitOf_121 ?_
      refine r_iload (pc := 122) C dX11_fitOf_122 10 rfl ?_
      refine r_iadd (pc := 124) C dX11_fitOf_124 ?_
      obtain ⟨o_a10, h⟩ := h
      refine r_topi (fun x12 ex12 => ?_)
      have h := h x12 ex12
      obtain ⟨i11, h⟩ := h
      refine r_iald (pc := 125) C dX11_fitOf_125 o_a10 i11 ?_
      refine r_topi (fun x13 ex13 => ?_)
      have h := h x13 ex13
      refine r_i2l (pc := 126) C dX11_fitOf_126 ?_
      refine r_lmul (pc := 127) C dX11_fitOf_127 ?_
      refine r_lcmp (pc := 128) C dX11_fitOf_128 ?_
      refine r_if_ne (pc := 129) C (tgt := 136) dX11_fitOf_129 (by decide) (fun c14 => ?_) (fun c14 => ?_)
      · have h := h.1 c14
        exact r_sub [0, 1, 2, 3, 4, 5, 6, 7, 8, 10] rfl (T_X11_fitOf_136 C E ht hn hX16 hX31 hX40 hX63 hX83 h)
      · have h := h.2 c14
        refine r_iconst (pc := 132) C (v := (1 : Int32)) dX11_fitOf_132 (by decide) ?_
        refine r_goto (pc := 133) C (tgt := 137) dX11_fitOf_133 (by decide) ?_
        exact r_sub [0, 1, 2, 3, 4, 5, 6, 7, 8, 10] rfl (T_X11_fitOf_137 C E ht hn hX16 hX31 hX40 hX63 hX83 h)
theorem T_X11_fitOf_83 {X : CX} {Q : Int32 → HS → Prop} (C : Cx X cX11_fitOf RX11 11 rm_X11_fitOf) (E : ReI X rm_X11_fitOf Q) (ht : (xh X).sig.returnType = (some .int)) (hn : (xh X).name = yX11_fitOf.name) {X16 : Nat → Int32 → Int32 → Int32 → Int32 → Int32 → HS → Prop} (hX16 : ∀ (v0 : Nat) (v1 : Int32) (v2 : Int32) (v3 : Int32) (v4 : Int32) (v5 : Int32) (S : HS), X16 v0 v1 v2 v3 v4 v5 S → WS X 11 0 0 16 [(0, .ref v0), (1, .int v1), (2, .int v2), (3, .int v3), (4, .int v4), (5, .int v5)] [] S) {X31 : Nat → Int32 → Int32 → Int32 → Int32 → Int32 → Int32 → HS → Prop} (hX31 : ∀ (v0 : Nat) (v1 : Int32) (v2 : Int32) (v3 : Int32) (v4 : Int32) (v5 : Int32) (v6 : Int32) (S : HS), X31 v0 v1 v2 v3 v4 v5 v6 S → WS X 11 0 0 31 [(0, .ref v0), (1, .int v1), (2, .int v2), (3, .int v3), (4, .int v4), (5, .int v5), (6, .int v6)] [] S) {X40 : Nat → Int32 → Int32 → Int32 → Int32 → Int32 → Int32 → Int32 → HS → Prop} (hX40 : ∀ (v0 : Nat) (v1 : Int32) (v2 : Int32) (v3 : Int32) (v4 : Int32) (v5 : Int32) (v6 : Int32) (v7 : Int32) (S : HS), X40 v0 v1 v2 v3 v4 v5 v6 v7 S → WS X 11 0 0 40 [(0, .ref v0), (1, .int v1), (2, .int v2), (3, .int v3), (4, .int v4), (5, .int v5), (6, .int v6), (7, .int v7)] [] S) {X63 : Nat → Int32 → Int32 → Int32 → Int32 → Int32 → Int32 → Int32 → Int32 → HS → Prop} (hX63 : ∀ (v0 : Nat) (v1 : Int32) (v2 : Int32) (v3 : Int32) (v4 : Int32) (v5 : Int32) (v6 : Int32) (v7 : Int32) (v8 : Int32) (S : HS), X63 v0 v1 v2 v3 v4 v5 v6 v7 v8 S → WS X 11 0 0 63 [(0, .ref v0), (1, .int v1), (2, .int v2), (3, .int v3), (4, .int v4), (5, .int v5), (6, .int v6), (7, .int v7), (8, .int v8)] [] S) {v0 : Nat} {v1 : Int32} {v2 : Int32} {v3 : Int32} {v4 : Int32} {v5 : Int32} {v6 : Int32} {v7 : Int32} {v8 : Int32} {v9 : Int32} {v10 : Int32} {S : HS} (h : P_X11_fitOf_83 Q X16 X31 X40 X63 v0 v1 v2 v3 v4 v5 v6 v7 v8 v9 v10 S) : WS X 11 0 0 83 [(0, .ref v0), (1, .int v1), (2, .int v2), (3, .int v3), (4, .int v4), (5, .int v5), (6, .int v6), (7, .int v7), (8, .int v8), (9, .int v9), (10, .int v10)] [] S :=
  h (fun v0 v1 v2 v3 v4 v5 v6 v7 v8 v9 v10 S => WS X 11 0 0 83 [(0, .ref v0), (1, .int v1), (2, .int v2), (3, .int v3), (4, .int v4), (5, .int v5), (6, .int v6), (7, .int v7), (8, .int v8), (9, .int v9), (10, .int v10)] [] S) (fun v0 v1 v2 v3 v4 v5 v6 v7 v8 v9 v10 S hh => TB_X11_fitOf_83 C E ht hn hX16 hX31 hX40 hX63 (fun v0 v1 v2 v3 v4 v5 v6 v7 v8 v9 v10 S z => z) hh)
def B_X11_fitOf_63 (Q : Int32 → HS → Prop) (X16 : Nat → Int32 → Int32 → Int32 → Int32 → Int32 → HS → Prop) (X31 : Nat → Int32 → Int32 → Int32 → Int32 → Int32 → Int32 → HS → Prop) (X40 : Nat → Int32 → Int32 → Int32 → Int32 → Int32 → Int32 → Int32 → HS → Prop) (X63 : Nat → Int32 → Int32 → Int32 → Int32 → Int32 → Int32 → Int32 → Int32 → HS → Prop) (v0 : Nat) (v1 : Int32) (v2 : Int32) (v3 : Int32) (v4 : Int32) (v5 : Int32) (v6 : Int32) (v7 : Int32) (v8 : Int32) (S : HS) : Prop := ob S v0 11 ∧ (∃ a1 : Nat, fR S v0 3 = some a1 ∧ (ob S a1 10 ∧ (∃ a2 : Nat, fR S a1 25 = some a2 ∧ (ob S a2 13 ∧ (vp_in v3 (hN S a2) ∧ ∀ x4 : Int32, x4 = fI S a2 v3.toNatClampNeg → (((x4 < v8) → (∀ x6 : Int32, x6 = v7 + (1 : Int32) → (X40 v0 v1 v2 v3 v4 v5 v6 x6 S))) ∧ ((¬ x4 < v8) → (P_X11_fitOf_83 Q X16 X31 X40 X63 v0 v1 v2 v3 v4 v5 v6 v7 v8 (1 : Int32) (0 : Int32) S))))))))
def P_X11_fitOf_63 (Q : Int32 → HS → Prop) (X16 : Nat → Int32 → Int32 → Int32 → Int32 → Int32 → HS → Prop) (X31 : Nat → Int32 → Int32 → Int32 → Int32 → Int32 → Int32 → HS → Prop) (X40 : Nat → Int32 → Int32 → Int32 → Int32 → Int32 → Int32 → Int32 → HS → Prop) (v0 : Nat) (v1 : Int32) (v2 : Int32) (v3 : Int32) (v4 : Int32) (v5 : Int32) (v6 : Int32) (v7 : Int32) (v8 : Int32) (S : HS) : Prop := ∀ X63 : Nat → Int32 → Int32 → Int32 → Int32 → Int32 → Int32 → Int32 → Int32 → HS → Prop, (∀ (v0 : Nat) (v1 : Int32) (v2 : Int32) (v3 : Int32) (v4 : Int32) (v5 : Int32) (v6 : Int32) (v7 : Int32) (v8 : Int32) (S : HS), B_X11_fitOf_63 Q X16 X31 X40 X63 v0 v1 v2 v3 v4 v5 v6 v7 v8 S → X63 v0 v1 v2 v3 v4 v5 v6 v7 v8 S) → X63 v0 v1 v2 v3 v4 v5 v6 v7 v8 S
set_option maxRecDepth 20000 in
set_option maxHeartbeats 4000000 in
theorem TB_X11_fitOf_63 {X : CX} {Q : Int32 → HS → Prop} (C : Cx X cX11_fitOf RX11 11 rm_X11_fitOf) (E : ReI X rm_X11_fitOf Q) (ht : (xh X).sig.returnType = (some .int)) (hn : (xh X).name = yX11_fitOf.name) {X16 : Nat → Int32 → Int32 → Int32 → Int32 → Int32 → HS → Prop} (hX16 : ∀ (v0 : Nat) (v1 : Int32) (v2 : Int32) (v3 : Int32) (v4 : Int32) (v5 : Int32) (S : HS), X16 v0 v1 v2 v3 v4 v5 S → WS X 11 0 0 16 [(0, .ref v0), (1, .int v1), (2, .int v2), (3, .int v3), (4, .int v4), (5, .int v5)] [] S) {X31 : Nat → Int32 → Int32 → Int32 → Int32 → Int32 → Int32 → HS → Prop} (hX31 : ∀ (v0 : Nat) (v1 : Int32) (v2 : Int32) (v3 : Int32) (v4 : Int32) (v5 : Int32) (v6 : Int32) (S : HS), X31 v0 v1 v2 v3 v4 v5 v6 S → WS X 11 0 0 31 [(0, .ref v0), (1, .int v1), (2, .int v2), (3, .int v3), (4, .int v4), (5, .int v5), (6, .int v6)] [] S) {X40 : Nat → Int32 → Int32 → Int32 → Int32 → Int32 → Int32 → Int32 → HS → Prop} (hX40 : ∀ (v0 : Nat) (v1 : Int32) (v2 : Int32) (v3 : Int32) (v4 : Int32) (v5 : Int32) (v6 : Int32) (v7 : Int32) (S : HS), X40 v0 v1 v2 v3 v4 v5 v6 v7 S → WS X 11 0 0 40 [(0, .ref v0), (1, .int v1), (2, .int v2), (3, .int v3), (4, .int v4), (5, .int v5), (6, .int v6), (7, .int v7)] [] S) {X63 : Nat → Int32 → Int32 → Int32 → Int32 → Int32 → Int32 → Int32 → Int32 → HS → Prop} (hX63 : ∀ (v0 : Nat) (v1 : Int32) (v2 : Int32) (v3 : Int32) (v4 : Int32) (v5 : Int32) (v6 : Int32) (v7 : Int32) (v8 : Int32) (S : HS), X63 v0 v1 v2 v3 v4 v5 v6 v7 v8 S → WS X 11 0 0 63 [(0, .ref v0), (1, .int v1), (2, .int v2), (3, .int v3), (4, .int v4), (5, .int v5), (6, .int v6), (7, .int v7), (8, .int v8)] [] S) {v0 : Nat} {v1 : Int32} {v2 : Int32} {v3 : Int32} {v4 : Int32} {v5 : Int32} {v6 : Int32} {v7 : Int32} {v8 : Int32} {S : HS} (h : B_X11_fitOf_63 Q X16 X31 X40 X63 v0 v1 v2 v3 v4 v5 v6 v7 v8 S) : WS X 11 0 0 63 [(0, .ref v0), (1, .int v1), (2, .int v2), (3, .int v3), (4, .int v4), (5, .int v5), (6, .int v6), (7, .int v7), (8, .int v8)] [] S := by
  refine r_iload (pc := 63) C dX11_fitOf_63 8 rfl ?_
  refine r_aload_n (pc := 65) C dX11_fitOf_65 0 rfl ?_
  obtain ⟨o_v0, h⟩ := h
  obtain ⟨a1, ea1, h⟩ := h
  refine r_getr (pc := 66) C fL_X11_338 dX11_fitOf_66 o_v0 ea1 ?_
  obtain ⟨o_a1, h⟩ := h
  obtain ⟨a2, ea2, h⟩ := h
  refine r_getNr (pc := 69) C fN_X11_320 dX11_fitOf_69 o_a1 ea2 ?_
  refine r_iload_n (pc := 72) C dX11_fitOf_72 3 rfl ?_
  obtain ⟨o_a2, h⟩ := h
  obtain ⟨i3, h⟩ := h
  refine r_iald (pc := 73) C dX11_fitOf_73 o_a2 i3 ?_
  refine r_topi (fun x4 ex4 => ?_)
  have h := h x4 ex4
  refine r_icmp_gt (pc := 74) C (tgt := 190) dX11_fitOf_74 (by decide) (fun c5 => ?_) (fun c5 => ?_)
  · have h := h.1 c5
    obtain ⟨x6, ex6⟩ : ∃ z : Int32, z = v7 + (1 : Int32) := ⟨_, rfl⟩
    have h := h x6 ex6
    refine r_iinc (pc := 190) C (v := x6) (lv' := [(7, .int x6), (0, .ref v0), (1, .int v1), (2, .int v2), (3, .int v3), (4, .int v4), (5, .int v5), (6, .int v6), (8, .int v8)]) dX11_fitOf_190 7 rfl ex6.symm (by decide) rfl ?_
    refine r_goto (pc := 193) C (tgt := 40) dX11_fitOf_193 (by decide) ?_
    exact r_sub [1, 2, 3, 4, 5, 6, 7, 0] rfl (hX40 v0 v1 v2 v3 v4 v5 v6 x6 S h)
  · have h := h.2 c5
    refine r_iconst (pc := 77) C (v := (1 : Int32)) dX11_fitOf_77 (by decide) ?_
    refine r_istore (pc := 78) C dX11_fitOf_78 (by decide) (lv' := [(9, .int (1 : Int32)), (0, .ref v0), (1, .int v1), (2, .int v2), (3, .int v3), (4, .int v4), (5, .int v5), (6, .int v6), (7, .int v7), (8, .int v8)]) rfl ?_
    refine r_iconst (pc := 80) C (v := (0 : Int32)) dX11_fitOf_80 (by decide) ?_
    refine r_istore (pc := 81) C dX11_fitOf_81 (by decide) (lv' := [(10, .int (0 : Int32)), (9, .int (1 : Int32)), (0, .ref v0), (1, .int v1), (2, .int v2), (3, .int v3), (4, .int v4), (5, .int v5), (6, .int v6), (7, .int v7), (8, .int v8)]) rfl ?_
    exact r_sub [2, 3, 4, 5, 6, 7, 8, 9, 10, 1, 0] rfl (T_X11_fitOf_83 C E ht hn hX16 hX31 hX40 hX63 h)
theorem T_X11_fitOf_63 {X : CX} {Q : Int32 → HS → Prop} (C : Cx X cX11_fitOf RX11 11 rm_X11_fitOf) (E : ReI X rm_X11_fitOf Q) (ht : (xh X).sig.returnType = (some .int)) (hn : (xh X).name = yX11_fitOf.name) {X16 : Nat → Int32 → Int32 → Int32 → Int32 → Int32 → HS → Prop} (hX16 : ∀ (v0 : Nat) (v1 : Int32) (v2 : Int32) (v3 : Int32) (v4 : Int32) (v5 : Int32) (S : HS), X16 v0 v1 v2 v3 v4 v5 S → WS X 11 0 0 16 [(0, .ref v0), (1, .int v1), (2, .int v2), (3, .int v3), (4, .int v4), (5, .int v5)] [] S) {X31 : Nat → Int32 → Int32 → Int32 → Int32 → Int32 → Int32 → HS → Prop} (hX31 : ∀ (v0 : Nat) (v1 : Int32) (v2 : Int32) (v3 : Int32) (v4 : Int32) (v5 : Int32) (v6 : Int32) (S : HS), X31 v0 v1 v2 v3 v4 v5 v6 S → WS X 11 0 0 31 [(0, .ref v0), (1, .int v1), (2, .int v2), (3, .int v3), (4, .int v4), (5, .int v5), (6, .int v6)] [] S) {X40 : Nat → Int32 → Int32 → Int32 → Int32 → Int32 → Int32 → Int32 → HS → Prop} (hX40 : ∀ (v0 : Nat) (v1 : Int32) (v2 : Int32) (v3 : Int32) (v4 : Int32) (v5 : Int32) (v6 : Int32) (v7 : Int32) (S : HS), X40 v0 v1 v2 v3 v4 v5 v6 v7 S → WS X 11 0 0 40 [(0, .ref v0), (1, .int v1), (2, .int v2), (3, .int v3), (4, .int v4), (5, .int v5), (6, .int v6), (7, .int v7)] [] S) {v0 : Nat} {v1 : Int32} {v2 : Int32} {v3 : Int32} {v4 : Int32} {v5 : Int32} {v6 : Int32} {v7 : Int32} {v8 : Int32} {S : HS} (h : P_X11_fitOf_63 Q X16 X31 X40 v0 v1 v2 v3 v4 v5 v6 v7 v8 S) : WS X 11 0 0 63 [(0, .ref v0), (1, .int v1), (2, .int v2), (3, .int v3), (4, .int v4), (5, .int v5), (6, .int v6), (7, .int v7), (8, .int v8)] [] S :=
  h (fun v0 v1 v2 v3 v4 v5 v6 v7 v8 S => WS X 11 0 0 63 [(0, .ref v0), (1, .int v1), (2, .int v2), (3, .int v3), (4, .int v4), (5, .int v5), (6, .int v6), (7, .int v7), (8, .int v8)] [] S) (fun v0 v1 v2 v3 v4 v5 v6 v7 v8 S hh => TB_X11_fitOf_63 C E ht hn hX16 hX31 hX40 (fun v0 v1 v2 v3 v4 v5 v6 v7 v8 S z => z) hh)
def B_X11_fitOf_40 (Q : Int32 → HS → Prop) (X16 : Nat → Int32 → Int32 → Int32 → Int32 → Int32 → HS → Prop) (X31 : Nat → Int32 → Int32 → Int32 → Int32 → Int32 → Int32 → HS → Prop) (X40 : Nat → Int32 → Int32 → Int32 → Int32 → Int32 → Int32 → Int32 → HS → Prop) (v0 : Nat) (v1 : Int32) (v2 : Int32) (v3 : Int32) (v4 : Int32) (v5 : Int32) (v6 : Int32) (v7 : Int32) (S : HS) : Prop := ob S v0 11 ∧ (∃ a1 : Nat, fR S v0 3 = some a1 ∧ (ob S a1 10 ∧ (∀ x2 : Int32, x2 = fI S a1 1 → (((x2 ≤ v7) → (∀ x4 : Int32, x4 = v6 + (1 : Int32) → (X31 v0 v1 v2 v3 v4 v5 x4 S))) ∧ ((¬ x2 ≤ v7) → (∃ a5 : Nat, fR S v0 3 = some a5 ∧ (ob S a5 10 ∧ (∃ a6 : Nat, fR S a5 24 = some a6 ∧ (ob S a6 13 ∧ (vp_in v3 (hN S a6) ∧ ∀ x8 : Int32, x8 = fI S a6 v3.toNatClampNeg → (P_X11_fitOf_63 Q X16 X31 X40 v0 v1 v2 v3 v4 v5 v6 v7 x8 S)))))))))))
def P_X11_fitOf_40 (Q : Int32 → HS → Prop) (X16 : Nat → Int32 → Int32 → Int32 → Int32 → Int32 → HS → Prop) (X31 : Nat → Int32 → Int32 → Int32 → Int32 → Int32 → Int32 → HS → Prop) (v0 : Nat) (v1 : Int32) (v2 : Int32) (v3 : Int32) (v4 : Int32) (v5 : Int32) (v6 : Int32) (v7 : Int32) (S : HS) : Prop := ∀ X40 : Nat → Int32 → Int32 → Int32 → Int32 → Int32 → Int32 → Int32 → HS → Prop, (∀ (v0 : Nat) (v1 : Int32) (v2 : Int32) (v3 : Int32) (v4 : Int32) (v5 : Int32) (v6 : Int32) (v7 : Int32) (S : HS), B_X11_fitOf_40 Q X16 X31 X40 v0 v1 v2 v3 v4 v5 v6 v7 S → X40 v0 v1 v2 v3 v4 v5 v6 v7 S) → X40 v0 v1 v2 v3 v4 v5 v6 v7 S
set_option maxRecDepth 20000 in
set_option maxHeartbeats 4000000 in
theorem TB_X11_fitOf_40 {X : CX} {Q : Int32 → HS → Prop} (C : Cx X cX11_fitOf RX11 11 rm_X11_fitOf) (E : ReI X rm_X11_fitOf Q) (ht : (xh X).sig.returnType = (some .int)) (hn : (xh X).name = yX11_fitOf.name) {X16 : Nat → Int32 → Int32 → Int32 → Int32 → Int32 → HS → Prop} (hX16 : ∀ (v0 : Nat) (v1 : Int32) (v2 : Int32) (v3 : Int32) (v4 : Int32) (v5 : Int32) (S : HS), X16 v0 v1 v2 v3 v4 v5 S → WS X 11 0 0 16 [(0, .ref v0), (1, .int v1), (2, .int v2), (3, .int v3), (4, .int v4), (5, .int v5)] [] S) {X31 : Nat → Int32 → Int32 → Int32 → Int32 → Int32 → Int32 → HS → Prop} (hX31 : ∀ (v0 : Nat) (v1 : Int32) (v2 : Int32) (v3 : Int32) (v4 : Int32) (v5 : Int32) (v6 : Int32) (S : HS), X31 v0 v1 v2 v3 v4 v5 v6 S → WS X 11 0 0 31 [(0, .ref v0), (1, .int v1), (2, .int v2), (3, .int v3), (4, .int v4), (5, .int v5), (6, .int v6)] [] S) {X40 : Nat → Int32 → Int32 → Int32 → Int32 → Int32 → Int32 → Int32 → HS → Prop} (hX40 : ∀ (v0 : Nat) (v1 : Int32) (v2 : Int32) (v3 : Int32) (v4 : Int32) (v5 : Int32) (v6 : Int32) (v7 : Int32) (S : HS), X40 v0 v1 v2 v3 v4 v5 v6 v7 S → WS X 11 0 0 40 [(0, .ref v0), (1, .int v1), (2, .int v2), (3, .int v3), (4, .int v4), (5, .int v5), (6, .int v6), (7, .int v7)] [] S) {v0 : Nat} {v1 : Int32} {v2 : Int32} {v3 : Int32} {v4 : Int32} {v5 : Int32} {v6 : Int32} {v7 : Int32} {S : HS} (h : B_X11_fitOf_40 Q X16 X31 X40 v0 v1 v2 v3 v4 v5 v6 v7 S) : WS X 11 0 0 40 [(0, .ref v0), (1, .int v1), (2, .int v2), (3, .int v3), (4, .int v4), (5, .int v5), (6, .int v6), (7, .int v7)] [] S := by
  refine r_iload (pc := 40) C dX11_fitOf_40 7 rfl ?_
  refine r_aload_n (pc := 42) C dX11_fitOf_42 0 rfl ?_
  obtain ⟨o_v0, h⟩ := h
  obtain ⟨a1, ea1, h⟩ := h
  refine r_getr (pc := 43) C fL_X11_338 dX11_fitOf_43 o_v0 ea1 ?_
  obtain ⟨o_a1, h⟩ := h
  refine r_getNi (pc := 46) C fN_X11_219 dX11_fitOf_46 o_a1 ?_
  refine r_topi (fun x2 ex2 => ?_)
  have h := h x2 ex2
  refine r_icmp_ge (pc := 49) C (tgt := 196) dX11_fitOf_49 (by decide) (fun c3 => ?_) (fun c3 => ?_)
  · have h := h.1 c3
    obtain ⟨x4, ex4⟩ : ∃ z : Int32, z = v6 + (1 : Int32) := ⟨_, rfl⟩
    have h := h x4 ex4
    refine r_iinc (pc := 196) C (v := x4) (lv' := [(6, .int x4), (0, .ref v0), (1, .int v1), (2, .int v2), (3, .int v3), (4, .int v4), (5, .int v5), (7, .int v7)]) dX11_fitOf_196 6 rfl ex4.symm (by decide) rfl ?_
    refine r_goto (pc := 199) C (tgt := 31) dX11_fitOf_199 (by decide) ?_
    exact r_sub [1, 2, 3, 4, 5, 6, 0] rfl (hX31 v0 v1 v2 v3 v4 v5 x4 S h)
  · have h := h.2 c3
    refine r_aload_n (pc := 52) C dX11_fitOf_52 0 rfl ?_
    obtain ⟨a5, ea5, h⟩ := h
    refine r_getr (pc := 53) C fL_X11_338 dX11_fitOf_53 o_v0 ea5 ?_
    obtain ⟨o_a5, h⟩ := h
    obtain ⟨a6, ea6, h⟩ := h
    refine r_getNr (pc := 56) C fN_X11_317 dX11_fitOf_56 o_a5 ea6 ?_
    refine r_iload_n (pc := 59) C dX11_fitOf_59 3 rfl ?_
    obtain ⟨o_a6, h⟩ := h
    obtain ⟨i7, h⟩ := h
    refine r_iald (pc := 60) C dX11_fitOf_60 o_a6 i7 ?_
    refine r_topi (fun x8 ex8 => ?_)
    have h := h x8 ex8
    refine r_istore (pc := 61) C dX11_fitOf_61 (by decide) (lv' := [(8, .int x8), (0, .ref v0), (1, .int v1), (2, .int v2), (3, .int v3), (4, .int v4), (5, .int v5), (6, .int v6), (7, .int v7)]) rfl ?_
    exact r_sub [1, 2, 3, 4, 5, 6, 7, 8, 0] rfl (T_X11_fitOf_63 C E ht hn hX16 hX31 hX40 h)
theorem T_X11_fitOf_40 {X : CX} {Q : Int32 → HS → Prop} (C : Cx X cX11_fitOf RX11 11 rm_X11_fitOf) (E : ReI X rm_X11_fitOf Q) (ht : (xh X).sig.returnType = (some .int)) (hn : (xh X).name = yX11_fitOf.name) {X16 : Nat → Int32 → Int32 → Int32 → Int32 → Int32 → HS → Prop} (hX16 : ∀ (v0 : Nat) (v1 : Int32) (v2 : Int32) (v3 : Int32) (v4 : Int32) (v5 : Int32) (S : HS), X16 v0 v1 v2 v3 v4 v5 S → WS X 11 0 0 16 [(0, .ref v0), (1, .int v1), (2, .int v2), (3, .int v3), (4, .int v4), (5, .int v5)] [] S) {X31 : Nat → Int32 → Int32 → Int32 → Int32 → Int32 → Int32 → HS → Prop} (hX31 : ∀ (v0 : Nat) (v1 : Int32) (v2 : Int32) (v3 : Int32) (v4 : Int32) (v5 : Int32) (v6 : Int32) (S : HS), X31 v0 v1 v2 v3 v4 v5 v6 S → WS X 11 0 0 31 [(0, .ref v0), (1, .int v1), (2, .int v2), (3, .int v3), (4, .int v4), (5, .int v5), (6, .int v6)] [] S) {v0 : Nat} {v1 : Int32} {v2 : Int32} {v3 : Int32} {v4 : Int32} {v5 : Int32} {v6 : Int32} {v7 : Int32} {S : HS} (h : P_X11_fitOf_40 Q X16 X31 v0 v1 v2 v3 v4 v5 v6 v7 S) : WS X 11 0 0 40 [(0, .ref v0), (1, .int v1), (2, .int v2), (3, .int v3), (4, .int v4), (5, .int v5), (6, .int v6), (7, .int v7)] [] S :=
  h (fun v0 v1 v2 v3 v4 v5 v6 v7 S => WS X 11 0 0 40 [(0, .ref v0), (1, .int v1), (2, .int v2), (3, .int v3), (4, .int v4), (5, .int v5), (6, .int v6), (7, .int v7)] [] S) (fun v0 v1 v2 v3 v4 v5 v6 v7 S hh => TB_X11_fitOf_40 C E ht hn hX16 hX31 (fun v0 v1 v2 v3 v4 v5 v6 v7 S z => z) hh)
def B_X11_fitOf_31 (Q : Int32 → HS → Prop) (X16 : Nat → Int32 → Int32 → Int32 → Int32 → Int32 → HS → Prop) (X31 : Nat → Int32 → Int32 → Int32 → Int32 → Int32 → Int32 → HS → Prop) (v0 : Nat) (v1 : Int32) (v2 : Int32) (v3 : Int32) (v4 : Int32) (v5 : Int32) (v6 : Int32) (S : HS) : Prop := (((2 : Int32) ≤ v6) → (∀ x2 : Int32, x2 = v5 + (1 : Int32) → (X16 v0 v1 v2 v3 v4 x2 S))) ∧ ((¬ (2 : Int32) ≤ v6) → (P_X11_fitOf_40 Q X16 X31 v0 v1 v2 v3 v4 v5 v6 (0 : Int32) S))
def P_X11_fitOf_31 (Q : Int32 → HS → Prop) (X16 : Nat → Int32 → Int32 → Int32 → Int32 → Int32 → HS → Prop) (v0 : Nat) (v1 : Int32) (v2 : Int32) (v3 : Int32) (v4 : Int32) (v5 : Int32) (v6 : Int32) (S : HS) : Prop := ∀ X31 : Nat → Int32 → Int32 → Int32 → Int32 → Int32 → Int32 → HS → Prop, (∀ (v0 : Nat) (v1 : Int32) (v2 : Int32) (v3 : Int32) (v4 : Int32) (v5 : Int32) (v6 : Int32) (S : HS), B_X11_fitOf_31 Q X16 X31 v0 v1 v2 v3 v4 v5 v6 S → X31 v0 v1 v2 v3 v4 v5 v6 S) → X31 v0 v1 v2 v3 v4 v5 v6 S
set_option maxRecDepth 20000 in
set_option maxHeartbeats 4000000 in
theorem TB_X11_fitOf_31 {X : CX} {Q : Int32 → HS → Prop} (C : Cx X cX11_fitOf RX11 11 rm_X11_fitOf) (E : ReI X rm_X11_fitOf Q) (ht : (xh X).sig.returnType = (some .int)) (hn : (xh X).name = yX11_fitOf.name) {X16 : Nat → Int32 → Int32 → Int32 → Int32 → Int32 → HS → Prop} (hX16 : ∀ (v0 : Nat) (v1 : Int32) (v2 : Int32) (v3 : Int32) (v4 : Int32) (v5 : Int32) (S : HS), X16 v0 v1 v2 v3 v4 v5 S → WS X 11 0 0 16 [(0, .ref v0), (1, .int v1), (2, .int v2), (3, .int v3), (4, .int v4), (5, .int v5)] [] S) {X31 : Nat → Int32 → Int32 → Int32 → Int32 → Int32 → Int32 → HS → Prop} (hX31 : ∀ (v0 : Nat) (v1 : Int32) (v2 : Int32) (v3 : Int32) (v4 : Int32) (v5 : Int32) (v6 : Int32) (S : HS), X31 v0 v1 v2 v3 v4 v5 v6 S → WS X 11 0 0 31 [(0, .ref v0), (1, .int v1), (2, .int v2), (3, .int v3), (4, .int v4), (5, .int v5), (6, .int v6)] [] S) {v0 : Nat} {v1 : Int32} {v2 : Int32} {v3 : Int32} {v4 : Int32} {v5 : Int32} {v6 : Int32} {S : HS} (h : B_X11_fitOf_31 Q X16 X31 v0 v1 v2 v3 v4 v5 v6 S) : WS X 11 0 0 31 [(0, .ref v0), (1, .int v1), (2, .int v2), (3, .int v3), (4, .int v4), (5, .int v5), (6, .int v6)] [] S := by
  refine r_iload (pc := 31) C dX11_fitOf_31 6 rfl ?_
  refine r_iconst (pc := 33) C (v := (2 : Int32)) dX11_fitOf_33 (by decide) ?_
  refine r_icmp_ge (pc := 34) C (tgt := 202) dX11_fitOf_34 (by decide) (fun c1 => ?_) (fun c1 => ?_)
  · have h := h.1 c1
    obtain ⟨x2, ex2⟩ : ∃ z : Int32, z = v5 + (1 : Int32) := ⟨_, rfl⟩
    have h := h x2 ex2
    refine r_iinc (pc := 202) C (v := x2) (lv' := [(5, .int x2), (0, .ref v0), (1, .int v1), (2, .int v2), (3, .int v3), (4, .int v4), (6, .int v6)]) dX11_fitOf_202 5 rfl ex2.symm (by decide) rfl ?_
    refine r_goto (pc := 205) C (tgt := 16) dX11_fitOf_205 (by decide) ?_
    exact r_sub [1, 2, 3, 4, 5, 0] rfl (hX16 v0 v1 v2 v3 v4 x2 S h)
  · have h := h.2 c1
    refine r_iconst (pc := 37) C (v := (0 : Int32)) dX11_fitOf_37 (by decide) ?_
    refine r_istore (pc := 38) C dX11_fitOf_38 (by decide) (lv' := [(7, .int (0 : Int32)), (0, .ref v0), (1, .int v1), (2, .int v2), (3, .int v3), (4, .int v4), (5, .int v5), (6, .int v6)]) rfl ?_
    exact r_sub [1, 2, 3, 4, 5, 6, 7, 0] rfl (T_X11_fitOf_40 C E ht hn hX16 hX31 h)
theorem T_X11_fitOf_31 {X : CX} {Q : Int32 → HS → Prop} (C : Cx X cX11_fitOf RX11 11 rm_X11_fitOf) (E : ReI X rm_X11_fitOf Q) (ht : (xh X).sig.returnType = (some .int)) (hn : (xh X).name = yX11_fitOf.name) {X16 : Nat → Int32 → Int32 → Int32 → Int32 → Int32 → HS → Prop} (hX16 : ∀ (v0 : Nat) (v1 : Int32) (v2 : Int32) (v3 : Int32) (v4 : Int32) (v5 : Int32) (S : HS), X16 v0 v1 v2 v3 v4 v5 S → WS X 11 0 0 16 [(0, .ref v0), (1, .int v1), (2, .int v2), (3, .int v3), (4, .int v4), (5, .int v5)] [] S) {v0 : Nat} {v1 : Int32} {v2 : Int32} {v3 : Int32} {v4 : Int32} {v5 : Int32} {v6 : Int32} {S : HS} (h : P_X11_fitOf_31 Q X16 v0 v1 v2 v3 v4 v5 v6 S) : WS X 11 0 0 31 [(0, .ref v0), (1, .int v1), (2, .int v2), (3, .int v3), (4, .int v4), (5, .int v5), (6, .int v6)] [] S :=
  h (fun v0 v1 v2 v3 v4 v5 v6 S => WS X 11 0 0 31 [(0, .ref v0), (1, .int v1), (2, .int v2), (3, .int v3), (4, .int v4), (5, .int v5), (6, .int v6)] [] S) (fun v0 v1 v2 v3 v4 v5 v6 S hh => TB_X11_fitOf_31 C E ht hn hX16 (fun v0 v1 v2 v3 v4 v5 v6 S z => z) hh)
def B_X11_fitOf_16 (Q : Int32 → HS → Prop) (X16 : Nat → Int32 → Int32 → Int32 → Int32 → Int32 → HS → Prop) (v0 : Nat) (v1 : Int32) (v2 : Int32) (v3 : Int32) (v4 : Int32) (v5 : Int32) (S : HS) : Prop := ob S v0 11 ∧ (∃ a1 : Nat, fR S v0 3 = some a1 ∧ (ob S a1 10 ∧ (∀ x2 : Int32, x2 = fI S a1 3 → (((x2 ≤ v5) → (((0 ≤ v2) → (Q (-1 : Int32) S)) ∧ ((¬ 0 ≤ v2) → (Q v4 S)))) ∧ ((¬ x2 ≤ v5) → (P_X11_fitOf_31 Q X16 v0 v1 v2 v3 v4 v5 (0 : Int32) S))))))
def P_X11_fitOf_16 (Q : Int32 → HS → Prop) (v0 : Nat) (v1 : Int32) (v2 : Int32) (v3 : Int32) (v4 : Int32) (v5 : Int32) (S : HS) : Prop := ∀ X16 : Nat → Int32 → Int32 → Int32 → Int32 → Int32 → HS → Prop, (∀ (v0 : Nat) (v1 : Int32) (v2 : Int32) (v3 : Int32) (v4 : Int32) (v5 : Int32) (S : HS), B_X11_fitOf_16 Q X16 v0 v1 v2 v3 v4 v5 S → X16 v0 v1 v2 v3 v4 v5 S) → X16 v0 v1 v2 v3 v4 v5 S
set_option maxRecDepth 20000 in
set_option maxHeartbeats 4000000 in
theorem TB_X11_fitOf_16 {X : CX} {Q : Int32 → HS → Prop} (C : Cx X cX11_fitOf RX11 11 rm_X11_fitOf) (E : ReI X rm_X11_fitOf Q) (ht : (xh X).sig.returnType = (some .int)) (hn : (xh X).name = yX11_fitOf.name) {X16 : Nat → Int32 → Int32 → Int32 → Int32 → Int32 → HS → Prop} (hX16 : ∀ (v0 : Nat) (v1 : Int32) (v2 : Int32) (v3 : Int32) (v4 : Int32) (v5 : Int32) (S : HS), X16 v0 v1 v2 v3 v4 v5 S → WS X 11 0 0 16 [(0, .ref v0), (1, .int v1), (2, .int v2), (3, .int v3), (4, .int v4), (5, .int v5)] [] S) {v0 : Nat} {v1 : Int32} {v2 : Int32} {v3 : Int32} {v4 : Int32} {v5 : Int32} {S : HS} (h : B_X11_fitOf_16 Q X16 v0 v1 v2 v3 v4 v5 S) : WS X 11 0 0 16 [(0, .ref v0), (1, .int v1), (2, .int v2), (3, .int v3), (4, .int v4), (5, .int v5)] [] S := by
  refine r_iload (pc := 16) C dX11_fitOf_16 5 rfl ?_
  refine r_aload_n (pc := 18) C dX11_fitOf_18 0 rfl ?_
  obtain ⟨o_v0, h⟩ := h
  obtain ⟨a1, ea1, h⟩ := h
  refine r_getr (pc := 19) C fL_X11_338 dX11_fitOf_19 o_v0 ea1 ?_
  obtain ⟨o_a1, h⟩ := h
  refine r_getNi (pc := 22) C fN_X11_264 dX11_fitOf_22 o_a1 ?_
  refine r_topi (fun x2 ex2 => ?_)
  have h := h x2 ex2
  refine r_icmp_ge (pc := 25) C (tgt := 208) dX11_fitOf_25 (by decide) (fun c3 => ?_) (fun c3 => ?_)
  · have h := h.1 c3
    refine r_iload_n (pc := 208) C dX11_fitOf_208 2 rfl ?_
    refine r_if_ge (pc := 209) C (tgt := 217) dX11_fitOf_209 (by decide) (fun c4 => ?_) (fun c4 => ?_)
    · have h := h.1 c4
      refine r_iconst (pc := 217) C (v := (-1 : Int32)) dX11_fitOf_217 (by decide) ?_
      exact r_iret (pc := 218) C E ht dX11_fitOf_218 (by decide) (by decide) h
    · have h := h.2 c4
      refine r_iload (pc := 212) C dX11_fitOf_212 4 rfl ?_
      refine r_goto (pc := 214) C (tgt := 218) dX11_fitOf_214 (by decide) ?_
      exact r_iret (pc := 218) C E ht dX11_fitOf_218 (by decide) (by decide) h
  · have h := h.2 c3
    refine r_iconst (pc := 28) C (v := (0 : Int32)) dX11_fitOf_28 (by decide) ?_
    refine r_istore (pc := 29) C dX11_fitOf_29 (by decide) (lv' := [(6, .int (0 : Int32)), (0, .ref v0), (1, .int v1), (2, .int v2), (3, .int v3), (4, .int v4), (5, .int v5)]) rfl ?_
    exact r_sub [1, 2, 3, 4, 5, 6, 0] rfl (T_X11_fitOf_31 C E ht hn hX16 h)
theorem T_X11_fitOf_16 {X : CX} {Q : Int32 → HS → Prop} (C : Cx X cX11_fitOf RX11 11 rm_X11_fitOf) (E : ReI X rm_X11_fitOf Q) (ht : (xh X).sig.returnType = (some .int)) (hn : (xh X).name = yX11_fitOf.name) {v0 : Nat} {v1 : Int32} {v2 : Int32} {v3 : Int32} {v4 : Int32} {v5 : Int32} {S : HS} (h : P_X11_fitOf_16 Q v0 v1 v2 v3 v4 v5 S) : WS X 11 0 0 16 [(0, .ref v0), (1, .int v1), (2, .int v2), (3, .int v3), (4, .int v4), (5, .int v5)] [] S :=
  h (fun v0 v1 v2 v3 v4 v5 S => WS X 11 0 0 16 [(0, .ref v0), (1, .int v1), (2, .int v2), (3, .int v3), (4, .int v4), (5, .int v5)] [] S) (fun v0 v1 v2 v3 v4 v5 S hh => TB_X11_fitOf_16 C E ht hn (fun v0 v1 v2 v3 v4 v5 S z => z) hh)
def P_X11_fitOf_0 (Q : Int32 → HS → Prop) (v0 : Nat) (v1 : Int32) (v2 : Int32) (S : HS) : Prop := ob S v0 11 ∧ (∃ a1 : Nat, fR S v0 3 = some a1 ∧ (ob S a1 10 ∧ (∃ a2 : Nat, fR S a1 26 = some a2 ∧ (ob S a2 13 ∧ (vp_in v1 (hN S a2) ∧ ∀ x4 : Int32, x4 = fI S a2 v1.toNatClampNeg → (P_X11_fitOf_16 Q v0 v1 v2 x4 (0 : Int32) (0 : Int32) S))))))
set_option maxRecDepth 20000 in
set_option maxHeartbeats 4000000 in
theorem T_X11_fitOf_0 {X : CX} {Q : Int32 → HS → Prop} (C : Cx X cX11_fitOf RX11 11 rm_X11_fitOf) (E : ReI X rm_X11_fitOf Q) (ht : (xh X).sig.returnType = (some .int)) (hn : (xh X).name = yX11_fitOf.name) {v0 : Nat} {v1 : Int32} {v2 : Int32} {S : HS} (h : P_X11_fitOf_0 Q v0 v1 v2 S) : WS X 11 0 0 0 [(0, .ref v0), (1, .int v1), (2, .int v2)] [] S := by
  refine r_aload_n (pc := 0) C dX11_fitOf_0 0 rfl ?_
  obtain ⟨o_v0, h⟩ := h
  obtain ⟨a1, ea1, h⟩ := h
  refine r_getr (pc := 1) C fL_X11_338 dX11_fitOf_1 o_v0 ea1 ?_
  obtain ⟨o_a1, h⟩ := h
  obtain ⟨a2, ea2, h⟩ := h
  refine r_getNr (pc := 4) C fN_X11_328 dX11_fitOf_4 o_a1 ea2 ?_
  refine r_iload_n (pc := 7) C dX11_fitOf_7 1 rfl ?_
  obtain ⟨o_a2, h⟩ := h
  obtain ⟨i3, h⟩ := h
  refine r_iald (pc := 8) C dX11_fitOf_8 o_a2 i3 ?_
  refine r_topi (fun x4 ex4 => ?_)
  have h := h x4 ex4
  refine r_istore_n (pc := 9) C dX11_fitOf_9 rfl (by decide) (lv' := [(3, .int x4), (0, .ref v0), (1, .int v1), (2, .int v2)]) rfl ?_
  refine r_iconst (pc := 10) C (v := (0 : Int32)) dX11_fitOf_10 (by decide) ?_
  refine r_istore (pc := 11) C dX11_fitOf_11 (by decide) (lv' := [(4, .int (0 : Int32)), (3, .int x4), (0, .ref v0), (1, .int v1), (2, .int v2)]) rfl ?_
  refine r_iconst (pc := 13) C (v := (0 : Int32)) dX11_fitOf_13 (by decide) ?_
  refine r_istore (pc := 14) C dX11_fitOf_14 (by decide) (lv' := [(5, .int (0 : Int32)), (4, .int (0 : Int32)), (3, .int x4), (0, .ref v0), (1, .int v1), (2, .int v2)]) rfl ?_
  exact r_sub [3, 4, 5, 2, 1, 0] rfl (T_X11_fitOf_16 C E ht hn h)
def P_X11_fitOf (v0 : Nat) (v1 : Int32) (v2 : Int32) (Q : Int32 → HS → Prop) (S : HS) : Prop := P_X11_fitOf_0 Q v0 v1 v2 S
theorem c_X11_fitOf {l : Launch} {Ee : EE} {S : HS} {v0 : Nat} {v1 : Int32} {v2 : Int32} {Q : Int32 → HS → Prop} (h : P_X11_fitOf v0 v1 v2 Q S) : MI l yX11_fitOf cX11_fitOf 11 (some .int) rm_X11_fitOf Ee S [.ref v0, .int v1, .int v2] Q :=
  openI (by decide) (Nat.le_of_ble_eq_true rfl) (fun X C E ht hn hE hl => by subst hE; exact r_sub [0, 1, 2] rfl (T_X11_fitOf_0 C E ht hn h))
def rm_X11_isSeen : Room := { frames := 0, cells := 0, slots := 0, locals := 0 }
def P_X11_isSeen_0 (Q : Int32 → HS → Prop) (v0 : Nat) (v1 : Int32) (S : HS) : Prop := ob S v0 11 ∧ ((fR S v0 3 = none → (Q (0 : Int32) S)) ∧ (∀ a1 : Nat, fR S v0 3 = some a1 → (((v1 < 0) → (Q (0 : Int32) S)) ∧ ((¬ v1 < 0) → (∃ a4 : Nat, fR S v0 3 = some a4 ∧ (ob S a4 10 ∧ (∀ x5 : Int32, x5 = fI S a4 5 → (((x5 ≤ v1) → (Q (0 : Int32) S)) ∧ ((¬ x5 ≤ v1) → (Q (1 : Int32) S))))))))))
set_option maxRecDepth 20000 in
set_option maxHeartbeats 4000000 in
theorem T_X11_isSeen_0 {X : CX} {Q : Int32 → HS → Prop} (C : Cx X cX11_isSeen RX11 2 rm_X11_isSeen) (E : ReI X rm_X11_isSeen (fun r S => bl r ∧ Q r S)) (ht : (xh X).sig.returnType = (some .boolean)) (hn : (xh X).name = yX11_isSeen.name) {v0 : Nat} {v1 : Int32} {S : HS} (h : P_X11_isSeen_0 Q v0 v1 S) : WS X 2 0 0 0 [(0, .ref v0), (1, .int v1)] [] S := by
  refine r_aload_n (pc := 0) C dX11_isSeen_0 0 rfl ?_
  obtain ⟨o_v0, h⟩ := h
  rcases e2 : fR S v0 3 with _ | a1
  · refine r_get0 (pc := 1) C fL_X11_338 dX11_isSeen_1 o_v0 e2 ?_
    refine r_ifnull0 (pc := 4) C (tgt := 26) dX11_isSeen_4 (by decide) ?_
    have h := h.1 e2
    refine r_iconst (pc := 26) C (v := (0 : Int32)) dX11_isSeen_26 (by decide) ?_
    exact r_zret (pc := 27) C E ht dX11_isSeen_27 (by decide) (by decide) (Or.inl rfl) h
  · refine r_getr (pc := 1) C fL_X11_338 dX11_isSeen_1 o_v0 e2 ?_
    refine r_ifnull (pc := 4) C dX11_isSeen_4 ?_
    have h := h.2 a1 e2
    refine r_iload_n (pc := 7) C dX11_isSeen_7 1 rfl ?_
    refine r_if_lt (pc := 8) C (tgt := 26) dX11_isSeen_8 (by decide) (fun c3 => ?_) (fun c3 => ?_)
    · have h := h.1 c3
      refine r_iconst (pc := 26) C (v := (0 : Int32)) dX11_isSeen_26 (by decide) ?_
      exact r_zret (pc := 27) C E ht dX11_isSeen_27 (by decide) (by decide) (Or.inl rfl) h
    · have h := h.2 c3
      refine r_iload_n (pc := 11) C dX11_isSeen_11 1 rfl ?_
      refine r_aload_n (pc := 12) C dX11_isSeen_12 0 rfl ?_
      obtain ⟨a4, ea4, h⟩ := h
      refine r_getr (pc := 13) C fL_X11_338 dX11_isSeen_13 o_v0 ea4 ?_
      obtain ⟨o_a4, h⟩ := h
      refine r_getNi (pc := 16) C fN_X11_323 dX11_isSeen_16 o_a4 ?_
      refine r_topi (fun x5 ex5 => ?_)
      have h := h x5 ex5
      refine r_icmp_ge (pc := 19) C (tgt := 26) dX11_isSeen_19 (by decide) (fun c6 => ?_) (fun c6 => ?_)
      · have h := h.1 c6
        refine r_iconst (pc := 26) C (v := (0 : Int32)) dX11_isSeen_26 (by decide) ?_
        exact r_zret (pc := 27) C E ht dX11_isSeen_27 (by decide) (by decide) (Or.inl rfl) h
      · have h := h.2 c6
        refine r_iconst (pc := 22) C (v := (1 : Int32)) dX11_isSeen_22 (by decide) ?_
        refine r_goto (pc := 23) C (tgt := 27) dX11_isSeen_23 (by decide) ?_
        exact r_zret (pc := 27) C E ht dX11_isSeen_27 (by decide) (by decide) (Or.inr rfl) h
def P_X11_isSeen (v0 : Nat) (v1 : Int32) (Q : Int32 → HS → Prop) (S : HS) : Prop := P_X11_isSeen_0 Q v0 v1 S
theorem c_X11_isSeen {l : Launch} {Ee : EE} {S : HS} {v0 : Nat} {v1 : Int32} {Q : Int32 → HS → Prop} (h : P_X11_isSeen v0 v1 Q S) : MI l yX11_isSeen cX11_isSeen 2 (some .boolean) rm_X11_isSeen Ee S [.ref v0, .int v1] (fun r S => bl r ∧ Q r S) :=
  openI (by decide) (Nat.le_of_ble_eq_true rfl) (fun X C E ht hn hE hl => by subst hE; exact r_sub [0, 1] rfl (T_X11_isSeen_0 C E ht hn h))
def rm_X11_fit : Room := { frames := 6, cells := 0, slots := 0, locals := 165 }
def P_X11_fit_27 (Q : Int32 → HS → Prop) (v0 : Nat) (s0 : Int32) (S : HS) : Prop := ((¬ s0 = (-1 : Int32)) → (ob S v0 11 ∧ (P_X11_good v0 s0 (fun x4 S2 => Gr S S2 → (Q x4 S2)) S))) ∧ ((s0 = (-1 : Int32)) → (ob S v0 11 ∧ (P_X11_refused v0 (1 : Int32) (fun x7 S5 => Gr S S5 → (Q x7 S5)) S)))
set_option maxRecDepth 20000 in
set_option maxHeartbeats 4000000 in
theorem T_X11_fit_27 {X : CX} {Q : Int32 → HS → Prop} (C : Cx X cX11_fit RX11 4 rm_X11_fit) (E : ReI X rm_X11_fit Q) (ht : (xh X).sig.returnType = (some .int)) (hn : (xh X).name = yX11_fit.name) {v0 : Nat} {s0 : Int32} {S : HS} (h : P_X11_fit_27 Q v0 s0 S) : WS X 4 0 0 27 [(0, .ref v0)] [.int s0] S := by
  refine r_istore_n (pc := 27) C dX11_fit_27 rfl (by decide) (lv' := [(3, .int s0), (0, .ref v0)]) rfl ?_
  refine r_iload_n (pc := 28) C dX11_fit_28 0 rfl ?_
  refine r_iconst (pc := 29) C (v := (-1 : Int32)) dX11_fit_29 (by decide) ?_
  refine r_icmp_ne (pc := 30) C (tgt := 41) dX11_fit_30 (by decide) (fun c1 => ?_) (fun c1 => ?_)
  · have h := h.1 c1
    refine r_aload_n (pc := 41) C dX11_fit_41 1 rfl ?_
    refine r_iload_n (pc := 42) C dX11_fit_42 0 rfl ?_
    obtain ⟨o_v0, h⟩ := h
    refine r_callVi0 (pc := 43) C (rest := []) (a := v0) o_v0 [.int s0] yV_X11_good g_1518 (c_X11_good h) dX11_fit_43 rfl rfl (Nat.le_of_ble_eq_true rfl) ⟨by decide, by decide⟩ ⟨by decide, by decide⟩ ⟨rfl, rfl⟩ (fun x4 S2 h g3 => ?_)
    have h := h g3
    have o_v0 := gr_ob g3 o_v0
    exact r_iret (pc := 46) C E ht dX11_fit_46 (by decide) (by decide) h
  · have h := h.2 c1
    refine r_aload_n (pc := 33) C dX11_fit_33 1 rfl ?_
    refine r_iconst (pc := 34) C (v := (1 : Int32)) dX11_fit_34 (by decide) ?_
    obtain ⟨o_v0, h⟩ := h
    refine r_callVi0 (pc := 35) C (rest := []) (a := v0) o_v0 [.int (1 : Int32)] yV_X11_refused g_1250 (c_X11_refused h) dX11_fit_35 rfl rfl (Nat.le_of_ble_eq_true rfl) ⟨by decide, by decide⟩ ⟨by decide, by decide⟩ ⟨rfl, rfl⟩ (fun x7 S5 h g6 => ?_)
    have h := h g6
    have o_v0 := gr_ob g6 o_v0
    refine r_goto (pc := 38) C (tgt := 46) dX11_fit_38 (by decide) ?_
    exact r_iret (pc := 46) C E ht dX11_fit_46 (by decide) (by decide) h
def P_X11_fit_26 (Q : Int32 → HS → Prop) (v0 : Nat) (S : HS) : Prop := P_X11_fit_27 Q v0 (-1 : Int32) S
set_option maxRecDepth 20000 in
set_option maxHeartbeats 4000000 in
theorem T_X11_fit_26 {X : CX} {Q : Int32 → HS → Prop} (C : Cx X cX11_fit RX11 4 rm_X11_fit) (E : ReI X rm_X11_fit Q) (ht : (xh X).sig.returnType = (some .int)) (hn : (xh X).name = yX11_fit.name) {v0 : Nat} {S : HS} (h : P_X11_fit_26 Q v0 S) : WS X 4 0 0 26 [(0, .ref v0)] [] S := by
  refine r_iconst (pc := 26) C (v := (-1 : Int32)) dX11_fit_26 (by decide) ?_
  exact r_sub [0] rfl (T_X11_fit_27 C E ht hn h)
def P_X11_fit_0 (Q : Int32 → HS → Prop) (v0 : Nat) (v1 : Int32) (v2 : Int32) (S : HS) : Prop := ob S v0 11 ∧ (∀ S1 : HS, S1 = sI S v0 0 (0 : Int32) → (P_X11_isSeen v0 v1 (fun x4 S2 => Gr S1 S2 → bl x4 → (((x4 = 0) → (P_X11_fit_26 Q v0 S2)) ∧ ((¬ x4 = 0) → (((v2 < 0) → (P_X11_fit_26 Q v0 S2)) ∧ ((¬ v2 < 0) → (P_X11_fitOf v0 v1 v2 (fun x9 S7 => Gr S2 S7 → (P_X11_fit_27 Q v0 x9 S7)) S2)))))) S1))
set_option maxRecDepth 20000 in
set_option maxHeartbeats 4000000 in
theorem T_X11_fit_0 {X : CX} {Q : Int32 → HS → Prop} (C : Cx X cX11_fit RX11 4 rm_X11_fit) (E : ReI X rm_X11_fit Q) (ht : (xh X).sig.returnType = (some .int)) (hn : (xh X).name = yX11_fit.name) {v0 : Nat} {v1 : Int32} {v2 : Int32} {S : HS} (h : P_X11_fit_0 Q v0 v1 v2 S) : WS X 4 0 0 0 [(0, .ref v0), (1, .int v1), (2, .int v2)] [] S := by
  refine r_aload_n (pc := 0) C dX11_fit_0 0 rfl ?_
  refine r_iconst (pc := 1) C (v := (0 : Int32)) dX11_fit_1 (by decide) ?_
  obtain ⟨o_v0, h⟩ := h
  refine r_puti (pc := 2) C pfL_X11_40 dX11_fit_2 o_v0 ?_
  refine r_heap (fun S1 eS1 => ?_)
  have h := h S1 eS1
  have o_v0 := ob_I eS1 o_v0
  refine r_aload_n (pc := 5) C dX11_fit_5 0 rfl ?_
  refine r_iload_n (pc := 6) C dX11_fit_6 1 rfl ?_
  refine r_callVi0 (pc := 7) C (rest := []) (a := v0) o_v0 [.int v1] yV_X11_isSeen g_1751 (c_X11_isSeen h) dX11_fit_7 rfl rfl (Nat.le_of_ble_eq_true rfl) ⟨by decide, by decide⟩ ⟨by decide, by decide⟩ ⟨rfl, rfl⟩ (fun x4 S2 h g3 => ?_)
  have bx4 := h.1
  have h := h.2 g3 bx4
  have o_v0 := gr_ob g3 o_v0
  refine r_if_eq (pc := 10) C (tgt := 26) dX11_fit_10 (by decide) (fun c5 => ?_) (fun c5 => ?_)
  · have h := h.1 c5
    exact r_sub [0] rfl (T_X11_fit_26 C E ht hn h)
  · have h := h.2 c5
    refine r_iload_n (pc := 13) C dX11_fit_13 2 rfl ?_
    refine r_if_lt (pc := 14) C (tgt := 26) dX11_fit_14 (by decide) (fun c6 => ?_) (fun c6 => ?_)
    · have h := h.1 c6
      exact r_sub [0] rfl (T_X11_fit_26 C E ht hn h)
    · have h := h.2 c6
      refine r_aload_n (pc := 17) C dX11_fit_17 0 rfl ?_
      refine r_iload_n (pc := 18) C dX11_fit_18 1 rfl ?_
      refine r_iload_n (pc := 19) C dX11_fit_19 2 rfl ?_
      refine r_callVi0 (pc := 20) C (rest := []) (a := v0) o_v0 [.int v1, .int v2] yV_X11_fitOf g_1755 (c_X11_fitOf h) dX11_fit_20 rfl rfl (Nat.le_of_ble_eq_true rfl) ⟨by decide, by decide⟩ ⟨by decide, by decide⟩ ⟨rfl, rfl⟩ (fun x9 S7 h g8 => ?_)
      have h := h g8
      have o_v0 := gr_ob g8 o_v0
      refine r_goto (pc := 23) C (tgt := 27) dX11_fit_23 (by decide) ?_
      exact r_sub [0] rfl (T_X11_fit_27 C E ht hn h)
def P_X11_fit (v0 : Nat) (v1 : Int32) (v2 : Int32) (Q : Int32 → HS → Prop) (S : HS) : Prop := P_X11_fit_0 Q v0 v1 v2 S
theorem c_X11_fit {l : Launch} {Ee : EE} {S : HS} {v0 : Nat} {v1 : Int32} {v2 : Int32} {Q : Int32 → HS → Prop} (h : P_X11_fit v0 v1 v2 Q S) : MI l yX11_fit cX11_fit 4 (some .int) rm_X11_fit Ee S [.ref v0, .int v1, .int v2] Q :=
  openI (by decide) (Nat.le_of_ble_eq_true rfl) (fun X C E ht hn hE hl => by subst hE; exact r_sub [0, 1, 2] rfl (T_X11_fit_0 C E ht hn h))
def rm_X11_fits : Room := { frames := 6, cells := 0, slots := 0, locals := 165 }
def P_X11_fits_0 (Q : Int32 → HS → Prop) (v0 : Nat) (v1 : Int32) (S : HS) : Prop := ob S v0 11 ∧ (∀ S1 : HS, S1 = sI S v0 0 (0 : Int32) → (P_X11_isSeen v0 v1 (fun x4 S2 => Gr S1 S2 → bl x4 → (((x4 = 0) → (P_X11_refused v0 (1 : Int32) (fun x8 S6 => Gr S2 S6 → (Q x8 S6)) S2)) ∧ ((¬ x4 = 0) → (P_X11_fitOf v0 v1 (-1 : Int32) (fun x11 S9 => Gr S2 S9 → (P_X11_good v0 x11 (fun x14 S12 => Gr S9 S12 → (Q x14 S12)) S9)) S2)))) S1))
set_option maxRecDepth 20000 in
set_option maxHeartbeats 4000000 in
theorem T_X11_fits_0 {X : CX} {Q : Int32 → HS → Prop} (C : Cx X cX11_fits RX11 2 rm_X11_fits) (E : ReI X rm_X11_fits Q) (ht : (xh X).sig.returnType = (some .int)) (hn : (xh X).name = yX11_fits.name) {v0 : Nat} {v1 : Int32} {S : HS} (h : P_X11_fits_0 Q v0 v1 S) : WS X 2 0 0 0 [(0, .ref v0), (1, .int v1)] [] S := by
  refine r_aload_n (pc := 0) C dX11_fits_0 0 rfl ?_
  refine r_iconst (pc := 1) C (v := (0 : Int32)) dX11_fits_1 (by decide) ?_
  obtain ⟨o_v0, h⟩ := h
  refine r_puti (pc := 2) C pfL_X11_40 dX11_fits_2 o_v0 ?_
  refine r_heap (fun S1 eS1 => ?_)
  have h := h S1 eS1
  have o_v0 := ob_I eS1 o_v0
  refine r_aload_n (pc := 5) C dX11_fits_5 0 rfl ?_
  refine r_iload_n (pc := 6) C dX11_fits_6 1 rfl ?_
  refine r_callVi0 (pc := 7) C (rest := []) (a := v0) o_v0 [.int v1] yV_X11_isSeen g_1751 (c_X11_isSeen h) dX11_fits_7 rfl rfl (Nat.le_of_ble_eq_true rfl) ⟨by decide, by decide⟩ ⟨by decide, by decide⟩ ⟨rfl, rfl⟩ (fun x4 S2 h g3 => ?_)
  have bx4 := h.1
  have h := h.2 g3 bx4
  have o_v0 := gr_ob g3 o_v0
  refine r_if_eq (pc := 10) C (tgt := 26) dX11_fits_10 (by decide) (fun c5 => ?_) (fun c5 => ?_)
  · have h := h.1 c5
    refine r_aload_n (pc := 26) C dX11_fits_26 0 rfl ?_
    refine r_iconst (pc := 27) C (v := (1 : Int32)) dX11_fits_27 (by decide) ?_
    refine r_callVi0 (pc := 28) C (rest := []) (a := v0) o_v0 [.int (1 : Int32)] yV_X11_refused g_1250 (c_X11_refused h) dX11_fits_28 rfl rfl (Nat.le_of_ble_eq_true rfl) ⟨by decide, by decide⟩ ⟨by decide, by decide⟩ ⟨rfl, rfl⟩ (fun x8 S6 h g7 => ?_)
    have h := h g7
    have o_v0 := gr_ob g7 o_v0
    exact r_iret (pc := 31) C E ht dX11_fits_31 (by decide) (by decide) h
  · have h := h.2 c5
    refine r_aload_n (pc := 13) C dX11_fits_13 0 rfl ?_
    refine r_aload_n (pc := 14) C dX11_fits_14 0 rfl ?_
    refine r_iload_n (pc := 15) C dX11_fits_15 1 rfl ?_
    refine r_iconst (pc := 16) C (v := (-1 : Int32)) dX11_fits_16 (by decide) ?_
    refine r_callVi0 (pc := 17) C (rest := [.ref v0]) (a := v0) o_v0 [.int v1, .int (-1 : Int32)] yV_X11_fitOf g_1755 (c_X11_fitOf h) dX11_fits_17 rfl rfl (Nat.le_of_ble_eq_true rfl) ⟨by decide, by decide⟩ ⟨by decide, by decide⟩ ⟨rfl, rfl⟩ (fun x11 S9 h g10 => ?_)
    have h := h g10
    have o_v0 := gr_ob g10 o_v0
    refine r_callVi0 (pc := 20) C (rest := []) (a := v0) o_v0 [.int x11] yV_X11_good g_1518 (c_X11_good h) dX11_fits_20 rfl rfl (Nat.le_of_ble_eq_true rfl) ⟨by decide, by decide⟩ ⟨by decide, by decide⟩ ⟨rfl, rfl⟩ (fun x14 S12 h g13 => ?_)
    have h := h g13
    have o_v0 := gr_ob g13 o_v0
    refine r_goto (pc := 23) C (tgt := 31) dX11_fits_23 (by decide) ?_
    exact r_iret (pc := 31) C E ht dX11_fits_31 (by decide) (by decide) h
def P_X11_fits (v0 : Nat) (v1 : Int32) (Q : Int32 → HS → Prop) (S : HS) : Prop := P_X11_fits_0 Q v0 v1 S
theorem c_X11_fits {l : Launch} {Ee : EE} {S : HS} {v0 : Nat} {v1 : Int32} {Q : Int32 → HS → Prop} (h : P_X11_fits v0 v1 Q S) : MI l yX11_fits cX11_fits 2 (some .int) rm_X11_fits Ee S [.ref v0, .int v1] Q :=
  openI (by decide) (Nat.le_of_ble_eq_true rfl) (fun X C E ht hn hE hl => by subst hE; exact r_sub [0, 1] rfl (T_X11_fits_0 C E ht hn h))
