def rm_X9_trouble : Room := { frames := 0, cells := 0, slots := 0, locals := 0 }
def P_X9_trouble_0 (Q : Int32 → HS → Prop) (v0 : Nat) (S : HS) : Prop := ob S v0 9 ∧ (∀ x1 : Int32, x1 = fI S v0 9 → (Q x1 S))
set_option maxRecDepth 20000 in
set_option maxHeartbeats 4000000 in
theorem T_X9_trouble_0 {X : CX} {Q : Int32 → HS → Prop} (C : Cx X cX9_trouble RX9 1 rm_X9_trouble) (E : ReI X rm_X9_trouble Q) (ht : (xh X).sig.returnType = (some .int)) (hn : (xh X).name = yX9_trouble.name) {v0 : Nat} {S : HS} (h : P_X9_trouble_0 Q v0 S) : WS X 1 0 0 0 [(0, .ref v0)] [] S := by
  refine r_aload_n (pc := 0) C dX9_trouble_0 0 rfl ?_
  obtain ⟨o_v0, h⟩ := h
  refine r_geti (pc := 1) C fL_X9_92 dX9_trouble_1 o_v0 ?_
  refine r_topi (fun x1 ex1 => ?_)
  have h := h x1 ex1
  exact r_iret (pc := 4) C E ht dX9_trouble_4 (by decide) (by decide) h
def P_X9_trouble (v0 : Nat) (Q : Int32 → HS → Prop) (S : HS) : Prop := P_X9_trouble_0 Q v0 S
theorem c_X9_trouble {l : Launch} {Ee : EE} {S : HS} {v0 : Nat} {Q : Int32 → HS → Prop} (h : P_X9_trouble v0 Q S) : MI l yX9_trouble cX9_trouble 1 (some .int) rm_X9_trouble Ee S [.ref v0] Q :=
  openI (by decide) (Nat.le_of_ble_eq_true rfl) (fun X C E ht hn hE hl => by subst hE; exact r_sub [0] rfl (T_X9_trouble_0 C E ht hn h))
def rm_X9_undo : Room := { frames := 2, cells := 0, slots := 0, locals := 42 }
def P_X9_undo_17 (Q : Int32 → HS → Prop) (s0 : Nat) (s1 : Int32) (S : HS) : Prop := ob S s0 9 ∧ (P_X9_refusedBy s0 s1 (fun x3 S1 => Gr S S1 → bl x3 → (((¬ x3 = 0) → (Q (0 : Int32) S1)) ∧ ((x3 = 0) → (Q (1 : Int32) S1)))) S)
set_option maxRecDepth 20000 in
set_option maxHeartbeats 4000000 in
theorem T_X9_undo_17 {X : CX} {Q : Int32 → HS → Prop} (C : Cx X cX9_undo RX9 1 rm_X9_undo) (E : ReI X rm_X9_undo (fun r S => bl r ∧ Q r S)) (ht : (xh X).sig.returnType = (some .boolean)) (hn : (xh X).name = yX9_undo.name) {s0 : Nat} {s1 : Int32} {S : HS} (h : P_X9_undo_17 Q s0 s1 S) : WS X 1 0 0 17 [] [.int s1, .ref s0] S := by
  obtain ⟨o_s0, h⟩ := h
  refine r_callVi0 (pc := 17) C (rest := []) (a := s0) o_s0 [.int s1] yV_X9_refusedBy g_683 (c_X9_refusedBy h) dX9_undo_17 rfl rfl (Nat.le_of_ble_eq_true rfl) ⟨by decide, by decide⟩ ⟨by decide, by decide⟩ ⟨rfl, rfl⟩ (fun x3 S1 h g2 => ?_)
  have bx3 := h.1
  have h := h.2 g2 bx3
  have o_s0 := gr_ob g2 o_s0
  refine r_if_ne (pc := 20) C (tgt := 27) dX9_undo_20 (by decide) (fun c4 => ?_) (fun c4 => ?_)
  · have h := h.1 c4
    refine r_iconst (pc := 27) C (v := (0 : Int32)) dX9_undo_27 (by decide) ?_
    exact r_zret (pc := 28) C E ht dX9_undo_28 (by decide) (by decide) (Or.inl rfl) h
  · have h := h.2 c4
    refine r_iconst (pc := 23) C (v := (1 : Int32)) dX9_undo_23 (by decide) ?_
    refine r_goto (pc := 24) C (tgt := 28) dX9_undo_24 (by decide) ?_
    exact r_zret (pc := 28) C E ht dX9_undo_28 (by decide) (by decide) (Or.inr rfl) h
def P_X9_undo_0 (Q : Int32 → HS → Prop) (v0 : Nat) (S : HS) : Prop := ob S v0 9 ∧ (∃ a1 : Nat, fR S v0 6 = some a1 ∧ (ob S a1 0 ∧ (P_X0_takeBack a1 (fun x4 S2 => Gr S S2 → bl x4 → (((x4 = 0) → (P_X9_undo_17 Q v0 (6 : Int32) S2)) ∧ ((¬ x4 = 0) → (P_X9_undo_17 Q v0 (0 : Int32) S2)))) S)))
set_option maxRecDepth 20000 in
set_option maxHeartbeats 4000000 in
theorem T_X9_undo_0 {X : CX} {Q : Int32 → HS → Prop} (C : Cx X cX9_undo RX9 1 rm_X9_undo) (E : ReI X rm_X9_undo (fun r S => bl r ∧ Q r S)) (ht : (xh X).sig.returnType = (some .boolean)) (hn : (xh X).name = yX9_undo.name) {v0 : Nat} {S : HS} (h : P_X9_undo_0 Q v0 S) : WS X 1 0 0 0 [(0, .ref v0)] [] S := by
  refine r_aload_n (pc := 0) C dX9_undo_0 0 rfl ?_
  refine r_aload_n (pc := 1) C dX9_undo_1 0 rfl ?_
  obtain ⟨o_v0, h⟩ := h
  obtain ⟨a1, ea1, h⟩ := h
  refine r_getr (pc := 2) C fL_X9_44 dX9_undo_2 o_v0 ea1 ?_
  obtain ⟨o_a1, h⟩ := h
  refine r_callVi0 (pc := 5) C (rest := [.ref v0]) (a := a1) o_a1 [] yV_X0_takeBack g_1040 (c_X0_takeBack h) dX9_undo_5 rfl rfl (Nat.le_of_ble_eq_true rfl) ⟨by decide, by decide⟩ ⟨by decide, by decide⟩ ⟨rfl, rfl⟩ (fun x4 S2 h g3 => ?_)
  have bx4 := h.1
  have h := h.2 g3 bx4
  have o_a1 := gr_ob g3 o_a1
  have o_v0 := gr_ob g3 o_v0
  refine r_if_eq (pc := 8) C (tgt := 15) dX9_undo_8 (by decide) (fun c5 => ?_) (fun c5 => ?_)
  · have h := h.1 c5
    refine r_bipush (pc := 15) C (v := (6 : Int32)) dX9_undo_15 (by decide) ?_
    exact r_sub [] rfl (T_X9_undo_17 C E ht hn h)
  · have h := h.2 c5
    refine r_iconst (pc := 11) C (v := (0 : Int32)) dX9_undo_11 (by decide) ?_
    refine r_goto (pc := 12) C (tgt := 17) dX9_undo_12 (by decide) ?_
    exact r_sub [] rfl (T_X9_undo_17 C E ht hn h)
def P_X9_undo (v0 : Nat) (Q : Int32 → HS → Prop) (S : HS) : Prop := P_X9_undo_0 Q v0 S
theorem c_X9_undo {l : Launch} {Ee : EE} {S : HS} {v0 : Nat} {Q : Int32 → HS → Prop} (h : P_X9_undo v0 Q S) : MI l yX9_undo cX9_undo 1 (some .boolean) rm_X9_undo Ee S [.ref v0] (fun r S => bl r ∧ Q r S) :=
  openI (by decide) (Nat.le_of_ble_eq_true rfl) (fun X C E ht hn hE hl => by subst hE; exact r_sub [0] rfl (T_X9_undo_0 C E ht hn h))
def rm_X9_walker : Room := { frames := 1, cells := 0, slots := 0, locals := 21 }
def P_X9_walker_21 (Q : Int32 → HS → Prop) (v0 : Nat) (S : HS) : Prop := ob S v0 9 ∧ (P_X9_refuse v0 (1 : Int32) (fun x3 S1 => Gr S S1 → (Q x3 S1)) S)
set_option maxRecDepth 20000 in
set_option maxHeartbeats 4000000 in
theorem T_X9_walker_21 {X : CX} {Q : Int32 → HS → Prop} (C : Cx X cX9_walker RX9 3 rm_X9_walker) (E : ReI X rm_X9_walker Q) (ht : (xh X).sig.returnType = (some .int)) (hn : (xh X).name = yX9_walker.name) {v0 : Nat} {S : HS} (h : P_X9_walker_21 Q v0 S) : WS X 3 0 0 21 [(0, .ref v0)] [] S := by
  refine r_aload_n (pc := 21) C dX9_walker_21 0 rfl ?_
  refine r_iconst (pc := 22) C (v := (1 : Int32)) dX9_walker_22 (by decide) ?_
  obtain ⟨o_v0, h⟩ := h
  refine r_callVi0 (pc := 23) C (rest := []) (a := v0) o_v0 [.int (1 : Int32)] yV_X9_refuse g_430 (c_X9_refuse h) dX9_walker_23 rfl rfl (Nat.le_of_ble_eq_true rfl) ⟨by decide, by decide⟩ ⟨by decide, by decide⟩ ⟨rfl, rfl⟩ (fun x3 S1 h g2 => ?_)
  have h := h g2
  have o_v0 := gr_ob g2 o_v0
  exact r_iret (pc := 26) C E ht dX9_walker_26 (by decide) (by decide) h
def P_X9_walker_0 (Q : Int32 → HS → Prop) (v0 : Nat) (v1 : Int32) (v2 : Int32) (S : HS) : Prop := ob S v0 9 ∧ (∃ a1 : Nat, fR S v0 2 = some a1 ∧ (ob S a1 8 ∧ (P_X8_hasWalker a1 v1 (fun x4 S2 => Gr S S2 → bl x4 → (((x4 = 0) → (P_X9_walker_21 Q v0 S2)) ∧ ((¬ x4 = 0) → (((v2 < 0) → (P_X9_walker_21 Q v0 S2)) ∧ ((¬ v2 < 0) → (((v2 ≤ (6 : Int32)) → (∃ a8 : Nat, fR S2 v0 2 = some a8 ∧ (ob S2 a8 8 ∧ (∃ a9 : Nat, fR S2 a8 9 = some a9 ∧ (ob S2 a9 19 ∧ (vp_in v1 (hN S2 a9) ∧ ∃ a11 : Nat, fR S2 a9 v1.toNatClampNeg = some a11 ∧ (ob S2 a11 6 ∧ (P_X6_tell a11 v2 (fun x14 S12 => Gr S2 S12 → (P_X9_grant v0 x14 (fun x17 S15 => Gr S12 S15 → (Q x17 S15)) S12)) S2)))))))) ∧ ((¬ v2 ≤ (6 : Int32)) → (P_X9_walker_21 Q v0 S2)))))))) S)))
set_option maxRecDepth 20000 in
set_option maxHeartbeats 4000000 in
theorem T_X9_walker_0 {X : CX} {Q : Int32 → HS → Prop} (C : Cx X cX9_walker RX9 3 rm_X9_walker) (E : ReI X rm_X9_walker Q) (ht : (xh X).sig.returnType = (some .int)) (hn : (xh X).name = yX9_walker.name) {v0 : Nat} {v1 : Int32} {v2 : Int32} {S : HS} (h : P_X9_walker_0 Q v0 v1 v2 S) : WS X 3 0 0 0 [(0, .ref v0), (1, .int v1), (2, .int v2)] [] S := by
  refine r_aload_n (pc := 0) C dX9_walker_0 0 rfl ?_
  obtain ⟨o_v0, h⟩ := h
  obtain ⟨a1, ea1, h⟩ := h
  refine r_getr (pc := 1) C fL_X9_16 dX9_walker_1 o_v0 ea1 ?_
  refine r_iload_n (pc := 4) C dX9_walker_4 1 rfl ?_
  obtain ⟨o_a1, h⟩ := h
  refine r_callVi0 (pc := 5) C (rest := []) (a := a1) o_a1 [.int v1] yV_X8_hasWalker g_664 (c_X8_hasWalker h) dX9_walker_5 rfl rfl (Nat.le_of_ble_eq_true rfl) ⟨by decide, by decide⟩ ⟨by decide, by decide⟩ ⟨rfl, rfl⟩ (fun x4 S2 h g3 => ?_)
  have bx4 := h.1
  have h := h.2 g3 bx4
  have o_a1 := gr_ob g3 o_a1
  have o_v0 := gr_ob g3 o_v0
  refine r_if_eq (pc := 8) C (tgt := 21) dX9_walker_8 (by decide) (fun c5 => ?_) (fun c5 => ?_)
  · have h := h.1 c5
    exact r_sub [0] rfl (T_X9_walker_21 C E ht hn h)
  · have h := h.2 c5
    refine r_iload_n (pc := 11) C dX9_walker_11 2 rfl ?_
    refine r_if_lt (pc := 12) C (tgt := 21) dX9_walker_12 (by decide) (fun c6 => ?_) (fun c6 => ?_)
    · have h := h.1 c6
      exact r_sub [0] rfl (T_X9_walker_21 C E ht hn h)
    · have h := h.2 c6
      refine r_iload_n (pc := 15) C dX9_walker_15 2 rfl ?_
      refine r_bipush (pc := 16) C (v := (6 : Int32)) dX9_walker_16 (by decide) ?_
      refine r_icmp_le (pc := 18) C (tgt := 27) dX9_walker_18 (by decide) (fun c7 => ?_) (fun c7 => ?_)
      · have h := h.1 c7
        refine r_aload_n (pc := 27) C dX9_walker_27 0 rfl ?_
        refine r_aload_n (pc := 28) C dX9_walker_28 0 rfl ?_
        obtain ⟨a8, ea8, h⟩ := h
        refine r_getr (pc := 29) C fL_X9_16 dX9_walker_29 o_v0 ea8 ?_
        obtain ⟨o_a8, h⟩ := h
        obtain ⟨a9, ea9, h⟩ := h
        refine r_getr (pc := 32) C fL_X9_108 dX9_walker_32 o_a8 ea9 ?_
        refine r_iload_n (pc := 35) C dX9_walker_35 1 rfl ?_
        obtain ⟨o_a9, h⟩ := h
        obtain ⟨i10, a11, ea11, h⟩ := h
        refine r_aald19 (pc := 36) C dX9_walker_36 o_a9 i10 ea11 ?_
        refine r_iload_n (pc := 37) C dX9_walker_37 2 rfl ?_
        obtain ⟨o_a11, h⟩ := h
        refine r_callVi0 (pc := 38) C (rest := [.ref v0]) (a := a11) o_a11 [.int v2] yV_X6_tell g_1064 (c_X6_tell h) dX9_walker_38 rfl rfl (Nat.le_of_ble_eq_true rfl) ⟨by decide, by decide⟩ ⟨by decide, by decide⟩ ⟨rfl, rfl⟩ (fun x14 S12 h g13 => ?_)
        have h := h g13
        have o_a1 := gr_ob g13 o_a1
        have o_a11 := gr_ob g13 o_a11
        have o_a8 := gr_ob g13 o_a8
        have o_a9 := gr_ob g13 o_a9
        have o_v0 := gr_ob g13 o_v0
        refine r_callVi0 (pc := 41) C (rest := []) (a := v0) o_v0 [.int x14] yV_X9_grant g_637 (c_X9_grant h) dX9_walker_41 rfl rfl (Nat.le_of_ble_eq_true rfl) ⟨by decide, by decide⟩ ⟨by decide, by decide⟩ ⟨rfl, rfl⟩ (fun x17 S15 h g16 => ?_)
        have h := h g16
        have o_a1 := gr_ob g16 o_a1
        have o_a11 := gr_ob g16 o_a11
        have o_a8 := gr_ob g16 o_a8
        have o_a9 := gr_ob g16 o_a9
        have o_v0 := gr_ob g16 o_v0
        exact r_iret (pc := 44) C E ht dX9_walker_44 (by decide) (by decide) h
      · have h := h.2 c7
        exact r_sub [0] rfl (T_X9_walker_21 C E ht hn h)
def P_X9_walker (v0 : Nat) (v1 : Int32) (v2 : Int32) (Q : Int32 → HS → Prop) (S : HS) : Prop := P_X9_walker_0 Q v0 v1 v2 S
theorem c_X9_walker {l : Launch} {Ee : EE} {S : HS} {v0 : Nat} {v1 : Int32} {v2 : Int32} {Q : Int32 → HS → Prop} (h : P_X9_walker v0 v1 v2 Q S) : MI l yX9_walker cX9_walker 3 (some .int) rm_X9_walker Ee S [.ref v0, .int v1, .int v2] Q :=
  openI (by decide) (Nat.le_of_ble_eq_true rfl) (fun X C E ht hn hE hl => by subst hE; exact r_sub [0, 1, 2] rfl (T_X9_walker_0 C E ht hn h))
def rm_X9_wet : Room := { frames := 4, cells := 0, slots := 0, locals := 101 }
def P_X9_wet_0 (Q : Int64 → HS → Prop) (v0 : Nat) (v1 : Int32) (v2 : Int32) (v3 : Int32) (v4 : Int32) (v5 : Int32) (v6 : Int32) (S : HS) : Prop := ob S v0 9 ∧ (P_X9_legTrouble v0 v1 v2 v3 v4 v5 (fun x3 S1 => Gr S S1 → (P_X9_refusedBy v0 x3 (fun x6 S4 => Gr S1 S4 → bl x6 → (((x6 = 0) → (∃ a8 : Nat, fR S4 v0 4 = some a8 ∧ (∃ a9 : Nat, fR S4 v0 2 = some a9 ∧ (ob S4 a9 8 ∧ (∃ a10 : Nat, fR S4 a9 9 = some a10 ∧ (ob S4 a10 19 ∧ (vp_in v1 (hN S4 a10) ∧ ∃ a12 : Nat, fR S4 a10 v1.toNatClampNeg = some a12 ∧ (∃ a13 : Nat, fR S4 v0 2 = some a13 ∧ (ob S4 a13 8 ∧ (∃ a14 : Nat, fR S4 a13 8 = some a14 ∧ (ob S4 a14 18 ∧ (vp_in v2 (hN S4 a14) ∧ ∃ a16 : Nat, fR S4 a14 v2.toNatClampNeg = some a16 ∧ (∃ a17 : Nat, fR S4 v0 2 = some a17 ∧ (ob S4 a17 8 ∧ (∃ a18 : Nat, fR S4 a17 6 = some a18 ∧ (ob S4 a18 17 ∧ (vp_in v4 (hN S4 a18) ∧ ∃ a20 : Nat, fR S4 a18 v4.toNatClampNeg = some a20 ∧ (ob S4 a8 1 ∧ (P_X1_wetOf a8 a12 a16 v3 a20 v5 (fun x23 S21 => Gr S4 S21 → (P_X9_fraction x23 (2520 : Int64) v6 (fun x26 S24 => Gr S21 S24 → (Q x26 S24)) S21)) S4))))))))))))))))))) ∧ ((¬ x6 = 0) → (Q (-1 : Int64) S4)))) S1)) S)
set_option maxRecDepth 20000 in
set_option maxHeartbeats 4000000 in
theorem T_X9_wet_0 {X : CX} {Q : Int64 → HS → Prop} (C : Cx X cX9_wet RX9 7 rm_X9_wet) (E : ReJ X rm_X9_wet Q) (ht : (xh X).sig.returnType = (some .long)) (hn : (xh X).name = yX9_wet.name) {v0 : Nat} {v1 : Int32} {v2 : Int32} {v3 : Int32} {v4 : Int32} {v5 : Int32} {v6 : Int32} {S : HS} (h : P_X9_wet_0 Q v0 v1 v2 v3 v4 v5 v6 S) : WS X 7 0 0 0 [(0, .ref v0), (1, .int v1), (2, .int v2), (3, .int v3), (4, .int v4), (5, .int v5), (6, .int v6)] [] S := by
  refine r_aload_n (pc := 0) C dX9_wet_0 0 rfl ?_
  refine r_aload_n (pc := 1) C dX9_wet_1 0 rfl ?_
  refine r_iload_n (pc := 2) C dX9_wet_2 1 rfl ?_
  refine r_iload_n (pc := 3) C dX9_wet_3 2 rfl ?_
  refine r_iload_n (pc := 4) C dX9_wet_4 3 rfl ?_
  refine r_iload (pc := 5) C dX9_wet_5 4 rfl ?_
  refine r_iload (pc := 7) C dX9_wet_7 5 rfl ?_
  obtain ⟨o_v0, h⟩ := h
  refine r_callVi0 (pc := 9) C (rest := [.ref v0]) (a := v0) o_v0 [.int v1, .int v2, .int v3, .int v4, .int v5] yV_X9_legTrouble g_656 (c_X9_legTrouble h) dX9_wet_9 rfl rfl (Nat.le_of_ble_eq_true rfl) ⟨by decide, by decide⟩ ⟨by decide, by decide⟩ ⟨rfl, rfl⟩ (fun x3 S1 h g2 => ?_)
  have h := h g2
  have o_v0 := gr_ob g2 o_v0
  refine r_callVi0 (pc := 12) C (rest := []) (a := v0) o_v0 [.int x3] yV_X9_refusedBy g_683 (c_X9_refusedBy h) dX9_wet_12 rfl rfl (Nat.le_of_ble_eq_true rfl) ⟨by decide, by decide⟩ ⟨by decide, by decide⟩ ⟨rfl, rfl⟩ (fun x6 S4 h g5 => ?_)
  have bx6 := h.1
  have h := h.2 g5 bx6
  have o_v0 := gr_ob g5 o_v0
  refine r_if_eq (pc := 15) C (tgt := 22) dX9_wet_15 (by decide) (fun c7 => ?_) (fun c7 => ?_)
  · have h := h.1 c7
    refine r_aload_n (pc := 22) C dX9_wet_22 0 rfl ?_
    obtain ⟨a8, ea8, h⟩ := h
    refine r_getr (pc := 23) C fL_X9_30 dX9_wet_23 o_v0 ea8 ?_
    refine r_aload_n (pc := 26) C dX9_wet_26 0 rfl ?_
    obtain ⟨a9, ea9, h⟩ := h
    refine r_getr (pc := 27) C fL_X9_16 dX9_wet_27 o_v0 ea9 ?_
    obtain ⟨o_a9, h⟩ := h
    obtain ⟨a10, ea10, h⟩ := h
    refine r_getr (pc := 30) C fL_X9_108 dX9_wet_30 o_a9 ea10 ?_
    refine r_iload_n (pc := 33) C dX9_wet_33 1 rfl ?_
    obtain ⟨o_a10, h⟩ := h
    obtain ⟨i11, a12, ea12, h⟩ := h
    refine r_aald19 (pc := 34) C dX9_wet_34 o_a10 i11 ea12 ?_
    refine r_aload_n (pc := 35) C dX9_wet_35 0 rfl ?_
    obtain ⟨a13, ea13, h⟩ := h
    refine r_getr (pc := 36) C fL_X9_16 dX9_wet_36 o_v0 ea13 ?_
    obtain ⟨o_a13, h⟩ := h
    obtain ⟨a14, ea14, h⟩ := h
    refine r_getr (pc := 39) C fL_X9_112 dX9_wet_39 o_a13 ea14 ?_
    refine r_iload_n (pc := 42) C dX9_wet_42 2 rfl ?_
    obtain ⟨o_a14, h⟩ := h
    obtain ⟨i15, a16, ea16, h⟩ := h
    refine r_aald18 (pc := 43) C dX9_wet_43 o_a14 i15 ea16 ?_
    refine r_iload_n (pc := 44) C dX9_wet_44 3 rfl ?_
    refine r_aload_n (pc := 45) C dX9_wet_45 0 rfl ?_
    obtain ⟨a17, ea17, h⟩ := h
    refine r_getr (pc := 46) C fL_X9_16 dX9_wet_46 o_v0 ea17 ?_
    obtain ⟨o_a17, h⟩ := h
    obtain ⟨a18, ea18, h⟩ := h
    refine r_getr (pc := 49) C fL_X9_116 dX9_wet_49 o_a17 ea18 ?_
    refine r_iload (pc := 52) C dX9_wet_52 4 rfl ?_
    obtain ⟨o_a18, h⟩ := h
    obtain ⟨i19, a20, ea20, h⟩ := h
    refine r_aald17 (pc := 54) C dX9_wet_54 o_a18 i19 ea20 ?_
    refine r_iload (pc := 55) C dX9_wet_55 5 rfl ?_
    obtain ⟨o_a8, h⟩ := h
    refine r_callVl0 (pc := 57) C (rest := []) (a := a8) o_a8 [.ref a12, .ref a16, .int v3, .ref a20, .int v5] yV_X1_wetOf g_688 (c_X1_wetOf h) dX9_wet_57 rfl rfl (Nat.le_of_ble_eq_true rfl) ⟨by decide, by decide⟩ ⟨by decide, by decide⟩ ⟨rfl, rfl⟩ (fun x23 S21 h g22 => ?_)
    have h := h g22
    have o_a10 := gr_ob g22 o_a10
    have o_a13 := gr_ob g22 o_a13
    have o_a14 := gr_ob g22 o_a14
    have o_a17 := gr_ob g22 o_a17
    have o_a18 := gr_ob g22 o_a18
    have o_a8 := gr_ob g22 o_a8
    have o_a9 := gr_ob g22 o_a9
    have o_v0 := gr_ob g22 o_v0
    refine r_ldc2 (pc := 60) C (v := (2520 : Int64)) dX9_wet_60 g_721 ?_
    refine r_iload (pc := 63) C dX9_wet_63 6 rfl ?_
    refine r_callSl0 (pc := 65) C (rest := []) rfl [.long x23, .long (2520 : Int64), .int v6] yS_X9_fraction g_722 (c_X9_fraction h) dX9_wet_65 rfl rfl (Nat.le_of_ble_eq_true rfl) ⟨by decide, by decide⟩ ⟨by decide, by decide⟩ ⟨rfl, rfl⟩ (fun x26 S24 h g25 => ?_)
    have h := h g25
    have o_a10 := gr_ob g25 o_a10
    have o_a13 := gr_ob g25 o_a13
    have o_a14 := gr_ob g25 o_a14
    have o_a17 := gr_ob g25 o_a17
    have o_a18 := gr_ob g25 o_a18
    have o_a8 := gr_ob g25 o_a8
    have o_a9 := gr_ob g25 o_a9
    have o_v0 := gr_ob g25 o_v0
    exact r_lret (pc := 68) C E ht dX9_wet_68 (by decide) (by decide) h
  · have h := h.2 c7
    refine r_ldc2 (pc := 18) C (v := (-1 : Int64)) dX9_wet_18 g_687 ?_
    exact r_lret (pc := 21) C E ht dX9_wet_21 (by decide) (by decide) h
def P_X9_wet (v0 : Nat) (v1 : Int32) (v2 : Int32) (v3 : Int32) (v4 : Int32) (v5 : Int32) (v6 : Int32) (Q : Int64 → HS → Prop) (S : HS) : Prop := P_X9_wet_0 Q v0 v1 v2 v3 v4 v5 v6 S
theorem c_X9_wet {l : Launch} {Ee : EE} {S : HS} {v0 : Nat} {v1 : Int32} {v2 : Int32} {v3 : Int32} {v4 : Int32} {v5 : Int32} {v6 : Int32} {Q : Int64 → HS → Prop} (h : P_X9_wet v0 v1 v2 v3 v4 v5 v6 Q S) : MJ l yX9_wet cX9_wet 7 (some .long) rm_X9_wet Ee S [.ref v0, .int v1, .int v2, .int v3, .int v4, .int v5, .int v6] Q :=
  openJ (by decide) (Nat.le_of_ble_eq_true rfl) (fun X C E ht hn hE hl => by subst hE; exact r_sub [0, 1, 2, 3, 4, 5, 6] rfl (T_X9_wet_0 C E ht hn h))
def rm_X9_wetness : Room := { frames := 2, cells := 0, slots := 0, locals := 56 }
def P_X9_wetness_27 (Q : Int64 → HS → Prop) (v0 : Nat) (S : HS) : Prop := ob S v0 9 ∧ (P_X9_refuse v0 (1 : Int32) (fun x3 S1 => Gr S S1 → (Q x3.toInt64 S1)) S)
set_option maxRecDepth 20000 in
set_option maxHeartbeats 4000000 in
theorem T_X9_wetness_27 {X : CX} {Q : Int64 → HS → Prop} (C : Cx X cX9_wetness RX9 4 rm_X9_wetness) (E : ReJ X rm_X9_wetness Q) (ht : (xh X).sig.returnType = (some .long)) (hn : (xh X).name = yX9_wetness.name) {v0 : Nat} {S : HS} (h : P_X9_wetness_27 Q v0 S) : WS X 4 0 0 27 [(0, .ref v0)] [] S := by
  refine r_aload_n (pc := 27) C dX9_wetness_27 0 rfl ?_
  refine r_iconst (pc := 28) C (v := (1 : Int32)) dX9_wetness_28 (by decide) ?_
  obtain ⟨o_v0, h⟩ := h
  refine r_callVi0 (pc := 29) C (rest := []) (a := v0) o_v0 [.int (1 : Int32)] yV_X9_refuse g_430 (c_X9_refuse h) dX9_wetness_29 rfl rfl (Nat.le_of_ble_eq_true rfl) ⟨by decide, by decide⟩ ⟨by decide, by decide⟩ ⟨rfl, rfl⟩ (fun x3 S1 h g2 => ?_)
  have h := h g2
  have o_v0 := gr_ob g2 o_v0
  refine r_i2l (pc := 32) C dX9_wetness_32 ?_
  exact r_lret (pc := 33) C E ht dX9_wetness_33 (by decide) (by decide) h
def P_X9_wetness_0 (Q : Int64 → HS → Prop) (v0 : Nat) (v1 : Int32) (S : HS) : Prop := ob S v0 9 ∧ (∃ a1 : Nat, fR S v0 6 = some a1 ∧ (ob S a1 0 ∧ (P_X0_isOn a1 (fun x4 S2 => Gr S S2 → bl x4 → (((x4 = 0) → (P_X9_wetness_27 Q v0 S2)) ∧ ((¬ x4 = 0) → (∃ a6 : Nat, fR S2 v0 2 = some a6 ∧ (∃ a7 : Nat, fR S2 v0 6 = some a7 ∧ (ob S2 a7 0 ∧ (∀ x8 : Int32, x8 = fI S2 a7 0 → (ob S2 a6 8 ∧ (P_X8_hasWalker a6 x8 (fun x11 S9 => Gr S2 S9 → bl x11 → (((¬ x11 = 0) → (∀ S13 : HS, S13 = sI S9 v0 9 (0 : Int32) → (∃ a14 : Nat, fR S13 v0 6 = some a14 ∧ (ob S13 a14 0 ∧ (∃ a15 : Nat, fR S13 a14 4 = some a15 ∧ (ob S13 a15 2 ∧ (P_X2_allGot a15 (fun x18 S16 => Gr S13 S16 → (∃ a19 : Nat, fR S16 v0 2 = some a19 ∧ (ob S16 a19 8 ∧ (∃ a20 : Nat, fR S16 a19 9 = some a20 ∧ (∃ a21 : Nat, fR S16 v0 6 = some a21 ∧ (ob S16 a21 0 ∧ (∀ x22 : Int32, x22 = fI S16 a21 0 → (ob S16 a20 19 ∧ (vp_in x22 (hN S16 a20) ∧ ∃ a24 : Nat, fR S16 a20 x22.toNatClampNeg = some a24 ∧ (P_X9_coatParts a24 (fun x27 S25 => Gr S16 S25 → (∀ x28 : Int64, x28 = x18 - x27 → (∀ x29 : Int64, x29 = (if (0 : Int64) < x28 then x28 else (0 : Int64)) → (P_X9_fraction x29 (2520 : Int64) v1 (fun x32 S30 => Gr S25 S30 → (Q x32 S30)) S25)))) S16)))))))))) S13))))))) ∧ ((x11 = 0) → (P_X9_wetness_27 Q v0 S9)))) S2))))))))) S)))
set_option maxRecDepth 20000 in
set_option maxHeartbeats 4000000 in
theorem T_X9_wetness_0 {X : CX} {Q : Int64 → HS → Prop} (C : Cx X cX9_wetness RX9 4 rm_X9_wetness) (E : ReJ X rm_X9_wetness Q) (ht : (xh X).sig.returnType = (some .long)) (hn : (xh X).name = yX9_wetness.name) {v0 : Nat} {v1 : Int32} {S : HS} (h : P_X9_wetness_0 Q v0 v1 S) : WS X 4 0 0 0 [(0, .ref v0), (1, .int v1)] [] S := by
  refine r_aload_n (pc := 0) C dX9_wetness_0 0 rfl ?_
  obtain ⟨o_v0, h⟩ := h
  obtain ⟨a1, ea1, h⟩ := h
  refine r_getr (pc := 1) C fL_X9_44 dX9_wetness_1 o_v0 ea1 ?_
  obtain ⟨o_a1, h⟩ := h
  refine r_callVi0 (pc := 4) C (rest := []) (a := a1) o_a1 [] yV_X0_isOn g_981 (c_X0_isOn h) dX9_wetness_4 rfl rfl (Nat.le_of_ble_eq_true rfl) ⟨by decide, by decide⟩ ⟨by decide, by decide⟩ ⟨rfl, rfl⟩ (fun x4 S2 h g3 => ?_)
  have bx4 := h.1
  have h := h.2 g3 bx4
  have o_a1 := gr_ob g3 o_a1
  have o_v0 := gr_ob g3 o_v0
  refine r_if_eq (pc := 7) C (tgt := 27) dX9_wetness_7 (by decide) (fun c5 => ?_) (fun c5 => ?_)
  · have h := h.1 c5
    exact r_sub [0] rfl (T_X9_wetness_27 C E ht hn h)
  · have h := h.2 c5
    refine r_aload_n (pc := 10) C dX9_wetness_10 0 rfl ?_
    obtain ⟨a6, ea6, h⟩ := h
    refine r_getr (pc := 11) C fL_X9_16 dX9_wetness_11 o_v0 ea6 ?_
    refine r_aload_n (pc := 14) C dX9_wetness_14 0 rfl ?_
    obtain ⟨a7, ea7, h⟩ := h
    refine r_getr (pc := 15) C fL_X9_44 dX9_wetness_15 o_v0 ea7 ?_
    obtain ⟨o_a7, h⟩ := h
    refine r_geti (pc := 18) C fL_X9_282 dX9_wetness_18 o_a7 ?_
    refine r_topi (fun x8 ex8 => ?_)
    have h := h x8 ex8
    obtain ⟨o_a6, h⟩ := h
    refine r_callVi0 (pc := 21) C (rest := []) (a := a6) o_a6 [.int x8] yV_X8_hasWalker g_664 (c_X8_hasWalker h) dX9_wetness_21 rfl rfl (Nat.le_of_ble_eq_true rfl) ⟨by decide, by decide⟩ ⟨by decide, by decide⟩ ⟨rfl, rfl⟩ (fun x11 S9 h g10 => ?_)
    have bx11 := h.1
    have h := h.2 g10 bx11
    have o_a1 := gr_ob g10 o_a1
    have o_a6 := gr_ob g10 o_a6
    have o_a7 := gr_ob g10 o_a7
    have o_v0 := gr_ob g10 o_v0
    refine r_if_ne (pc := 24) C (tgt := 34) dX9_wetness_24 (by decide) (fun c12 => ?_) (fun c12 => ?_)
    · have h := h.1 c12
      refine r_aload_n (pc := 34) C dX9_wetness_34 0 rfl ?_
      refine r_iconst (pc := 35) C (v := (0 : Int32)) dX9_wetness_35 (by decide) ?_
      refine r_puti (pc := 36) C pfL_X9_92 dX9_wetness_36 o_v0 ?_
      refine r_heap (fun S13 eS13 => ?_)
      have h := h S13 eS13
      have o_a1 := ob_I eS13 o_a1
      have o_a6 := ob_I eS13 o_a6
      have o_a7 := ob_I eS13 o_a7
      have o_v0 := ob_I eS13 o_v0
      refine r_aload_n (pc := 39) C dX9_wetness_39 0 rfl ?_
      obtain ⟨a14, ea14, h⟩ := h
      refine r_getr (pc := 40) C fL_X9_44 dX9_wetness_40 o_v0 ea14 ?_
      obtain ⟨o_a14, h⟩ := h
      obtain ⟨a15, ea15, h⟩ := h
      refine r_getr (pc := 43) C fL_X9_287 dX9_wetness_43 o_a14 ea15 ?_
      obtain ⟨o_a15, h⟩ := h
      refine r_callVl0 (pc := 46) C (rest := []) (a := a15) o_a15 [] yV_X2_allGot g_1022 (c_X2_allGot h) dX9_wetness_46 rfl rfl (Nat.le_of_ble_eq_true rfl) ⟨by decide, by decide⟩ ⟨by decide, by decide⟩ ⟨rfl, rfl⟩ (fun x18 S16 h g17 => ?_)
      have h := h g17
      have o_a1 := gr_ob g17 o_a1
      have o_a14 := gr_ob g17 o_a14
      have o_a15 := gr_ob g17 o_a15
      have o_a6 := gr_ob g17 o_a6
      have o_a7 := gr_ob g17 o_a7
      have o_v0 := gr_ob g17 o_v0
      refine r_aload_n (pc := 49) C dX9_wetness_49 0 rfl ?_
      obtain ⟨a19, ea19, h⟩ := h
      refine r_getr (pc := 50) C fL_X9_16 dX9_wetness_50 o_v0 ea19 ?_
      obtain ⟨o_a19, h⟩ := h
      obtain ⟨a20, ea20, h⟩ := h
      refine r_getr (pc := 53) C fL_X9_108 dX9_wetness_53 o_a19 ea20 ?_
      refine r_aload_n (pc := 56) C dX9_wetness_56 0 rfl ?_
      obtain ⟨a21, ea21, h⟩ := h
      refine r_getr (pc := 57) C fL_X9_44 dX9_wetness_57 o_v0 ea21 ?_
      obtain ⟨o_a21, h⟩ := h
      refine r_geti (pc := 60) C fL_X9_282 dX9_wetness_60 o_a21 ?_
      refine r_topi (fun x22 ex22 => ?_)
      have h := h x22 ex22
      obtain ⟨o_a20, h⟩ := h
      obtain ⟨i23, a24, ea24, h⟩ := h
      refine r_aald19 (pc := 63) C dX9_wetness_63 o_a20 i23 ea24 ?_
      refine r_callSl0 (pc := 64) C (rest := [.long x18]) rfl [.ref a24] yS_X9_coatParts g_1026 (c_X9_coatParts h) dX9_wetness_64 rfl rfl (Nat.le_of_ble_eq_true rfl) ⟨by decide, by decide⟩ ⟨by decide, by decide⟩ ⟨rfl, rfl⟩ (fun x27 S25 h g26 => ?_)
      have h := h g26
      have o_a1 := gr_ob g26 o_a1
      have o_a14 := gr_ob g26 o_a14
      have o_a15 := gr_ob g26 o_a15
      have o_a19 := gr_ob g26 o_a19
      have o_a20 := gr_ob g26 o_a20
      have o_a21 := gr_ob g26 o_a21
      have o_a6 := gr_ob g26 o_a6
      have o_a7 := gr_ob g26 o_a7
      have o_v0 := gr_ob g26 o_v0
      refine r_lsub (pc := 67) C dX9_wetness_67 ?_
      refine r_topl (fun x28 ex28 => ?_)
      have h := h x28 ex28
      refine r_lstore_n (pc := 68) C dX9_wetness_68 rfl (by decide) (lv' := [(2, .long x28), (0, .ref v0), (1, .int v1)]) rfl ?_
      refine r_lload_n (pc := 69) C dX9_wetness_69 0 rfl ?_
      refine r_lconst (pc := 70) C (v := (0 : Int64)) dX9_wetness_70 (by decide) ?_
      refine r_maxl (pc := 71) C g_1029 dX9_wetness_71 (by decide) (Nat.le_of_ble_eq_true rfl) (by decide) (by decide) ?_
      refine r_topl (fun x29 ex29 => ?_)
      have h := h x29 ex29
      refine r_ldc2 (pc := 74) C (v := (2520 : Int64)) dX9_wetness_74 g_721 ?_
      refine r_iload_n (pc := 77) C dX9_wetness_77 2 rfl ?_
      refine r_callSl0 (pc := 78) C (rest := []) rfl [.long x29, .long (2520 : Int64), .int v1] yS_X9_fraction g_722 (c_X9_fraction h) dX9_wetness_78 rfl rfl (Nat.le_of_ble_eq_true rfl) ⟨by decide, by decide⟩ ⟨by decide, by decide⟩ ⟨rfl, rfl⟩ (fun x32 S30 h g31 => ?_)
      have h := h g31
      have o_a1 := gr_ob g31 o_a1
      have o_a14 := gr_ob g31 o_a14
      have o_a15 := gr_ob g31 o_a15
      have o_a19 := gr_ob g31 o_a19
      have o_a20 := gr_ob g31 o_a20
      have o_a21 := gr_ob g31 o_a21
      have o_a6 := gr_ob g31 o_a6
      have o_a7 := gr_ob g31 o_a7
      have o_v0 := gr_ob g31 o_v0
      exact r_lret (pc := 81) C E ht dX9_wetness_81 (by decide) (by decide) h
    · have h := h.2 c12
      exact r_sub [0] rfl (T_X9_wetness_27 C E ht hn h)
def P_X9_wetness (v0 : Nat) (v1 : Int32) (Q : Int64 → HS → Prop) (S : HS) : Prop := P_X9_wetness_0 Q v0 v1 S
theorem c_X9_wetness {l : Launch} {Ee : EE} {S : HS} {v0 : Nat} {v1 : Int32} {Q : Int64 → HS → Prop} (h : P_X9_wetness v0 v1 Q S) : MJ l yX9_wetness cX9_wetness 4 (some .long) rm_X9_wetness Ee S [.ref v0, .int v1] Q :=
  openJ (by decide) (Nat.le_of_ble_eq_true rfl) (fun X C E ht hn hE hl => by subst hE; exact r_sub [0, 1] rfl (T_X9_wetness_0 C E ht hn h))
def rm_X9_where : Room := { frames := 0, cells := 0, slots := 0, locals := 0 }
def P_X9_where_0 (Q : Int32 → HS → Prop) (v0 : Nat) (S : HS) : Prop := ob S v0 9 ∧ (∀ x1 : Int32, x1 = fI S v0 9 → (((¬ x1 = (4 : Int32)) → (Q (-1 : Int32) S)) ∧ ((x1 = (4 : Int32)) → (∀ x3 : Int32, x3 = fI S v0 8 → (Q x3 S)))))
set_option maxRecDepth 20000 in
set_option maxHeartbeats 4000000 in
theorem T_X9_where_0 {X : CX} {Q : Int32 → HS → Prop} (C : Cx X cX9_where RX9 1 rm_X9_where) (E : ReI X rm_X9_where Q) (ht : (xh X).sig.returnType = (some .int)) (hn : (xh X).name = yX9_where.name) {v0 : Nat} {S : HS} (h : P_X9_where_0 Q v0 S) : WS X 1 0 0 0 [(0, .ref v0)] [] S := by
  refine r_aload_n (pc := 0) C dX9_where_0 0 rfl ?_
  obtain ⟨o_v0, h⟩ := h
  refine r_geti (pc := 1) C fL_X9_92 dX9_where_1 o_v0 ?_
  refine r_topi (fun x1 ex1 => ?_)
  have h := h x1 ex1
  refine r_iconst (pc := 4) C (v := (4 : Int32)) dX9_where_4 (by decide) ?_
  refine r_icmp_ne (pc := 5) C (tgt := 15) dX9_where_5 (by decide) (fun c2 => ?_) (fun c2 => ?_)
  · have h := h.1 c2
    refine r_iconst (pc := 15) C (v := (-1 : Int32)) dX9_where_15 (by decide) ?_
    exact r_iret (pc := 16) C E ht dX9_where_16 (by decide) (by decide) h
  · have h := h.2 c2
    refine r_aload_n (pc := 8) C dX9_where_8 0 rfl ?_
    refine r_geti (pc := 9) C fL_X9_73 dX9_where_9 o_v0 ?_
    refine r_topi (fun x3 ex3 => ?_)
    have h := h x3 ex3
    refine r_goto (pc := 12) C (tgt := 16) dX9_where_12 (by decide) ?_
    exact r_iret (pc := 16) C E ht dX9_where_16 (by decide) (by decide) h
def P_X9_where (v0 : Nat) (Q : Int32 → HS → Prop) (S : HS) : Prop := P_X9_where_0 Q v0 S
theorem c_X9_where {l : Launch} {Ee : EE} {S : HS} {v0 : Nat} {Q : Int32 → HS → Prop} (h : P_X9_where v0 Q S) : MI l yX9_where cX9_where 1 (some .int) rm_X9_where Ee S [.ref v0] Q :=
  openI (by decide) (Nat.le_of_ble_eq_true rfl) (fun X C E ht hn hE hl => by subst hE; exact r_sub [0] rfl (T_X9_where_0 C E ht hn h))
def rm_X9_world : Room := { frames := 11, cells := 0, slots := 0, locals := 257 }
def P_X9_world_12 (Q : Int32 → HS → Prop) (v0 : Nat) (S : HS) : Prop := ob S v0 9 ∧ (P_X9_refuse v0 (2 : Int32) (fun x3 S1 => Gr S S1 → (Q x3 S1)) S)
set_option maxRecDepth 20000 in
set_option maxHeartbeats 4000000 in
theorem T_X9_world_12 {X : CX} {Q : Int32 → HS → Prop} (C : Cx X cX9_world RX9 3 rm_X9_world) (E : ReI X rm_X9_world Q) (ht : (xh X).sig.returnType = (some .int)) (hn : (xh X).name = yX9_world.name) {v0 : Nat} {S : HS} (h : P_X9_world_12 Q v0 S) : WS X 3 0 0 12 [(0, .ref v0)] [] S := by
  refine r_aload_n (pc := 12) C dX9_world_12 0 rfl ?_
  refine r_iconst (pc := 13) C (v := (2 : Int32)) dX9_world_13 (by decide) ?_
  obtain ⟨o_v0, h⟩ := h
  refine r_callVi0 (pc := 14) C (rest := []) (a := v0) o_v0 [.int (2 : Int32)] yV_X9_refuse g_430 (c_X9_refuse h) dX9_world_14 rfl rfl (Nat.le_of_ble_eq_true rfl) ⟨by decide, by decide⟩ ⟨by decide, by decide⟩ ⟨rfl, rfl⟩ (fun x3 S1 h g2 => ?_)
  have h := h g2
  have o_v0 := gr_ob g2 o_v0
  exact r_iret (pc := 17) C E ht dX9_world_17 (by decide) (by decide) h
def P_X9_world_0 (Q : Int32 → HS → Prop) (v0 : Nat) (v1 : Int32) (S : HS) : Prop := ((v1 < 0) → (P_X9_world_12 Q v0 S)) ∧ ((¬ v1 < 0) → (ob S v0 9 ∧ (∀ x2 : Int32, x2 = fI S v0 1 → (((v1 ≤ x2) → (∃ a4 : Nat, fR S v0 3 = some a4 ∧ (∃ a5 : Nat, fR S v0 0 = some a5 ∧ (ob S a4 4 ∧ (P_X4_read a4 a5 v1 (fun x8 S6 => Gr S S6 → bl x8 → (∀ S9 : HS, S9 = sI S6 v0 1 (0 : Int32) → (∃ a10 : Nat, fR S9 v0 3 = some a10 ∧ (ob S9 a10 4 ∧ (∀ x11 : Int32, x11 = fI S9 a10 0 → (∀ S12 : HS, S12 = sI S9 v0 7 x11 → (∃ a13 : Nat, fR S12 v0 3 = some a13 ∧ (ob S12 a13 4 ∧ (∀ x14 : Int32, x14 = fI S12 a13 1 → (∀ S15 : HS, S15 = sI S12 v0 8 x14 → (((¬ x8 = 0) → (∃ a17 : Nat, fR S15 v0 3 = some a17 ∧ (∃ a18 : Nat, fR S15 v0 2 = some a18 ∧ (ob S15 a17 4 ∧ (P_X4_exchange a17 a18 (fun a21 S19 => Gr S15 S19 → (∀ S22 : HS, S22 = sR S19 v0 2 (some a21) → (∃ a23 : Nat, fR S22 v0 5 = some a23 ∧ (ob S22 a23 7 ∧ (P_X7_forget a23 (fun S24 => Gr S22 S24 → (∃ a27 : Nat, fR S24 v0 6 = some a27 ∧ (ob S24 a27 0 ∧ (P_X0_end a27 (fun S28 => Gr S24 S28 → (∃ a31 : Nat, fR S28 v0 2 = some a31 ∧ (ob S28 a31 8 ∧ (∀ x32 : Int32, x32 = fI S28 a31 4 → (P_X9_grant v0 x32 (fun x35 S33 => Gr S28 S33 → (Q x35 S33)) S28))))) S24)))) S22))))) S15))))) ∧ ((x8 = 0) → (P_X9_refuse v0 (4 : Int32) (fun x38 S36 => Gr S15 S36 → (Q x38 S36)) S15))))))))))))) S))))) ∧ ((¬ v1 ≤ x2) → (P_X9_world_12 Q v0 S))))))
set_option maxRecDepth 20000 in
set_option maxHeartbeats 4000000 in
theorem T_X9_world_0 {X : CX} {Q : Int32 → HS → Prop} (C : Cx X cX9_world RX9 3 rm_X9_world) (E : ReI X rm_X9_world Q) (ht : (xh X).sig.returnType = (some .int)) (hn : (xh X).name = yX9_world.name) {v0 : Nat} {v1 : Int32} {S : HS} (h : P_X9_world_0 Q v0 v1 S) : WS X 3 0 0 0 [(0, .ref v0), (1, .int v1)] [] S := by
  refine r_iload_n (pc := 0) C dX9_world_0 1 rfl ?_
  refine r_if_lt (pc := 1) C (tgt := 12) dX9_world_1 (by decide) (fun c1 => ?_) (fun c1 => ?_)
  · have h := h.1 c1
    exact r_sub [0] rfl (T_X9_world_12 C E ht hn h)
  · have h := h.2 c1
    refine r_iload_n (pc := 4) C dX9_world_4 1 rfl ?_
    refine r_aload_n (pc := 5) C dX9_world_5 0 rfl ?_
    obtain ⟨o_v0, h⟩ := h
    refine r_geti (pc := 6) C fL_X9_48 dX9_world_6 o_v0 ?_
    refine r_topi (fun x2 ex2 => ?_)
    have h := h x2 ex2
    refine r_icmp_le (pc := 9) C (tgt := 18) dX9_world_9 (by decide) (fun c3 => ?_) (fun c3 => ?_)
    · have h := h.1 c3
      refine r_aload_n (pc := 18) C dX9_world_18 0 rfl ?_
      obtain ⟨a4, ea4, h⟩ := h
      refine r_getr (pc := 19) C fL_X9_23 dX9_world_19 o_v0 ea4 ?_
      refine r_aload_n (pc := 22) C dX9_world_22 0 rfl ?_
      obtain ⟨a5, ea5, h⟩ := h
      refine r_getr (pc := 23) C fL_X9_9 dX9_world_23 o_v0 ea5 ?_
      refine r_iload_n (pc := 26) C dX9_world_26 1 rfl ?_
      obtain ⟨o_a4, h⟩ := h
      refine r_callVi0 (pc := 27) C (rest := []) (a := a4) o_a4 [.ref a5, .int v1] yV_X4_read g_434 (c_X4_read h) dX9_world_27 rfl rfl (Nat.le_of_ble_eq_true rfl) ⟨by decide, by decide⟩ ⟨by decide, by decide⟩ ⟨rfl, rfl⟩ (fun x8 S6 h g7 => ?_)
      have bx8 := h.1
      have h := h.2 g7 bx8
      have o_a4 := gr_ob g7 o_a4
      have o_v0 := gr_ob g7 o_v0
      refine r_istore_n (pc := 30) C dX9_world_30 rfl (by decide) (lv' := [(2, .int x8), (0, .ref v0), (1, .int v1)]) rfl ?_
      refine r_aload_n (pc := 31) C dX9_world_31 1 rfl ?_
      refine r_iconst (pc := 32) C (v := (0 : Int32)) dX9_world_32 (by decide) ?_
      refine r_puti (pc := 33) C pfL_X9_48 dX9_world_33 o_v0 ?_
      refine r_heap (fun S9 eS9 => ?_)
      have h := h S9 eS9
      have o_a4 := ob_I eS9 o_a4
      have o_v0 := ob_I eS9 o_v0
      refine r_aload_n (pc := 36) C dX9_world_36 1 rfl ?_
      refine r_aload_n (pc := 37) C dX9_world_37 1 rfl ?_
      obtain ⟨a10, ea10, h⟩ := h
      refine r_getr (pc := 38) C fL_X9_23 dX9_world_38 o_v0 ea10 ?_
      obtain ⟨o_a10, h⟩ := h
      refine r_geti (pc := 41) C fL_X9_64 dX9_world_41 o_a10 ?_
      refine r_topi (fun x11 ex11 => ?_)
      have h := h x11 ex11
      refine r_puti (pc := 44) C pfL_X9_67 dX9_world_44 o_v0 ?_
      refine r_heap (fun S12 eS12 => ?_)
      have h := h S12 eS12
      have o_a10 := ob_I eS12 o_a10
      have o_a4 := ob_I eS12 o_a4
      have o_v0 := ob_I eS12 o_v0
      refine r_aload_n (pc := 47) C dX9_world_47 1 rfl ?_
      refine r_aload_n (pc := 48) C dX9_world_48 1 rfl ?_
      obtain ⟨a13, ea13, h⟩ := h
      refine r_getr (pc := 49) C fL_X9_23 dX9_world_49 o_v0 ea13 ?_
      obtain ⟨o_a13, h⟩ := h
      refine r_geti (pc := 52) C fL_X9_70 dX9_world_52 o_a13 ?_
      refine r_topi (fun x14 ex14 => ?_)
      have h := h x14 ex14
      refine r_puti (pc := 55) C pfL_X9_73 dX9_world_55 o_v0 ?_
      refine r_heap (fun S15 eS15 => ?_)
      have h := h S15 eS15
      have o_a10 := ob_I eS15 o_a10
      have o_a13 := ob_I eS15 o_a13
      have o_a4 := ob_I eS15 o_a4
      have o_v0 := ob_I eS15 o_v0
      refine r_iload_n (pc := 58) C dX9_world_58 0 rfl ?_
      refine r_if_ne (pc := 59) C (tgt := 68) dX9_world_59 (by decide) (fun c16 => ?_) (fun c16 => ?_)
      · have h := h.1 c16
        refine r_aload_n (pc := 68) C dX9_world_68 1 rfl ?_
        refine r_aload_n (pc := 69) C dX9_world_69 1 rfl ?_
        obtain ⟨a17, ea17, h⟩ := h
        refine r_getr (pc := 70) C fL_X9_23 dX9_world_70 o_v0 ea17 ?_
        refine r_aload_n (pc := 73) C dX9_world_73 1 rfl ?_
        obtain ⟨a18, ea18, h⟩ := h
        refine r_getr (pc := 74) C fL_X9_16 dX9_world_74 o_v0 ea18 ?_
        obtain ⟨o_a17, h⟩ := h
        refine r_callVr0 (pc := 77) C (rest := [.ref v0]) (a := a17) o_a17 [.ref a18] yV_X4_exchange g_625 (c_X4_exchange h) dX9_world_77 rfl rfl (Nat.le_of_ble_eq_true rfl) ⟨by decide, by decide⟩ ⟨by decide, by decide⟩ ⟨rfl, rfl⟩ (fun r S19 h g20 => ?_)
        obtain ⟨a21, rfl, h⟩ := h
        have h := h g20
        refine r_rf ?_
        have o_a10 := gr_ob g20 o_a10
        have o_a13 := gr_ob g20 o_a13
        have o_a17 := gr_ob g20 o_a17
        have o_a4 := gr_ob g20 o_a4
        have o_v0 := gr_ob g20 o_v0
        refine r_putr (pc := 80) C pfL_X9_16 dX9_world_80 o_v0 ?_
        refine r_heap (fun S22 eS22 => ?_)
        have h := h S22 eS22
        have o_a10 := ob_R eS22 o_a10
        have o_a13 := ob_R eS22 o_a13
        have o_a17 := ob_R eS22 o_a17
        have o_a4 := ob_R eS22 o_a4
        have o_v0 := ob_R eS22 o_v0
        refine r_aload_n (pc := 83) C dX9_world_83 1 rfl ?_
        obtain ⟨a23, ea23, h⟩ := h
        refine r_getr (pc := 84) C fL_X9_37 dX9_world_84 o_v0 ea23 ?_
        obtain ⟨o_a23, h⟩ := h
        refine r_callVv0 (pc := 87) C (rest := []) (a := a23) o_a23 [] yV_X7_forget g_629 (c_X7_forget h) dX9_world_87 rfl rfl (Nat.le_of_ble_eq_true rfl) ⟨by decide, by decide⟩ ⟨by decide, by decide⟩ ⟨rfl, rfl⟩ (fun S24 h g25 => ?_)
        have h := h g25
        have o_a10 := gr_ob g25 o_a10
        have o_a13 := gr_ob g25 o_a13
        have o_a17 := gr_ob g25 o_a17
        have o_a23 := gr_ob g25 o_a23
        have o_a4 := gr_ob g25 o_a4
        have o_v0 := gr_ob g25 o_v0
        refine r_aload_n (pc := 90) C dX9_world_90 1 rfl ?_
        obtain ⟨a27, ea27, h⟩ := h
        refine r_getr (pc := 91) C fL_X9_44 dX9_world_91 o_v0 ea27 ?_
        obtain ⟨o_a27, h⟩ := h
        refine r_callVv0 (pc := 94) C (rest := []) (a := a27) o_a27 [] yV_X0_end g_633 (c_X0_end h) dX9_world_94 rfl rfl (Nat.le_of_ble_eq_true rfl) ⟨by decide, by decide⟩ ⟨by decide, by decide⟩ ⟨rfl, rfl⟩ (fun S28 h g29 => ?_)
        have h := h g29
        have o_a10 := gr_ob g29 o_a10
        have o_a13 := gr_ob g29 o_a13
        have o_a17 := gr_ob g29 o_a17
        have o_a23 := gr_ob g29 o_a23
        have o_a27 := gr_ob g29 o_a27
        have o_a4 := gr_ob g29 o_a4
        have o_v0 := gr_ob g29 o_v0
        refine r_aload_n (pc := 97) C dX9_world_97 1 rfl ?_
        refine r_aload_n (pc := 98) C dX9_world_98 1 rfl ?_
        obtain ⟨a31, ea31, h⟩ := h
        refine r_getr (pc := 99) C fL_X9_16 dX9_world_99 o_v0 ea31 ?_
        obtain ⟨o_a31, h⟩ := h
        refine r_geti (pc := 102) C fL_X9_86 dX9_world_102 o_a31 ?_
        refine r_topi (fun x32 ex32 => ?_)
        have h := h x32 ex32
        refine r_callVi0 (pc := 105) C (rest := []) (a := v0) o_v0 [.int x32] yV_X9_grant g_637 (c_X9_grant h) dX9_world_105 rfl rfl (Nat.le_of_ble_eq_true rfl) ⟨by decide, by decide⟩ ⟨by decide, by decide⟩ ⟨rfl, rfl⟩ (fun x35 S33 h g34 => ?_)
        have h := h g34
        have o_a10 := gr_ob g34 o_a10
        have o_a13 := gr_ob g34 o_a13
        have o_a17 := gr_ob g34 o_a17
        have o_a23 := gr_ob g34 o_a23
        have o_a27 := gr_ob g34 o_a27
        have o_a31 := gr_ob g34 o_a31
        have o_a4 := gr_ob g34 o_a4
        have o_v0 := gr_ob g34 o_v0
        exact r_iret (pc := 108) C E ht dX9_world_108 (by decide) (by decide) h
      · have h := h.2 c16
        refine r_aload_n (pc := 62) C dX9_world_62 1 rfl ?_
        refine r_iconst (pc := 63) C (v := (4 : Int32)) dX9_world_63 (by decide) ?_
        refine r_callVi0 (pc := 64) C (rest := []) (a := v0) o_v0 [.int (4 : Int32)] yV_X9_refuse g_430 (c_X9_refuse h) dX9_world_64 rfl rfl (Nat.le_of_ble_eq_true rfl) ⟨by decide, by decide⟩ ⟨by decide, by decide⟩ ⟨rfl, rfl⟩ (fun x38 S36 h g37 => ?_)
        have h := h g37
        have o_a10 := gr_ob g37 o_a10
        have o_a13 := gr_ob g37 o_a13
        have o_a4 := gr_ob g37 o_a4
        have o_v0 := gr_ob g37 o_v0
        exact r_iret (pc := 67) C E ht dX9_world_67 (by decide) (by decide) h
    · have h := h.2 c3
      exact r_sub [0] rfl (T_X9_world_12 C E ht hn h)
def P_X9_world (v0 : Nat) (v1 : Int32) (Q : Int32 → HS → Prop) (S : HS) : Prop := P_X9_world_0 Q v0 v1 S
theorem c_X9_world {l : Launch} {Ee : EE} {S : HS} {v0 : Nat} {v1 : Int32} {Q : Int32 → HS → Prop} (h : P_X9_world v0 v1 Q S) : MI l yX9_world cX9_world 3 (some .int) rm_X9_world Ee S [.ref v0, .int v1] Q :=
  openI (by decide) (Nat.le_of_ble_eq_true rfl) (fun X C E ht hn hE hl => by subst hE; exact r_sub [0, 1] rfl (T_X9_world_0 C E ht hn h))
def rm_X9_worst : Room := { frames := 5, cells := 0, slots := 0, locals := 131 }
def P_X9_worst_0 (Q : Int32 → HS → Prop) (v0 : Nat) (v1 : Int32) (v2 : Int32) (v3 : Int32) (v4 : Int32) (S : HS) : Prop := ob S v0 9 ∧ (P_X9_tripTrouble v0 v1 v2 v3 v4 (fun x3 S1 => Gr S S1 → (P_X9_refusedBy v0 x3 (fun x6 S4 => Gr S1 S4 → bl x6 → (((x6 = 0) → (∃ a8 : Nat, fR S4 v0 4 = some a8 ∧ (∃ a9 : Nat, fR S4 v0 2 = some a9 ∧ (ob S4 a9 8 ∧ (∃ a10 : Nat, fR S4 a9 9 = some a10 ∧ (ob S4 a10 19 ∧ (vp_in v1 (hN S4 a10) ∧ ∃ a12 : Nat, fR S4 a10 v1.toNatClampNeg = some a12 ∧ (∃ a13 : Nat, fR S4 v0 2 = some a13 ∧ (ob S4 a13 8 ∧ (∃ a14 : Nat, fR S4 a13 8 = some a14 ∧ (ob S4 a14 18 ∧ (vp_in v2 (hN S4 a14) ∧ ∃ a16 : Nat, fR S4 a14 v2.toNatClampNeg = some a16 ∧ (∃ a17 : Nat, fR S4 v0 2 = some a17 ∧ (ob S4 a17 8 ∧ (∃ a18 : Nat, fR S4 a17 6 = some a18 ∧ (ob S4 a18 17 ∧ (vp_in v4 (hN S4 a18) ∧ ∃ a20 : Nat, fR S4 a18 v4.toNatClampNeg = some a20 ∧ (ob S4 a8 1 ∧ (P_X1_worstSpeed a8 a12 a16 v3 a20 (fun x23 S21 => Gr S4 S21 → (Q x23 S21)) S4))))))))))))))))))) ∧ ((¬ x6 = 0) → (Q (-1 : Int32) S4)))) S1)) S)
set_option maxRecDepth 20000 in
set_option maxHeartbeats 4000000 in
theorem T_X9_worst_0 {X : CX} {Q : Int32 → HS → Prop} (C : Cx X cX9_worst RX9 5 rm_X9_worst) (E : ReI X rm_X9_worst Q) (ht : (xh X).sig.returnType = (some .int)) (hn : (xh X).name = yX9_worst.name) {v0 : Nat} {v1 : Int32} {v2 : Int32} {v3 : Int32} {v4 : Int32} {S : HS} (h : P_X9_worst_0 Q v0 v1 v2 v3 v4 S) : WS X 5 0 0 0 [(0, .ref v0), (1, .int v1), (2, .int v2), (3, .int v3), (4, .int v4)] [] S := by
  refine r_aload_n (pc := 0) C dX9_worst_0 0 rfl ?_
  refine r_aload_n (pc := 1) C dX9_worst_1 0 rfl ?_
  refine r_iload_n (pc := 2) C dX9_worst_2 1 rfl ?_
  refine r_iload_n (pc := 3) C dX9_worst_3 2 rfl ?_
  refine r_iload_n (pc := 4) C dX9_worst_4 3 rfl ?_
  refine r_iload (pc := 5) C dX9_worst_5 4 rfl ?_
  obtain ⟨o_v0, h⟩ := h
  refine r_callVi0 (pc := 7) C (rest := [.ref v0]) (a := v0) o_v0 [.int v1, .int v2, .int v3, .int v4] yV_X9_tripTrouble g_660 (c_X9_tripTrouble h) dX9_worst_7 rfl rfl (Nat.le_of_ble_eq_true rfl) ⟨by decide, by decide⟩ ⟨by decide, by decide⟩ ⟨rfl, rfl⟩ (fun x3 S1 h g2 => ?_)
  have h := h g2
  have o_v0 := gr_ob g2 o_v0
  refine r_callVi0 (pc := 10) C (rest := []) (a := v0) o_v0 [.int x3] yV_X9_refusedBy g_683 (c_X9_refusedBy h) dX9_worst_10 rfl rfl (Nat.le_of_ble_eq_true rfl) ⟨by decide, by decide⟩ ⟨by decide, by decide⟩ ⟨rfl, rfl⟩ (fun x6 S4 h g5 => ?_)
  have bx6 := h.1
  have h := h.2 g5 bx6
  have o_v0 := gr_ob g5 o_v0
  refine r_if_eq (pc := 13) C (tgt := 18) dX9_worst_13 (by decide) (fun c7 => ?_) (fun c7 => ?_)
  · have h := h.1 c7
    refine r_aload_n (pc := 18) C dX9_worst_18 0 rfl ?_
    obtain ⟨a8, ea8, h⟩ := h
    refine r_getr (pc := 19) C fL_X9_30 dX9_worst_19 o_v0 ea8 ?_
    refine r_aload_n (pc := 22) C dX9_worst_22 0 rfl ?_
    obtain ⟨a9, ea9, h⟩ := h
    refine r_getr (pc := 23) C fL_X9_16 dX9_worst_23 o_v0 ea9 ?_
    obtain ⟨o_a9, h⟩ := h
    obtain ⟨a10, ea10, h⟩ := h
    refine r_getr (pc := 26) C fL_X9_108 dX9_worst_26 o_a9 ea10 ?_
    refine r_iload_n (pc := 29) C dX9_worst_29 1 rfl ?_
    obtain ⟨o_a10, h⟩ := h
    obtain ⟨i11, a12, ea12, h⟩ := h
    refine r_aald19 (pc := 30) C dX9_worst_30 o_a10 i11 ea12 ?_
    refine r_aload_n (pc := 31) C dX9_worst_31 0 rfl ?_
    obtain ⟨a13, ea13, h⟩ := h
    refine r_getr (pc := 32) C fL_X9_16 dX9_worst_32 o_v0 ea13 ?_
    obtain ⟨o_a13, h⟩ := h
    obtain ⟨a14, ea14, h⟩ := h
    refine r_getr (pc := 35) C fL_X9_112 dX9_worst_35 o_a13 ea14 ?_
    refine r_iload_n (pc := 38) C dX9_worst_38 2 rfl ?_
    obtain ⟨o_a14, h⟩ := h
    obtain ⟨i15, a16, ea16, h⟩ := h
    refine r_aald18 (pc := 39) C dX9_worst_39 o_a14 i15 ea16 ?_
    refine r_iload_n (pc := 40) C dX9_worst_40 3 rfl ?_
    refine r_aload_n (pc := 41) C dX9_worst_41 0 rfl ?_
    obtain ⟨a17, ea17, h⟩ := h
    refine r_getr (pc := 42) C fL_X9_16 dX9_worst_42 o_v0 ea17 ?_
    obtain ⟨o_a17, h⟩ := h
    obtain ⟨a18, ea18, h⟩ := h
    refine r_getr (pc := 45) C fL_X9_116 dX9_worst_45 o_a17 ea18 ?_
    refine r_iload (pc := 48) C dX9_worst_48 4 rfl ?_
    obtain ⟨o_a18, h⟩ := h
    obtain ⟨i19, a20, ea20, h⟩ := h
    refine r_aald17 (pc := 50) C dX9_worst_50 o_a18 i19 ea20 ?_
    obtain ⟨o_a8, h⟩ := h
    refine r_callVi0 (pc := 51) C (rest := []) (a := a8) o_a8 [.ref a12, .ref a16, .int v3, .ref a20] yV_X1_worstSpeed g_779 (c_X1_worstSpeed h) dX9_worst_51 rfl rfl (Nat.le_of_ble_eq_true rfl) ⟨by decide, by decide⟩ ⟨by decide, by decide⟩ ⟨rfl, rfl⟩ (fun x23 S21 h g22 => ?_)
    have h := h g22
    have o_a10 := gr_ob g22 o_a10
    have o_a13 := gr_ob g22 o_a13
    have o_a14 := gr_ob g22 o_a14
    have o_a17 := gr_ob g22 o_a17
    have o_a18 := gr_ob g22 o_a18
    have o_a8 := gr_ob g22 o_a8
    have o_a9 := gr_ob g22 o_a9
    have o_v0 := gr_ob g22 o_v0
    exact r_iret (pc := 54) C E ht dX9_worst_54 (by decide) (by decide) h
  · have h := h.2 c7
    refine r_iconst (pc := 16) C (v := (-1 : Int32)) dX9_worst_16 (by decide) ?_
    exact r_iret (pc := 17) C E ht dX9_worst_17 (by decide) (by decide) h
def P_X9_worst (v0 : Nat) (v1 : Int32) (v2 : Int32) (v3 : Int32) (v4 : Int32) (Q : Int32 → HS → Prop) (S : HS) : Prop := P_X9_worst_0 Q v0 v1 v2 v3 v4 S
theorem c_X9_worst {l : Launch} {Ee : EE} {S : HS} {v0 : Nat} {v1 : Int32} {v2 : Int32} {v3 : Int32} {v4 : Int32} {Q : Int32 → HS → Prop} (h : P_X9_worst v0 v1 v2 v3 v4 Q S) : MI l yX9_worst cX9_worst 5 (some .int) rm_X9_worst Ee S [.ref v0, .int v1, .int v2, .int v3, .int v4] Q :=
  openI (by decide) (Nat.le_of_ble_eq_true rfl) (fun X C E ht hn hE hl => by subst hE; exact r_sub [0, 1, 2, 3, 4] rfl (T_X9_worst_0 C E ht hn h))
