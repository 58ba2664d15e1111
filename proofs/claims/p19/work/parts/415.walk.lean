section
def rm_X9_mean : Room := { frames := 4, cells := 0, slots := 0, locals := 101 }
def P_X9_mean_0 (Q : Int64 → HS → Prop) (v0 : Nat) (v1 : Int32) (v2 : Int32) (v3 : Int32) (v4 : Int32) (v5 : Int32) (v6 : Int32) (S : HS) : Prop := ob S v0 9 ∧ (P_X9_legTrouble v0 v1 v2 v3 v4 v5 (fun x3 S1 => Gr S S1 → (P_X9_refusedBy v0 x3 (fun x6 S4 => Gr S1 S4 → bl x6 → (((x6 = 0) → (∃ a8 : Nat, fR S4 v0 4 = some a8 ∧ (∃ a9 : Nat, fR S4 v0 2 = some a9 ∧ (ob S4 a9 8 ∧ (∃ a10 : Nat, fR S4 a9 9 = some a10 ∧ (ob S4 a10 19 ∧ (vp_in v1 (hN S4 a10) ∧ ∃ a12 : Nat, fR S4 a10 v1.toNatClampNeg = some a12 ∧ (∃ a13 : Nat, fR S4 v0 2 = some a13 ∧ (ob S4 a13 8 ∧ (∃ a14 : Nat, fR S4 a13 8 = some a14 ∧ (ob S4 a14 18 ∧ (vp_in v2 (hN S4 a14) ∧ ∃ a16 : Nat, fR S4 a14 v2.toNatClampNeg = some a16 ∧ (∃ a17 : Nat, fR S4 v0 2 = some a17 ∧ (ob S4 a17 8 ∧ (∃ a18 : Nat, fR S4 a17 6 = some a18 ∧ (ob S4 a18 17 ∧ (vp_in v4 (hN S4 a18) ∧ ∃ a20 : Nat, fR S4 a18 v4.toNatClampNeg = some a20 ∧ (ob S4 a8 1 ∧ (P_X1_wetOf a8 a12 a16 v3 a20 v5 (fun x23 S21 => Gr S4 S21 → (∃ a24 : Nat, fR S21 v0 2 = some a24 ∧ (ob S21 a24 8 ∧ (∃ a25 : Nat, fR S21 a24 6 = some a25 ∧ (ob S21 a25 17 ∧ (vp_in v4 (hN S21 a25) ∧ ∃ a27 : Nat, fR S21 a25 v4.toNatClampNeg = some a27 ∧ (ob S21 a27 3 ∧ (∀ x28 : Int32, x28 = fI S21 a27 4 → (P_X9_fraction (x23 * x28.toInt64) (252000 : Int64) v6 (fun x31 S29 => Gr S21 S29 → (Q x31 S29)) S21))))))))) S4))))))))))))))))))) ∧ ((¬ x6 = 0) → (Q (-1 : Int64) S4)))) S1)) S)
set_option maxRecDepth 20000 in
set_option maxHeartbeats 4000000 in
theorem T_X9_mean_0 {X : CX} {Q : Int64 → HS → Prop} (C : Cx X cX9_mean RX9 9 rm_X9_mean) (E : ReJ X rm_X9_mean Q) (ht : (xh X).sig.returnType = (some .long)) (hn : (xh X).name = yX9_mean.name) {v0 : Nat} {v1 : Int32} {v2 : Int32} {v3 : Int32} {v4 : Int32} {v5 : Int32} {v6 : Int32} {S : HS} (h : P_X9_mean_0 Q v0 v1 v2 v3 v4 v5 v6 S) : WS X 9 0 0 0 [(0, .ref v0), (1, .int v1), (2, .int v2), (3, .int v3), (4, .int v4), (5, .int v5), (6, .int v6)] [] S := by
  refine r_aload_n (pc := 0) C dX9_mean_0 0 rfl ?_
  refine r_aload_n (pc := 1) C dX9_mean_1 0 rfl ?_
  refine r_iload_n (pc := 2) C dX9_mean_2 1 rfl ?_
  refine r_iload_n (pc := 3) C dX9_mean_3 2 rfl ?_
  refine r_iload_n (pc := 4) C dX9_mean_4 3 rfl ?_
  refine r_iload (pc := 5) C dX9_mean_5 4 rfl ?_
  refine r_iload (pc := 7) C dX9_mean_7 5 rfl ?_
  obtain ⟨o_v0, h⟩ := h
  refine r_callVi0 (pc := 9) C (rest := [.ref v0]) (a := v0) o_v0 [.int v1, .int v2, .int v3, .int v4, .int v5] yV_X9_legTrouble g_656 (c_X9_legTrouble h) dX9_mean_9 rfl rfl (Nat.le_of_ble_eq_true rfl) ⟨by decide, by decide⟩ ⟨by decide, by decide⟩ ⟨rfl, rfl⟩ (fun x3 S1 h g2 => ?_)
  have h := h g2
  have o_v0 := gr_ob g2 o_v0
  refine r_callVi0 (pc := 12) C (rest := []) (a := v0) o_v0 [.int x3] yV_X9_refusedBy g_683 (c_X9_refusedBy h) dX9_mean_12 rfl rfl (Nat.le_of_ble_eq_true rfl) ⟨by decide, by decide⟩ ⟨by decide, by decide⟩ ⟨rfl, rfl⟩ (fun x6 S4 h g5 => ?_)
  have bx6 := h.1
  have h := h.2 g5 bx6
  have o_v0 := gr_ob g5 o_v0
  refine r_if_eq (pc := 15) C (tgt := 22) dX9_mean_15 (by decide) (fun c7 => ?_) (fun c7 => ?_)
  · have h := h.1 c7
    refine r_aload_n (pc := 22) C dX9_mean_22 0 rfl ?_
    obtain ⟨a8, ea8, h⟩ := h
    refine r_getr (pc := 23) C fL_X9_30 dX9_mean_23 o_v0 ea8 ?_
    refine r_aload_n (pc := 26) C dX9_mean_26 0 rfl ?_
    obtain ⟨a9, ea9, h⟩ := h
    refine r_getr (pc := 27) C fL_X9_16 dX9_mean_27 o_v0 ea9 ?_
    obtain ⟨o_a9, h⟩ := h
    obtain ⟨a10, ea10, h⟩ := h
    refine r_getr (pc := 30) C fL_X9_108 dX9_mean_30 o_a9 ea10 ?_
    refine r_iload_n (pc := 33) C dX9_mean_33 1 rfl ?_
    obtain ⟨o_a10, h⟩ := h
    obtain ⟨i11, a12, ea12, h⟩ := h
    refine r_aald19 (pc := 34) C dX9_mean_34 o_a10 i11 ea12 ?_
    refine r_aload_n (pc := 35) C dX9_mean_35 0 rfl ?_
    obtain ⟨a13, ea13, h⟩ := h
    refine r_getr (pc := 36) C fL_X9_16 dX9_mean_36 o_v0 ea13 ?_
    obtain ⟨o_a13, h⟩ := h
    obtain ⟨a14, ea14, h⟩ := h
    refine r_getr (pc := 39) C fL_X9_112 dX9_mean_39 o_a13 ea14 ?_
    refine r_iload_n (pc := 42) C dX9_mean_42 2 rfl ?_
    obtain ⟨o_a14, h⟩ := h
    obtain ⟨i15, a16, ea16, h⟩ := h
    refine r_aald18 (pc := 43) C dX9_mean_43 o_a14 i15 ea16 ?_
    refine r_iload_n (pc := 44) C dX9_mean_44 3 rfl ?_
    refine r_aload_n (pc := 45) C dX9_mean_45 0 rfl ?_
    obtain ⟨a17, ea17, h⟩ := h
    refine r_getr (pc := 46) C fL_X9_16 dX9_mean_46 o_v0 ea17 ?_
    obtain ⟨o_a17, h⟩ := h
    obtain ⟨a18, ea18, h⟩ := h
    refine r_getr (pc := 49) C fL_X9_116 dX9_mean_49 o_a17 ea18 ?_
    refine r_iload (pc := 52) C dX9_mean_52 4 rfl ?_
    obtain ⟨o_a18, h⟩ := h
    obtain ⟨i19, a20, ea20, h⟩ := h
    refine r_aald17 (pc := 54) C dX9_mean_54 o_a18 i19 ea20 ?_
    refine r_iload (pc := 55) C dX9_mean_55 5 rfl ?_
    obtain ⟨o_a8, h⟩ := h
    refine r_callVl0 (pc := 57) C (rest := []) (a := a8) o_a8 [.ref a12, .ref a16, .int v3, .ref a20, .int v5] yV_X1_wetOf g_688 (c_X1_wetOf h) dX9_mean_57 rfl rfl (Nat.le_of_ble_eq_true rfl) ⟨by decide, by decide⟩ ⟨by decide, by decide⟩ ⟨rfl, rfl⟩ (fun x23 S21 h g22 => ?_)
    have h := h g22
    have o_a10 := gr_ob g22 o_a10
    have o_a13 := gr_ob g22 o_a13
    have o_a14 := gr_ob g22 o_a14
    have o_a17 := gr_ob g22 o_a17
    have o_a18 := gr_ob g22 o_a18
    have o_a8 := gr_ob g22 o_a8
    have o_a9 := gr_ob g22 o_a9
    have o_v0 := gr_ob g22 o_v0
    refine r_lstore (pc := 60) C dX9_mean_60 (by decide) (lv' := [(7, .long x23), (0, .ref v0), (1, .int v1), (2, .int v2), (3, .int v3), (4, .int v4), (5, .int v5), (6, .int v6)]) rfl ?_
    refine r_lload (pc := 62) C dX9_mean_62 0 rfl ?_
    refine r_aload_n (pc := 64) C dX9_mean_64 1 rfl ?_
    obtain ⟨a24, ea24, h⟩ := h
    refine r_getr (pc := 65) C fL_X9_16 dX9_mean_65 o_v0 ea24 ?_
    obtain ⟨o_a24, h⟩ := h
    obtain ⟨a25, ea25, h⟩ := h
    refine r_getr (pc := 68) C fL_X9_116 dX9_mean_68 o_a24 ea25 ?_
    refine r_iload (pc := 71) C dX9_mean_71 5 rfl ?_
    obtain ⟨o_a25, h⟩ := h
    obtain ⟨i26, a27, ea27, h⟩ := h
    refine r_aald17 (pc := 73) C dX9_mean_73 o_a25 i26 ea27 ?_
    obtain ⟨o_a27, h⟩ := h
    refine r_geti (pc := 74) C fL_X9_134 dX9_mean_74 o_a27 ?_
    refine r_topi (fun x28 ex28 => ?_)
    have h := h x28 ex28
    refine r_i2l (pc := 77) C dX9_mean_77 ?_
    refine r_lmul (pc := 78) C dX9_mean_78 ?_
    refine r_ldc2 (pc := 79) C (v := (252000 : Int64)) dX9_mean_79 g_736 ?_
    refine r_iload (pc := 82) C dX9_mean_82 7 rfl ?_
    refine r_callSl0 (pc := 84) C (rest := []) rfl [.long (x23 * x28.toInt64), .long (252000 : Int64), .int v6] yS_X9_fraction g_722 (c_X9_fraction h) dX9_mean_84 rfl rfl (Nat.le_of_ble_eq_true rfl) ⟨by decide, by decide⟩ ⟨by decide, by decide⟩ ⟨rfl, rfl⟩ (fun x31 S29 h g30 => ?_)
    have h := h g30
    have o_a10 := gr_ob g30 o_a10
    have o_a13 := gr_ob g30 o_a13
    have o_a14 := gr_ob g30 o_a14
    have o_a17 := gr_ob g30 o_a17
    have o_a18 := gr_ob g30 o_a18
    have o_a24 := gr_ob g30 o_a24
    have o_a25 := gr_ob g30 o_a25
    have o_a27 := gr_ob g30 o_a27
    have o_a8 := gr_ob g30 o_a8
    have o_a9 := gr_ob g30 o_a9
    have o_v0 := gr_ob g30 o_v0
    exact r_lret (pc := 87) C E ht dX9_mean_87 (by decide) (by decide) h
  · have h := h.2 c7
    refine r_ldc2 (pc := 18) C (v := (-1 : Int64)) dX9_mean_18 g_687 ?_
    exact r_lret (pc := 21) C E ht dX9_mean_21 (by decide) (by decide) h
def P_X9_mean (v0 : Nat) (v1 : Int32) (v2 : Int32) (v3 : Int32) (v4 : Int32) (v5 : Int32) (v6 : Int32) (Q : Int64 → HS → Prop) (S : HS) : Prop := P_X9_mean_0 Q v0 v1 v2 v3 v4 v5 v6 S
theorem c_X9_mean {l : Launch} {Ee : EE} {S : HS} {v0 : Nat} {v1 : Int32} {v2 : Int32} {v3 : Int32} {v4 : Int32} {v5 : Int32} {v6 : Int32} {Q : Int64 → HS → Prop} (h : P_X9_mean v0 v1 v2 v3 v4 v5 v6 Q S) : MJ l yX9_mean cX9_mean 9 (some .long) rm_X9_mean Ee S [.ref v0, .int v1, .int v2, .int v3, .int v4, .int v5, .int v6] Q :=
  openJ (by decide) (Nat.le_of_ble_eq_true rfl) (fun X C E ht hn hE hl => by subst hE; exact r_sub [0, 1, 2, 3, 4, 5, 6] rfl (T_X9_mean_0 C E ht hn h))
def rm_X9_minutes : Room := { frames := 1, cells := 0, slots := 0, locals := 21 }
def P_X9_minutes_22 (Q : Int32 → HS → Prop) (v0 : Nat) (S : HS) : Prop := ob S v0 9 ∧ (P_X9_refuse v0 (1 : Int32) (fun x3 S1 => Gr S S1 → (Q x3 S1)) S)
set_option maxRecDepth 20000 in
set_option maxHeartbeats 4000000 in
theorem T_X9_minutes_22 {X : CX} {Q : Int32 → HS → Prop} (C : Cx X cX9_minutes RX9 4 rm_X9_minutes) (E : ReI X rm_X9_minutes Q) (ht : (xh X).sig.returnType = (some .int)) (hn : (xh X).name = yX9_minutes.name) {v0 : Nat} {S : HS} (h : P_X9_minutes_22 Q v0 S) : WS X 4 0 0 22 [(0, .ref v0)] [] S := by
  refine r_aload_n (pc := 22) C dX9_minutes_22 0 rfl ?_
  refine r_iconst (pc := 23) C (v := (1 : Int32)) dX9_minutes_23 (by decide) ?_
  obtain ⟨o_v0, h⟩ := h
  refine r_callVi0 (pc := 24) C (rest := []) (a := v0) o_v0 [.int (1 : Int32)] yV_X9_refuse g_430 (c_X9_refuse h) dX9_minutes_24 rfl rfl (Nat.le_of_ble_eq_true rfl) ⟨by decide, by decide⟩ ⟨by decide, by decide⟩ ⟨rfl, rfl⟩ (fun x3 S1 h g2 => ?_)
  have h := h g2
  have o_v0 := gr_ob g2 o_v0
  exact r_iret (pc := 27) C E ht dX9_minutes_27 (by decide) (by decide) h
def P_X9_minutes_0 (Q : Int32 → HS → Prop) (v0 : Nat) (v1 : Int32) (v2 : Int32) (v3 : Int32) (S : HS) : Prop := ob S v0 9 ∧ (∃ a1 : Nat, fR S v0 2 = some a1 ∧ (ob S a1 8 ∧ (P_X8_hasWalker a1 v1 (fun x4 S2 => Gr S S2 → bl x4 → (((x4 = 0) → (P_X9_minutes_22 Q v0 S2)) ∧ ((¬ x4 = 0) → (∃ a6 : Nat, fR S2 v0 2 = some a6 ∧ (ob S2 a6 8 ∧ (P_X8_hasRoad a6 v2 (fun x9 S7 => Gr S2 S7 → bl x9 → (((¬ x9 = 0) → (∃ a11 : Nat, fR S7 v0 2 = some a11 ∧ (ob S7 a11 8 ∧ (∃ a12 : Nat, fR S7 a11 9 = some a12 ∧ (ob S7 a12 19 ∧ (vp_in v1 (hN S7 a12) ∧ ∃ a14 : Nat, fR S7 a12 v1.toNatClampNeg = some a14 ∧ (ob S7 a14 6 ∧ (P_X6_canGo a14 v3 (fun x17 S15 => Gr S7 S15 → bl x17 → (((¬ x17 = 0) → (∃ a19 : Nat, fR S15 v0 2 = some a19 ∧ (ob S15 a19 8 ∧ (∃ a20 : Nat, fR S15 a19 8 = some a20 ∧ (ob S15 a20 18 ∧ (vp_in v2 (hN S15 a20) ∧ ∃ a22 : Nat, fR S15 a20 v2.toNatClampNeg = some a22 ∧ (ob S15 a22 5 ∧ (P_X5_minutesAt a22 v3 (fun x25 S23 => Gr S15 S23 → (P_X9_grant v0 x25 (fun x28 S26 => Gr S23 S26 → (Q x28 S26)) S23)) S15)))))))) ∧ ((x17 = 0) → (P_X9_refuse v0 (2 : Int32) (fun x31 S29 => Gr S15 S29 → (Q x31 S29)) S15)))) S7)))))))) ∧ ((x9 = 0) → (P_X9_minutes_22 Q v0 S7)))) S2)))))) S)))
set_option maxRecDepth 20000 in
set_option maxHeartbeats 4000000 in
theorem T_X9_minutes_0 {X : CX} {Q : Int32 → HS → Prop} (C : Cx X cX9_minutes RX9 4 rm_X9_minutes) (E : ReI X rm_X9_minutes Q) (ht : (xh X).sig.returnType = (some .int)) (hn : (xh X).name = yX9_minutes.name) {v0 : Nat} {v1 : Int32} {v2 : Int32} {v3 : Int32} {S : HS} (h : P_X9_minutes_0 Q v0 v1 v2 v3 S) : WS X 4 0 0 0 [(0, .ref v0), (1, .int v1), (2, .int v2), (3, .int v3)] [] S := by
  refine r_aload_n (pc := 0) C dX9_minutes_0 0 rfl ?_
  obtain ⟨o_v0, h⟩ := h
  obtain ⟨a1, ea1, h⟩ := h
  refine r_getr (pc := 1) C fL_X9_16 dX9_minutes_1 o_v0 ea1 ?_
  refine r_iload_n (pc := 4) C dX9_minutes_4 1 rfl ?_
  obtain ⟨o_a1, h⟩ := h
  refine r_callVi0 (pc := 5) C (rest := []) (a := a1) o_a1 [.int v1] yV_X8_hasWalker g_664 (c_X8_hasWalker h) dX9_minutes_5 rfl rfl (Nat.le_of_ble_eq_true rfl) ⟨by decide, by decide⟩ ⟨by decide, by decide⟩ ⟨rfl, rfl⟩ (fun x4 S2 h g3 => ?_)
  have bx4 := h.1
  have h := h.2 g3 bx4
  have o_a1 := gr_ob g3 o_a1
  have o_v0 := gr_ob g3 o_v0
  refine r_if_eq (pc := 8) C (tgt := 22) dX9_minutes_8 (by decide) (fun c5 => ?_) (fun c5 => ?_)
  · have h := h.1 c5
    exact r_sub [0] rfl (T_X9_minutes_22 C E ht hn h)
  · have h := h.2 c5
    refine r_aload_n (pc := 11) C dX9_minutes_11 0 rfl ?_
    obtain ⟨a6, ea6, h⟩ := h
    refine r_getr (pc := 12) C fL_X9_16 dX9_minutes_12 o_v0 ea6 ?_
    refine r_iload_n (pc := 15) C dX9_minutes_15 2 rfl ?_
    obtain ⟨o_a6, h⟩ := h
    refine r_callVi0 (pc := 16) C (rest := []) (a := a6) o_a6 [.int v2] yV_X8_hasRoad g_668 (c_X8_hasRoad h) dX9_minutes_16 rfl rfl (Nat.le_of_ble_eq_true rfl) ⟨by decide, by decide⟩ ⟨by decide, by decide⟩ ⟨rfl, rfl⟩ (fun x9 S7 h g8 => ?_)
    have bx9 := h.1
    have h := h.2 g8 bx9
    have o_a1 := gr_ob g8 o_a1
    have o_a6 := gr_ob g8 o_a6
    have o_v0 := gr_ob g8 o_v0
    refine r_if_ne (pc := 19) C (tgt := 28) dX9_minutes_19 (by decide) (fun c10 => ?_) (fun c10 => ?_)
    · have h := h.1 c10
      refine r_aload_n (pc := 28) C dX9_minutes_28 0 rfl ?_
      obtain ⟨a11, ea11, h⟩ := h
      refine r_getr (pc := 29) C fL_X9_16 dX9_minutes_29 o_v0 ea11 ?_
      obtain ⟨o_a11, h⟩ := h
      obtain ⟨a12, ea12, h⟩ := h
      refine r_getr (pc := 32) C fL_X9_108 dX9_minutes_32 o_a11 ea12 ?_
      refine r_iload_n (pc := 35) C dX9_minutes_35 1 rfl ?_
      obtain ⟨o_a12, h⟩ := h
      obtain ⟨i13, a14, ea14, h⟩ := h
      refine r_aald19 (pc := 36) C dX9_minutes_36 o_a12 i13 ea14 ?_
      refine r_iload_n (pc := 37) C dX9_minutes_37 3 rfl ?_
      obtain ⟨o_a14, h⟩ := h
      refine r_callVi0 (pc := 38) C (rest := []) (a := a14) o_a14 [.int v3] yV_X6_canGo g_679 (c_X6_canGo h) dX9_minutes_38 rfl rfl (Nat.le_of_ble_eq_true rfl) ⟨by decide, by decide⟩ ⟨by decide, by decide⟩ ⟨rfl, rfl⟩ (fun x17 S15 h g16 => ?_)
      have bx17 := h.1
      have h := h.2 g16 bx17
      have o_a1 := gr_ob g16 o_a1
      have o_a11 := gr_ob g16 o_a11
      have o_a12 := gr_ob g16 o_a12
      have o_a14 := gr_ob g16 o_a14
      have o_a6 := gr_ob g16 o_a6
      have o_v0 := gr_ob g16 o_v0
      refine r_if_ne (pc := 41) C (tgt := 50) dX9_minutes_41 (by decide) (fun c18 => ?_) (fun c18 => ?_)
      · have h := h.1 c18
        refine r_aload_n (pc := 50) C dX9_minutes_50 0 rfl ?_
        refine r_aload_n (pc := 51) C dX9_minutes_51 0 rfl ?_
        obtain ⟨a19, ea19, h⟩ := h
        refine r_getr (pc := 52) C fL_X9_16 dX9_minutes_52 o_v0 ea19 ?_
        obtain ⟨o_a19, h⟩ := h
        obtain ⟨a20, ea20, h⟩ := h
        refine r_getr (pc := 55) C fL_X9_112 dX9_minutes_55 o_a19 ea20 ?_
        refine r_iload_n (pc := 58) C dX9_minutes_58 2 rfl ?_
        obtain ⟨o_a20, h⟩ := h
        obtain ⟨i21, a22, ea22, h⟩ := h
        refine r_aald18 (pc := 59) C dX9_minutes_59 o_a20 i21 ea22 ?_
        refine r_iload_n (pc := 60) C dX9_minutes_60 3 rfl ?_
        obtain ⟨o_a22, h⟩ := h
        refine r_callVi0 (pc := 61) C (rest := [.ref v0]) (a := a22) o_a22 [.int v3] yV_X5_minutesAt g_741 (c_X5_minutesAt h) dX9_minutes_61 rfl rfl (Nat.le_of_ble_eq_true rfl) ⟨by decide, by decide⟩ ⟨by decide, by decide⟩ ⟨rfl, rfl⟩ (fun x25 S23 h g24 => ?_)
        have h := h g24
        have o_a1 := gr_ob g24 o_a1
        have o_a11 := gr_ob g24 o_a11
        have o_a12 := gr_ob g24 o_a12
        have o_a14 := gr_ob g24 o_a14
        have o_a19 := gr_ob g24 o_a19
        have o_a20 := gr_ob g24 o_a20
        have o_a22 := gr_ob g24 o_a22
        have o_a6 := gr_ob g24 o_a6
        have o_v0 := gr_ob g24 o_v0
        refine r_callVi0 (pc := 64) C (rest := []) (a := v0) o_v0 [.int x25] yV_X9_grant g_637 (c_X9_grant h) dX9_minutes_64 rfl rfl (Nat.le_of_ble_eq_true rfl) ⟨by decide, by decide⟩ ⟨by decide, by decide⟩ ⟨rfl, rfl⟩ (fun x28 S26 h g27 => ?_)
        have h := h g27
        have o_a1 := gr_ob g27 o_a1
        have o_a11 := gr_ob g27 o_a11
        have o_a12 := gr_ob g27 o_a12
        have o_a14 := gr_ob g27 o_a14
        have o_a19 := gr_ob g27 o_a19
        have o_a20 := gr_ob g27 o_a20
        have o_a22 := gr_ob g27 o_a22
        have o_a6 := gr_ob g27 o_a6
        have o_v0 := gr_ob g27 o_v0
        exact r_iret (pc := 67) C E ht dX9_minutes_67 (by decide) (by decide) h
      · have h := h.2 c18
        refine r_aload_n (pc := 44) C dX9_minutes_44 0 rfl ?_
        refine r_iconst (pc := 45) C (v := (2 : Int32)) dX9_minutes_45 (by decide) ?_
        refine r_callVi0 (pc := 46) C (rest := []) (a := v0) o_v0 [.int (2 : Int32)] yV_X9_refuse g_430 (c_X9_refuse h) dX9_minutes_46 rfl rfl (Nat.le_of_ble_eq_true rfl) ⟨by decide, by decide⟩ ⟨by decide, by decide⟩ ⟨rfl, rfl⟩ (fun x31 S29 h g30 => ?_)
        have h := h g30
        have o_a1 := gr_ob g30 o_a1
        have o_a11 := gr_ob g30 o_a11
        have o_a12 := gr_ob g30 o_a12
        have o_a14 := gr_ob g30 o_a14
        have o_a6 := gr_ob g30 o_a6
        have o_v0 := gr_ob g30 o_v0
        exact r_iret (pc := 49) C E ht dX9_minutes_49 (by decide) (by decide) h
    · have h := h.2 c10
      exact r_sub [0] rfl (T_X9_minutes_22 C E ht hn h)
def P_X9_minutes (v0 : Nat) (v1 : Int32) (v2 : Int32) (v3 : Int32) (Q : Int32 → HS → Prop) (S : HS) : Prop := P_X9_minutes_0 Q v0 v1 v2 v3 S
theorem c_X9_minutes {l : Launch} {Ee : EE} {S : HS} {v0 : Nat} {v1 : Int32} {v2 : Int32} {v3 : Int32} {Q : Int32 → HS → Prop} (h : P_X9_minutes v0 v1 v2 v3 Q S) : MI l yX9_minutes cX9_minutes 4 (some .int) rm_X9_minutes Ee S [.ref v0, .int v1, .int v2, .int v3] Q :=
  openI (by decide) (Nat.le_of_ble_eq_true rfl) (fun X C E ht hn hE hl => by subst hE; exact r_sub [0, 1, 2, 3] rfl (T_X9_minutes_0 C E ht hn h))
def rm_X9_off : Room := { frames := 6, cells := 8, slots := 7937, locals := 160 }
def P_X9_off_128 (Q : Int32 → HS → Prop) (X62 : Nat → Int32 → Int32 → Int32 → Int32 → HS → Prop) (v0 : Nat) (v2 : Int32) (v4 : Int32) (v6 : Int32) (v7 : Int32) (S : HS) : Prop := ∀ x1 : Int32, x1 = v7 + (1 : Int32) → (X62 v0 v2 v4 v6 x1 S)
set_option maxRecDepth 20000 in
set_option maxHeartbeats 4000000 in
theorem T_X9_off_128 {X : CX} {Q : Int32 → HS → Prop} (C : Cx X cX9_off RX9 9 rm_X9_off) (E : ReI X rm_X9_off Q) (ht : (xh X).sig.returnType = (some .int)) (hn : (xh X).name = yX9_off.name) {X62 : Nat → Int32 → Int32 → Int32 → Int32 → HS → Prop} (hX62 : ∀ (v0 : Nat) (v2 : Int32) (v4 : Int32) (v6 : Int32) (v7 : Int32) (S : HS), X62 v0 v2 v4 v6 v7 S → WS X 9 8 7937 62 [(0, .ref v0), (2, .int v2), (4, .int v4), (6, .int v6), (7, .int v7)] [] S) {v0 : Nat} {v2 : Int32} {v4 : Int32} {v6 : Int32} {v7 : Int32} {S : HS} (h : P_X9_off_128 Q X62 v0 v2 v4 v6 v7 S) : WS X 9 8 7937 128 [(0, .ref v0), (2, .int v2), (4, .int v4), (6, .int v6), (7, .int v7)] [] S := by
  obtain ⟨x1, ex1⟩ : ∃ z : Int32, z = v7 + (1 : Int32) := ⟨_, rfl⟩
  have h := h x1 ex1
  refine r_iinc (pc := 128) C (v := x1) (lv' := [(7, .int x1), (0, .ref v0), (2, .int v2), (4, .int v4), (6, .int v6)]) dX9_off_128 4 rfl ex1.symm (by decide) rfl ?_
  refine r_goto (pc := 131) C (tgt := 62) dX9_off_131 (by decide) ?_
  exact r_sub [1, 2, 3, 4, 0] rfl (hX62 v0 v2 v4 v6 x1 S h)
def P_X9_off_104 (Q : Int32 → HS → Prop) (X62 : Nat → Int32 → Int32 → Int32 → Int32 → HS → Prop) (v0 : Nat) (v2 : Int32) (v4 : Int32) (v6 : Int32) (v7 : Int32) (s0 : Int32) (S : HS) : Prop := ob S v0 9 ∧ (∃ a1 : Nat, fR S v0 5 = some a1 ∧ (ob S a1 7 ∧ (P_X7_isOpen a1 v2 v7 (fun x4 S2 => Gr S S2 → bl x4 → (((x4 = 0) → (P_X9_off_128 Q X62 v0 v2 v4 v6 v7 S2)) ∧ ((¬ x4 = 0) → (((s0 = 0) → (P_X9_off_128 Q X62 v0 v2 v4 v6 v7 S2)) ∧ ((¬ s0 = 0) → (P_X9_off_128 Q X62 v0 v2 v4 v7 v7 S2)))))) S)))
set_option maxRecDepth 20000 in
set_option maxHeartbeats 4000000 in
theorem T_X9_off_104 {X : CX} {Q : Int32 → HS → Prop} (C : Cx X cX9_off RX9 9 rm_X9_off) (E : ReI X rm_X9_off Q) (ht : (xh X).sig.returnType = (some .int)) (hn : (xh X).name = yX9_off.name) {X62 : Nat → Int32 → Int32 → Int32 → Int32 → HS → Prop} (hX62 : ∀ (v0 : Nat) (v2 : Int32) (v4 : Int32) (v6 : Int32) (v7 : Int32) (S : HS), X62 v0 v2 v4 v6 v7 S → WS X 9 8 7937 62 [(0, .ref v0), (2, .int v2), (4, .int v4), (6, .int v6), (7, .int v7)] [] S) {v0 : Nat} {v2 : Int32} {v4 : Int32} {v6 : Int32} {v7 : Int32} {s0 : Int32} {S : HS} (h : P_X9_off_104 Q X62 v0 v2 v4 v6 v7 s0 S) : WS X 9 8 7937 104 [(0, .ref v0), (2, .int v2), (4, .int v4), (6, .int v6), (7, .int v7)] [.int s0] S := by
  refine r_istore (pc := 104) C dX9_off_104 (by decide) (lv' := [(8, .int s0), (0, .ref v0), (2, .int v2), (4, .int v4), (6, .int v6), (7, .int v7)]) rfl ?_
  refine r_aload_n (pc := 106) C dX9_off_106 1 rfl ?_
  obtain ⟨o_v0, h⟩ := h
  obtain ⟨a1, ea1, h⟩ := h
  refine r_getr (pc := 107) C fL_X9_37 dX9_off_107 o_v0 ea1 ?_
  refine r_iload_n (pc := 110) C dX9_off_110 2 rfl ?_
  refine r_iload (pc := 111) C dX9_off_111 5 rfl ?_
  obtain ⟨o_a1, h⟩ := h
  refine r_callVi0 (pc := 113) C (rest := []) (a := a1) o_a1 [.int v2, .int v7] yV_X7_isOpen g_888 (c_X7_isOpen h) dX9_off_113 rfl rfl (Nat.le_of_ble_eq_true rfl) ⟨by decide, by decide⟩ ⟨by decide, by decide⟩ ⟨rfl, rfl⟩ (fun x4 S2 h g3 => ?_)
  have bx4 := h.1
  have h := h.2 g3 bx4
  have o_a1 := gr_ob g3 o_a1
  have o_v0 := gr_ob g3 o_v0
  refine r_if_eq (pc := 116) C (tgt := 128) dX9_off_116 (by decide) (fun c5 => ?_) (fun c5 => ?_)
  · have h := h.1 c5
    exact r_sub [1, 2, 3, 4, 5] rfl (T_X9_off_128 C E ht hn hX62 h)
  · have h := h.2 c5
    refine r_iload (pc := 119) C dX9_off_119 0 rfl ?_
    refine r_if_eq (pc := 121) C (tgt := 128) dX9_off_121 (by decide) (fun c6 => ?_) (fun c6 => ?_)
    · have h := h.1 c6
      exact r_sub [1, 2, 3, 4, 5] rfl (T_X9_off_128 C E ht hn hX62 h)
    · have h := h.2 c6
      refine r_iload (pc := 124) C dX9_off_124 5 rfl ?_
      refine r_istore (pc := 126) C dX9_off_126 (by decide) (lv' := [(6, .int v7), (8, .int s0), (0, .ref v0), (2, .int v2), (4, .int v4), (7, .int v7)]) rfl ?_
      exact r_sub [2, 3, 4, 0, 5] rfl (T_X9_off_128 C E ht hn hX62 h)
def P_X9_off_99 (Q : Int32 → HS → Prop) (X62 : Nat → Int32 → Int32 → Int32 → Int32 → HS → Prop) (v0 : Nat) (v2 : Int32) (v4 : Int32) (v6 : Int32) (v7 : Int32) (S : HS) : Prop := P_X9_off_104 Q X62 v0 v2 v4 v6 v7 (1 : Int32) S
set_option maxRecDepth 20000 in
set_option maxHeartbeats 4000000 in
theorem T_X9_off_99 {X : CX} {Q : Int32 → HS → Prop} (C : Cx X cX9_off RX9 9 rm_X9_off) (E : ReI X rm_X9_off Q) (ht : (xh X).sig.returnType = (some .int)) (hn : (xh X).name = yX9_off.name) {X62 : Nat → Int32 → Int32 → Int32 → Int32 → HS → Prop} (hX62 : ∀ (v0 : Nat) (v2 : Int32) (v4 : Int32) (v6 : Int32) (v7 : Int32) (S : HS), X62 v0 v2 v4 v6 v7 S → WS X 9 8 7937 62 [(0, .ref v0), (2, .int v2), (4, .int v4), (6, .int v6), (7, .int v7)] [] S) {v0 : Nat} {v2 : Int32} {v4 : Int32} {v6 : Int32} {v7 : Int32} {S : HS} (h : P_X9_off_99 Q X62 v0 v2 v4 v6 v7 S) : WS X 9 8 7937 99 [(0, .ref v0), (2, .int v2), (4, .int v4), (6, .int v6), (7, .int v7)] [] S := by
  refine r_iconst (pc := 99) C (v := (1 : Int32)) dX9_off_99 (by decide) ?_
  refine r_goto (pc := 100) C (tgt := 104) dX9_off_100 (by decide) ?_
  exact r_sub [0, 1, 2, 3, 4] rfl (T_X9_off_104 C E ht hn hX62 h)
def B_X9_off_62 (Q : Int32 → HS → Prop) (X62 : Nat → Int32 → Int32 → Int32 → Int32 → HS → Prop) (v0 : Nat) (v2 : Int32) (v4 : Int32) (v6 : Int32) (v7 : Int32) (S : HS) : Prop := ((v4 < v7) → (((¬ v6 = (-1 : Int32)) → (Q v6 S)) ∧ ((v6 = (-1 : Int32)) → (ob S v0 9 ∧ (P_X9_refuse v0 (6 : Int32) (fun x5 S3 => Gr S S3 → (Q x5 S3)) S))))) ∧ ((¬ v4 < v7) → (((v6 = (-1 : Int32)) → (P_X9_off_99 Q X62 v0 v2 v4 v6 v7 S)) ∧ ((¬ v6 = (-1 : Int32)) → (ob S v0 9 ∧ (∃ a7 : Nat, fR S v0 5 = some a7 ∧ (ob S a7 7 ∧ (P_X7_meanFrom a7 v2 v7 (fun x10 S8 => Gr S S8 → (∃ a11 : Nat, fR S8 v0 5 = some a11 ∧ (ob S8 a11 7 ∧ (P_X7_meanFrom a11 v2 v6 (fun x14 S12 => Gr S8 S12 → (((0 ≤ (lg_cmp x10 x14)) → (P_X9_off_104 Q X62 v0 v2 v4 v6 v7 (0 : Int32) S12)) ∧ ((¬ 0 ≤ (lg_cmp x10 x14)) → (P_X9_off_99 Q X62 v0 v2 v4 v6 v7 S12)))) S8)))) S)))))))
def P_X9_off_62 (Q : Int32 → HS → Prop) (v0 : Nat) (v2 : Int32) (v4 : Int32) (v6 : Int32) (v7 : Int32) (S : HS) : Prop := ∀ X62 : Nat → Int32 → Int32 → Int32 → Int32 → HS → Prop, (∀ (v0 : Nat) (v2 : Int32) (v4 : Int32) (v6 : Int32) (v7 : Int32) (S : HS), B_X9_off_62 Q X62 v0 v2 v4 v6 v7 S → X62 v0 v2 v4 v6 v7 S) → X62 v0 v2 v4 v6 v7 S
set_option maxRecDepth 20000 in
set_option maxHeartbeats 4000000 in
theorem TB_X9_off_62 {X : CX} {Q : Int32 → HS → Prop} (C : Cx X cX9_off RX9 9 rm_X9_off) (E : ReI X rm_X9_off Q) (ht : (xh X).sig.returnType = (some .int)) (hn : (xh X).name = yX9_off.name) {X62 : Nat → Int32 → Int32 → Int32 → Int32 → HS → Prop} (hX62 : ∀ (v0 : Nat) (v2 : Int32) (v4 : Int32) (v6 : Int32) (v7 : Int32) (S : HS), X62 v0 v2 v4 v6 v7 S → WS X 9 8 7937 62 [(0, .ref v0), (2, .int v2), (4, .int v4), (6, .int v6), (7, .int v7)] [] S) {v0 : Nat} {v2 : Int32} {v4 : Int32} {v6 : Int32} {v7 : Int32} {S : HS} (h : B_X9_off_62 Q X62 v0 v2 v4 v6 v7 S) : WS X 9 8 7937 62 [(0, .ref v0), (2, .int v2), (4, .int v4), (6, .int v6), (7, .int v7)] [] S := by
  refine r_iload (pc := 62) C dX9_off_62 4 rfl ?_
  refine r_iload (pc := 64) C dX9_off_64 2 rfl ?_
  refine r_icmp_gt (pc := 66) C (tgt := 134) dX9_off_66 (by decide) (fun c1 => ?_) (fun c1 => ?_)
  · have h := h.1 c1
    refine r_iload (pc := 134) C dX9_off_134 3 rfl ?_
    refine r_iconst (pc := 136) C (v := (-1 : Int32)) dX9_off_136 (by decide) ?_
    refine r_icmp_ne (pc := 137) C (tgt := 149) dX9_off_137 (by decide) (fun c2 => ?_) (fun c2 => ?_)
    · have h := h.1 c2
      refine r_iload (pc := 149) C dX9_off_149 3 rfl ?_
      exact r_iret (pc := 151) C E ht dX9_off_151 (by decide) (by decide) h
    · have h := h.2 c2
      refine r_aload_n (pc := 140) C dX9_off_140 0 rfl ?_
      refine r_bipush (pc := 141) C (v := (6 : Int32)) dX9_off_141 (by decide) ?_
      obtain ⟨o_v0, h⟩ := h
      refine r_callVi0 (pc := 143) C (rest := []) (a := v0) o_v0 [.int (6 : Int32)] yV_X9_refuse g_430 (c_X9_refuse h) dX9_off_143 rfl rfl (Nat.le_of_ble_eq_true rfl) ⟨by decide, by decide⟩ ⟨by decide, by decide⟩ ⟨rfl, rfl⟩ (fun x5 S3 h g4 => ?_)
      have h := h g4
      have o_v0 := gr_ob g4 o_v0
      refine r_goto (pc := 146) C (tgt := 151) dX9_off_146 (by decide) ?_
      exact r_iret (pc := 151) C E ht dX9_off_151 (by decide) (by decide) h
  · have h := h.2 c1
    refine r_iload (pc := 69) C dX9_off_69 3 rfl ?_
    refine r_iconst (pc := 71) C (v := (-1 : Int32)) dX9_off_71 (by decide) ?_
    refine r_icmp_eq (pc := 72) C (tgt := 99) dX9_off_72 (by decide) (fun c6 => ?_) (fun c6 => ?_)
    · have h := h.1 c6
      exact r_sub [0, 1, 2, 3, 4] rfl (T_X9_off_99 C E ht hn hX62 h)
    · have h := h.2 c6
      refine r_aload_n (pc := 75) C dX9_off_75 0 rfl ?_
      obtain ⟨o_v0, h⟩ := h
      obtain ⟨a7, ea7, h⟩ := h
      refine r_getr (pc := 76) C fL_X9_37 dX9_off_76 o_v0 ea7 ?_
      refine r_iload_n (pc := 79) C dX9_off_79 1 rfl ?_
      refine r_iload (pc := 80) C dX9_off_80 4 rfl ?_
      obtain ⟨o_a7, h⟩ := h
      refine r_callVl0 (pc := 82) C (rest := []) (a := a7) o_a7 [.int v2, .int v7] yV_X7_meanFrom g_896 (c_X7_meanFrom h) dX9_off_82 rfl rfl (Nat.le_of_ble_eq_true rfl) ⟨by decide, by decide⟩ ⟨by decide, by decide⟩ ⟨rfl, rfl⟩ (fun x10 S8 h g9 => ?_)
      have h := h g9
      have o_a7 := gr_ob g9 o_a7
      have o_v0 := gr_ob g9 o_v0
      refine r_aload_n (pc := 85) C dX9_off_85 0 rfl ?_
      obtain ⟨a11, ea11, h⟩ := h
      refine r_getr (pc := 86) C fL_X9_37 dX9_off_86 o_v0 ea11 ?_
      refine r_iload_n (pc := 89) C dX9_off_89 1 rfl ?_
      refine r_iload (pc := 90) C dX9_off_90 3 rfl ?_
      obtain ⟨o_a11, h⟩ := h
      refine r_callVl0 (pc := 92) C (rest := [.long x10]) (a := a11) o_a11 [.int v2, .int v6] yV_X7_meanFrom g_896 (c_X7_meanFrom h) dX9_off_92 rfl rfl (Nat.le_of_ble_eq_true rfl) ⟨by decide, by decide⟩ ⟨by decide, by decide⟩ ⟨rfl, rfl⟩ (fun x14 S12 h g13 => ?_)
      have h := h g13
      have o_a11 := gr_ob g13 o_a11
      have o_a7 := gr_ob g13 o_a7
      have o_v0 := gr_ob g13 o_v0
      refine r_lcmp (pc := 95) C dX9_off_95 ?_
      refine r_if_ge (pc := 96) C (tgt := 103) dX9_off_96 (by decide) (fun c15 => ?_) (fun c15 => ?_)
      · have h := h.1 c15
        refine r_iconst (pc := 103) C (v := (0 : Int32)) dX9_off_103 (by decide) ?_
        exact r_sub [0, 1, 2, 3, 4] rfl (T_X9_off_104 C E ht hn hX62 h)
      · have h := h.2 c15
        exact r_sub [0, 1, 2, 3, 4] rfl (T_X9_off_99 C E ht hn hX62 h)
theorem T_X9_off_62 {X : CX} {Q : Int32 → HS → Prop} (C : Cx X cX9_off RX9 9 rm_X9_off) (E : ReI X rm_X9_off Q) (ht : (xh X).sig.returnType = (some .int)) (hn : (xh X).name = yX9_off.name) {v0 : Nat} {v2 : Int32} {v4 : Int32} {v6 : Int32} {v7 : Int32} {S : HS} (h : P_X9_off_62 Q v0 v2 v4 v6 v7 S) : WS X 9 8 7937 62 [(0, .ref v0), (2, .int v2), (4, .int v4), (6, .int v6), (7, .int v7)] [] S :=
  h (fun v0 v2 v4 v6 v7 S => WS X 9 8 7937 62 [(0, .ref v0), (2, .int v2), (4, .int v4), (6, .int v6), (7, .int v7)] [] S) (fun v0 v2 v4 v6 v7 S hh => TB_X9_off_62 C E ht hn (fun v0 v2 v4 v6 v7 S z => z) hh)
def P_X9_off_25 (Q : Int32 → HS → Prop) (v0 : Nat) (v1 : Int32) (v2 : Int32) (v3 : Int32) (v4 : Int32) (v5 : Int32) (S : HS) : Prop := ob S v0 9 ∧ (P_X9_refusedBy v0 v5 (fun x3 S1 => Gr S S1 → bl x3 → (((x3 = 0) → (∃ a5 : Nat, fR S1 v0 5 = some a5 ∧ (∃ a6 : Nat, fR S1 v0 2 = some a6 ∧ (∃ a7 : Nat, fR S1 v0 4 = some a7 ∧ (ob S1 a5 7 ∧ (P_X7_reckon a5 a6 a7 v1 v3 v4 (0 : Int32) (fun S8 => Gr S1 S8 → (P_X9_off_62 Q v0 v2 v4 (-1 : Int32) (0 : Int32) S8)) S1)))))) ∧ ((¬ x3 = 0) → (Q (-1 : Int32) S1)))) S)
set_option maxRecDepth 20000 in
set_option maxHeartbeats 4000000 in
theorem T_X9_off_25 {X : CX} {Q : Int32 → HS → Prop} (C : Cx X cX9_off RX9 9 rm_X9_off) (E : ReI X rm_X9_off Q) (ht : (xh X).sig.returnType = (some .int)) (hn : (xh X).name = yX9_off.name) {v0 : Nat} {v1 : Int32} {v2 : Int32} {v3 : Int32} {v4 : Int32} {v5 : Int32} {S : HS} (h : P_X9_off_25 Q v0 v1 v2 v3 v4 v5 S) : WS X 9 0 0 25 [(0, .ref v0), (1, .int v1), (2, .int v2), (3, .int v3), (4, .int v4), (5, .int v5)] [] S := by
  refine r_aload_n (pc := 25) C dX9_off_25 0 rfl ?_
  refine r_iload (pc := 26) C dX9_off_26 5 rfl ?_
  obtain ⟨o_v0, h⟩ := h
  refine r_callVi0 (pc := 28) C (rest := []) (a := v0) o_v0 [.int v5] yV_X9_refusedBy g_683 (c_X9_refusedBy h) dX9_off_28 rfl rfl (Nat.le_of_ble_eq_true rfl) ⟨by decide, by decide⟩ ⟨by decide, by decide⟩ ⟨rfl, rfl⟩ (fun x3 S1 h g2 => ?_)
  have bx3 := h.1
  have h := h.2 g2 bx3
  have o_v0 := gr_ob g2 o_v0
  refine r_if_eq (pc := 31) C (tgt := 36) dX9_off_31 (by decide) (fun c4 => ?_) (fun c4 => ?_)
  · have h := h.1 c4
    refine r_aload_n (pc := 36) C dX9_off_36 0 rfl ?_
    obtain ⟨a5, ea5, h⟩ := h
    refine r_getr (pc := 37) C fL_X9_37 dX9_off_37 o_v0 ea5 ?_
    refine r_aload_n (pc := 40) C dX9_off_40 0 rfl ?_
    obtain ⟨a6, ea6, h⟩ := h
    refine r_getr (pc := 41) C fL_X9_16 dX9_off_41 o_v0 ea6 ?_
    refine r_aload_n (pc := 44) C dX9_off_44 0 rfl ?_
    obtain ⟨a7, ea7, h⟩ := h
    refine r_getr (pc := 45) C fL_X9_30 dX9_off_45 o_v0 ea7 ?_
    refine r_iload_n (pc := 48) C dX9_off_48 1 rfl ?_
    refine r_iload_n (pc := 49) C dX9_off_49 3 rfl ?_
    refine r_iload (pc := 50) C dX9_off_50 4 rfl ?_
    refine r_iconst (pc := 52) C (v := (0 : Int32)) dX9_off_52 (by decide) ?_
    obtain ⟨o_a5, h⟩ := h
    refine r_callVv (pc := 53) C (rest := []) (a := a5) o_a5 [.ref a6, .ref a7, .int v1, .int v3, .int v4, .int (0 : Int32)] yV_X7_reckon g_832 (c_X7_reckon h) dX9_off_53 rfl rfl (Nat.le_of_ble_eq_true rfl) ⟨by decide, by decide⟩ ⟨by decide, by decide⟩ (fun S8 h g9 => ?_)
    have h := h g9
    have o_a5 := gr_ob g9 o_a5
    have o_v0 := gr_ob g9 o_v0
    refine r_iconst (pc := 56) C (v := (-1 : Int32)) dX9_off_56 (by decide) ?_
    refine r_istore (pc := 57) C dX9_off_57 (by decide) (lv' := [(6, .int (-1 : Int32)), (0, .ref v0), (1, .int v1), (2, .int v2), (3, .int v3), (4, .int v4), (5, .int v5)]) rfl ?_
    refine r_iconst (pc := 59) C (v := (0 : Int32)) dX9_off_59 (by decide) ?_
    refine r_istore (pc := 60) C dX9_off_60 (by decide) (lv' := [(7, .int (0 : Int32)), (6, .int (-1 : Int32)), (0, .ref v0), (1, .int v1), (2, .int v2), (3, .int v3), (4, .int v4), (5, .int v5)]) rfl ?_
    exact r_sub [2, 4, 6, 1, 0] rfl (T_X9_off_62 C E ht hn h)
  · have h := h.2 c4
    refine r_iconst (pc := 34) C (v := (-1 : Int32)) dX9_off_34 (by decide) ?_
    exact r_iret (pc := 35) C E ht dX9_off_35 (by decide) (by decide) h
def P_X9_off_0 (Q : Int32 → HS → Prop) (v0 : Nat) (v1 : Int32) (v2 : Int32) (v3 : Int32) (v4 : Int32) (S : HS) : Prop := ob S v0 9 ∧ (P_X9_placesTrouble v0 v1 v2 v3 (fun x3 S1 => Gr S S1 → (((¬ x3 = 0) → (P_X9_off_25 Q v0 v1 v2 v3 v4 x3 S1)) ∧ ((x3 = 0) → (P_X9_isTill v4 (fun x7 S5 => Gr S1 S5 → bl x7 → (((¬ x7 = 0) → (P_X9_off_25 Q v0 v1 v2 v3 v4 x3 S5)) ∧ ((x7 = 0) → (P_X9_off_25 Q v0 v1 v2 v3 v4 (2 : Int32) S5)))) S1)))) S)
set_option maxRecDepth 20000 in
set_option maxHeartbeats 4000000 in
theorem T_X9_off_0 {X : CX} {Q : Int32 → HS → Prop} (C : Cx X cX9_off RX9 9 rm_X9_off) (E : ReI X rm_X9_off Q) (ht : (xh X).sig.returnType = (some .int)) (hn : (xh X).name = yX9_off.name) {v0 : Nat} {v1 : Int32} {v2 : Int32} {v3 : Int32} {v4 : Int32} {S : HS} (h : P_X9_off_0 Q v0 v1 v2 v3 v4 S) : WS X 9 0 0 0 [(0, .ref v0), (1, .int v1), (2, .int v2), (3, .int v3), (4, .int v4)] [] S := by
  refine r_aload_n (pc := 0) C dX9_off_0 0 rfl ?_
  refine r_iload_n (pc := 1) C dX9_off_1 1 rfl ?_
  refine r_iload_n (pc := 2) C dX9_off_2 2 rfl ?_
  refine r_iload_n (pc := 3) C dX9_off_3 3 rfl ?_
  obtain ⟨o_v0, h⟩ := h
  refine r_callVi0 (pc := 4) C (rest := []) (a := v0) o_v0 [.int v1, .int v2, .int v3] yV_X9_placesTrouble g_821 (c_X9_placesTrouble h) dX9_off_4 rfl rfl (Nat.le_of_ble_eq_true rfl) ⟨by decide, by decide⟩ ⟨by decide, by decide⟩ ⟨rfl, rfl⟩ (fun x3 S1 h g2 => ?_)
  have h := h g2
  have o_v0 := gr_ob g2 o_v0
  refine r_istore (pc := 7) C dX9_off_7 (by decide) (lv' := [(5, .int x3), (0, .ref v0), (1, .int v1), (2, .int v2), (3, .int v3), (4, .int v4)]) rfl ?_
  refine r_iload (pc := 9) C dX9_off_9 0 rfl ?_
  refine r_if_ne (pc := 11) C (tgt := 25) dX9_off_11 (by decide) (fun c4 => ?_) (fun c4 => ?_)
  · have h := h.1 c4
    exact r_sub [1, 2, 3, 4, 5, 0] rfl (T_X9_off_25 C E ht hn h)
  · have h := h.2 c4
    refine r_iload (pc := 14) C dX9_off_14 5 rfl ?_
    refine r_callSi0 (pc := 16) C (rest := []) rfl [.int v4] yS_X9_isTill g_829 (c_X9_isTill h) dX9_off_16 rfl rfl (Nat.le_of_ble_eq_true rfl) ⟨by decide, by decide⟩ ⟨by decide, by decide⟩ ⟨rfl, rfl⟩ (fun x7 S5 h g6 => ?_)
    have bx7 := h.1
    have h := h.2 g6 bx7
    have o_v0 := gr_ob g6 o_v0
    refine r_if_ne (pc := 19) C (tgt := 25) dX9_off_19 (by decide) (fun c8 => ?_) (fun c8 => ?_)
    · have h := h.1 c8
      exact r_sub [1, 2, 3, 4, 5, 0] rfl (T_X9_off_25 C E ht hn h)
    · have h := h.2 c8
      refine r_iconst (pc := 22) C (v := (2 : Int32)) dX9_off_22 (by decide) ?_
      refine r_istore (pc := 23) C dX9_off_23 (by decide) (lv' := [(5, .int (2 : Int32)), (0, .ref v0), (1, .int v1), (2, .int v2), (3, .int v3), (4, .int v4)]) rfl ?_
      exact r_sub [1, 2, 3, 4, 5, 0] rfl (T_X9_off_25 C E ht hn h)
def P_X9_off (v0 : Nat) (v1 : Int32) (v2 : Int32) (v3 : Int32) (v4 : Int32) (Q : Int32 → HS → Prop) (S : HS) : Prop := P_X9_off_0 Q v0 v1 v2 v3 v4 S
theorem c_X9_off {l : Launch} {Ee : EE} {S : HS} {v0 : Nat} {v1 : Int32} {v2 : Int32} {v3 : Int32} {v4 : Int32} {Q : Int32 → HS → Prop} (h : P_X9_off v0 v1 v2 v3 v4 Q S) : MI l yX9_off cX9_off 9 (some .int) rm_X9_off Ee S [.ref v0, .int v1, .int v2, .int v3, .int v4] Q :=
  openI (by decide) (Nat.le_of_ble_eq_true rfl) (fun X C E ht hn hE hl => by subst hE; exact r_sub [0, 1, 2, 3, 4] rfl (T_X9_off_0 C E ht hn h))
def rm_X9_road : Room := { frames := 1, cells := 0, slots := 0, locals := 21 }
def P_X9_road_20 (Q : Int32 → HS → Prop) (v0 : Nat) (S : HS) : Prop := ob S v0 9 ∧ (P_X9_refuse v0 (1 : Int32) (fun x3 S1 => Gr S S1 → (Q x3 S1)) S)
set_option maxRecDepth 20000 in
set_option maxHeartbeats 4000000 in
theorem T_X9_road_20 {X : CX} {Q : Int32 → HS → Prop} (C : Cx X cX9_road RX9 3 rm_X9_road) (E : ReI X rm_X9_road Q) (ht : (xh X).sig.returnType = (some .int)) (hn : (xh X).name = yX9_road.name) {v0 : Nat} {S : HS} (h : P_X9_road_20 Q v0 S) : WS X 3 0 0 20 [(0, .ref v0)] [] S := by
  refine r_aload_n (pc := 20) C dX9_road_20 0 rfl ?_
  refine r_iconst (pc := 21) C (v := (1 : Int32)) dX9_road_21 (by decide) ?_
  obtain ⟨o_v0, h⟩ := h
  refine r_callVi0 (pc := 22) C (rest := []) (a := v0) o_v0 [.int (1 : Int32)] yV_X9_refuse g_430 (c_X9_refuse h) dX9_road_22 rfl rfl (Nat.le_of_ble_eq_true rfl) ⟨by decide, by decide⟩ ⟨by decide, by decide⟩ ⟨rfl, rfl⟩ (fun x3 S1 h g2 => ?_)
  have h := h g2
  have o_v0 := gr_ob g2 o_v0
  exact r_iret (pc := 25) C E ht dX9_road_25 (by decide) (by decide) h
def P_X9_road_0 (Q : Int32 → HS → Prop) (v0 : Nat) (v1 : Int32) (v2 : Int32) (S : HS) : Prop := ob S v0 9 ∧ (∃ a1 : Nat, fR S v0 2 = some a1 ∧ (ob S a1 8 ∧ (P_X8_hasRoad a1 v1 (fun x4 S2 => Gr S S2 → bl x4 → (((x4 = 0) → (P_X9_road_20 Q v0 S2)) ∧ ((¬ x4 = 0) → (((v2 < 0) → (P_X9_road_20 Q v0 S2)) ∧ ((¬ v2 < 0) → (((v2 ≤ (4 : Int32)) → (∃ a8 : Nat, fR S2 v0 2 = some a8 ∧ (ob S2 a8 8 ∧ (∃ a9 : Nat, fR S2 a8 8 = some a9 ∧ (ob S2 a9 18 ∧ (vp_in v1 (hN S2 a9) ∧ ∃ a11 : Nat, fR S2 a9 v1.toNatClampNeg = some a11 ∧ (ob S2 a11 5 ∧ (P_X5_tell a11 v2 (fun x14 S12 => Gr S2 S12 → (P_X9_grant v0 x14 (fun x17 S15 => Gr S12 S15 → (Q x17 S15)) S12)) S2)))))))) ∧ ((¬ v2 ≤ (4 : Int32)) → (P_X9_road_20 Q v0 S2)))))))) S)))
set_option maxRecDepth 20000 in
set_option maxHeartbeats 4000000 in
theorem T_X9_road_0 {X : CX} {Q : Int32 → HS → Prop} (C : Cx X cX9_road RX9 3 rm_X9_road) (E : ReI X rm_X9_road Q) (ht : (xh X).sig.returnType = (some .int)) (hn : (xh X).name = yX9_road.name) {v0 : Nat} {v1 : Int32} {v2 : Int32} {S : HS} (h : P_X9_road_0 Q v0 v1 v2 S) : WS X 3 0 0 0 [(0, .ref v0), (1, .int v1), (2, .int v2)] [] S := by
  refine r_aload_n (pc := 0) C dX9_road_0 0 rfl ?_
  obtain ⟨o_v0, h⟩ := h
  obtain ⟨a1, ea1, h⟩ := h
  refine r_getr (pc := 1) C fL_X9_16 dX9_road_1 o_v0 ea1 ?_
  refine r_iload_n (pc := 4) C dX9_road_4 1 rfl ?_
  obtain ⟨o_a1, h⟩ := h
  refine r_callVi0 (pc := 5) C (rest := []) (a := a1) o_a1 [.int v1] yV_X8_hasRoad g_668 (c_X8_hasRoad h) dX9_road_5 rfl rfl (Nat.le_of_ble_eq_true rfl) ⟨by decide, by decide⟩ ⟨by decide, by decide⟩ ⟨rfl, rfl⟩ (fun x4 S2 h g3 => ?_)
  have bx4 := h.1
  have h := h.2 g3 bx4
  have o_a1 := gr_ob g3 o_a1
  have o_v0 := gr_ob g3 o_v0
  refine r_if_eq (pc := 8) C (tgt := 20) dX9_road_8 (by decide) (fun c5 => ?_) (fun c5 => ?_)
  · have h := h.1 c5
    exact r_sub [0] rfl (T_X9_road_20 C E ht hn h)
  · have h := h.2 c5
    refine r_iload_n (pc := 11) C dX9_road_11 2 rfl ?_
    refine r_if_lt (pc := 12) C (tgt := 20) dX9_road_12 (by decide) (fun c6 => ?_) (fun c6 => ?_)
    · have h := h.1 c6
      exact r_sub [0] rfl (T_X9_road_20 C E ht hn h)
    · have h := h.2 c6
      refine r_iload_n (pc := 15) C dX9_road_15 2 rfl ?_
      refine r_iconst (pc := 16) C (v := (4 : Int32)) dX9_road_16 (by decide) ?_
      refine r_icmp_le (pc := 17) C (tgt := 26) dX9_road_17 (by decide) (fun c7 => ?_) (fun c7 => ?_)
      · have h := h.1 c7
        refine r_aload_n (pc := 26) C dX9_road_26 0 rfl ?_
        refine r_aload_n (pc := 27) C dX9_road_27 0 rfl ?_
        obtain ⟨a8, ea8, h⟩ := h
        refine r_getr (pc := 28) C fL_X9_16 dX9_road_28 o_v0 ea8 ?_
        obtain ⟨o_a8, h⟩ := h
        obtain ⟨a9, ea9, h⟩ := h
        refine r_getr (pc := 31) C fL_X9_112 dX9_road_31 o_a8 ea9 ?_
        refine r_iload_n (pc := 34) C dX9_road_34 1 rfl ?_
        obtain ⟨o_a9, h⟩ := h
        obtain ⟨i10, a11, ea11, h⟩ := h
        refine r_aald18 (pc := 35) C dX9_road_35 o_a9 i10 ea11 ?_
        refine r_iload_n (pc := 36) C dX9_road_36 2 rfl ?_
        obtain ⟨o_a11, h⟩ := h
        refine r_callVi0 (pc := 37) C (rest := [.ref v0]) (a := a11) o_a11 [.int v2] yV_X5_tell g_1072 (c_X5_tell h) dX9_road_37 rfl rfl (Nat.le_of_ble_eq_true rfl) ⟨by decide, by decide⟩ ⟨by decide, by decide⟩ ⟨rfl, rfl⟩ (fun x14 S12 h g13 => ?_)
        have h := h g13
        have o_a1 := gr_ob g13 o_a1
        have o_a11 := gr_ob g13 o_a11
        have o_a8 := gr_ob g13 o_a8
        have o_a9 := gr_ob g13 o_a9
        have o_v0 := gr_ob g13 o_v0
        refine r_callVi0 (pc := 40) C (rest := []) (a := v0) o_v0 [.int x14] yV_X9_grant g_637 (c_X9_grant h) dX9_road_40 rfl rfl (Nat.le_of_ble_eq_true rfl) ⟨by decide, by decide⟩ ⟨by decide, by decide⟩ ⟨rfl, rfl⟩ (fun x17 S15 h g16 => ?_)
        have h := h g16
        have o_a1 := gr_ob g16 o_a1
        have o_a11 := gr_ob g16 o_a11
        have o_a8 := gr_ob g16 o_a8
        have o_a9 := gr_ob g16 o_a9
        have o_v0 := gr_ob g16 o_v0
        exact r_iret (pc := 43) C E ht dX9_road_43 (by decide) (by decide) h
      · have h := h.2 c7
        exact r_sub [0] rfl (T_X9_road_20 C E ht hn h)
def P_X9_road (v0 : Nat) (v1 : Int32) (v2 : Int32) (Q : Int32 → HS → Prop) (S : HS) : Prop := P_X9_road_0 Q v0 v1 v2 S
theorem c_X9_road {l : Launch} {Ee : EE} {S : HS} {v0 : Nat} {v1 : Int32} {v2 : Int32} {Q : Int32 → HS → Prop} (h : P_X9_road v0 v1 v2 Q S) : MI l yX9_road cX9_road 3 (some .int) rm_X9_road Ee S [.ref v0, .int v1, .int v2] Q :=
  openI (by decide) (Nat.le_of_ble_eq_true rfl) (fun X C E ht hn hE hl => by subst hE; exact r_sub [0, 1, 2] rfl (T_X9_road_0 C E ht hn h))
def rm_X9_round : Room := { frames := 6, cells := 0, slots := 0, locals := 155 }
def P_X9_round_0 (Q : Int64 → HS → Prop) (v0 : Nat) (v1 : Int32) (v2 : Int32) (v3 : Int32) (v4 : Int32) (S : HS) : Prop := ob S v0 9 ∧ (P_X9_tripTrouble v0 v1 v2 (0 : Int32) v3 (fun x3 S1 => Gr S S1 → (P_X9_refusedBy v0 x3 (fun x6 S4 => Gr S1 S4 → bl x6 → (((x6 = 0) → (∃ a8 : Nat, fR S4 v0 4 = some a8 ∧ (∃ a9 : Nat, fR S4 v0 2 = some a9 ∧ (ob S4 a9 8 ∧ (∃ a10 : Nat, fR S4 a9 9 = some a10 ∧ (ob S4 a10 19 ∧ (vp_in v1 (hN S4 a10) ∧ ∃ a12 : Nat, fR S4 a10 v1.toNatClampNeg = some a12 ∧ (∃ a13 : Nat, fR S4 v0 2 = some a13 ∧ (ob S4 a13 8 ∧ (∃ a14 : Nat, fR S4 a13 8 = some a14 ∧ (ob S4 a14 18 ∧ (vp_in v2 (hN S4 a14) ∧ ∃ a16 : Nat, fR S4 a14 v2.toNatClampNeg = some a16 ∧ (∃ a17 : Nat, fR S4 v0 2 = some a17 ∧ (ob S4 a17 8 ∧ (∃ a18 : Nat, fR S4 a17 6 = some a18 ∧ (ob S4 a18 17 ∧ (vp_in v3 (hN S4 a18) ∧ ∃ a20 : Nat, fR S4 a18 v3.toNatClampNeg = some a20 ∧ (ob S4 a8 1 ∧ (P_X1_leastWet a8 a12 a16 (0 : Int32) a20 (fun x23 S21 => Gr S4 S21 → (∃ a24 : Nat, fR S21 v0 4 = some a24 ∧ (∃ a25 : Nat, fR S21 v0 2 = some a25 ∧ (ob S21 a25 8 ∧ (∃ a26 : Nat, fR S21 a25 9 = some a26 ∧ (ob S21 a26 19 ∧ (vp_in v1 (hN S21 a26) ∧ ∃ a28 : Nat, fR S21 a26 v1.toNatClampNeg = some a28 ∧ (∃ a29 : Nat, fR S21 v0 2 = some a29 ∧ (ob S21 a29 8 ∧ (∃ a30 : Nat, fR S21 a29 8 = some a30 ∧ (ob S21 a30 18 ∧ (vp_in v2 (hN S21 a30) ∧ ∃ a32 : Nat, fR S21 a30 v2.toNatClampNeg = some a32 ∧ (∃ a33 : Nat, fR S21 v0 2 = some a33 ∧ (ob S21 a33 8 ∧ (∃ a34 : Nat, fR S21 a33 6 = some a34 ∧ (ob S21 a34 17 ∧ (vp_in v3 (hN S21 a34) ∧ ∃ a36 : Nat, fR S21 a34 v3.toNatClampNeg = some a36 ∧ (ob S21 a24 1 ∧ (P_X1_leastWet a24 a28 a32 (1 : Int32) a36 (fun x39 S37 => Gr S21 S37 → (P_X9_fraction (x23 + x39) (2520 : Int64) v4 (fun x42 S40 => Gr S37 S40 → (Q x42 S40)) S37)) S21))))))))))))))))))) S4))))))))))))))))))) ∧ ((¬ x6 = 0) → (Q (-1 : Int64) S4)))) S1)) S)
set_option maxRecDepth 20000 in
set_option maxHeartbeats 4000000 in
theorem T_X9_round_0 {X : CX} {Q : Int64 → HS → Prop} (C : Cx X cX9_round RX9 9 rm_X9_round) (E : ReJ X rm_X9_round Q) (ht : (xh X).sig.returnType = (some .long)) (hn : (xh X).name = yX9_round.name) {v0 : Nat} {v1 : Int32} {v2 : Int32} {v3 : Int32} {v4 : Int32} {S : HS} (h : P_X9_round_0 Q v0 v1 v2 v3 v4 S) : WS X 9 0 0 0 [(0, .ref v0), (1, .int v1), (2, .int v2), (3, .int v3), (4, .int v4)] [] S := by
  refine r_aload_n (pc := 0) C dX9_round_0 0 rfl ?_
  refine r_aload_n (pc := 1) C dX9_round_1 0 rfl ?_
  refine r_iload_n (pc := 2) C dX9_round_2 1 rfl ?_
  refine r_iload_n (pc := 3) C dX9_round_3 2 rfl ?_
  refine r_iconst (pc := 4) C (v := (0 : Int32)) dX9_round_4 (by decide) ?_
  refine r_iload_n (pc := 5) C dX9_round_5 3 rfl ?_
  obtain ⟨o_v0, h⟩ := h
  refine r_callVi0 (pc := 6) C (rest := [.ref v0]) (a := v0) o_v0 [.int v1, .int v2, .int (0 : Int32), .int v3] yV_X9_tripTrouble g_660 (c_X9_tripTrouble h) dX9_round_6 rfl rfl (Nat.le_of_ble_eq_true rfl) ⟨by decide, by decide⟩ ⟨by decide, by decide⟩ ⟨rfl, rfl⟩ (fun x3 S1 h g2 => ?_)
  have h := h g2
  have o_v0 := gr_ob g2 o_v0
  refine r_callVi0 (pc := 9) C (rest := []) (a := v0) o_v0 [.int x3] yV_X9_refusedBy g_683 (c_X9_refusedBy h) dX9_round_9 rfl rfl (Nat.le_of_ble_eq_true rfl) ⟨by decide, by decide⟩ ⟨by decide, by decide⟩ ⟨rfl, rfl⟩ (fun x6 S4 h g5 => ?_)
  have bx6 := h.1
  have h := h.2 g5 bx6
  have o_v0 := gr_ob g5 o_v0
  refine r_if_eq (pc := 12) C (tgt := 19) dX9_round_12 (by decide) (fun c7 => ?_) (fun c7 => ?_)
  · have h := h.1 c7
    refine r_aload_n (pc := 19) C dX9_round_19 0 rfl ?_
    obtain ⟨a8, ea8, h⟩ := h
    refine r_getr (pc := 20) C fL_X9_30 dX9_round_20 o_v0 ea8 ?_
    refine r_aload_n (pc := 23) C dX9_round_23 0 rfl ?_
    obtain ⟨a9, ea9, h⟩ := h
    refine r_getr (pc := 24) C fL_X9_16 dX9_round_24 o_v0 ea9 ?_
    obtain ⟨o_a9, h⟩ := h
    obtain ⟨a10, ea10, h⟩ := h
    refine r_getr (pc := 27) C fL_X9_108 dX9_round_27 o_a9 ea10 ?_
    refine r_iload_n (pc := 30) C dX9_round_30 1 rfl ?_
    obtain ⟨o_a10, h⟩ := h
    obtain ⟨i11, a12, ea12, h⟩ := h
    refine r_aald19 (pc := 31) C dX9_round_31 o_a10 i11 ea12 ?_
    refine r_aload_n (pc := 32) C dX9_round_32 0 rfl ?_
    obtain ⟨a13, ea13, h⟩ := h
    refine r_getr (pc := 33) C fL_X9_16 dX9_round_33 o_v0 ea13 ?_
    obtain ⟨o_a13, h⟩ := h
    obtain ⟨a14, ea14, h⟩ := h
    refine r_getr (pc := 36) C fL_X9_112 dX9_round_36 o_a13 ea14 ?_
    refine r_iload_n (pc := 39) C dX9_round_39 2 rfl ?_
    obtain ⟨o_a14, h⟩ := h
    obtain ⟨i15, a16, ea16, h⟩ := h
    refine r_aald18 (pc := 40) C dX9_round_40 o_a14 i15 ea16 ?_
    refine r_iconst (pc := 41) C (v := (0 : Int32)) dX9_round_41 (by decide) ?_
    refine r_aload_n (pc := 42) C dX9_round_42 0 rfl ?_
    obtain ⟨a17, ea17, h⟩ := h
    refine r_getr (pc := 43) C fL_X9_16 dX9_round_43 o_v0 ea17 ?_
    obtain ⟨o_a17, h⟩ := h
    obtain ⟨a18, ea18, h⟩ := h
    refine r_getr (pc := 46) C fL_X9_116 dX9_round_46 o_a17 ea18 ?_
    refine r_iload_n (pc := 49) C dX9_round_49 3 rfl ?_
    obtain ⟨o_a18, h⟩ := h
    obtain ⟨i19, a20, ea20, h⟩ := h
    refine r_aald17 (pc := 50) C dX9_round_50 o_a18 i19 ea20 ?_
    obtain ⟨o_a8, h⟩ := h
    refine r_callVl0 (pc := 51) C (rest := []) (a := a8) o_a8 [.ref a12, .ref a16, .int (0 : Int32), .ref a20] yV_X1_leastWet g_770 (c_X1_leastWet h) dX9_round_51 rfl rfl (Nat.le_of_ble_eq_true rfl) ⟨by decide, by decide⟩ ⟨by decide, by decide⟩ ⟨rfl, rfl⟩ (fun x23 S21 h g22 => ?_)
    have h := h g22
    have o_a10 := gr_ob g22 o_a10
    have o_a13 := gr_ob g22 o_a13
    have o_a14 := gr_ob g22 o_a14
    have o_a17 := gr_ob g22 o_a17
    have o_a18 := gr_ob g22 o_a18
    have o_a8 := gr_ob g22 o_a8
    have o_a9 := gr_ob g22 o_a9
    have o_v0 := gr_ob g22 o_v0
    refine r_lstore (pc := 54) C dX9_round_54 (by decide) (lv' := [(5, .long x23), (0, .ref v0), (1, .int v1), (2, .int v2), (3, .int v3), (4, .int v4)]) rfl ?_
    refine r_aload_n (pc := 56) C dX9_round_56 1 rfl ?_
    obtain ⟨a24, ea24, h⟩ := h
    refine r_getr (pc := 57) C fL_X9_30 dX9_round_57 o_v0 ea24 ?_
    refine r_aload_n (pc := 60) C dX9_round_60 1 rfl ?_
    obtain ⟨a25, ea25, h⟩ := h
    refine r_getr (pc := 61) C fL_X9_16 dX9_round_61 o_v0 ea25 ?_
    obtain ⟨o_a25, h⟩ := h
    obtain ⟨a26, ea26, h⟩ := h
    refine r_getr (pc := 64) C fL_X9_108 dX9_round_64 o_a25 ea26 ?_
    refine r_iload_n (pc := 67) C dX9_round_67 2 rfl ?_
    obtain ⟨o_a26, h⟩ := h
    obtain ⟨i27, a28, ea28, h⟩ := h
    refine r_aald19 (pc := 68) C dX9_round_68 o_a26 i27 ea28 ?_
    refine r_aload_n (pc := 69) C dX9_round_69 1 rfl ?_
    obtain ⟨a29, ea29, h⟩ := h
    refine r_getr (pc := 70) C fL_X9_16 dX9_round_70 o_v0 ea29 ?_
    obtain ⟨o_a29, h⟩ := h
    obtain ⟨a30, ea30, h⟩ := h
    refine r_getr (pc := 73) C fL_X9_112 dX9_round_73 o_a29 ea30 ?_
    refine r_iload_n (pc := 76) C dX9_round_76 3 rfl ?_
    obtain ⟨o_a30, h⟩ := h
    obtain ⟨i31, a32, ea32, h⟩ := h
    refine r_aald18 (pc := 77) C dX9_round_77 o_a30 i31 ea32 ?_
    refine r_iconst (pc := 78) C (v := (1 : Int32)) dX9_round_78 (by decide) ?_
    refine r_aload_n (pc := 79) C dX9_round_79 1 rfl ?_
    obtain ⟨a33, ea33, h⟩ := h
    refine r_getr (pc := 80) C fL_X9_16 dX9_round_80 o_v0 ea33 ?_
    obtain ⟨o_a33, h⟩ := h
    obtain ⟨a34, ea34, h⟩ := h
    refine r_getr (pc := 83) C fL_X9_116 dX9_round_83 o_a33 ea34 ?_
    refine r_iload_n (pc := 86) C dX9_round_86 4 rfl ?_
    obtain ⟨o_a34, h⟩ := h
    obtain ⟨i35, a36, ea36, h⟩ := h
    refine r_aald17 (pc := 87) C dX9_round_87 o_a34 i35 ea36 ?_
    obtain ⟨o_a24, h⟩ := h
    refine r_callVl0 (pc := 88) C (rest := []) (a := a24) o_a24 [.ref a28, .ref a32, .int (1 : Int32), .ref a36] yV_X1_leastWet g_770 (c_X1_leastWet h) dX9_round_88 rfl rfl (Nat.le_of_ble_eq_true rfl) ⟨by decide, by decide⟩ ⟨by decide, by decide⟩ ⟨rfl, rfl⟩ (fun x39 S37 h g38 => ?_)
    have h := h g38
    have o_a10 := gr_ob g38 o_a10
    have o_a13 := gr_ob g38 o_a13
    have o_a14 := gr_ob g38 o_a14
    have o_a17 := gr_ob g38 o_a17
    have o_a18 := gr_ob g38 o_a18
    have o_a24 := gr_ob g38 o_a24
    have o_a25 := gr_ob g38 o_a25
    have o_a26 := gr_ob g38 o_a26
    have o_a29 := gr_ob g38 o_a29
    have o_a30 := gr_ob g38 o_a30
    have o_a33 := gr_ob g38 o_a33
    have o_a34 := gr_ob g38 o_a34
    have o_a8 := gr_ob g38 o_a8
    have o_a9 := gr_ob g38 o_a9
    have o_v0 := gr_ob g38 o_v0
    refine r_lstore (pc := 91) C dX9_round_91 (by decide) (lv' := [(7, .long x39), (5, .long x23), (0, .ref v0), (1, .int v1), (2, .int v2), (3, .int v3), (4, .int v4)]) rfl ?_
    refine r_lload (pc := 93) C dX9_round_93 1 rfl ?_
    refine r_lload (pc := 95) C dX9_round_95 0 rfl ?_
    refine r_ladd (pc := 97) C dX9_round_97 ?_
    refine r_ldc2 (pc := 98) C (v := (2520 : Int64)) dX9_round_98 g_721 ?_
    refine r_iload (pc := 101) C dX9_round_101 6 rfl ?_
    refine r_callSl0 (pc := 103) C (rest := []) rfl [.long (x23 + x39), .long (2520 : Int64), .int v4] yS_X9_fraction g_722 (c_X9_fraction h) dX9_round_103 rfl rfl (Nat.le_of_ble_eq_true rfl) ⟨by decide, by decide⟩ ⟨by decide, by decide⟩ ⟨rfl, rfl⟩ (fun x42 S40 h g41 => ?_)
    have h := h g41
    have o_a10 := gr_ob g41 o_a10
    have o_a13 := gr_ob g41 o_a13
    have o_a14 := gr_ob g41 o_a14
    have o_a17 := gr_ob g41 o_a17
    have o_a18 := gr_ob g41 o_a18
    have o_a24 := gr_ob g41 o_a24
    have o_a25 := gr_ob g41 o_a25
    have o_a26 := gr_ob g41 o_a26
    have o_a29 := gr_ob g41 o_a29
    have o_a30 := gr_ob g41 o_a30
    have o_a33 := gr_ob g41 o_a33
    have o_a34 := gr_ob g41 o_a34
    have o_a8 := gr_ob g41 o_a8
    have o_a9 := gr_ob g41 o_a9
    have o_v0 := gr_ob g41 o_v0
    exact r_lret (pc := 106) C E ht dX9_round_106 (by decide) (by decide) h
  · have h := h.2 c7
    refine r_ldc2 (pc := 15) C (v := (-1 : Int64)) dX9_round_15 g_687 ?_
    exact r_lret (pc := 18) C E ht dX9_round_18 (by decide) (by decide) h
def P_X9_round (v0 : Nat) (v1 : Int32) (v2 : Int32) (v3 : Int32) (v4 : Int32) (Q : Int64 → HS → Prop) (S : HS) : Prop := P_X9_round_0 Q v0 v1 v2 v3 v4 S
theorem c_X9_round {l : Launch} {Ee : EE} {S : HS} {v0 : Nat} {v1 : Int32} {v2 : Int32} {v3 : Int32} {v4 : Int32} {Q : Int64 → HS → Prop} (h : P_X9_round v0 v1 v2 v3 v4 Q S) : MJ l yX9_round cX9_round 9 (some .long) rm_X9_round Ee S [.ref v0, .int v1, .int v2, .int v3, .int v4] Q :=
  openJ (by decide) (Nat.le_of_ble_eq_true rfl) (fun X C E ht hn hE hl => by subst hE; exact r_sub [0, 1, 2, 3, 4] rfl (T_X9_round_0 C E ht hn h))
def rm_X9_saves : Room := { frames := 6, cells := 0, slots := 0, locals := 155 }
def P_X9_saves_0 (Q : Int64 → HS → Prop) (v0 : Nat) (v1 : Int32) (v2 : Int32) (v3 : Int32) (v4 : Int32) (v5 : Int32) (S : HS) : Prop := ob S v0 9 ∧ (P_X9_tripTrouble v0 v1 v2 v3 v4 (fun x3 S1 => Gr S S1 → (P_X9_refusedBy v0 x3 (fun x6 S4 => Gr S1 S4 → bl x6 → (((x6 = 0) → (∃ a8 : Nat, fR S4 v0 2 = some a8 ∧ (ob S4 a8 8 ∧ (∃ a9 : Nat, fR S4 a8 9 = some a9 ∧ (ob S4 a9 19 ∧ (vp_in v1 (hN S4 a9) ∧ ∃ a11 : Nat, fR S4 a9 v1.toNatClampNeg = some a11 ∧ (∃ a12 : Nat, fR S4 v0 4 = some a12 ∧ (∃ a13 : Nat, fR S4 v0 2 = some a13 ∧ (ob S4 a13 8 ∧ (∃ a14 : Nat, fR S4 a13 8 = some a14 ∧ (ob S4 a14 18 ∧ (vp_in v2 (hN S4 a14) ∧ ∃ a16 : Nat, fR S4 a14 v2.toNatClampNeg = some a16 ∧ (∃ a17 : Nat, fR S4 v0 2 = some a17 ∧ (ob S4 a17 8 ∧ (∃ a18 : Nat, fR S4 a17 6 = some a18 ∧ (ob S4 a18 17 ∧ (vp_in v4 (hN S4 a18) ∧ ∃ a20 : Nat, fR S4 a18 v4.toNatClampNeg = some a20 ∧ (ob S4 a11 6 ∧ (∀ x21 : Int32, x21 = fI S4 a11 5 → (ob S4 a12 1 ∧ (P_X1_wetOf a12 a11 a16 v3 a20 x21 (fun x24 S22 => Gr S4 S22 → (∃ a25 : Nat, fR S22 v0 4 = some a25 ∧ (∃ a26 : Nat, fR S22 v0 2 = some a26 ∧ (ob S22 a26 8 ∧ (∃ a27 : Nat, fR S22 a26 8 = some a27 ∧ (ob S22 a27 18 ∧ (vp_in v2 (hN S22 a27) ∧ ∃ a29 : Nat, fR S22 a27 v2.toNatClampNeg = some a29 ∧ (∃ a30 : Nat, fR S22 v0 2 = some a30 ∧ (ob S22 a30 8 ∧ (∃ a31 : Nat, fR S22 a30 6 = some a31 ∧ (ob S22 a31 17 ∧ (vp_in v4 (hN S22 a31) ∧ ∃ a33 : Nat, fR S22 a31 v4.toNatClampNeg = some a33 ∧ (ob S22 a25 1 ∧ (P_X1_leastWet a25 a11 a29 v3 a33 (fun x36 S34 => Gr S22 S34 → (P_X9_fraction (x24 - x36) (2520 : Int64) v5 (fun x39 S37 => Gr S34 S37 → (Q x39 S37)) S34)) S22)))))))))))))) S4))))))))))))))))))))) ∧ ((¬ x6 = 0) → (Q (-1 : Int64) S4)))) S1)) S)
set_option maxRecDepth 20000 in
set_option maxHeartbeats 4000000 in
theorem T_X9_saves_0 {X : CX} {Q : Int64 → HS → Prop} (C : Cx X cX9_saves RX9 9 rm_X9_saves) (E : ReJ X rm_X9_saves Q) (ht : (xh X).sig.returnType = (some .long)) (hn : (xh X).name = yX9_saves.name) {v0 : Nat} {v1 : Int32} {v2 : Int32} {v3 : Int32} {v4 : Int32} {v5 : Int32} {S : HS} (h : P_X9_saves_0 Q v0 v1 v2 v3 v4 v5 S) : WS X 9 0 0 0 [(0, .ref v0), (1, .int v1), (2, .int v2), (3, .int v3), (4, .int v4), (5, .int v5)] [] S := by
  refine r_aload_n (pc := 0) C dX9_saves_0 0 rfl ?_
  refine r_aload_n (pc := 1) C dX9_saves_1 0 rfl ?_
  refine r_iload_n (pc := 2) C dX9_saves_2 1 rfl ?_
  refine r_iload_n (pc := 3) C dX9_saves_3 2 rfl ?_
  refine r_iload_n (pc := 4) C dX9_saves_4 3 rfl ?_
  refine r_iload (pc := 5) C dX9_saves_5 4 rfl ?_
  obtain ⟨o_v0, h⟩ := h
  refine r_callVi0 (pc := 7) C (rest := [.ref v0]) (a := v0) o_v0 [.int v1, .int v2, .int v3, .int v4] yV_X9_tripTrouble g_660 (c_X9_tripTrouble h) dX9_saves_7 rfl rfl (Nat.le_of_ble_eq_true rfl) ⟨by decide, by decide⟩ ⟨by decide, by decide⟩ ⟨rfl, rfl⟩ (fun x3 S1 h g2 => ?_)
  have h := h g2
  have o_v0 := gr_ob g2 o_v0
  refine r_callVi0 (pc := 10) C (rest := []) (a := v0) o_v0 [.int x3] yV_X9_refusedBy g_683 (c_X9_refusedBy h) dX9_saves_10 rfl rfl (Nat.le_of_ble_eq_true rfl) ⟨by decide, by decide⟩ ⟨by decide, by decide⟩ ⟨rfl, rfl⟩ (fun x6 S4 h g5 => ?_)
  have bx6 := h.1
  have h := h.2 g5 bx6
  have o_v0 := gr_ob g5 o_v0
  refine r_if_eq (pc := 13) C (tgt := 20) dX9_saves_13 (by decide) (fun c7 => ?_) (fun c7 => ?_)
  · have h := h.1 c7
    refine r_aload_n (pc := 20) C dX9_saves_20 0 rfl ?_
    obtain ⟨a8, ea8, h⟩ := h
    refine r_getr (pc := 21) C fL_X9_16 dX9_saves_21 o_v0 ea8 ?_
    obtain ⟨o_a8, h⟩ := h
    obtain ⟨a9, ea9, h⟩ := h
    refine r_getr (pc := 24) C fL_X9_108 dX9_saves_24 o_a8 ea9 ?_
    refine r_iload_n (pc := 27) C dX9_saves_27 1 rfl ?_
    obtain ⟨o_a9, h⟩ := h
    obtain ⟨i10, a11, ea11, h⟩ := h
    refine r_aald19 (pc := 28) C dX9_saves_28 o_a9 i10 ea11 ?_
    refine r_astore (pc := 29) C dX9_saves_29 (by decide) (lv' := [(6, .ref a11), (0, .ref v0), (1, .int v1), (2, .int v2), (3, .int v3), (4, .int v4), (5, .int v5)]) rfl ?_
    refine r_aload_n (pc := 31) C dX9_saves_31 1 rfl ?_
    obtain ⟨a12, ea12, h⟩ := h
    refine r_getr (pc := 32) C fL_X9_30 dX9_saves_32 o_v0 ea12 ?_
    refine r_aload (pc := 35) C dX9_saves_35 0 rfl ?_
    refine r_aload_n (pc := 37) C dX9_saves_37 1 rfl ?_
    obtain ⟨a13, ea13, h⟩ := h
    refine r_getr (pc := 38) C fL_X9_16 dX9_saves_38 o_v0 ea13 ?_
    obtain ⟨o_a13, h⟩ := h
    obtain ⟨a14, ea14, h⟩ := h
    refine r_getr (pc := 41) C fL_X9_112 dX9_saves_41 o_a13 ea14 ?_
    refine r_iload_n (pc := 44) C dX9_saves_44 3 rfl ?_
    obtain ⟨o_a14, h⟩ := h
    obtain ⟨i15, a16, ea16, h⟩ := h
    refine r_aald18 (pc := 45) C dX9_saves_45 o_a14 i15 ea16 ?_
    refine r_iload_n (pc := 46) C dX9_saves_46 4 rfl ?_
    refine r_aload_n (pc := 47) C dX9_saves_47 1 rfl ?_
    obtain ⟨a17, ea17, h⟩ := h
    refine r_getr (pc := 48) C fL_X9_16 dX9_saves_48 o_v0 ea17 ?_
    obtain ⟨o_a17, h⟩ := h
    obtain ⟨a18, ea18, h⟩ := h
    refine r_getr (pc := 51) C fL_X9_116 dX9_saves_51 o_a17 ea18 ?_
    refine r_iload (pc := 54) C dX9_saves_54 5 rfl ?_
    obtain ⟨o_a18, h⟩ := h
    obtain ⟨i19, a20, ea20, h⟩ := h
    refine r_aald17 (pc := 56) C dX9_saves_56 o_a18 i19 ea20 ?_
    refine r_aload (pc := 57) C dX9_saves_57 0 rfl ?_
    obtain ⟨o_a11, h⟩ := h
    refine r_geti (pc := 59) C fL_X9_186 dX9_saves_59 o_a11 ?_
    refine r_topi (fun x21 ex21 => ?_)
    have h := h x21 ex21
    obtain ⟨o_a12, h⟩ := h
    refine r_callVl0 (pc := 62) C (rest := []) (a := a12) o_a12 [.ref a11, .ref a16, .int v3, .ref a20, .int x21] yV_X1_wetOf g_688 (c_X1_wetOf h) dX9_saves_62 rfl rfl (Nat.le_of_ble_eq_true rfl) ⟨by decide, by decide⟩ ⟨by decide, by decide⟩ ⟨rfl, rfl⟩ (fun x24 S22 h g23 => ?_)
    have h := h g23
    have o_a11 := gr_ob g23 o_a11
    have o_a12 := gr_ob g23 o_a12
    have o_a13 := gr_ob g23 o_a13
    have o_a14 := gr_ob g23 o_a14
    have o_a17 := gr_ob g23 o_a17
    have o_a18 := gr_ob g23 o_a18
    have o_a8 := gr_ob g23 o_a8
    have o_a9 := gr_ob g23 o_a9
    have o_v0 := gr_ob g23 o_v0
    refine r_lstore (pc := 65) C dX9_saves_65 (by decide) (lv' := [(7, .long x24), (6, .ref a11), (0, .ref v0), (1, .int v1), (2, .int v2), (3, .int v3), (4, .int v4), (5, .int v5)]) rfl ?_
    refine r_lload (pc := 67) C dX9_saves_67 0 rfl ?_
    refine r_aload_n (pc := 69) C dX9_saves_69 2 rfl ?_
    obtain ⟨a25, ea25, h⟩ := h
    refine r_getr (pc := 70) C fL_X9_30 dX9_saves_70 o_v0 ea25 ?_
    refine r_aload (pc := 73) C dX9_saves_73 1 rfl ?_
    refine r_aload_n (pc := 75) C dX9_saves_75 2 rfl ?_
    obtain ⟨a26, ea26, h⟩ := h
    refine r_getr (pc := 76) C fL_X9_16 dX9_saves_76 o_v0 ea26 ?_
    obtain ⟨o_a26, h⟩ := h
    obtain ⟨a27, ea27, h⟩ := h
    refine r_getr (pc := 79) C fL_X9_112 dX9_saves_79 o_a26 ea27 ?_
    refine r_iload_n (pc := 82) C dX9_saves_82 4 rfl ?_
    obtain ⟨o_a27, h⟩ := h
    obtain ⟨i28, a29, ea29, h⟩ := h
    refine r_aald18 (pc := 83) C dX9_saves_83 o_a27 i28 ea29 ?_
    refine r_iload_n (pc := 84) C dX9_saves_84 5 rfl ?_
    refine r_aload_n (pc := 85) C dX9_saves_85 2 rfl ?_
    obtain ⟨a30, ea30, h⟩ := h
    refine r_getr (pc := 86) C fL_X9_16 dX9_saves_86 o_v0 ea30 ?_
    obtain ⟨o_a30, h⟩ := h
    obtain ⟨a31, ea31, h⟩ := h
    refine r_getr (pc := 89) C fL_X9_116 dX9_saves_89 o_a30 ea31 ?_
    refine r_iload (pc := 92) C dX9_saves_92 6 rfl ?_
    obtain ⟨o_a31, h⟩ := h
    obtain ⟨i32, a33, ea33, h⟩ := h
    refine r_aald17 (pc := 94) C dX9_saves_94 o_a31 i32 ea33 ?_
    obtain ⟨o_a25, h⟩ := h
    refine r_callVl0 (pc := 95) C (rest := [.long x24]) (a := a25) o_a25 [.ref a11, .ref a29, .int v3, .ref a33] yV_X1_leastWet g_770 (c_X1_leastWet h) dX9_saves_95 rfl rfl (Nat.le_of_ble_eq_true rfl) ⟨by decide, by decide⟩ ⟨by decide, by decide⟩ ⟨rfl, rfl⟩ (fun x36 S34 h g35 => ?_)
    have h := h g35
    have o_a11 := gr_ob g35 o_a11
    have o_a12 := gr_ob g35 o_a12
    have o_a13 := gr_ob g35 o_a13
    have o_a14 := gr_ob g35 o_a14
    have o_a17 := gr_ob g35 o_a17
    have o_a18 := gr_ob g35 o_a18
    have o_a25 := gr_ob g35 o_a25
    have o_a26 := gr_ob g35 o_a26
    have o_a27 := gr_ob g35 o_a27
    have o_a30 := gr_ob g35 o_a30
    have o_a31 := gr_ob g35 o_a31
    have o_a8 := gr_ob g35 o_a8
    have o_a9 := gr_ob g35 o_a9
    have o_v0 := gr_ob g35 o_v0
    refine r_lsub (pc := 98) C dX9_saves_98 ?_
    refine r_ldc2 (pc := 99) C (v := (2520 : Int64)) dX9_saves_99 g_721 ?_
    refine r_iload (pc := 102) C dX9_saves_102 7 rfl ?_
    refine r_callSl0 (pc := 104) C (rest := []) rfl [.long (x24 - x36), .long (2520 : Int64), .int v5] yS_X9_fraction g_722 (c_X9_fraction h) dX9_saves_104 rfl rfl (Nat.le_of_ble_eq_true rfl) ⟨by decide, by decide⟩ ⟨by decide, by decide⟩ ⟨rfl, rfl⟩ (fun x39 S37 h g38 => ?_)
    have h := h g38
    have o_a11 := gr_ob g38 o_a11
    have o_a12 := gr_ob g38 o_a12
    have o_a13 := gr_ob g38 o_a13
    have o_a14 := gr_ob g38 o_a14
    have o_a17 := gr_ob g38 o_a17
    have o_a18 := gr_ob g38 o_a18
    have o_a25 := gr_ob g38 o_a25
    have o_a26 := gr_ob g38 o_a26
    have o_a27 := gr_ob g38 o_a27
    have o_a30 := gr_ob g38 o_a30
    have o_a31 := gr_ob g38 o_a31
    have o_a8 := gr_ob g38 o_a8
    have o_a9 := gr_ob g38 o_a9
    have o_v0 := gr_ob g38 o_v0
    exact r_lret (pc := 107) C E ht dX9_saves_107 (by decide) (by decide) h
  · have h := h.2 c7
    refine r_ldc2 (pc := 16) C (v := (-1 : Int64)) dX9_saves_16 g_687 ?_
    exact r_lret (pc := 19) C E ht dX9_saves_19 (by decide) (by decide) h
def P_X9_saves (v0 : Nat) (v1 : Int32) (v2 : Int32) (v3 : Int32) (v4 : Int32) (v5 : Int32) (Q : Int64 → HS → Prop) (S : HS) : Prop := P_X9_saves_0 Q v0 v1 v2 v3 v4 v5 S
theorem c_X9_saves {l : Launch} {Ee : EE} {S : HS} {v0 : Nat} {v1 : Int32} {v2 : Int32} {v3 : Int32} {v4 : Int32} {v5 : Int32} {Q : Int64 → HS → Prop} (h : P_X9_saves v0 v1 v2 v3 v4 v5 Q S) : MJ l yX9_saves cX9_saves 9 (some .long) rm_X9_saves Ee S [.ref v0, .int v1, .int v2, .int v3, .int v4, .int v5] Q :=
  openJ (by decide) (Nat.le_of_ble_eq_true rfl) (fun X C E ht hn hE hl => by subst hE; exact r_sub [0, 1, 2, 3, 4, 5] rfl (T_X9_saves_0 C E ht hn h))
def rm_X9_size : Room := { frames := 1, cells := 0, slots := 0, locals := 20 }
def P_X9_size_0 (Q : Int32 → HS → Prop) (v0 : Nat) (v1 : Int32) (S : HS) : Prop := (v1.toInt < 0 ∨ 11 < v1.toInt → (Q (-1 : Int32) S)) ∧ (v1.toInt = 0 → (ob S v0 9 ∧ (∃ a2 : Nat, fR S v0 2 = some a2 ∧ (ob S a2 8 ∧ (∀ x3 : Int32, x3 = fI S a2 0 → (Q x3 S)))))) ∧ (v1.toInt = 1 → (ob S v0 9 ∧ (∃ a4 : Nat, fR S v0 2 = some a4 ∧ (ob S a4 8 ∧ (∀ x5 : Int32, x5 = fI S a4 1 → (Q x5 S)))))) ∧ (v1.toInt = 2 → (ob S v0 9 ∧ (∃ a6 : Nat, fR S v0 2 = some a6 ∧ (ob S a6 8 ∧ (∀ x7 : Int32, x7 = fI S a6 2 → (Q x7 S)))))) ∧ (v1.toInt = 3 → (ob S v0 9 ∧ (∃ a8 : Nat, fR S v0 2 = some a8 ∧ (ob S a8 8 ∧ (∀ x9 : Int32, x9 = fI S a8 3 → (Q x9 S)))))) ∧ (v1.toInt = 4 → (ob S v0 9 ∧ (∃ a10 : Nat, fR S v0 2 = some a10 ∧ (ob S a10 8 ∧ (∀ x11 : Int32, x11 = fI S a10 4 → (Q x11 S)))))) ∧ (v1.toInt = 5 → (ob S v0 9 ∧ (∃ a12 : Nat, fR S v0 2 = some a12 ∧ (ob S a12 8 ∧ (∀ x13 : Int32, x13 = fI S a12 5 → (Q x13 S)))))) ∧ (v1.toInt = 6 → (ob S v0 9 ∧ (∃ a14 : Nat, fR S v0 6 = some a14 ∧ (ob S a14 0 ∧ (P_X0_isOn a14 (fun x17 S15 => Gr S S15 → bl x17 → (((x17 = 0) → (Q (-2 : Int32) S15)) ∧ ((¬ x17 = 0) → (∃ a19 : Nat, fR S15 v0 6 = some a19 ∧ (ob S15 a19 0 ∧ (∀ x20 : Int32, x20 = fI S15 a19 0 → (Q x20 S15))))))) S))))) ∧ (v1.toInt = 7 → (ob S v0 9 ∧ (∃ a21 : Nat, fR S v0 6 = some a21 ∧ (ob S a21 0 ∧ (P_X0_isOn a21 (fun x24 S22 => Gr S S22 → bl x24 → (((x24 = 0) → (Q (-2 : Int32) S22)) ∧ ((¬ x24 = 0) → (∃ a26 : Nat, fR S22 v0 6 = some a26 ∧ (ob S22 a26 0 ∧ (∃ a27 : Nat, fR S22 a26 4 = some a27 ∧ (ob S22 a27 2 ∧ (∀ x28 : Int32, x28 = fI S22 a27 0 → (Q x28 S22))))))))) S))))) ∧ (v1.toInt = 8 → (ob S v0 9 ∧ (∃ a29 : Nat, fR S v0 6 = some a29 ∧ (ob S a29 0 ∧ (P_X0_isOn a29 (fun x32 S30 => Gr S S30 → bl x32 → (((x32 = 0) → (Q (0 : Int32) S30)) ∧ ((¬ x32 = 0) → (∃ a34 : Nat, fR S30 v0 6 = some a34 ∧ (ob S30 a34 0 ∧ (∃ a35 : Nat, fR S30 a34 4 = some a35 ∧ (ob S30 a35 2 ∧ (∀ x36 : Int32, x36 = fI S30 a35 1 → (Q x36 S30))))))))) S))))) ∧ (v1.toInt = 9 → (ob S v0 9 ∧ (∃ a37 : Nat, fR S v0 6 = some a37 ∧ (ob S a37 0 ∧ (∀ x38 : Int32, x38 = fI S a37 2 → (Q x38 S)))))) ∧ (v1.toInt = 10 → (ob S v0 9 ∧ (∃ a39 : Nat, fR S v0 6 = some a39 ∧ (ob S a39 0 ∧ (∀ x40 : Int32, x40 = fI S a39 3 → (Q x40 S)))))) ∧ (v1.toInt = 11 → (ob S v0 9 ∧ (∀ x41 : Int32, x41 = fI S v0 1 → (Q x41 S))))
set_option maxRecDepth 20000 in
set_option maxHeartbeats 4000000 in
theorem T_X9_size_0 {X : CX} {Q : Int32 → HS → Prop} (C : Cx X cX9_size RX9 2 rm_X9_size) (E : ReI X rm_X9_size Q) (ht : (xh X).sig.returnType = (some .int)) (hn : (xh X).name = yX9_size.name) {v0 : Nat} {v1 : Int32} {S : HS} (h : P_X9_size_0 Q v0 v1 S) : WS X 2 0 0 0 [(0, .ref v0), (1, .int v1)] [] S := by
  refine r_iload_n (pc := 0) C dX9_size_0 1 rfl ?_
  refine r_table (pc := 1) C (tgt := 207) dX9_size_1 (by decide) (fun c1 => ?_) (fun j hj hx => ?_)
  · have h := h.1 c1
    refine r_iconst (pc := 207) C (v := (-1 : Int32)) dX9_size_207 (by decide) ?_
    exact r_iret (pc := 208) C E ht dX9_size_208 (by decide) (by decide) h
  · match j, hj, hx with
    | 0, _, hx =>
      refine ⟨63, 64, rfl, by decide, ?_⟩
      have h := h.2.1 (by simpa using hx)
      refine r_aload_n (pc := 64) C dX9_size_64 0 rfl ?_
      obtain ⟨o_v0, h⟩ := h
      obtain ⟨a2, ea2, h⟩ := h
      refine r_getr (pc := 65) C fL_X9_16 dX9_size_65 o_v0 ea2 ?_
      obtain ⟨o_a2, h⟩ := h
      refine r_geti (pc := 68) C fL_X9_367 dX9_size_68 o_a2 ?_
      refine r_topi (fun x3 ex3 => ?_)
      have h := h x3 ex3
      exact r_iret (pc := 71) C E ht dX9_size_71 (by decide) (by decide) h
    | 1, _, hx =>
      refine ⟨71, 72, rfl, by decide, ?_⟩
      have h := h.2.2.1 (by simpa using hx)
      refine r_aload_n (pc := 72) C dX9_size_72 0 rfl ?_
      obtain ⟨o_v0, h⟩ := h
      obtain ⟨a4, ea4, h⟩ := h
      refine r_getr (pc := 73) C fL_X9_16 dX9_size_73 o_v0 ea4 ?_
      obtain ⟨o_a4, h⟩ := h
      refine r_geti (pc := 76) C fL_X9_196 dX9_size_76 o_a4 ?_
      refine r_topi (fun x5 ex5 => ?_)
      have h := h x5 ex5
      exact r_iret (pc := 79) C E ht dX9_size_79 (by decide) (by decide) h
    | 2, _, hx =>
      refine ⟨79, 80, rfl, by decide, ?_⟩
      have h := h.2.2.2.1 (by simpa using hx)
      refine r_aload_n (pc := 80) C dX9_size_80 0 rfl ?_
      obtain ⟨o_v0, h⟩ := h
      obtain ⟨a6, ea6, h⟩ := h
      refine r_getr (pc := 81) C fL_X9_16 dX9_size_81 o_v0 ea6 ?_
      obtain ⟨o_a6, h⟩ := h
      refine r_geti (pc := 84) C fL_X9_370 dX9_size_84 o_a6 ?_
      refine r_topi (fun x7 ex7 => ?_)
      have h := h x7 ex7
      exact r_iret (pc := 87) C E ht dX9_size_87 (by decide) (by decide) h
    | 3, _, hx =>
      refine ⟨87, 88, rfl, by decide, ?_⟩
      have h := h.2.2.2.2.1 (by simpa using hx)
      refine r_aload_n (pc := 88) C dX9_size_88 0 rfl ?_
      obtain ⟨o_v0, h⟩ := h
      obtain ⟨a8, ea8, h⟩ := h
      refine r_getr (pc := 89) C fL_X9_16 dX9_size_89 o_v0 ea8 ?_
      obtain ⟨o_a8, h⟩ := h
      refine r_geti (pc := 92) C fL_X9_358 dX9_size_92 o_a8 ?_
      refine r_topi (fun x9 ex9 => ?_)
      have h := h x9 ex9
      exact r_iret (pc := 95) C E ht dX9_size_95 (by decide) (by decide) h
    | 4, _, hx =>
      refine ⟨95, 96, rfl, by decide, ?_⟩
      have h := h.2.2.2.2.2.1 (by simpa using hx)
      refine r_aload_n (pc := 96) C dX9_size_96 0 rfl ?_
      obtain ⟨o_v0, h⟩ := h
      obtain ⟨a10, ea10, h⟩ := h
      refine r_getr (pc := 97) C fL_X9_16 dX9_size_97 o_v0 ea10 ?_
      obtain ⟨o_a10, h⟩ := h
      refine r_geti (pc := 100) C fL_X9_86 dX9_size_100 o_a10 ?_
      refine r_topi (fun x11 ex11 => ?_)
      have h := h x11 ex11
      exact r_iret (pc := 103) C E ht dX9_size_103 (by decide) (by decide) h
    | 5, _, hx =>
      refine ⟨103, 104, rfl, by decide, ?_⟩
      have h := h.2.2.2.2.2.2.1 (by simpa using hx)
      refine r_aload_n (pc := 104) C dX9_size_104 0 rfl ?_
      obtain ⟨o_v0, h⟩ := h
      obtain ⟨a12, ea12, h⟩ := h
      refine r_getr (pc := 105) C fL_X9_16 dX9_size_105 o_v0 ea12 ?_
      obtain ⟨o_a12, h⟩ := h
      refine r_geti (pc := 108) C fL_X9_264 dX9_size_108 o_a12 ?_
      refine r_topi (fun x13 ex13 => ?_)
      have h := h x13 ex13
      exact r_iret (pc := 111) C E ht dX9_size_111 (by decide) (by decide) h
    | 6, _, hx =>
      refine ⟨111, 112, rfl, by decide, ?_⟩
      have h := h.2.2.2.2.2.2.2.1 (by simpa using hx)
      refine r_aload_n (pc := 112) C dX9_size_112 0 rfl ?_
      obtain ⟨o_v0, h⟩ := h
      obtain ⟨a14, ea14, h⟩ := h
      refine r_getr (pc := 113) C fL_X9_44 dX9_size_113 o_v0 ea14 ?_
      obtain ⟨o_a14, h⟩ := h
      refine r_callVi0 (pc := 116) C (rest := []) (a := a14) o_a14 [] yV_X0_isOn g_981 (c_X0_isOn h) dX9_size_116 rfl rfl (Nat.le_of_ble_eq_true rfl) ⟨by decide, by decide⟩ ⟨by decide, by decide⟩ ⟨rfl, rfl⟩ (fun x17 S15 h g16 => ?_)
      have bx17 := h.1
      have h := h.2 g16 bx17
      have o_a14 := gr_ob g16 o_a14
      have o_v0 := gr_ob g16 o_v0
      refine r_if_eq (pc := 119) C (tgt := 132) dX9_size_119 (by decide) (fun c18 => ?_) (fun c18 => ?_)
      · have h := h.1 c18
        refine r_bipush (pc := 132) C (v := (-2 : Int32)) dX9_size_132 (by decide) ?_
        exact r_iret (pc := 134) C E ht dX9_size_134 (by decide) (by decide) h
      · have h := h.2 c18
        refine r_aload_n (pc := 122) C dX9_size_122 0 rfl ?_
        obtain ⟨a19, ea19, h⟩ := h
        refine r_getr (pc := 123) C fL_X9_44 dX9_size_123 o_v0 ea19 ?_
        obtain ⟨o_a19, h⟩ := h
        refine r_geti (pc := 126) C fL_X9_282 dX9_size_126 o_a19 ?_
        refine r_topi (fun x20 ex20 => ?_)
        have h := h x20 ex20
        refine r_goto (pc := 129) C (tgt := 134) dX9_size_129 (by decide) ?_
        exact r_iret (pc := 134) C E ht dX9_size_134 (by decide) (by decide) h
    | 7, _, hx =>
      refine ⟨134, 135, rfl, by decide, ?_⟩
      have h := h.2.2.2.2.2.2.2.2.1 (by simpa using hx)
      refine r_aload_n (pc := 135) C dX9_size_135 0 rfl ?_
      obtain ⟨o_v0, h⟩ := h
      obtain ⟨a21, ea21, h⟩ := h
      refine r_getr (pc := 136) C fL_X9_44 dX9_size_136 o_v0 ea21 ?_
      obtain ⟨o_a21, h⟩ := h
      refine r_callVi0 (pc := 139) C (rest := []) (a := a21) o_a21 [] yV_X0_isOn g_981 (c_X0_isOn h) dX9_size_139 rfl rfl (Nat.le_of_ble_eq_true rfl) ⟨by decide, by decide⟩ ⟨by decide, by decide⟩ ⟨rfl, rfl⟩ (fun x24 S22 h g23 => ?_)
      have bx24 := h.1
      have h := h.2 g23 bx24
      have o_a21 := gr_ob g23 o_a21
      have o_v0 := gr_ob g23 o_v0
      refine r_if_eq (pc := 142) C (tgt := 158) dX9_size_142 (by decide) (fun c25 => ?_) (fun c25 => ?_)
      · have h := h.1 c25
        refine r_bipush (pc := 158) C (v := (-2 : Int32)) dX9_size_158 (by decide) ?_
        exact r_iret (pc := 160) C E ht dX9_size_160 (by decide) (by decide) h
      · have h := h.2 c25
        refine r_aload_n (pc := 145) C dX9_size_145 0 rfl ?_
        obtain ⟨a26, ea26, h⟩ := h
        refine r_getr (pc := 146) C fL_X9_44 dX9_size_146 o_v0 ea26 ?_
        obtain ⟨o_a26, h⟩ := h
        obtain ⟨a27, ea27, h⟩ := h
        refine r_getr (pc := 149) C fL_X9_287 dX9_size_149 o_a26 ea27 ?_
        obtain ⟨o_a27, h⟩ := h
        refine r_geti (pc := 152) C fL_X9_291 dX9_size_152 o_a27 ?_
        refine r_topi (fun x28 ex28 => ?_)
        have h := h x28 ex28
        refine r_goto (pc := 155) C (tgt := 160) dX9_size_155 (by decide) ?_
        exact r_iret (pc := 160) C E ht dX9_size_160 (by decide) (by decide) h
    | 8, _, hx =>
      refine ⟨160, 161, rfl, by decide, ?_⟩
      have h := h.2.2.2.2.2.2.2.2.2.1 (by simpa using hx)
      refine r_aload_n (pc := 161) C dX9_size_161 0 rfl ?_
      obtain ⟨o_v0, h⟩ := h
      obtain ⟨a29, ea29, h⟩ := h
      refine r_getr (pc := 162) C fL_X9_44 dX9_size_162 o_v0 ea29 ?_
      obtain ⟨o_a29, h⟩ := h
      refine r_callVi0 (pc := 165) C (rest := []) (a := a29) o_a29 [] yV_X0_isOn g_981 (c_X0_isOn h) dX9_size_165 rfl rfl (Nat.le_of_ble_eq_true rfl) ⟨by decide, by decide⟩ ⟨by decide, by decide⟩ ⟨rfl, rfl⟩ (fun x32 S30 h g31 => ?_)
      have bx32 := h.1
      have h := h.2 g31 bx32
      have o_a29 := gr_ob g31 o_a29
      have o_v0 := gr_ob g31 o_v0
      refine r_if_eq (pc := 168) C (tgt := 184) dX9_size_168 (by decide) (fun c33 => ?_) (fun c33 => ?_)
      · have h := h.1 c33
        refine r_iconst (pc := 184) C (v := (0 : Int32)) dX9_size_184 (by decide) ?_
        exact r_iret (pc := 185) C E ht dX9_size_185 (by decide) (by decide) h
      · have h := h.2 c33
        refine r_aload_n (pc := 171) C dX9_size_171 0 rfl ?_
        obtain ⟨a34, ea34, h⟩ := h
        refine r_getr (pc := 172) C fL_X9_44 dX9_size_172 o_v0 ea34 ?_
        obtain ⟨o_a34, h⟩ := h
        obtain ⟨a35, ea35, h⟩ := h
        refine r_getr (pc := 175) C fL_X9_287 dX9_size_175 o_a34 ea35 ?_
        obtain ⟨o_a35, h⟩ := h
        refine r_geti (pc := 178) C fL_X9_296 dX9_size_178 o_a35 ?_
        refine r_topi (fun x36 ex36 => ?_)
        have h := h x36 ex36
        refine r_goto (pc := 181) C (tgt := 185) dX9_size_181 (by decide) ?_
        exact r_iret (pc := 185) C E ht dX9_size_185 (by decide) (by decide) h
    | 9, _, hx =>
      refine ⟨185, 186, rfl, by decide, ?_⟩
      have h := h.2.2.2.2.2.2.2.2.2.2.1 (by simpa using hx)
      refine r_aload_n (pc := 186) C dX9_size_186 0 rfl ?_
      obtain ⟨o_v0, h⟩ := h
      obtain ⟨a37, ea37, h⟩ := h
      refine r_getr (pc := 187) C fL_X9_44 dX9_size_187 o_v0 ea37 ?_
      obtain ⟨o_a37, h⟩ := h
      refine r_geti (pc := 190) C fL_X9_373 dX9_size_190 o_a37 ?_
      refine r_topi (fun x38 ex38 => ?_)
      have h := h x38 ex38
      exact r_iret (pc := 193) C E ht dX9_size_193 (by decide) (by decide) h
    | 10, _, hx =>
      refine ⟨193, 194, rfl, by decide, ?_⟩
      have h := h.2.2.2.2.2.2.2.2.2.2.2.1 (by simpa using hx)
      refine r_aload_n (pc := 194) C dX9_size_194 0 rfl ?_
      obtain ⟨o_v0, h⟩ := h
      obtain ⟨a39, ea39, h⟩ := h
      refine r_getr (pc := 195) C fL_X9_44 dX9_size_195 o_v0 ea39 ?_
      obtain ⟨o_a39, h⟩ := h
      refine r_geti (pc := 198) C fL_X9_376 dX9_size_198 o_a39 ?_
      refine r_topi (fun x40 ex40 => ?_)
      have h := h x40 ex40
      exact r_iret (pc := 201) C E ht dX9_size_201 (by decide) (by decide) h
    | 11, _, hx =>
      refine ⟨201, 202, rfl, by decide, ?_⟩
      have h := h.2.2.2.2.2.2.2.2.2.2.2.2 (by simpa using hx)
      refine r_aload_n (pc := 202) C dX9_size_202 0 rfl ?_
      obtain ⟨o_v0, h⟩ := h
      refine r_geti (pc := 203) C fL_X9_48 dX9_size_203 o_v0 ?_
      refine r_topi (fun x41 ex41 => ?_)
      have h := h x41 ex41
      exact r_iret (pc := 206) C E ht dX9_size_206 (by decide) (by decide) h
    | j + 12, hj, _ => exact absurd hj (by omega)
def P_X9_size (v0 : Nat) (v1 : Int32) (Q : Int32 → HS → Prop) (S : HS) : Prop := P_X9_size_0 Q v0 v1 S
theorem c_X9_size {l : Launch} {Ee : EE} {S : HS} {v0 : Nat} {v1 : Int32} {Q : Int32 → HS → Prop} (h : P_X9_size v0 v1 Q S) : MI l yX9_size cX9_size 2 (some .int) rm_X9_size Ee S [.ref v0, .int v1] Q :=
  openI (by decide) (Nat.le_of_ble_eq_true rfl) (fun X C E ht hn hE hl => by subst hE; exact r_sub [0, 1] rfl (T_X9_size_0 C E ht hn h))
def rm_X9_soaked : Room := { frames := 1, cells := 0, slots := 0, locals := 23 }
def P_X9_soaked_27 (Q : Int32 → HS → Prop) (v0 : Nat) (S : HS) : Prop := ob S v0 9 ∧ (P_X9_refuse v0 (1 : Int32) (fun x3 S1 => Gr S S1 → (Q x3 S1)) S)
set_option maxRecDepth 20000 in
set_option maxHeartbeats 4000000 in
theorem T_X9_soaked_27 {X : CX} {Q : Int32 → HS → Prop} (C : Cx X cX9_soaked RX9 2 rm_X9_soaked) (E : ReI X rm_X9_soaked Q) (ht : (xh X).sig.returnType = (some .int)) (hn : (xh X).name = yX9_soaked.name) {v0 : Nat} {S : HS} (h : P_X9_soaked_27 Q v0 S) : WS X 2 0 0 27 [(0, .ref v0)] [] S := by
  refine r_aload_n (pc := 27) C dX9_soaked_27 0 rfl ?_
  refine r_iconst (pc := 28) C (v := (1 : Int32)) dX9_soaked_28 (by decide) ?_
  obtain ⟨o_v0, h⟩ := h
  refine r_callVi0 (pc := 29) C (rest := []) (a := v0) o_v0 [.int (1 : Int32)] yV_X9_refuse g_430 (c_X9_refuse h) dX9_soaked_29 rfl rfl (Nat.le_of_ble_eq_true rfl) ⟨by decide, by decide⟩ ⟨by decide, by decide⟩ ⟨rfl, rfl⟩ (fun x3 S1 h g2 => ?_)
  have h := h g2
  have o_v0 := gr_ob g2 o_v0
  exact r_iret (pc := 32) C E ht dX9_soaked_32 (by decide) (by decide) h
def P_X9_soaked_88 (Q : Int32 → HS → Prop) (s0 : Nat) (s1 : Int32) (S : HS) : Prop := ob S s0 9 ∧ (P_X9_grant s0 s1 (fun x3 S1 => Gr S S1 → (Q x3 S1)) S)
set_option maxRecDepth 20000 in
set_option maxHeartbeats 4000000 in
theorem T_X9_soaked_88 {X : CX} {Q : Int32 → HS → Prop} (C : Cx X cX9_soaked RX9 2 rm_X9_soaked) (E : ReI X rm_X9_soaked Q) (ht : (xh X).sig.returnType = (some .int)) (hn : (xh X).name = yX9_soaked.name) {s0 : Nat} {s1 : Int32} {S : HS} (h : P_X9_soaked_88 Q s0 s1 S) : WS X 2 0 0 88 [] [.int s1, .ref s0] S := by
  obtain ⟨o_s0, h⟩ := h
  refine r_callVi0 (pc := 88) C (rest := []) (a := s0) o_s0 [.int s1] yV_X9_grant g_637 (c_X9_grant h) dX9_soaked_88 rfl rfl (Nat.le_of_ble_eq_true rfl) ⟨by decide, by decide⟩ ⟨by decide, by decide⟩ ⟨rfl, rfl⟩ (fun x3 S1 h g2 => ?_)
  have h := h g2
  have o_s0 := gr_ob g2 o_s0
  exact r_iret (pc := 91) C E ht dX9_soaked_91 (by decide) (by decide) h
def P_X9_soaked_0 (Q : Int32 → HS → Prop) (v0 : Nat) (S : HS) : Prop := ob S v0 9 ∧ (∃ a1 : Nat, fR S v0 6 = some a1 ∧ (ob S a1 0 ∧ (P_X0_isOn a1 (fun x4 S2 => Gr S S2 → bl x4 → (((x4 = 0) → (P_X9_soaked_27 Q v0 S2)) ∧ ((¬ x4 = 0) → (∃ a6 : Nat, fR S2 v0 2 = some a6 ∧ (∃ a7 : Nat, fR S2 v0 6 = some a7 ∧ (ob S2 a7 0 ∧ (∀ x8 : Int32, x8 = fI S2 a7 0 → (ob S2 a6 8 ∧ (P_X8_hasWalker a6 x8 (fun x11 S9 => Gr S2 S9 → bl x11 → (((¬ x11 = 0) → (∃ a13 : Nat, fR S9 v0 2 = some a13 ∧ (ob S9 a13 8 ∧ (∃ a14 : Nat, fR S9 a13 9 = some a14 ∧ (∃ a15 : Nat, fR S9 v0 6 = some a15 ∧ (ob S9 a15 0 ∧ (∀ x16 : Int32, x16 = fI S9 a15 0 → (ob S9 a14 19 ∧ (vp_in x16 (hN S9 a14) ∧ ∃ a18 : Nat, fR S9 a14 x16.toNatClampNeg = some a18 ∧ (ob S9 a18 6 ∧ (∀ x19 : Int32, x19 = fI S9 a18 0 → (((x19 = (2 : Int32)) → (∃ a21 : Nat, fR S9 v0 6 = some a21 ∧ (ob S9 a21 0 ∧ (∃ a22 : Nat, fR S9 a21 4 = some a22 ∧ (ob S9 a22 2 ∧ (P_X2_allGot a22 (fun x25 S23 => Gr S9 S23 → (P_X9_coatParts a18 (fun x28 S26 => Gr S23 S26 → ((((lg_cmp x25 x28) ≤ 0) → (P_X9_soaked_88 Q v0 (0 : Int32) S26)) ∧ ((¬ (lg_cmp x25 x28) ≤ 0) → (P_X9_soaked_88 Q v0 (1 : Int32) S26)))) S23)) S9)))))) ∧ ((¬ x19 = (2 : Int32)) → (P_X9_grant v0 (-2 : Int32) (fun x32 S30 => Gr S9 S30 → (Q x32 S30)) S9)))))))))))))) ∧ ((x11 = 0) → (P_X9_soaked_27 Q v0 S9)))) S2))))))))) S)))
set_option maxRecDepth 20000 in
set_option maxHeartbeats 4000000 in
theorem T_X9_soaked_0 {X : CX} {Q : Int32 → HS → Prop} (C : Cx X cX9_soaked RX9 2 rm_X9_soaked) (E : ReI X rm_X9_soaked Q) (ht : (xh X).sig.returnType = (some .int)) (hn : (xh X).name = yX9_soaked.name) {v0 : Nat} {S : HS} (h : P_X9_soaked_0 Q v0 S) : WS X 2 0 0 0 [(0, .ref v0)] [] S := by
  refine r_aload_n (pc := 0) C dX9_soaked_0 0 rfl ?_
  obtain ⟨o_v0, h⟩ := h
  obtain ⟨a1, ea1, h⟩ := h
  refine r_getr (pc := 1) C fL_X9_44 dX9_soaked_1 o_v0 ea1 ?_
  obtain ⟨o_a1, h⟩ := h
  refine r_callVi0 (pc := 4) C (rest := []) (a := a1) o_a1 [] yV_X0_isOn g_981 (c_X0_isOn h) dX9_soaked_4 rfl rfl (Nat.le_of_ble_eq_true rfl) ⟨by decide, by decide⟩ ⟨by decide, by decide⟩ ⟨rfl, rfl⟩ (fun x4 S2 h g3 => ?_)
  have bx4 := h.1
  have h := h.2 g3 bx4
  have o_a1 := gr_ob g3 o_a1
  have o_v0 := gr_ob g3 o_v0
  refine r_if_eq (pc := 7) C (tgt := 27) dX9_soaked_7 (by decide) (fun c5 => ?_) (fun c5 => ?_)
  · have h := h.1 c5
    exact r_sub [0] rfl (T_X9_soaked_27 C E ht hn h)
  · have h := h.2 c5
    refine r_aload_n (pc := 10) C dX9_soaked_10 0 rfl ?_
    obtain ⟨a6, ea6, h⟩ := h
    refine r_getr (pc := 11) C fL_X9_16 dX9_soaked_11 o_v0 ea6 ?_
    refine r_aload_n (pc := 14) C dX9_soaked_14 0 rfl ?_
    obtain ⟨a7, ea7, h⟩ := h
    refine r_getr (pc := 15) C fL_X9_44 dX9_soaked_15 o_v0 ea7 ?_
    obtain ⟨o_a7, h⟩ := h
    refine r_geti (pc := 18) C fL_X9_282 dX9_soaked_18 o_a7 ?_
    refine r_topi (fun x8 ex8 => ?_)
    have h := h x8 ex8
    obtain ⟨o_a6, h⟩ := h
    refine r_callVi0 (pc := 21) C (rest := []) (a := a6) o_a6 [.int x8] yV_X8_hasWalker g_664 (c_X8_hasWalker h) dX9_soaked_21 rfl rfl (Nat.le_of_ble_eq_true rfl) ⟨by decide, by decide⟩ ⟨by decide, by decide⟩ ⟨rfl, rfl⟩ (fun x11 S9 h g10 => ?_)
    have bx11 := h.1
    have h := h.2 g10 bx11
    have o_a1 := gr_ob g10 o_a1
    have o_a6 := gr_ob g10 o_a6
    have o_a7 := gr_ob g10 o_a7
    have o_v0 := gr_ob g10 o_v0
    refine r_if_ne (pc := 24) C (tgt := 33) dX9_soaked_24 (by decide) (fun c12 => ?_) (fun c12 => ?_)
    · have h := h.1 c12
      refine r_aload_n (pc := 33) C dX9_soaked_33 0 rfl ?_
      obtain ⟨a13, ea13, h⟩ := h
      refine r_getr (pc := 34) C fL_X9_16 dX9_soaked_34 o_v0 ea13 ?_
      obtain ⟨o_a13, h⟩ := h
      obtain ⟨a14, ea14, h⟩ := h
      refine r_getr (pc := 37) C fL_X9_108 dX9_soaked_37 o_a13 ea14 ?_
      refine r_aload_n (pc := 40) C dX9_soaked_40 0 rfl ?_
      obtain ⟨a15, ea15, h⟩ := h
      refine r_getr (pc := 41) C fL_X9_44 dX9_soaked_41 o_v0 ea15 ?_
      obtain ⟨o_a15, h⟩ := h
      refine r_geti (pc := 44) C fL_X9_282 dX9_soaked_44 o_a15 ?_
      refine r_topi (fun x16 ex16 => ?_)
      have h := h x16 ex16
      obtain ⟨o_a14, h⟩ := h
      obtain ⟨i17, a18, ea18, h⟩ := h
      refine r_aald19 (pc := 47) C dX9_soaked_47 o_a14 i17 ea18 ?_
      refine r_astore_n (pc := 48) C dX9_soaked_48 rfl (by decide) (lv' := [(1, .ref a18), (0, .ref v0)]) rfl ?_
      refine r_aload_n (pc := 49) C dX9_soaked_49 0 rfl ?_
      obtain ⟨o_a18, h⟩ := h
      refine r_geti (pc := 50) C fL_X9_167 dX9_soaked_50 o_a18 ?_
      refine r_topi (fun x19 ex19 => ?_)
      have h := h x19 ex19
      refine r_iconst (pc := 53) C (v := (2 : Int32)) dX9_soaked_53 (by decide) ?_
      refine r_icmp_eq (pc := 54) C (tgt := 64) dX9_soaked_54 (by decide) (fun c20 => ?_) (fun c20 => ?_)
      · have h := h.1 c20
        refine r_aload_n (pc := 64) C dX9_soaked_64 1 rfl ?_
        refine r_aload_n (pc := 65) C dX9_soaked_65 1 rfl ?_
        obtain ⟨a21, ea21, h⟩ := h
        refine r_getr (pc := 66) C fL_X9_44 dX9_soaked_66 o_v0 ea21 ?_
        obtain ⟨o_a21, h⟩ := h
        obtain ⟨a22, ea22, h⟩ := h
        refine r_getr (pc := 69) C fL_X9_287 dX9_soaked_69 o_a21 ea22 ?_
        obtain ⟨o_a22, h⟩ := h
        refine r_callVl0 (pc := 72) C (rest := [.ref v0]) (a := a22) o_a22 [] yV_X2_allGot g_1022 (c_X2_allGot h) dX9_soaked_72 rfl rfl (Nat.le_of_ble_eq_true rfl) ⟨by decide, by decide⟩ ⟨by decide, by decide⟩ ⟨rfl, rfl⟩ (fun x25 S23 h g24 => ?_)
        have h := h g24
        have o_a1 := gr_ob g24 o_a1
        have o_a13 := gr_ob g24 o_a13
        have o_a14 := gr_ob g24 o_a14
        have o_a15 := gr_ob g24 o_a15
        have o_a18 := gr_ob g24 o_a18
        have o_a21 := gr_ob g24 o_a21
        have o_a22 := gr_ob g24 o_a22
        have o_a6 := gr_ob g24 o_a6
        have o_a7 := gr_ob g24 o_a7
        have o_v0 := gr_ob g24 o_v0
        refine r_aload_n (pc := 75) C dX9_soaked_75 0 rfl ?_
        refine r_callSl0 (pc := 76) C (rest := [.long x25, .ref v0]) rfl [.ref a18] yS_X9_coatParts g_1026 (c_X9_coatParts h) dX9_soaked_76 rfl rfl (Nat.le_of_ble_eq_true rfl) ⟨by decide, by decide⟩ ⟨by decide, by decide⟩ ⟨rfl, rfl⟩ (fun x28 S26 h g27 => ?_)
        have h := h g27
        have o_a1 := gr_ob g27 o_a1
        have o_a13 := gr_ob g27 o_a13
        have o_a14 := gr_ob g27 o_a14
        have o_a15 := gr_ob g27 o_a15
        have o_a18 := gr_ob g27 o_a18
        have o_a21 := gr_ob g27 o_a21
        have o_a22 := gr_ob g27 o_a22
        have o_a6 := gr_ob g27 o_a6
        have o_a7 := gr_ob g27 o_a7
        have o_v0 := gr_ob g27 o_v0
        refine r_lcmp (pc := 79) C dX9_soaked_79 ?_
        refine r_if_le (pc := 80) C (tgt := 87) dX9_soaked_80 (by decide) (fun c29 => ?_) (fun c29 => ?_)
        · have h := h.1 c29
          refine r_iconst (pc := 87) C (v := (0 : Int32)) dX9_soaked_87 (by decide) ?_
          exact r_sub [] rfl (T_X9_soaked_88 C E ht hn h)
        · have h := h.2 c29
          refine r_iconst (pc := 83) C (v := (1 : Int32)) dX9_soaked_83 (by decide) ?_
          refine r_goto (pc := 84) C (tgt := 88) dX9_soaked_84 (by decide) ?_
          exact r_sub [] rfl (T_X9_soaked_88 C E ht hn h)
      · have h := h.2 c20
        refine r_aload_n (pc := 57) C dX9_soaked_57 1 rfl ?_
        refine r_bipush (pc := 58) C (v := (-2 : Int32)) dX9_soaked_58 (by decide) ?_
        refine r_callVi0 (pc := 60) C (rest := []) (a := v0) o_v0 [.int (-2 : Int32)] yV_X9_grant g_637 (c_X9_grant h) dX9_soaked_60 rfl rfl (Nat.le_of_ble_eq_true rfl) ⟨by decide, by decide⟩ ⟨by decide, by decide⟩ ⟨rfl, rfl⟩ (fun x32 S30 h g31 => ?_)
        have h := h g31
        have o_a1 := gr_ob g31 o_a1
        have o_a13 := gr_ob g31 o_a13
        have o_a14 := gr_ob g31 o_a14
        have o_a15 := gr_ob g31 o_a15
        have o_a18 := gr_ob g31 o_a18
        have o_a6 := gr_ob g31 o_a6
        have o_a7 := gr_ob g31 o_a7
        have o_v0 := gr_ob g31 o_v0
        exact r_iret (pc := 63) C E ht dX9_soaked_63 (by decide) (by decide) h
    · have h := h.2 c12
      exact r_sub [0] rfl (T_X9_soaked_27 C E ht hn h)
def P_X9_soaked (v0 : Nat) (Q : Int32 → HS → Prop) (S : HS) : Prop := P_X9_soaked_0 Q v0 S
theorem c_X9_soaked {l : Launch} {Ee : EE} {S : HS} {v0 : Nat} {Q : Int32 → HS → Prop} (h : P_X9_soaked v0 Q S) : MI l yX9_soaked cX9_soaked 2 (some .int) rm_X9_soaked Ee S [.ref v0] Q :=
  openI (by decide) (Nat.le_of_ble_eq_true rfl) (fun X C E ht hn hE hl => by subst hE; exact r_sub [0] rfl (T_X9_soaked_0 C E ht hn h))
def rm_X9_stayTrouble : Room := { frames := 2, cells := 0, slots := 0, locals := 42 }
def P_X9_stayTrouble_0 (Q : Int32 → HS → Prop) (v0 : Nat) (v1 : Int32) (S : HS) : Prop := ob S v0 9 ∧ (∃ a1 : Nat, fR S v0 6 = some a1 ∧ (ob S a1 0 ∧ (P_X0_isOn a1 (fun x4 S2 => Gr S S2 → bl x4 → (((x4 = 0) → (Q (1 : Int32) S2)) ∧ ((¬ x4 = 0) → (∃ a6 : Nat, fR S2 v0 2 = some a6 ∧ (∃ a7 : Nat, fR S2 v0 6 = some a7 ∧ (ob S2 a7 0 ∧ (∀ x8 : Int32, x8 = fI S2 a7 0 → (ob S2 a6 8 ∧ (P_X8_hasWalker a6 x8 (fun x11 S9 => Gr S2 S9 → bl x11 → (((¬ x11 = 0) → (((v1 < (1 : Int32)) → (Q (2 : Int32) S9)) ∧ ((¬ v1 < (1 : Int32)) → (((v1 ≤ (60 : Int32)) → (∃ a15 : Nat, fR S9 v0 2 = some a15 ∧ (∃ a16 : Nat, fR S9 v0 6 = some a16 ∧ (ob S9 a16 0 ∧ (∃ a17 : Nat, fR S9 a16 4 = some a17 ∧ (ob S9 a17 2 ∧ (∀ x18 : Int32, x18 = fI S9 a17 0 → (ob S9 a15 8 ∧ (P_X8_canWait a15 x18 (fun x21 S19 => Gr S9 S19 → bl x21 → (((¬ x21 = 0) → (∃ a23 : Nat, fR S19 v0 6 = some a23 ∧ (ob S19 a23 0 ∧ (∃ a24 : Nat, fR S19 a23 4 = some a24 ∧ (ob S19 a24 2 ∧ (∀ x25 : Int32, x25 = fI S19 a24 1 → ((((x25 + v1) ≤ (999 : Int32)) → (Q (0 : Int32) S19)) ∧ ((¬ (x25 + v1) ≤ (999 : Int32)) → (Q (3 : Int32) S19))))))))) ∧ ((x21 = 0) → (Q (5 : Int32) S19)))) S9))))))))) ∧ ((¬ v1 ≤ (60 : Int32)) → (Q (2 : Int32) S9)))))) ∧ ((x11 = 0) → (Q (1 : Int32) S9)))) S2))))))))) S)))
set_option maxRecDepth 20000 in
set_option maxHeartbeats 4000000 in
theorem T_X9_stayTrouble_0 {X : CX} {Q : Int32 → HS → Prop} (C : Cx X cX9_stayTrouble RX9 2 rm_X9_stayTrouble) (E : ReI X rm_X9_stayTrouble Q) (ht : (xh X).sig.returnType = (some .int)) (hn : (xh X).name = yX9_stayTrouble.name) {v0 : Nat} {v1 : Int32} {S : HS} (h : P_X9_stayTrouble_0 Q v0 v1 S) : WS X 2 0 0 0 [(0, .ref v0), (1, .int v1)] [] S := by
  refine r_aload_n (pc := 0) C dX9_stayTrouble_0 0 rfl ?_
  obtain ⟨o_v0, h⟩ := h
  obtain ⟨a1, ea1, h⟩ := h
  refine r_getr (pc := 1) C fL_X9_44 dX9_stayTrouble_1 o_v0 ea1 ?_
  obtain ⟨o_a1, h⟩ := h
  refine r_callVi0 (pc := 4) C (rest := []) (a := a1) o_a1 [] yV_X0_isOn g_981 (c_X0_isOn h) dX9_stayTrouble_4 rfl rfl (Nat.le_of_ble_eq_true rfl) ⟨by decide, by decide⟩ ⟨by decide, by decide⟩ ⟨rfl, rfl⟩ (fun x4 S2 h g3 => ?_)
  have bx4 := h.1
  have h := h.2 g3 bx4
  have o_a1 := gr_ob g3 o_a1
  have o_v0 := gr_ob g3 o_v0
  refine r_if_eq (pc := 7) C (tgt := 27) dX9_stayTrouble_7 (by decide) (fun c5 => ?_) (fun c5 => ?_)
  · have h := h.1 c5
    refine r_iconst (pc := 27) C (v := (1 : Int32)) dX9_stayTrouble_27 (by decide) ?_
    exact r_iret (pc := 28) C E ht dX9_stayTrouble_28 (by decide) (by decide) h
  · have h := h.2 c5
    refine r_aload_n (pc := 10) C dX9_stayTrouble_10 0 rfl ?_
    obtain ⟨a6, ea6, h⟩ := h
    refine r_getr (pc := 11) C fL_X9_16 dX9_stayTrouble_11 o_v0 ea6 ?_
    refine r_aload_n (pc := 14) C dX9_stayTrouble_14 0 rfl ?_
    obtain ⟨a7, ea7, h⟩ := h
    refine r_getr (pc := 15) C fL_X9_44 dX9_stayTrouble_15 o_v0 ea7 ?_
    obtain ⟨o_a7, h⟩ := h
    refine r_geti (pc := 18) C fL_X9_282 dX9_stayTrouble_18 o_a7 ?_
    refine r_topi (fun x8 ex8 => ?_)
    have h := h x8 ex8
    obtain ⟨o_a6, h⟩ := h
    refine r_callVi0 (pc := 21) C (rest := []) (a := a6) o_a6 [.int x8] yV_X8_hasWalker g_664 (c_X8_hasWalker h) dX9_stayTrouble_21 rfl rfl (Nat.le_of_ble_eq_true rfl) ⟨by decide, by decide⟩ ⟨by decide, by decide⟩ ⟨rfl, rfl⟩ (fun x11 S9 h g10 => ?_)
    have bx11 := h.1
    have h := h.2 g10 bx11
    have o_a1 := gr_ob g10 o_a1
    have o_a6 := gr_ob g10 o_a6
    have o_a7 := gr_ob g10 o_a7
    have o_v0 := gr_ob g10 o_v0
    refine r_if_ne (pc := 24) C (tgt := 29) dX9_stayTrouble_24 (by decide) (fun c12 => ?_) (fun c12 => ?_)
    · have h := h.1 c12
      refine r_iload_n (pc := 29) C dX9_stayTrouble_29 1 rfl ?_
      refine r_iconst (pc := 30) C (v := (1 : Int32)) dX9_stayTrouble_30 (by decide) ?_
      refine r_icmp_lt (pc := 31) C (tgt := 40) dX9_stayTrouble_31 (by decide) (fun c13 => ?_) (fun c13 => ?_)
      · have h := h.1 c13
        refine r_iconst (pc := 40) C (v := (2 : Int32)) dX9_stayTrouble_40 (by decide) ?_
        exact r_iret (pc := 41) C E ht dX9_stayTrouble_41 (by decide) (by decide) h
      · have h := h.2 c13
        refine r_iload_n (pc := 34) C dX9_stayTrouble_34 1 rfl ?_
        refine r_bipush (pc := 35) C (v := (60 : Int32)) dX9_stayTrouble_35 (by decide) ?_
        refine r_icmp_le (pc := 37) C (tgt := 42) dX9_stayTrouble_37 (by decide) (fun c14 => ?_) (fun c14 => ?_)
        · have h := h.1 c14
          refine r_aload_n (pc := 42) C dX9_stayTrouble_42 0 rfl ?_
          obtain ⟨a15, ea15, h⟩ := h
          refine r_getr (pc := 43) C fL_X9_16 dX9_stayTrouble_43 o_v0 ea15 ?_
          refine r_aload_n (pc := 46) C dX9_stayTrouble_46 0 rfl ?_
          obtain ⟨a16, ea16, h⟩ := h
          refine r_getr (pc := 47) C fL_X9_44 dX9_stayTrouble_47 o_v0 ea16 ?_
          obtain ⟨o_a16, h⟩ := h
          obtain ⟨a17, ea17, h⟩ := h
          refine r_getr (pc := 50) C fL_X9_287 dX9_stayTrouble_50 o_a16 ea17 ?_
          obtain ⟨o_a17, h⟩ := h
          refine r_geti (pc := 53) C fL_X9_291 dX9_stayTrouble_53 o_a17 ?_
          refine r_topi (fun x18 ex18 => ?_)
          have h := h x18 ex18
          obtain ⟨o_a15, h⟩ := h
          refine r_callVi0 (pc := 56) C (rest := []) (a := a15) o_a15 [.int x18] yV_X8_canWait g_1012 (c_X8_canWait h) dX9_stayTrouble_56 rfl rfl (Nat.le_of_ble_eq_true rfl) ⟨by decide, by decide⟩ ⟨by decide, by decide⟩ ⟨rfl, rfl⟩ (fun x21 S19 h g20 => ?_)
          have bx21 := h.1
          have h := h.2 g20 bx21
          have o_a1 := gr_ob g20 o_a1
          have o_a15 := gr_ob g20 o_a15
          have o_a16 := gr_ob g20 o_a16
          have o_a17 := gr_ob g20 o_a17
          have o_a6 := gr_ob g20 o_a6
          have o_a7 := gr_ob g20 o_a7
          have o_v0 := gr_ob g20 o_v0
          refine r_if_ne (pc := 59) C (tgt := 64) dX9_stayTrouble_59 (by decide) (fun c22 => ?_) (fun c22 => ?_)
          · have h := h.1 c22
            refine r_aload_n (pc := 64) C dX9_stayTrouble_64 0 rfl ?_
            obtain ⟨a23, ea23, h⟩ := h
            refine r_getr (pc := 65) C fL_X9_44 dX9_stayTrouble_65 o_v0 ea23 ?_
            obtain ⟨o_a23, h⟩ := h
            obtain ⟨a24, ea24, h⟩ := h
            refine r_getr (pc := 68) C fL_X9_287 dX9_stayTrouble_68 o_a23 ea24 ?_
            obtain ⟨o_a24, h⟩ := h
            refine r_geti (pc := 71) C fL_X9_296 dX9_stayTrouble_71 o_a24 ?_
            refine r_topi (fun x25 ex25 => ?_)
            have h := h x25 ex25
            refine r_iload_n (pc := 74) C dX9_stayTrouble_74 1 rfl ?_
            refine r_iadd (pc := 75) C dX9_stayTrouble_75 ?_
            refine r_sipush (pc := 76) C (v := (999 : Int32)) dX9_stayTrouble_76 (by decide) ?_
            refine r_icmp_le (pc := 79) C (tgt := 86) dX9_stayTrouble_79 (by decide) (fun c26 => ?_) (fun c26 => ?_)
            · have h := h.1 c26
              refine r_iconst (pc := 86) C (v := (0 : Int32)) dX9_stayTrouble_86 (by decide) ?_
              exact r_iret (pc := 87) C E ht dX9_stayTrouble_87 (by decide) (by decide) h
            · have h := h.2 c26
              refine r_iconst (pc := 82) C (v := (3 : Int32)) dX9_stayTrouble_82 (by decide) ?_
              refine r_goto (pc := 83) C (tgt := 87) dX9_stayTrouble_83 (by decide) ?_
              exact r_iret (pc := 87) C E ht dX9_stayTrouble_87 (by decide) (by decide) h
          · have h := h.2 c22
            refine r_iconst (pc := 62) C (v := (5 : Int32)) dX9_stayTrouble_62 (by decide) ?_
            exact r_iret (pc := 63) C E ht dX9_stayTrouble_63 (by decide) (by decide) h
        · have h := h.2 c14
          refine r_iconst (pc := 40) C (v := (2 : Int32)) dX9_stayTrouble_40 (by decide) ?_
          exact r_iret (pc := 41) C E ht dX9_stayTrouble_41 (by decide) (by decide) h
    · have h := h.2 c12
      refine r_iconst (pc := 27) C (v := (1 : Int32)) dX9_stayTrouble_27 (by decide) ?_
      exact r_iret (pc := 28) C E ht dX9_stayTrouble_28 (by decide) (by decide) h
def P_X9_stayTrouble (v0 : Nat) (v1 : Int32) (Q : Int32 → HS → Prop) (S : HS) : Prop := P_X9_stayTrouble_0 Q v0 v1 S
theorem c_X9_stayTrouble {l : Launch} {Ee : EE} {S : HS} {v0 : Nat} {v1 : Int32} {Q : Int32 → HS → Prop} (h : P_X9_stayTrouble v0 v1 Q S) : MI l yX9_stayTrouble cX9_stayTrouble 2 (some .int) rm_X9_stayTrouble Ee S [.ref v0, .int v1] Q :=
  openI (by decide) (Nat.le_of_ble_eq_true rfl) (fun X C E ht hn hE hl => by subst hE; exact r_sub [0, 1] rfl (T_X9_stayTrouble_0 C E ht hn h))
def rm_X9_stay : Room := { frames := 3, cells := 0, slots := 0, locals := 64 }
def P_X9_stay_111 (Q : Int32 → HS → Prop) (X58 : Nat → Int32 → Int64 → Int32 → HS → Prop) (v0 : Nat) (v1 : Int32) (v2 : Int64) (v4 : Int32) (S : HS) : Prop := ob S v0 9 ∧ (∃ a1 : Nat, fR S v0 6 = some a1 ∧ (ob S a1 0 ∧ (∃ a2 : Nat, fR S a1 4 = some a2 ∧ (ob S a2 2 ∧ (∀ x3 : Int32, x3 = fI S a2 1 → (∀ x4 : Int32, x4 = x3 + (1 : Int32) → (∀ S5 : HS, S5 = sI S a2 1 x4 → (∀ x6 : Int32, x6 = v4 + (1 : Int32) → (X58 v0 v1 v2 x6 S5)))))))))
set_option maxRecDepth 20000 in
set_option maxHeartbeats 4000000 in
theorem T_X9_stay_111 {X : CX} {Q : Int32 → HS → Prop} (C : Cx X cX9_stay RX9 5 rm_X9_stay) (E : ReI X rm_X9_stay (fun r S => bl r ∧ Q r S)) (ht : (xh X).sig.returnType = (some .boolean)) (hn : (xh X).name = yX9_stay.name) {X58 : Nat → Int32 → Int64 → Int32 → HS → Prop} (hX58 : ∀ (v0 : Nat) (v1 : Int32) (v2 : Int64) (v4 : Int32) (S : HS), X58 v0 v1 v2 v4 S → WS X 5 0 0 58 [(0, .ref v0), (1, .int v1), (2, .long v2), (4, .int v4)] [] S) {v0 : Nat} {v1 : Int32} {v2 : Int64} {v4 : Int32} {S : HS} (h : P_X9_stay_111 Q X58 v0 v1 v2 v4 S) : WS X 5 0 0 111 [(0, .ref v0), (1, .int v1), (2, .long v2), (4, .int v4)] [] S := by
  refine r_aload_n (pc := 111) C dX9_stay_111 0 rfl ?_
  obtain ⟨o_v0, h⟩ := h
  obtain ⟨a1, ea1, h⟩ := h
  refine r_getr (pc := 112) C fL_X9_44 dX9_stay_112 o_v0 ea1 ?_
  obtain ⟨o_a1, h⟩ := h
  obtain ⟨a2, ea2, h⟩ := h
  refine r_getr (pc := 115) C fL_X9_287 dX9_stay_115 o_a1 ea2 ?_
  refine r_dup (pc := 118) C dX9_stay_118 rfl ?_
  obtain ⟨o_a2, h⟩ := h
  refine r_geti (pc := 119) C fL_X9_296 dX9_stay_119 o_a2 ?_
  refine r_topi (fun x3 ex3 => ?_)
  have h := h x3 ex3
  refine r_iconst (pc := 122) C (v := (1 : Int32)) dX9_stay_122 (by decide) ?_
  refine r_iadd (pc := 123) C dX9_stay_123 ?_
  refine r_topi (fun x4 ex4 => ?_)
  have h := h x4 ex4
  refine r_puti (pc := 124) C pfL_X9_296 dX9_stay_124 o_a2 ?_
  refine r_heap (fun S5 eS5 => ?_)
  have h := h S5 eS5
  have o_a1 := ob_I eS5 o_a1
  have o_a2 := ob_I eS5 o_a2
  have o_v0 := ob_I eS5 o_v0
  obtain ⟨x6, ex6⟩ : ∃ z : Int32, z = v4 + (1 : Int32) := ⟨_, rfl⟩
  have h := h x6 ex6
  refine r_iinc (pc := 127) C (v := x6) (lv' := [(4, .int x6), (0, .ref v0), (1, .int v1), (2, .long v2)]) dX9_stay_127 3 rfl ex6.symm (by decide) rfl ?_
  refine r_goto (pc := 130) C (tgt := 58) dX9_stay_130 (by decide) ?_
  exact r_sub [1, 2, 3, 0] rfl (hX58 v0 v1 v2 x6 S5 h)
def B_X9_stay_58 (Q : Int32 → HS → Prop) (X58 : Nat → Int32 → Int64 → Int32 → HS → Prop) (v0 : Nat) (v1 : Int32) (v2 : Int64) (v4 : Int32) (S : HS) : Prop := ((v1 ≤ v4) → (Q (1 : Int32) S)) ∧ ((¬ v1 ≤ v4) → (ob S v0 9 ∧ (∃ a2 : Nat, fR S v0 6 = some a2 ∧ (∃ a3 : Nat, fR S v0 2 = some a3 ∧ (∃ a4 : Nat, fR S v0 6 = some a4 ∧ (ob S a4 0 ∧ (∃ a5 : Nat, fR S a4 4 = some a5 ∧ (ob S a5 2 ∧ (∀ x6 : Int32, x6 = fI S a5 1 → (ob S a3 8 ∧ (P_X8_hourOf a3 x6 (fun x9 S7 => Gr S S7 → (ob S7 a2 0 ∧ (P_X0_rainsIn a2 x9 (fun x12 S10 => Gr S7 S10 → bl x12 → (((x12 = 0) → (P_X9_stay_111 Q X58 v0 v1 v2 v4 S10)) ∧ ((¬ x12 = 0) → (∃ a14 : Nat, fR S10 v0 6 = some a14 ∧ (ob S10 a14 0 ∧ (∃ a15 : Nat, fR S10 a14 4 = some a15 ∧ (ob S10 a15 2 ∧ (∃ a16 : Nat, fR S10 a15 2 = some a16 ∧ (ob S10 a16 14 ∧ (vp_in (0 : Int32) (hN S10 a16) ∧ ∀ x18 : Int64, x18 = fJ S10 a16 (0 : Int32).toNatClampNeg → (∀ x20 : Int64, x20 = x18 + (v2 * (2520 : Int64)) → (vp_in (0 : Int32) (hN S10 a16) ∧ (∀ S21 : HS, S21 = sJ S10 a16 (0 : Int32).toNatClampNeg x20 → (P_X9_stay_111 Q X58 v0 v1 v2 v4 S21)))))))))))))) S7))) S)))))))))))
def P_X9_stay_58 (Q : Int32 → HS → Prop) (v0 : Nat) (v1 : Int32) (v2 : Int64) (v4 : Int32) (S : HS) : Prop := ∀ X58 : Nat → Int32 → Int64 → Int32 → HS → Prop, (∀ (v0 : Nat) (v1 : Int32) (v2 : Int64) (v4 : Int32) (S : HS), B_X9_stay_58 Q X58 v0 v1 v2 v4 S → X58 v0 v1 v2 v4 S) → X58 v0 v1 v2 v4 S
set_option maxRecDepth 20000 in
set_option maxHeartbeats 4000000 in
theorem TB_X9_stay_58 {X : CX} {Q : Int32 → HS → Prop} (C : Cx X cX9_stay RX9 5 rm_X9_stay) (E : ReI X rm_X9_stay (fun r S => bl r ∧ Q r S)) (ht : (xh X).sig.returnType = (some .boolean)) (hn : (xh X).name = yX9_stay.name) {X58 : Nat → Int32 → Int64 → Int32 → HS → Prop} (hX58 : ∀ (v0 : Nat) (v1 : Int32) (v2 : Int64) (v4 : Int32) (S : HS), X58 v0 v1 v2 v4 S → WS X 5 0 0 58 [(0, .ref v0), (1, .int v1), (2, .long v2), (4, .int v4)] [] S) {v0 : Nat} {v1 : Int32} {v2 : Int64} {v4 : Int32} {S : HS} (h : B_X9_stay_58 Q X58 v0 v1 v2 v4 S) : WS X 5 0 0 58 [(0, .ref v0), (1, .int v1), (2, .long v2), (4, .int v4)] [] S := by
  refine r_iload (pc := 58) C dX9_stay_58 3 rfl ?_
  refine r_iload_n (pc := 60) C dX9_stay_60 1 rfl ?_
  refine r_icmp_ge (pc := 61) C (tgt := 133) dX9_stay_61 (by decide) (fun c1 => ?_) (fun c1 => ?_)
  · have h := h.1 c1
    refine r_iconst (pc := 133) C (v := (1 : Int32)) dX9_stay_133 (by decide) ?_
    exact r_zret (pc := 134) C E ht dX9_stay_134 (by decide) (by decide) (Or.inr rfl) h
  · have h := h.2 c1
    refine r_aload_n (pc := 64) C dX9_stay_64 0 rfl ?_
    obtain ⟨o_v0, h⟩ := h
    obtain ⟨a2, ea2, h⟩ := h
    refine r_getr (pc := 65) C fL_X9_44 dX9_stay_65 o_v0 ea2 ?_
    refine r_aload_n (pc := 68) C dX9_stay_68 0 rfl ?_
    obtain ⟨a3, ea3, h⟩ := h
    refine r_getr (pc := 69) C fL_X9_16 dX9_stay_69 o_v0 ea3 ?_
    refine r_aload_n (pc := 72) C dX9_stay_72 0 rfl ?_
    obtain ⟨a4, ea4, h⟩ := h
    refine r_getr (pc := 73) C fL_X9_44 dX9_stay_73 o_v0 ea4 ?_
    obtain ⟨o_a4, h⟩ := h
    obtain ⟨a5, ea5, h⟩ := h
    refine r_getr (pc := 76) C fL_X9_287 dX9_stay_76 o_a4 ea5 ?_
    obtain ⟨o_a5, h⟩ := h
    refine r_geti (pc := 79) C fL_X9_296 dX9_stay_79 o_a5 ?_
    refine r_topi (fun x6 ex6 => ?_)
    have h := h x6 ex6
    obtain ⟨o_a3, h⟩ := h
    refine r_callVi0 (pc := 82) C (rest := [.ref a2]) (a := a3) o_a3 [.int x6] yV_X8_hourOf g_994 (c_X8_hourOf h) dX9_stay_82 rfl rfl (Nat.le_of_ble_eq_true rfl) ⟨by decide, by decide⟩ ⟨by decide, by decide⟩ ⟨rfl, rfl⟩ (fun x9 S7 h g8 => ?_)
    have h := h g8
    have o_a3 := gr_ob g8 o_a3
    have o_a4 := gr_ob g8 o_a4
    have o_a5 := gr_ob g8 o_a5
    have o_v0 := gr_ob g8 o_v0
    obtain ⟨o_a2, h⟩ := h
    refine r_callVi0 (pc := 85) C (rest := []) (a := a2) o_a2 [.int x9] yV_X0_rainsIn g_995 (c_X0_rainsIn h) dX9_stay_85 rfl rfl (Nat.le_of_ble_eq_true rfl) ⟨by decide, by decide⟩ ⟨by decide, by decide⟩ ⟨rfl, rfl⟩ (fun x12 S10 h g11 => ?_)
    have bx12 := h.1
    have h := h.2 g11 bx12
    have o_a2 := gr_ob g11 o_a2
    have o_a3 := gr_ob g11 o_a3
    have o_a4 := gr_ob g11 o_a4
    have o_a5 := gr_ob g11 o_a5
    have o_v0 := gr_ob g11 o_v0
    refine r_if_eq (pc := 88) C (tgt := 111) dX9_stay_88 (by decide) (fun c13 => ?_) (fun c13 => ?_)
    · have h := h.1 c13
      exact r_sub [0, 1, 2, 3] rfl (T_X9_stay_111 C E ht hn hX58 h)
    · have h := h.2 c13
      refine r_aload_n (pc := 91) C dX9_stay_91 0 rfl ?_
      obtain ⟨a14, ea14, h⟩ := h
      refine r_getr (pc := 92) C fL_X9_44 dX9_stay_92 o_v0 ea14 ?_
      obtain ⟨o_a14, h⟩ := h
      obtain ⟨a15, ea15, h⟩ := h
      refine r_getr (pc := 95) C fL_X9_287 dX9_stay_95 o_a14 ea15 ?_
      obtain ⟨o_a15, h⟩ := h
      obtain ⟨a16, ea16, h⟩ := h
      refine r_getr (pc := 98) C fL_X9_322 dX9_stay_98 o_a15 ea16 ?_
      refine r_iconst (pc := 101) C (v := (0 : Int32)) dX9_stay_101 (by decide) ?_
      refine r_dup2 (pc := 102) C dX9_stay_102 rfl rfl ?_
      obtain ⟨o_a16, h⟩ := h
      obtain ⟨i17, h⟩ := h
      refine r_lald (pc := 103) C dX9_stay_103 o_a16 i17 ?_
      refine r_topl (fun x18 ex18 => ?_)
      have h := h x18 ex18
      refine r_lload_n (pc := 104) C dX9_stay_104 2 rfl ?_
      refine r_ldc2 (pc := 105) C (v := (2520 : Int64)) dX9_stay_105 g_721 ?_
      refine r_lmul (pc := 108) C dX9_stay_108 ?_
      refine r_ladd (pc := 109) C dX9_stay_109 ?_
      refine r_topl (fun x20 ex20 => ?_)
      have h := h x20 ex20
      obtain ⟨i19, h⟩ := h
      refine r_last (pc := 110) C dX9_stay_110 o_a16 i19 ?_
      refine r_heap (fun S21 eS21 => ?_)
      have h := h S21 eS21
      have o_a14 := ob_J eS21 o_a14
      have o_a15 := ob_J eS21 o_a15
      have o_a16 := ob_J eS21 o_a16
      have o_a2 := ob_J eS21 o_a2
      have o_a3 := ob_J eS21 o_a3
      have o_a4 := ob_J eS21 o_a4
      have o_a5 := ob_J eS21 o_a5
      have o_v0 := ob_J eS21 o_v0
      exact r_sub [0, 1, 2, 3] rfl (T_X9_stay_111 C E ht hn hX58 h)
theorem T_X9_stay_58 {X : CX} {Q : Int32 → HS → Prop} (C : Cx X cX9_stay RX9 5 rm_X9_stay) (E : ReI X rm_X9_stay (fun r S => bl r ∧ Q r S)) (ht : (xh X).sig.returnType = (some .boolean)) (hn : (xh X).name = yX9_stay.name) {v0 : Nat} {v1 : Int32} {v2 : Int64} {v4 : Int32} {S : HS} (h : P_X9_stay_58 Q v0 v1 v2 v4 S) : WS X 5 0 0 58 [(0, .ref v0), (1, .int v1), (2, .long v2), (4, .int v4)] [] S :=
  h (fun v0 v1 v2 v4 S => WS X 5 0 0 58 [(0, .ref v0), (1, .int v1), (2, .long v2), (4, .int v4)] [] S) (fun v0 v1 v2 v4 S hh => TB_X9_stay_58 C E ht hn (fun v0 v1 v2 v4 S z => z) hh)
def P_X9_stay_0 (Q : Int32 → HS → Prop) (v0 : Nat) (v1 : Int32) (S : HS) : Prop := ob S v0 9 ∧ (P_X9_stayTrouble v0 v1 (fun x3 S1 => Gr S S1 → (P_X9_refusedBy v0 x3 (fun x6 S4 => Gr S1 S4 → bl x6 → (((x6 = 0) → (∃ a8 : Nat, fR S4 v0 6 = some a8 ∧ (ob S4 a8 0 ∧ (P_X0_keepForUndo a8 (fun S9 => Gr S4 S9 → (∃ a12 : Nat, fR S9 v0 2 = some a12 ∧ (∃ a13 : Nat, fR S9 v0 2 = some a13 ∧ (ob S9 a13 8 ∧ (∃ a14 : Nat, fR S9 a13 9 = some a14 ∧ (∃ a15 : Nat, fR S9 v0 6 = some a15 ∧ (ob S9 a15 0 ∧ (∀ x16 : Int32, x16 = fI S9 a15 0 → (ob S9 a14 19 ∧ (vp_in x16 (hN S9 a14) ∧ ∃ a18 : Nat, fR S9 a14 x16.toNatClampNeg = some a18 ∧ (∃ a19 : Nat, fR S9 v0 6 = some a19 ∧ (ob S9 a19 0 ∧ (∃ a20 : Nat, fR S9 a19 4 = some a20 ∧ (ob S9 a20 2 ∧ (∀ x21 : Int32, x21 = fI S9 a20 0 → (ob S9 a12 8 ∧ (P_X8_dripOn a12 a18 x21 (fun x24 S22 => Gr S9 S22 → (∀ x25 : Int64, x25 = x24.toInt64 → (P_X9_stay_58 Q v0 v1 x25 (0 : Int32) S22))) S9))))))))))))))))) S4)))) ∧ ((¬ x6 = 0) → (Q (0 : Int32) S4)))) S1)) S)
set_option maxRecDepth 20000 in
set_option maxHeartbeats 4000000 in
theorem T_X9_stay_0 {X : CX} {Q : Int32 → HS → Prop} (C : Cx X cX9_stay RX9 5 rm_X9_stay) (E : ReI X rm_X9_stay (fun r S => bl r ∧ Q r S)) (ht : (xh X).sig.returnType = (some .boolean)) (hn : (xh X).name = yX9_stay.name) {v0 : Nat} {v1 : Int32} {S : HS} (h : P_X9_stay_0 Q v0 v1 S) : WS X 5 0 0 0 [(0, .ref v0), (1, .int v1)] [] S := by
  refine r_aload_n (pc := 0) C dX9_stay_0 0 rfl ?_
  refine r_aload_n (pc := 1) C dX9_stay_1 0 rfl ?_
  refine r_iload_n (pc := 2) C dX9_stay_2 1 rfl ?_
  obtain ⟨o_v0, h⟩ := h
  refine r_callVi0 (pc := 3) C (rest := [.ref v0]) (a := v0) o_v0 [.int v1] yV_X9_stayTrouble g_1008 (c_X9_stayTrouble h) dX9_stay_3 rfl rfl (Nat.le_of_ble_eq_true rfl) ⟨by decide, by decide⟩ ⟨by decide, by decide⟩ ⟨rfl, rfl⟩ (fun x3 S1 h g2 => ?_)
  have h := h g2
  have o_v0 := gr_ob g2 o_v0
  refine r_callVi0 (pc := 6) C (rest := []) (a := v0) o_v0 [.int x3] yV_X9_refusedBy g_683 (c_X9_refusedBy h) dX9_stay_6 rfl rfl (Nat.le_of_ble_eq_true rfl) ⟨by decide, by decide⟩ ⟨by decide, by decide⟩ ⟨rfl, rfl⟩ (fun x6 S4 h g5 => ?_)
  have bx6 := h.1
  have h := h.2 g5 bx6
  have o_v0 := gr_ob g5 o_v0
  refine r_if_eq (pc := 9) C (tgt := 14) dX9_stay_9 (by decide) (fun c7 => ?_) (fun c7 => ?_)
  · have h := h.1 c7
    refine r_aload_n (pc := 14) C dX9_stay_14 0 rfl ?_
    obtain ⟨a8, ea8, h⟩ := h
    refine r_getr (pc := 15) C fL_X9_44 dX9_stay_15 o_v0 ea8 ?_
    obtain ⟨o_a8, h⟩ := h
    refine r_callVv0 (pc := 18) C (rest := []) (a := a8) o_a8 [] yV_X0_keepForUndo g_986 (c_X0_keepForUndo h) dX9_stay_18 rfl rfl (Nat.le_of_ble_eq_true rfl) ⟨by decide, by decide⟩ ⟨by decide, by decide⟩ ⟨rfl, rfl⟩ (fun S9 h g10 => ?_)
    have h := h g10
    have o_a8 := gr_ob g10 o_a8
    have o_v0 := gr_ob g10 o_v0
    refine r_aload_n (pc := 21) C dX9_stay_21 0 rfl ?_
    obtain ⟨a12, ea12, h⟩ := h
    refine r_getr (pc := 22) C fL_X9_16 dX9_stay_22 o_v0 ea12 ?_
    refine r_aload_n (pc := 25) C dX9_stay_25 0 rfl ?_
    obtain ⟨a13, ea13, h⟩ := h
    refine r_getr (pc := 26) C fL_X9_16 dX9_stay_26 o_v0 ea13 ?_
    obtain ⟨o_a13, h⟩ := h
    obtain ⟨a14, ea14, h⟩ := h
    refine r_getr (pc := 29) C fL_X9_108 dX9_stay_29 o_a13 ea14 ?_
    refine r_aload_n (pc := 32) C dX9_stay_32 0 rfl ?_
    obtain ⟨a15, ea15, h⟩ := h
    refine r_getr (pc := 33) C fL_X9_44 dX9_stay_33 o_v0 ea15 ?_
    obtain ⟨o_a15, h⟩ := h
    refine r_geti (pc := 36) C fL_X9_282 dX9_stay_36 o_a15 ?_
    refine r_topi (fun x16 ex16 => ?_)
    have h := h x16 ex16
    obtain ⟨o_a14, h⟩ := h
    obtain ⟨i17, a18, ea18, h⟩ := h
    refine r_aald19 (pc := 39) C dX9_stay_39 o_a14 i17 ea18 ?_
    refine r_aload_n (pc := 40) C dX9_stay_40 0 rfl ?_
    obtain ⟨a19, ea19, h⟩ := h
    refine r_getr (pc := 41) C fL_X9_44 dX9_stay_41 o_v0 ea19 ?_
    obtain ⟨o_a19, h⟩ := h
    obtain ⟨a20, ea20, h⟩ := h
    refine r_getr (pc := 44) C fL_X9_287 dX9_stay_44 o_a19 ea20 ?_
    obtain ⟨o_a20, h⟩ := h
    refine r_geti (pc := 47) C fL_X9_291 dX9_stay_47 o_a20 ?_
    refine r_topi (fun x21 ex21 => ?_)
    have h := h x21 ex21
    obtain ⟨o_a12, h⟩ := h
    refine r_callVi0 (pc := 50) C (rest := []) (a := a12) o_a12 [.ref a18, .int x21] yV_X8_dripOn g_1013 (c_X8_dripOn h) dX9_stay_50 rfl rfl (Nat.le_of_ble_eq_true rfl) ⟨by decide, by decide⟩ ⟨by decide, by decide⟩ ⟨rfl, rfl⟩ (fun x24 S22 h g23 => ?_)
    have h := h g23
    have o_a12 := gr_ob g23 o_a12
    have o_a13 := gr_ob g23 o_a13
    have o_a14 := gr_ob g23 o_a14
    have o_a15 := gr_ob g23 o_a15
    have o_a19 := gr_ob g23 o_a19
    have o_a20 := gr_ob g23 o_a20
    have o_a8 := gr_ob g23 o_a8
    have o_v0 := gr_ob g23 o_v0
    refine r_i2l (pc := 53) C dX9_stay_53 ?_
    refine r_topl (fun x25 ex25 => ?_)
    have h := h x25 ex25
    refine r_lstore_n (pc := 54) C dX9_stay_54 rfl (by decide) (lv' := [(2, .long x25), (0, .ref v0), (1, .int v1)]) rfl ?_
    refine r_iconst (pc := 55) C (v := (0 : Int32)) dX9_stay_55 (by decide) ?_
    refine r_istore (pc := 56) C dX9_stay_56 (by decide) (lv' := [(4, .int (0 : Int32)), (2, .long x25), (0, .ref v0), (1, .int v1)]) rfl ?_
    exact r_sub [2, 3, 1, 0] rfl (T_X9_stay_58 C E ht hn h)
  · have h := h.2 c7
    refine r_iconst (pc := 12) C (v := (0 : Int32)) dX9_stay_12 (by decide) ?_
    exact r_zret (pc := 13) C E ht dX9_stay_13 (by decide) (by decide) (Or.inl rfl) h
def P_X9_stay (v0 : Nat) (v1 : Int32) (Q : Int32 → HS → Prop) (S : HS) : Prop := P_X9_stay_0 Q v0 v1 S
theorem c_X9_stay {l : Launch} {Ee : EE} {S : HS} {v0 : Nat} {v1 : Int32} {Q : Int32 → HS → Prop} (h : P_X9_stay v0 v1 Q S) : MI l yX9_stay cX9_stay 5 (some .boolean) rm_X9_stay Ee S [.ref v0, .int v1] (fun r S => bl r ∧ Q r S) :=
  openI (by decide) (Nat.le_of_ble_eq_true rfl) (fun X C E ht hn hE hl => by subst hE; exact r_sub [0, 1] rfl (T_X9_stay_0 C E ht hn h))
def rm_X9_step : Room := { frames := 7, cells := 8, slots := 7937, locals := 186 }
def P_X9_step_61 (Q : Int32 → HS → Prop) (v0 : Nat) (S : HS) : Prop := ob S v0 9 ∧ (P_X9_refuse v0 (1 : Int32) (fun x3 S1 => Gr S S1 → (Q x3 S1)) S)
set_option maxRecDepth 20000 in
set_option maxHeartbeats 4000000 in
theorem T_X9_step_61 {X : CX} {Q : Int32 → HS → Prop} (C : Cx X cX9_step RX9 8 rm_X9_step) (E : ReI X rm_X9_step Q) (ht : (xh X).sig.returnType = (some .int)) (hn : (xh X).name = yX9_step.name) {v0 : Nat} {S : HS} (h : P_X9_step_61 Q v0 S) : WS X 8 8 7937 61 [(0, .ref v0)] [] S := by
  refine r_aload_n (pc := 61) C dX9_step_61 0 rfl ?_
  refine r_iconst (pc := 62) C (v := (1 : Int32)) dX9_step_62 (by decide) ?_
  obtain ⟨o_v0, h⟩ := h
  refine r_callVi0 (pc := 63) C (rest := []) (a := v0) o_v0 [.int (1 : Int32)] yV_X9_refuse g_430 (c_X9_refuse h) dX9_step_63 rfl rfl (Nat.le_of_ble_eq_true rfl) ⟨by decide, by decide⟩ ⟨by decide, by decide⟩ ⟨rfl, rfl⟩ (fun x3 S1 h g2 => ?_)
  have h := h g2
  have o_v0 := gr_ob g2 o_v0
  exact r_iret (pc := 66) C E ht dX9_step_66 (by decide) (by decide) h
def P_X9_step_0 (Q : Int32 → HS → Prop) (v0 : Nat) (v1 : Int32) (v2 : Int32) (v3 : Int32) (v4 : Int32) (v5 : Int32) (v6 : Int32) (S : HS) : Prop := ob S v0 9 ∧ (P_X9_wayTrouble v0 v1 v2 v3 v4 v5 (fun x3 S1 => Gr S S1 → (P_X9_refusedBy v0 x3 (fun x6 S4 => Gr S1 S4 → bl x6 → (((x6 = 0) → (∃ a8 : Nat, fR S4 v0 5 = some a8 ∧ (∃ a9 : Nat, fR S4 v0 2 = some a9 ∧ (ob S4 a8 7 ∧ (P_X7_trace a8 a9 v2 v4 (fun x12 S10 => Gr S4 S10 → (((v6 < 0) → (P_X9_step_61 Q v0 S10)) ∧ ((¬ v6 < 0) → (((x12 ≤ v6) → (P_X9_step_61 Q v0 S10)) ∧ ((¬ x12 ≤ v6) → (∃ a15 : Nat, fR S10 v0 5 = some a15 ∧ (ob S10 a15 7 ∧ (∃ a16 : Nat, fR S10 a15 0 = some a16 ∧ (ob S10 a16 13 ∧ (((v6 < (nI (hN S10 a16))) → (∃ a18 : Nat, fR S10 v0 5 = some a18 ∧ (ob S10 a18 7 ∧ (∃ a19 : Nat, fR S10 a18 0 = some a19 ∧ (ob S10 a19 13 ∧ (vp_in v6 (hN S10 a19) ∧ ∀ x21 : Int32, x21 = fI S10 a19 v6.toNatClampNeg → (Q x21 S10))))))) ∧ ((¬ v6 < (nI (hN S10 a16))) → (P_X9_step_61 Q v0 S10)))))))))))) S4))))) ∧ ((¬ x6 = 0) → (Q (-1 : Int32) S4)))) S1)) S)
set_option maxRecDepth 20000 in
set_option maxHeartbeats 4000000 in
theorem T_X9_step_0 {X : CX} {Q : Int32 → HS → Prop} (C : Cx X cX9_step RX9 8 rm_X9_step) (E : ReI X rm_X9_step Q) (ht : (xh X).sig.returnType = (some .int)) (hn : (xh X).name = yX9_step.name) {v0 : Nat} {v1 : Int32} {v2 : Int32} {v3 : Int32} {v4 : Int32} {v5 : Int32} {v6 : Int32} {S : HS} (h : P_X9_step_0 Q v0 v1 v2 v3 v4 v5 v6 S) : WS X 8 0 0 0 [(0, .ref v0), (1, .int v1), (2, .int v2), (3, .int v3), (4, .int v4), (5, .int v5), (6, .int v6)] [] S := by
  refine r_aload_n (pc := 0) C dX9_step_0 0 rfl ?_
  refine r_aload_n (pc := 1) C dX9_step_1 0 rfl ?_
  refine r_iload_n (pc := 2) C dX9_step_2 1 rfl ?_
  refine r_iload_n (pc := 3) C dX9_step_3 2 rfl ?_
  refine r_iload_n (pc := 4) C dX9_step_4 3 rfl ?_
  refine r_iload (pc := 5) C dX9_step_5 4 rfl ?_
  refine r_iload (pc := 7) C dX9_step_7 5 rfl ?_
  obtain ⟨o_v0, h⟩ := h
  refine r_callVi (pc := 9) C (rest := [.ref v0]) (a := v0) o_v0 [.int v1, .int v2, .int v3, .int v4, .int v5] yV_X9_wayTrouble g_817 (c_X9_wayTrouble h) dX9_step_9 rfl rfl (Nat.le_of_ble_eq_true rfl) ⟨by decide, by decide⟩ ⟨by decide, by decide⟩ (fun x3 S1 h g2 => ?_)
  have h := h g2
  have o_v0 := gr_ob g2 o_v0
  refine r_callVi0 (pc := 12) C (rest := []) (a := v0) o_v0 [.int x3] yV_X9_refusedBy g_683 (c_X9_refusedBy h) dX9_step_12 rfl rfl (Nat.le_of_ble_eq_true rfl) ⟨by decide, by decide⟩ ⟨by decide, by decide⟩ ⟨rfl, rfl⟩ (fun x6 S4 h g5 => ?_)
  have bx6 := h.1
  have h := h.2 g5 bx6
  have o_v0 := gr_ob g5 o_v0
  refine r_if_eq (pc := 15) C (tgt := 20) dX9_step_15 (by decide) (fun c7 => ?_) (fun c7 => ?_)
  · have h := h.1 c7
    refine r_aload_n (pc := 20) C dX9_step_20 0 rfl ?_
    obtain ⟨a8, ea8, h⟩ := h
    refine r_getr (pc := 21) C fL_X9_37 dX9_step_21 o_v0 ea8 ?_
    refine r_aload_n (pc := 24) C dX9_step_24 0 rfl ?_
    obtain ⟨a9, ea9, h⟩ := h
    refine r_getr (pc := 25) C fL_X9_16 dX9_step_25 o_v0 ea9 ?_
    refine r_iload_n (pc := 28) C dX9_step_28 2 rfl ?_
    refine r_iload (pc := 29) C dX9_step_29 4 rfl ?_
    obtain ⟨o_a8, h⟩ := h
    refine r_callVi0 (pc := 31) C (rest := []) (a := a8) o_a8 [.ref a9, .int v2, .int v4] yV_X7_trace g_912 (c_X7_trace h) dX9_step_31 rfl rfl (Nat.le_of_ble_eq_true rfl) ⟨by decide, by decide⟩ ⟨by decide, by decide⟩ ⟨rfl, rfl⟩ (fun x12 S10 h g11 => ?_)
    have h := h g11
    have o_a8 := gr_ob g11 o_a8
    have o_v0 := gr_ob g11 o_v0
    refine r_istore (pc := 34) C dX9_step_34 (by decide) (lv' := [(7, .int x12), (0, .ref v0), (1, .int v1), (2, .int v2), (3, .int v3), (4, .int v4), (5, .int v5), (6, .int v6)]) rfl ?_
    refine r_iload (pc := 36) C dX9_step_36 7 rfl ?_
    refine r_if_lt (pc := 38) C (tgt := 61) dX9_step_38 (by decide) (fun c13 => ?_) (fun c13 => ?_)
    · have h := h.1 c13
      exact r_sub [1] rfl (T_X9_step_61 C E ht hn h)
    · have h := h.2 c13
      refine r_iload (pc := 41) C dX9_step_41 7 rfl ?_
      refine r_iload (pc := 43) C dX9_step_43 0 rfl ?_
      refine r_icmp_ge (pc := 45) C (tgt := 61) dX9_step_45 (by decide) (fun c14 => ?_) (fun c14 => ?_)
      · have h := h.1 c14
        exact r_sub [1] rfl (T_X9_step_61 C E ht hn h)
      · have h := h.2 c14
        refine r_iload (pc := 48) C dX9_step_48 7 rfl ?_
        refine r_aload_n (pc := 50) C dX9_step_50 1 rfl ?_
        obtain ⟨a15, ea15, h⟩ := h
        refine r_getr (pc := 51) C fL_X9_37 dX9_step_51 o_v0 ea15 ?_
        obtain ⟨o_a15, h⟩ := h
        obtain ⟨a16, ea16, h⟩ := h
        refine r_getr (pc := 54) C fL_X9_228 dX9_step_54 o_a15 ea16 ?_
        obtain ⟨o_a16, h⟩ := h
        refine r_alen13 (pc := 57) C dX9_step_57 o_a16 ?_
        refine r_icmp_lt (pc := 58) C (tgt := 67) dX9_step_58 (by decide) (fun c17 => ?_) (fun c17 => ?_)
        · have h := h.1 c17
          refine r_aload_n (pc := 67) C dX9_step_67 1 rfl ?_
          obtain ⟨a18, ea18, h⟩ := h
          refine r_getr (pc := 68) C fL_X9_37 dX9_step_68 o_v0 ea18 ?_
          obtain ⟨o_a18, h⟩ := h
          obtain ⟨a19, ea19, h⟩ := h
          refine r_getr (pc := 71) C fL_X9_228 dX9_step_71 o_a18 ea19 ?_
          refine r_iload (pc := 74) C dX9_step_74 7 rfl ?_
          obtain ⟨o_a19, h⟩ := h
          obtain ⟨i20, h⟩ := h
          refine r_iald (pc := 76) C dX9_step_76 o_a19 i20 ?_
          refine r_topi (fun x21 ex21 => ?_)
          have h := h x21 ex21
          exact r_iret (pc := 77) C E ht dX9_step_77 (by decide) (by decide) h
        · have h := h.2 c17
          exact r_sub [1] rfl (T_X9_step_61 C E ht hn h)
  · have h := h.2 c7
    refine r_iconst (pc := 18) C (v := (-1 : Int32)) dX9_step_18 (by decide) ?_
    exact r_iret (pc := 19) C E ht dX9_step_19 (by decide) (by decide) h
def P_X9_step (v0 : Nat) (v1 : Int32) (v2 : Int32) (v3 : Int32) (v4 : Int32) (v5 : Int32) (v6 : Int32) (Q : Int32 → HS → Prop) (S : HS) : Prop := P_X9_step_0 Q v0 v1 v2 v3 v4 v5 v6 S
theorem c_X9_step {l : Launch} {Ee : EE} {S : HS} {v0 : Nat} {v1 : Int32} {v2 : Int32} {v3 : Int32} {v4 : Int32} {v5 : Int32} {v6 : Int32} {Q : Int32 → HS → Prop} (h : P_X9_step v0 v1 v2 v3 v4 v5 v6 Q S) : MI l yX9_step cX9_step 8 (some .int) rm_X9_step Ee S [.ref v0, .int v1, .int v2, .int v3, .int v4, .int v5, .int v6] Q :=
  openI (by decide) (Nat.le_of_ble_eq_true rfl) (fun X C E ht hn hE hl => by subst hE; exact r_sub [0, 1, 2, 3, 4, 5, 6] rfl (T_X9_step_0 C E ht hn h))
def rm_X9_steps : Room := { frames := 7, cells := 8, slots := 7937, locals := 186 }
def P_X9_steps_0 (Q : Int32 → HS → Prop) (v0 : Nat) (v1 : Int32) (v2 : Int32) (v3 : Int32) (v4 : Int32) (v5 : Int32) (S : HS) : Prop := ob S v0 9 ∧ (P_X9_wayTrouble v0 v1 v2 v3 v4 v5 (fun x3 S1 => Gr S S1 → (P_X9_refusedBy v0 x3 (fun x6 S4 => Gr S1 S4 → bl x6 → (((x6 = 0) → (∃ a8 : Nat, fR S4 v0 5 = some a8 ∧ (∃ a9 : Nat, fR S4 v0 2 = some a9 ∧ (ob S4 a8 7 ∧ (P_X7_trace a8 a9 v2 v4 (fun x12 S10 => Gr S4 S10 → (Q x12 S10)) S4))))) ∧ ((¬ x6 = 0) → (Q (-1 : Int32) S4)))) S1)) S)
set_option maxRecDepth 20000 in
set_option maxHeartbeats 4000000 in
theorem T_X9_steps_0 {X : CX} {Q : Int32 → HS → Prop} (C : Cx X cX9_steps RX9 6 rm_X9_steps) (E : ReI X rm_X9_steps Q) (ht : (xh X).sig.returnType = (some .int)) (hn : (xh X).name = yX9_steps.name) {v0 : Nat} {v1 : Int32} {v2 : Int32} {v3 : Int32} {v4 : Int32} {v5 : Int32} {S : HS} (h : P_X9_steps_0 Q v0 v1 v2 v3 v4 v5 S) : WS X 6 0 0 0 [(0, .ref v0), (1, .int v1), (2, .int v2), (3, .int v3), (4, .int v4), (5, .int v5)] [] S := by
  refine r_aload_n (pc := 0) C dX9_steps_0 0 rfl ?_
  refine r_aload_n (pc := 1) C dX9_steps_1 0 rfl ?_
  refine r_iload_n (pc := 2) C dX9_steps_2 1 rfl ?_
  refine r_iload_n (pc := 3) C dX9_steps_3 2 rfl ?_
  refine r_iload_n (pc := 4) C dX9_steps_4 3 rfl ?_
  refine r_iload (pc := 5) C dX9_steps_5 4 rfl ?_
  refine r_iload (pc := 7) C dX9_steps_7 5 rfl ?_
  obtain ⟨o_v0, h⟩ := h
  refine r_callVi (pc := 9) C (rest := [.ref v0]) (a := v0) o_v0 [.int v1, .int v2, .int v3, .int v4, .int v5] yV_X9_wayTrouble g_817 (c_X9_wayTrouble h) dX9_steps_9 rfl rfl (Nat.le_of_ble_eq_true rfl) ⟨by decide, by decide⟩ ⟨by decide, by decide⟩ (fun x3 S1 h g2 => ?_)
  have h := h g2
  have o_v0 := gr_ob g2 o_v0
  refine r_callVi0 (pc := 12) C (rest := []) (a := v0) o_v0 [.int x3] yV_X9_refusedBy g_683 (c_X9_refusedBy h) dX9_steps_12 rfl rfl (Nat.le_of_ble_eq_true rfl) ⟨by decide, by decide⟩ ⟨by decide, by decide⟩ ⟨rfl, rfl⟩ (fun x6 S4 h g5 => ?_)
  have bx6 := h.1
  have h := h.2 g5 bx6
  have o_v0 := gr_ob g5 o_v0
  refine r_if_eq (pc := 15) C (tgt := 20) dX9_steps_15 (by decide) (fun c7 => ?_) (fun c7 => ?_)
  · have h := h.1 c7
    refine r_aload_n (pc := 20) C dX9_steps_20 0 rfl ?_
    obtain ⟨a8, ea8, h⟩ := h
    refine r_getr (pc := 21) C fL_X9_37 dX9_steps_21 o_v0 ea8 ?_
    refine r_aload_n (pc := 24) C dX9_steps_24 0 rfl ?_
    obtain ⟨a9, ea9, h⟩ := h
    refine r_getr (pc := 25) C fL_X9_16 dX9_steps_25 o_v0 ea9 ?_
    refine r_iload_n (pc := 28) C dX9_steps_28 2 rfl ?_
    refine r_iload (pc := 29) C dX9_steps_29 4 rfl ?_
    obtain ⟨o_a8, h⟩ := h
    refine r_callVi0 (pc := 31) C (rest := []) (a := a8) o_a8 [.ref a9, .int v2, .int v4] yV_X7_trace g_912 (c_X7_trace h) dX9_steps_31 rfl rfl (Nat.le_of_ble_eq_true rfl) ⟨by decide, by decide⟩ ⟨by decide, by decide⟩ ⟨rfl, rfl⟩ (fun x12 S10 h g11 => ?_)
    have h := h g11
    have o_a8 := gr_ob g11 o_a8
    have o_v0 := gr_ob g11 o_v0
    exact r_iret (pc := 34) C E ht dX9_steps_34 (by decide) (by decide) h
  · have h := h.2 c7
    refine r_iconst (pc := 18) C (v := (-1 : Int32)) dX9_steps_18 (by decide) ?_
    exact r_iret (pc := 19) C E ht dX9_steps_19 (by decide) (by decide) h
def P_X9_steps (v0 : Nat) (v1 : Int32) (v2 : Int32) (v3 : Int32) (v4 : Int32) (v5 : Int32) (Q : Int32 → HS → Prop) (S : HS) : Prop := P_X9_steps_0 Q v0 v1 v2 v3 v4 v5 S
theorem c_X9_steps {l : Launch} {Ee : EE} {S : HS} {v0 : Nat} {v1 : Int32} {v2 : Int32} {v3 : Int32} {v4 : Int32} {v5 : Int32} {Q : Int32 → HS → Prop} (h : P_X9_steps v0 v1 v2 v3 v4 v5 Q S) : MI l yX9_steps cX9_steps 6 (some .int) rm_X9_steps Ee S [.ref v0, .int v1, .int v2, .int v3, .int v4, .int v5] Q :=
  openI (by decide) (Nat.le_of_ble_eq_true rfl) (fun X C E ht hn hE hl => by subst hE; exact r_sub [0, 1, 2, 3, 4, 5] rfl (T_X9_steps_0 C E ht hn h))
def rm_X9_there : Room := { frames := 7, cells := 8, slots := 7937, locals := 186 }
def P_X9_there_0 (Q : Int32 → HS → Prop) (v0 : Nat) (v1 : Int32) (v2 : Int32) (v3 : Int32) (v4 : Int32) (v5 : Int32) (S : HS) : Prop := ob S v0 9 ∧ (P_X9_wayTrouble v0 v1 v2 v3 v4 v5 (fun x3 S1 => Gr S S1 → (P_X9_refusedBy v0 x3 (fun x6 S4 => Gr S1 S4 → bl x6 → (((x6 = 0) → (∃ a8 : Nat, fR S4 v0 5 = some a8 ∧ (ob S4 a8 7 ∧ (P_X7_endFrom a8 v2 v4 (fun x11 S9 => Gr S4 S9 → (Q x11 S9)) S4)))) ∧ ((¬ x6 = 0) → (Q (-1 : Int32) S4)))) S1)) S)
set_option maxRecDepth 20000 in
set_option maxHeartbeats 4000000 in
theorem T_X9_there_0 {X : CX} {Q : Int32 → HS → Prop} (C : Cx X cX9_there RX9 6 rm_X9_there) (E : ReI X rm_X9_there Q) (ht : (xh X).sig.returnType = (some .int)) (hn : (xh X).name = yX9_there.name) {v0 : Nat} {v1 : Int32} {v2 : Int32} {v3 : Int32} {v4 : Int32} {v5 : Int32} {S : HS} (h : P_X9_there_0 Q v0 v1 v2 v3 v4 v5 S) : WS X 6 0 0 0 [(0, .ref v0), (1, .int v1), (2, .int v2), (3, .int v3), (4, .int v4), (5, .int v5)] [] S := by
  refine r_aload_n (pc := 0) C dX9_there_0 0 rfl ?_
  refine r_aload_n (pc := 1) C dX9_there_1 0 rfl ?_
  refine r_iload_n (pc := 2) C dX9_there_2 1 rfl ?_
  refine r_iload_n (pc := 3) C dX9_there_3 2 rfl ?_
  refine r_iload_n (pc := 4) C dX9_there_4 3 rfl ?_
  refine r_iload (pc := 5) C dX9_there_5 4 rfl ?_
  refine r_iload (pc := 7) C dX9_there_7 5 rfl ?_
  obtain ⟨o_v0, h⟩ := h
  refine r_callVi (pc := 9) C (rest := [.ref v0]) (a := v0) o_v0 [.int v1, .int v2, .int v3, .int v4, .int v5] yV_X9_wayTrouble g_817 (c_X9_wayTrouble h) dX9_there_9 rfl rfl (Nat.le_of_ble_eq_true rfl) ⟨by decide, by decide⟩ ⟨by decide, by decide⟩ (fun x3 S1 h g2 => ?_)
  have h := h g2
  have o_v0 := gr_ob g2 o_v0
  refine r_callVi0 (pc := 12) C (rest := []) (a := v0) o_v0 [.int x3] yV_X9_refusedBy g_683 (c_X9_refusedBy h) dX9_there_12 rfl rfl (Nat.le_of_ble_eq_true rfl) ⟨by decide, by decide⟩ ⟨by decide, by decide⟩ ⟨rfl, rfl⟩ (fun x6 S4 h g5 => ?_)
  have bx6 := h.1
  have h := h.2 g5 bx6
  have o_v0 := gr_ob g5 o_v0
  refine r_if_eq (pc := 15) C (tgt := 20) dX9_there_15 (by decide) (fun c7 => ?_) (fun c7 => ?_)
  · have h := h.1 c7
    refine r_aload_n (pc := 20) C dX9_there_20 0 rfl ?_
    obtain ⟨a8, ea8, h⟩ := h
    refine r_getr (pc := 21) C fL_X9_37 dX9_there_21 o_v0 ea8 ?_
    refine r_iload_n (pc := 24) C dX9_there_24 2 rfl ?_
    refine r_iload (pc := 25) C dX9_there_25 4 rfl ?_
    obtain ⟨o_a8, h⟩ := h
    refine r_callVi0 (pc := 27) C (rest := []) (a := a8) o_a8 [.int v2, .int v4] yV_X7_endFrom g_904 (c_X7_endFrom h) dX9_there_27 rfl rfl (Nat.le_of_ble_eq_true rfl) ⟨by decide, by decide⟩ ⟨by decide, by decide⟩ ⟨rfl, rfl⟩ (fun x11 S9 h g10 => ?_)
    have h := h g10
    have o_a8 := gr_ob g10 o_a8
    have o_v0 := gr_ob g10 o_v0
    exact r_iret (pc := 30) C E ht dX9_there_30 (by decide) (by decide) h
  · have h := h.2 c7
    refine r_iconst (pc := 18) C (v := (-1 : Int32)) dX9_there_18 (by decide) ?_
    exact r_iret (pc := 19) C E ht dX9_there_19 (by decide) (by decide) h
def P_X9_there (v0 : Nat) (v1 : Int32) (v2 : Int32) (v3 : Int32) (v4 : Int32) (v5 : Int32) (Q : Int32 → HS → Prop) (S : HS) : Prop := P_X9_there_0 Q v0 v1 v2 v3 v4 v5 S
theorem c_X9_there {l : Launch} {Ee : EE} {S : HS} {v0 : Nat} {v1 : Int32} {v2 : Int32} {v3 : Int32} {v4 : Int32} {v5 : Int32} {Q : Int32 → HS → Prop} (h : P_X9_there v0 v1 v2 v3 v4 v5 Q S) : MI l yX9_there cX9_there 6 (some .int) rm_X9_there Ee S [.ref v0, .int v1, .int v2, .int v3, .int v4, .int v5] Q :=
  openI (by decide) (Nat.le_of_ble_eq_true rfl) (fun X C E ht hn hE hl => by subst hE; exact r_sub [0, 1, 2, 3, 4, 5] rfl (T_X9_there_0 C E ht hn h))
end
section
def rm_X9_trouble : Room := { frames := 0, cells := 0, slots := 0, locals := 0 }
def P_X9_trouble_0 (Q : Int32 → HS → Prop) (v0 : Nat) (S : HS) : Prop := ob S v0 9 ∧ (∀ x1 : Int32, x1 = fI S v0 9 → (Q x1 S))
set_option maxRecDepth 20000 in
set_option maxHeartbeats 4000000 in
theorem T_X9_trouble_0 {X : CX} {Q : Int32 → HS → Prop} (C : Cx X cX9_trouble RX9 1 rm_X9_trouble) (E : ReI X rm_X9_trouble Q) (ht : (xh X).sig.returnType = (some .int)) (hn : (xh X).name = yX9_trouble.name) {v0 : Nat} {S : HS} (h : P_X9_trouble_0 Q v0 S) : WS X 1 0 0 0 [(0, .ref v0)] [] S := by
  refine r_aload_n (pc := 0) C dX9_trouble_0 0 rfl ?_
  obtain ⟨o_v0, h⟩ := h
  refine r_geti (pc := 1) C fL_X9_92 dX9_trouble_1 o_v0 ?_
  refine r_topi (fun x1 ex1 => ?_)
  have h := h x1 ex1
  exact r_iret (pc := 4) C E ht dX9_trouble_4 (by decide) (by decide) h
def P_X9_trouble (v0 : Nat) (Q : Int32 → HS → Prop) (S : HS) : Prop := P_X9_trouble_0 Q v0 S
theorem c_X9_trouble {l : Launch} {Ee : EE} {S : HS} {v0 : Nat} {Q : Int32 → HS → Prop} (h : P_X9_trouble v0 Q S) : MI l yX9_trouble cX9_trouble 1 (some .int) rm_X9_trouble Ee S [.ref v0] Q :=
  openI (by decide) (Nat.le_of_ble_eq_true rfl) (fun X C E ht hn hE hl => by subst hE; exact r_sub [0] rfl (T_X9_trouble_0 C E ht hn h))
def rm_X9_undo : Room := { frames := 2, cells := 0, slots := 0, locals := 42 }
def P_X9_undo_17 (Q : Int32 → HS → Prop) (s0 : Nat) (s1 : Int32) (S : HS) : Prop := ob S s0 9 ∧ (P_X9_refusedBy s0 s1 (fun x3 S1 => Gr S S1 → bl x3 → (((¬ x3 = 0) → (Q (0 : Int32) S1)) ∧ ((x3 = 0) → (Q (1 : Int32) S1)))) S)
set_option maxRecDepth 20000 in
set_option maxHeartbeats 4000000 in
theorem T_X9_undo_17 {X : CX} {Q : Int32 → HS → Prop} (C : Cx X cX9_undo RX9 1 rm_X9_undo) (E : ReI X rm_X9_undo (fun r S => bl r ∧ Q r S)) (ht : (xh X).sig.returnType = (some .boolean)) (hn : (xh X).name = yX9_undo.name) {s0 : Nat} {s1 : Int32} {S : HS} (h : P_X9_undo_17 Q s0 s1 S) : WS X 1 0 0 17 [] [.int s1, .ref s0] S := by
  obtain ⟨o_s0, h⟩ := h
  refine r_callVi0 (pc := 17) C (rest := []) (a := s0) o_s0 [.int s1] yV_X9_refusedBy g_683 (c_X9_refusedBy h) dX9_undo_17 rfl rfl (Nat.le_of_ble_eq_true rfl) ⟨by decide, by decide⟩ ⟨by decide, by decide⟩ ⟨rfl, rfl⟩ (fun x3 S1 h g2 => ?_)
  have bx3 := h.1
  have h := h.2 g2 bx3
  have o_s0 := gr_ob g2 o_s0
  refine r_if_ne (pc := 20) C (tgt := 27) dX9_undo_20 (by decide) (fun c4 => ?_) (fun c4 => ?_)
  · have h := h.1 c4
    refine r_iconst (pc := 27) C (v := (0 : Int32)) dX9_undo_27 (by decide) ?_
    exact r_zret (pc := 28) C E ht dX9_undo_28 (by decide) (by decide) (Or.inl rfl) h
  · have h := h.2 c4
    refine r_iconst (pc := 23) C (v := (1 : Int32)) dX9_undo_23 (by decide) ?_
    refine r_goto (pc := 24) C (tgt := 28) dX9_undo_24 (by decide) ?_
    exact r_zret (pc := 28) C E ht dX9_undo_28 (by decide) (by decide) (Or.inr rfl) h
def P_X9_undo_0 (Q : Int32 → HS → Prop) (v0 : Nat) (S : HS) : Prop := ob S v0 9 ∧ (∃ a1 : Nat, fR S v0 6 = some a1 ∧ (ob S a1 0 ∧ (P_X0_takeBack a1 (fun x4 S2 => Gr S S2 → bl x4 → (((x4 = 0) → (P_X9_undo_17 Q v0 (6 : Int32) S2)) ∧ ((¬ x4 = 0) → (P_X9_undo_17 Q v0 (0 : Int32) S2)))) S)))
set_option maxRecDepth 20000 in
set_option maxHeartbeats 4000000 in
theorem T_X9_undo_0 {X : CX} {Q : Int32 → HS → Prop} (C : Cx X cX9_undo RX9 1 rm_X9_undo) (E : ReI X rm_X9_undo (fun r S => bl r ∧ Q r S)) (ht : (xh X).sig.returnType = (some .boolean)) (hn : (xh X).name = yX9_undo.name) {v0 : Nat} {S : HS} (h : P_X9_undo_0 Q v0 S) : WS X 1 0 0 0 [(0, .ref v0)] [] S := by
  refine r_aload_n (pc := 0) C dX9_undo_0 0 rfl ?_
  refine r_aload_n (pc := 1) C dX9_undo_1 0 rfl ?_
  obtain ⟨o_v0, h⟩ := h
  obtain ⟨a1, ea1, h⟩ := h
  refine r_getr (pc := 2) C fL_X9_44 dX9_undo_2 o_v0 ea1 ?_
  obtain ⟨o_a1, h⟩ := h
  refine r_callVi0 (pc := 5) C (rest := [.ref v0]) (a := a1) o_a1 [] yV_X0_takeBack g_1040 (c_X0_takeBack h) dX9_undo_5 rfl rfl (Nat.le_of_ble_eq_true rfl) ⟨by decide, by decide⟩ ⟨by decide, by decide⟩ ⟨rfl, rfl⟩ (fun x4 S2 h g3 => ?_)
  have bx4 := h.1
  have h := h.2 g3 bx4
  have o_a1 := gr_ob g3 o_a1
  have o_v0 := gr_ob g3 o_v0
  refine r_if_eq (pc := 8) C (tgt := 15) dX9_undo_8 (by decide) (fun c5 => ?_) (fun c5 => ?_)
  · have h := h.1 c5
    refine r_bipush (pc := 15) C (v := (6 : Int32)) dX9_undo_15 (by decide) ?_
    exact r_sub [] rfl (T_X9_undo_17 C E ht hn h)
  · have h := h.2 c5
    refine r_iconst (pc := 11) C (v := (0 : Int32)) dX9_undo_11 (by decide) ?_
    refine r_goto (pc := 12) C (tgt := 17) dX9_undo_12 (by decide) ?_
    exact r_sub [] rfl (T_X9_undo_17 C E ht hn h)
def P_X9_undo (v0 : Nat) (Q : Int32 → HS → Prop) (S : HS) : Prop := P_X9_undo_0 Q v0 S
theorem c_X9_undo {l : Launch} {Ee : EE} {S : HS} {v0 : Nat} {Q : Int32 → HS → Prop} (h : P_X9_undo v0 Q S) : MI l yX9_undo cX9_undo 1 (some .boolean) rm_X9_undo Ee S [.ref v0] (fun r S => bl r ∧ Q r S) :=
  openI (by decide) (Nat.le_of_ble_eq_true rfl) (fun X C E ht hn hE hl => by subst hE; exact r_sub [0] rfl (T_X9_undo_0 C E ht hn h))
def rm_X9_walker : Room := { frames := 1, cells := 0, slots := 0, locals := 21 }
def P_X9_walker_21 (Q : Int32 → HS → Prop) (v0 : Nat) (S : HS) : Prop := ob S v0 9 ∧ (P_X9_refuse v0 (1 : Int32) (fun x3 S1 => Gr S S1 → (Q x3 S1)) S)
set_option maxRecDepth 20000 in
set_option maxHeartbeats 4000000 in
theorem T_X9_walker_21 {X : CX} {Q : Int32 → HS → Prop} (C : Cx X cX9_walker RX9 3 rm_X9_walker) (E : ReI X rm_X9_walker Q) (ht : (xh X).sig.returnType = (some .int)) (hn : (xh X).name = yX9_walker.name) {v0 : Nat} {S : HS} (h : P_X9_walker_21 Q v0 S) : WS X 3 0 0 21 [(0, .ref v0)] [] S := by
  refine r_aload_n (pc := 21) C dX9_walker_21 0 rfl ?_
  refine r_iconst (pc := 22) C (v := (1 : Int32)) dX9_walker_22 (by decide) ?_
  obtain ⟨o_v0, h⟩ := h
  refine r_callVi0 (pc := 23) C (rest := []) (a := v0) o_v0 [.int (1 : Int32)] yV_X9_refuse g_430 (c_X9_refuse h) dX9_walker_23 rfl rfl (Nat.le_of_ble_eq_true rfl) ⟨by decide, by decide⟩ ⟨by decide, by decide⟩ ⟨rfl, rfl⟩ (fun x3 S1 h g2 => ?_)
  have h := h g2
  have o_v0 := gr_ob g2 o_v0
  exact r_iret (pc := 26) C E ht dX9_walker_26 (by decide) (by decide) h
def P_X9_walker_0 (Q : Int32 → HS → Prop) (v0 : Nat) (v1 : Int32) (v2 : Int32) (S : HS) : Prop := ob S v0 9 ∧ (∃ a1 : Nat, fR S v0 2 = some a1 ∧ (ob S a1 8 ∧ (P_X8_hasWalker a1 v1 (fun x4 S2 => Gr S S2 → bl x4 → (((x4 = 0) → (P_X9_walker_21 Q v0 S2)) ∧ ((¬ x4 = 0) → (((v2 < 0) → (P_X9_walker_21 Q v0 S2)) ∧ ((¬ v2 < 0) → (((v2 ≤ (6 : Int32)) → (∃ a8 : Nat, fR S2 v0 2 = some a8 ∧ (ob S2 a8 8 ∧ (∃ a9 : Nat, fR S2 a8 9 = some a9 ∧ (ob S2 a9 19 ∧ (vp_in v1 (hN S2 a9) ∧ ∃ a11 : Nat, fR S2 a9 v1.toNatClampNeg = some a11 ∧ (ob S2 a11 6 ∧ (P_X6_tell a11 v2 (fun x14 S12 => Gr S2 S12 → (P_X9_grant v0 x14 (fun x17 S15 => Gr S12 S15 → (Q x17 S15)) S12)) S2)))))))) ∧ ((¬ v2 ≤ (6 : Int32)) → (P_X9_walker_21 Q v0 S2)))))))) S)))
set_option maxRecDepth 20000 in
set_option maxHeartbeats 4000000 in
theorem T_X9_walker_0 {X : CX} {Q : Int32 → HS → Prop} (C : Cx X cX9_walker RX9 3 rm_X9_walker) (E : ReI X rm_X9_walker Q) (ht : (xh X).sig.returnType = (some .int)) (hn : (xh X).name = yX9_walker.name) {v0 : Nat} {v1 : Int32} {v2 : Int32} {S : HS} (h : P_X9_walker_0 Q v0 v1 v2 S) : WS X 3 0 0 0 [(0, .ref v0), (1, .int v1), (2, .int v2)] [] S := by
  refine r_aload_n (pc := 0) C dX9_walker_0 0 rfl ?_
  obtain ⟨o_v0, h⟩ := h
  obtain ⟨a1, ea1, h⟩ := h
  refine r_getr (pc := 1) C fL_X9_16 dX9_walker_1 o_v0 ea1 ?_
  refine r_iload_n (pc := 4) C dX9_walker_4 1 rfl ?_
  obtain ⟨o_a1, h⟩ := h
  refine r_callVi0 (pc := 5) C (rest := []) (a := a1) o_a1 [.int v1] yV_X8_hasWalker g_664 (c_X8_hasWalker h) dX9_walker_5 rfl rfl (Nat.le_of_ble_eq_true rfl) ⟨by decide, by decide⟩ ⟨by decide, by decide⟩ ⟨rfl, rfl⟩ (fun x4 S2 h g3 => ?_)
  have bx4 := h.1
  have h := h.2 g3 bx4
  have o_a1 := gr_ob g3 o_a1
  have o_v0 := gr_ob g3 o_v0
  refine r_if_eq (pc := 8) C (tgt := 21) dX9_walker_8 (by decide) (fun c5 => ?_) (fun c5 => ?_)
  · have h := h.1 c5
    exact r_sub [0] rfl (T_X9_walker_21 C E ht hn h)
  · have h := h.2 c5
    refine r_iload_n (pc := 11) C dX9_walker_11 2 rfl ?_
    refine r_if_lt (pc := 12) C (tgt := 21) dX9_walker_12 (by decide) (fun c6 => ?_) (fun c6 => ?_)
    · have h := h.1 c6
      exact r_sub [0] rfl (T_X9_walker_21 C E ht hn h)
    · have h := h.2 c6
      refine r_iload_n (pc := 15) C dX9_walker_15 2 rfl ?_
      refine r_bipush (pc := 16) C (v := (6 : Int32)) dX9_walker_16 (by decide) ?_
      refine r_icmp_le (pc := 18) C (tgt := 27) dX9_walker_18 (by decide) (fun c7 => ?_) (fun c7 => ?_)
      · have h := h.1 c7
        refine r_aload_n (pc := 27) C dX9_walker_27 0 rfl ?_
        refine r_aload_n (pc := 28) C dX9_walker_28 0 rfl ?_
        obtain ⟨a8, ea8, h⟩ := h
        refine r_getr (pc := 29) C fL_X9_16 dX9_walker_29 o_v0 ea8 ?_
        obtain ⟨o_a8, h⟩ := h
        obtain ⟨a9, ea9, h⟩ := h
        refine r_getr (pc := 32) C fL_X9_108 dX9_walker_32 o_a8 ea9 ?_
        refine r_iload_n (pc := 35) C dX9_walker_35 1 rfl ?_
        obtain ⟨o_a9, h⟩ := h
        obtain ⟨i10, a11, ea11, h⟩ := h
        refine r_aald19 (pc := 36) C dX9_walker_36 o_a9 i10 ea11 ?_
        refine r_iload_n (pc := 37) C dX9_walker_37 2 rfl ?_
        obtain ⟨o_a11, h⟩ := h
        refine r_callVi0 (pc := 38) C (rest := [.ref v0]) (a := a11) o_a11 [.int v2] yV_X6_tell g_1064 (c_X6_tell h) dX9_walker_38 rfl rfl (Nat.le_of_ble_eq_true rfl) ⟨by decide, by decide⟩ ⟨by decide, by decide⟩ ⟨rfl, rfl⟩ (fun x14 S12 h g13 => ?_)
        have h := h g13
        have o_a1 := gr_ob g13 o_a1
        have o_a11 := gr_ob g13 o_a11
        have o_a8 := gr_ob g13 o_a8
        have o_a9 := gr_ob g13 o_a9
        have o_v0 := gr_ob g13 o_v0
        refine r_callVi0 (pc := 41) C (rest := []) (a := v0) o_v0 [.int x14] yV_X9_grant g_637 (c_X9_grant h) dX9_walker_41 rfl rfl (Nat.le_of_ble_eq_true rfl) ⟨by decide, by decide⟩ ⟨by decide, by decide⟩ ⟨rfl, rfl⟩ (fun x17 S15 h g16 => ?_)
        have h := h g16
        have o_a1 := gr_ob g16 o_a1
        have o_a11 := gr_ob g16 o_a11
        have o_a8 := gr_ob g16 o_a8
        have o_a9 := gr_ob g16 o_a9
        have o_v0 := gr_ob g16 o_v0
        exact r_iret (pc := 44) C E ht dX9_walker_44 (by decide) (by decide) h
      · have h := h.2 c7
        exact r_sub [0] rfl (T_X9_walker_21 C E ht hn h)
def P_X9_walker (v0 : Nat) (v1 : Int32) (v2 : Int32) (Q : Int32 → HS → Prop) (S : HS) : Prop := P_X9_walker_0 Q v0 v1 v2 S
theorem c_X9_walker {l : Launch} {Ee : EE} {S : HS} {v0 : Nat} {v1 : Int32} {v2 : Int32} {Q : Int32 → HS → Prop} (h : P_X9_walker v0 v1 v2 Q S) : MI l yX9_walker cX9_walker 3 (some .int) rm_X9_walker Ee S [.ref v0, .int v1, .int v2] Q :=
  openI (by decide) (Nat.le_of_ble_eq_true rfl) (fun X C E ht hn hE hl => by subst hE; exact r_sub [0, 1, 2] rfl (T_X9_walker_0 C E ht hn h))
def rm_X9_wet : Room := { frames := 4, cells := 0, slots := 0, locals := 101 }
def P_X9_wet_0 (Q : Int64 → HS → Prop) (v0 : Nat) (v1 : Int32) (v2 : Int32) (v3 : Int32) (v4 : Int32) (v5 : Int32) (v6 : Int32) (S : HS) : Prop := ob S v0 9 ∧ (P_X9_legTrouble v0 v1 v2 v3 v4 v5 (fun x3 S1 => Gr S S1 → (P_X9_refusedBy v0 x3 (fun x6 S4 => Gr S1 S4 → bl x6 → (((x6 = 0) → (∃ a8 : Nat, fR S4 v0 4 = some a8 ∧ (∃ a9 : Nat, fR S4 v0 2 = some a9 ∧ (ob S4 a9 8 ∧ (∃ a10 : Nat, fR S4 a9 9 = some a10 ∧ (ob S4 a10 19 ∧ (vp_in v1 (hN S4 a10) ∧ ∃ a12 : Nat, fR S4 a10 v1.toNatClampNeg = some a12 ∧ (∃ a13 : Nat, fR S4 v0 2 = some a13 ∧ (ob S4 a13 8 ∧ (∃ a14 : Nat, fR S4 a13 8 = some a14 ∧ (ob S4 a14 18 ∧ (vp_in v2 (hN S4 a14) ∧ ∃ a16 : Nat, fR S4 a14 v2.toNatClampNeg = some a16 ∧ (∃ a17 : Nat, fR S4 v0 2 = some a17 ∧ (ob S4 a17 8 ∧ (∃ a18 : Nat, fR S4 a17 6 = some a18 ∧ (ob S4 a18 17 ∧ (vp_in v4 (hN S4 a18) ∧ ∃ a20 : Nat, fR S4 a18 v4.toNatClampNeg = some a20 ∧ (ob S4 a8 1 ∧ (P_X1_wetOf a8 a12 a16 v3 a20 v5 (fun x23 S21 => Gr S4 S21 → (P_X9_fraction x23 (2520 : Int64) v6 (fun x26 S24 => Gr S21 S24 → (Q x26 S24)) S21)) S4))))))))))))))))))) ∧ ((¬ x6 = 0) → (Q (-1 : Int64) S4)))) S1)) S)
set_option maxRecDepth 20000 in
set_option maxHeartbeats 4000000 in
theorem T_X9_wet_0 {X : CX} {Q : Int64 → HS → Prop} (C : Cx X cX9_wet RX9 7 rm_X9_wet) (E : ReJ X rm_X9_wet Q) (ht : (xh X).sig.returnType = (some .long)) (hn : (xh X).name = yX9_wet.name) {v0 : Nat} {v1 : Int32} {v2 : Int32} {v3 : Int32} {v4 : Int32} {v5 : Int32} {v6 : Int32} {S : HS} (h : P_X9_wet_0 Q v0 v1 v2 v3 v4 v5 v6 S) : WS X 7 0 0 0 [(0, .ref v0), (1, .int v1), (2, .int v2), (3, .int v3), (4, .int v4), (5, .int v5), (6, .int v6)] [] S := by
  refine r_aload_n (pc := 0) C dX9_wet_0 0 rfl ?_
  refine r_aload_n (pc := 1) C dX9_wet_1 0 rfl ?_
  refine r_iload_n (pc := 2) C dX9_wet_2 1 rfl ?_
  refine r_iload_n (pc := 3) C dX9_wet_3 2 rfl ?_
  refine r_iload_n (pc := 4) C dX9_wet_4 3 rfl ?_
  refine r_iload (pc := 5) C dX9_wet_5 4 rfl ?_
  refine r_iload (pc := 7) C dX9_wet_7 5 rfl ?_
  obtain ⟨o_v0, h⟩ := h
  refine r_callVi0 (pc := 9) C (rest := [.ref v0]) (a := v0) o_v0 [.int v1, .int v2, .int v3, .int v4, .int v5] yV_X9_legTrouble g_656 (c_X9_legTrouble h) dX9_wet_9 rfl rfl (Nat.le_of_ble_eq_true rfl) ⟨by decide, by decide⟩ ⟨by decide, by decide⟩ ⟨rfl, rfl⟩ (fun x3 S1 h g2 => ?_)
  have h := h g2
  have o_v0 := gr_ob g2 o_v0
  refine r_callVi0 (pc := 12) C (rest := []) (a := v0) o_v0 [.int x3] yV_X9_refusedBy g_683 (c_X9_refusedBy h) dX9_wet_12 rfl rfl (Nat.le_of_ble_eq_true rfl) ⟨by decide, by decide⟩ ⟨by decide, by decide⟩ ⟨rfl, rfl⟩ (fun x6 S4 h g5 => ?_)
  have bx6 := h.1
  have h := h.2 g5 bx6
  have o_v0 := gr_ob g5 o_v0
  refine r_if_eq (pc := 15) C (tgt := 22) dX9_wet_15 (by decide) (fun c7 => ?_) (fun c7 => ?_)
  · have h := h.1 c7
    refine r_aload_n (pc := 22) C dX9_wet_22 0 rfl ?_
    obtain ⟨a8, ea8, h⟩ := h
    refine r_getr (pc := 23) C fL_X9_30 dX9_wet_23 o_v0 ea8 ?_
    refine r_aload_n (pc := 26) C dX9_wet_26 0 rfl ?_
    obtain ⟨a9, ea9, h⟩ := h
    refine r_getr (pc := 27) C fL_X9_16 dX9_wet_27 o_v0 ea9 ?_
    obtain ⟨o_a9, h⟩ := h
    obtain ⟨a10, ea10, h⟩ := h
    refine r_getr (pc := 30) C fL_X9_108 dX9_wet_30 o_a9 ea10 ?_
    refine r_iload_n (pc := 33) C dX9_wet_33 1 rfl ?_
    obtain ⟨o_a10, h⟩ := h
    obtain ⟨i11, a12, ea12, h⟩ := h
    refine r_aald19 (pc := 34) C dX9_wet_34 o_a10 i11 ea12 ?_
    refine r_aload_n (pc := 35) C dX9_wet_35 0 rfl ?_
    obtain ⟨a13, ea13, h⟩ := h
    refine r_getr (pc := 36) C fL_X9_16 dX9_wet_36 o_v0 ea13 ?_
    obtain ⟨o_a13, h⟩ := h
    obtain ⟨a14, ea14, h⟩ := h
    refine r_getr (pc := 39) C fL_X9_112 dX9_wet_39 o_a13 ea14 ?_
    refine r_iload_n (pc := 42) C dX9_wet_42 2 rfl ?_
    obtain ⟨o_a14, h⟩ := h
    obtain ⟨i15, a16, ea16, h⟩ := h
    refine r_aald18 (pc := 43) C dX9_wet_43 o_a14 i15 ea16 ?_
    refine r_iload_n (pc := 44) C dX9_wet_44 3 rfl ?_
    refine r_aload_n (pc := 45) C dX9_wet_45 0 rfl ?_
    obtain ⟨a17, ea17, h⟩ := h
    refine r_getr (pc := 46) C fL_X9_16 dX9_wet_46 o_v0 ea17 ?_
    obtain ⟨o_a17, h⟩ := h
    obtain ⟨a18, ea18, h⟩ := h
    refine r_getr (pc := 49) C fL_X9_116 dX9_wet_49 o_a17 ea18 ?_
    refine r_iload (pc := 52) C dX9_wet_52 4 rfl ?_
    obtain ⟨o_a18, h⟩ := h
    obtain ⟨i19, a20, ea20, h⟩ := h
    refine r_aald17 (pc := 54) C dX9_wet_54 o_a18 i19 ea20 ?_
    refine r_iload (pc := 55) C dX9_wet_55 5 rfl ?_
    obtain ⟨o_a8, h⟩ := h
    refine r_callVl0 (pc := 57) C (rest := []) (a := a8) o_a8 [.ref a12, .ref a16, .int v3, .ref a20, .int v5] yV_X1_wetOf g_688 (c_X1_wetOf h) dX9_wet_57 rfl rfl (Nat.le_of_ble_eq_true rfl) ⟨by decide, by decide⟩ ⟨by decide, by decide⟩ ⟨rfl, rfl⟩ (fun x23 S21 h g22 => ?_)
    have h := h g22
    have o_a10 := gr_ob g22 o_a10
    have o_a13 := gr_ob g22 o_a13
    have o_a14 := gr_ob g22 o_a14
    have o_a17 := gr_ob g22 o_a17
    have o_a18 := gr_ob g22 o_a18
    have o_a8 := gr_ob g22 o_a8
    have o_a9 := gr_ob g22 o_a9
    have o_v0 := gr_ob g22 o_v0
    refine r_ldc2 (pc := 60) C (v := (2520 : Int64)) dX9_wet_60 g_721 ?_
    refine r_iload (pc := 63) C dX9_wet_63 6 rfl ?_
    refine r_callSl0 (pc := 65) C (rest := []) rfl [.long x23, .long (2520 : Int64), .int v6] yS_X9_fraction g_722 (c_X9_fraction h) dX9_wet_65 rfl rfl (Nat.le_of_ble_eq_true rfl) ⟨by decide, by decide⟩ ⟨by decide, by decide⟩ ⟨rfl, rfl⟩ (fun x26 S24 h g25 => ?_)
    have h := h g25
    have o_a10 := gr_ob g25 o_a10
    have o_a13 := gr_ob g25 o_a13
    have o_a14 := gr_ob g25 o_a14
    have o_a17 := gr_ob g25 o_a17
    have o_a18 := gr_ob g25 o_a18
    have o_a8 := gr_ob g25 o_a8
    have o_a9 := gr_ob g25 o_a9
    have o_v0 := gr_ob g25 o_v0
    exact r_lret (pc := 68) C E ht dX9_wet_68 (by decide) (by decide) h
  · have h := h.2 c7
    refine r_ldc2 (pc := 18) C (v := (-1 : Int64)) dX9_wet_18 g_687 ?_
    exact r_lret (pc := 21) C E ht dX9_wet_21 (by decide) (by decide) h
def P_X9_wet (v0 : Nat) (v1 : Int32) (v2 : Int32) (v3 : Int32) (v4 : Int32) (v5 : Int32) (v6 : Int32) (Q : Int64 → HS → Prop) (S : HS) : Prop := P_X9_wet_0 Q v0 v1 v2 v3 v4 v5 v6 S
theorem c_X9_wet {l : Launch} {Ee : EE} {S : HS} {v0 : Nat} {v1 : Int32} {v2 : Int32} {v3 : Int32} {v4 : Int32} {v5 : Int32} {v6 : Int32} {Q : Int64 → HS → Prop} (h : P_X9_wet v0 v1 v2 v3 v4 v5 v6 Q S) : MJ l yX9_wet cX9_wet 7 (some .long) rm_X9_wet Ee S [.ref v0, .int v1, .int v2, .int v3, .int v4, .int v5, .int v6] Q :=
  openJ (by decide) (Nat.le_of_ble_eq_true rfl) (fun X C E ht hn hE hl => by subst hE; exact r_sub [0, 1, 2, 3, 4, 5, 6] rfl (T_X9_wet_0 C E ht hn h))
def rm_X9_wetness : Room := { frames := 2, cells := 0, slots := 0, locals := 56 }
def P_X9_wetness_27 (Q : Int64 → HS → Prop) (v0 : Nat) (S : HS) : Prop := ob S v0 9 ∧ (P_X9_refuse v0 (1 : Int32) (fun x3 S1 => Gr S S1 → (Q x3.toInt64 S1)) S)
set_option maxRecDepth 20000 in
set_option maxHeartbeats 4000000 in
theorem T_X9_wetness_27 {X : CX} {Q : Int64 → HS → Prop} (C : Cx X cX9_wetness RX9 4 rm_X9_wetness) (E : ReJ X rm_X9_wetness Q) (ht : (xh X).sig.returnType = (some .long)) (hn : (xh X).name = yX9_wetness.name) {v0 : Nat} {S : HS} (h : P_X9_wetness_27 Q v0 S) : WS X 4 0 0 27 [(0, .ref v0)] [] S := by
  refine r_aload_n (pc := 27) C dX9_wetness_27 0 rfl ?_
  refine r_iconst (pc := 28) C (v := (1 : Int32)) dX9_wetness_28 (by decide) ?_
  obtain ⟨o_v0, h⟩ := h
  refine r_callVi0 (pc := 29) C (rest := []) (a := v0) o_v0 [.int (1 : Int32)] yV_X9_refuse g_430 (c_X9_refuse h) dX9_wetness_29 rfl rfl (Nat.le_of_ble_eq_true rfl) ⟨by decide, by decide⟩ ⟨by decide, by decide⟩ ⟨rfl, rfl⟩ (fun x3 S1 h g2 => ?_)
  have h := h g2
  have o_v0 := gr_ob g2 o_v0
  refine r_i2l (pc := 32) C dX9_wetness_32 ?_
  exact r_lret (pc := 33) C E ht dX9_wetness_33 (by decide) (by decide) h
def P_X9_wetness_0 (Q : Int64 → HS → Prop) (v0 : Nat) (v1 : Int32) (S : HS) : Prop := ob S v0 9 ∧ (∃ a1 : Nat, fR S v0 6 = some a1 ∧ (ob S a1 0 ∧ (P_X0_isOn a1 (fun x4 S2 => Gr S S2 → bl x4 → (((x4 = 0) → (P_X9_wetness_27 Q v0 S2)) ∧ ((¬ x4 = 0) → (∃ a6 : Nat, fR S2 v0 2 = some a6 ∧ (∃ a7 : Nat, fR S2 v0 6 = some a7 ∧ (ob S2 a7 0 ∧ (∀ x8 : Int32, x8 = fI S2 a7 0 → (ob S2 a6 8 ∧ (P_X8_hasWalker a6 x8 (fun x11 S9 => Gr S2 S9 → bl x11 → (((¬ x11 = 0) → (∀ S13 : HS, S13 = sI S9 v0 9 (0 : Int32) → (∃ a14 : Nat, fR S13 v0 6 = some a14 ∧ (ob S13 a14 0 ∧ (∃ a15 : Nat, fR S13 a14 4 = some a15 ∧ (ob S13 a15 2 ∧ (P_X2_allGot a15 (fun x18 S16 => Gr S13 S16 → (∃ a19 : Nat, fR S16 v0 2 = some a19 ∧ (ob S16 a19 8 ∧ (∃ a20 : Nat, fR S16 a19 9 = some a20 ∧ (∃ a21 : Nat, fR S16 v0 6 = some a21 ∧ (ob S16 a21 0 ∧ (∀ x22 : Int32, x22 = fI S16 a21 0 → (ob S16 a20 19 ∧ (vp_in x22 (hN S16 a20) ∧ ∃ a24 : Nat, fR S16 a20 x22.toNatClampNeg = some a24 ∧ (P_X9_coatParts a24 (fun x27 S25 => Gr S16 S25 → (∀ x28 : Int64, x28 = x18 - x27 → (∀ x29 : Int64, x29 = (if (0 : Int64) < x28 then x28 else (0 : Int64)) → (P_X9_fraction x29 (2520 : Int64) v1 (fun x32 S30 => Gr S25 S30 → (Q x32 S30)) S25)))) S16)))))))))) S13))))))) ∧ ((x11 = 0) → (P_X9_wetness_27 Q v0 S9)))) S2))))))))) S)))
set_option maxRecDepth 20000 in
set_option maxHeartbeats 4000000 in
theorem T_X9_wetness_0 {X : CX} {Q : Int64 → HS → Prop} (C : Cx X cX9_wetness RX9 4 rm_X9_wetness) (E : ReJ X rm_X9_wetness Q) (ht : (xh X).sig.returnType = (some .long)) (hn : (xh X).name = yX9_wetness.name) {v0 : Nat} {v1 : Int32} {S : HS} (h : P_X9_wetness_0 Q v0 v1 S) : WS X 4 0 0 0 [(0, .ref v0), (1, .int v1)] [] S := by
  refine r_aload_n (pc := 0) C dX9_wetness_0 0 rfl ?_
  obtain ⟨o_v0, h⟩ := h
  obtain ⟨a1, ea1, h⟩ := h
  refine r_getr (pc := 1) C fL_X9_44 dX9_wetness_1 o_v0 ea1 ?_
  obtain ⟨o_a1, h⟩ := h
  refine r_callVi0 (pc := 4) C (rest := []) (a := a1) o_a1 [] yV_X0_isOn g_981 (c_X0_isOn h) dX9_wetness_4 rfl rfl (Nat.le_of_ble_eq_true rfl) ⟨by decide, by decide⟩ ⟨by decide, by decide⟩ ⟨rfl, rfl⟩ (fun x4 S2 h g3 => ?_)
  have bx4 := h.1
  have h := h.2 g3 bx4
  have o_a1 := gr_ob g3 o_a1
  have o_v0 := gr_ob g3 o_v0
  refine r_if_eq (pc := 7) C (tgt := 27) dX9_wetness_7 (by decide) (fun c5 => ?_) (fun c5 => ?_)
  · have h := h.1 c5
    exact r_sub [0] rfl (T_X9_wetness_27 C E ht hn h)
  · have h := h.2 c5
    refine r_aload_n (pc := 10) C dX9_wetness_10 0 rfl ?_
    obtain ⟨a6, ea6, h⟩ := h
    refine r_getr (pc := 11) C fL_X9_16 dX9_wetness_11 o_v0 ea6 ?_
    refine r_aload_n (pc := 14) C dX9_wetness_14 0 rfl ?_
    obtain ⟨a7, ea7, h⟩ := h
    refine r_getr (pc := 15) C fL_X9_44 dX9_wetness_15 o_v0 ea7 ?_
    obtain ⟨o_a7, h⟩ := h
    refine r_geti (pc := 18) C fL_X9_282 dX9_wetness_18 o_a7 ?_
    refine r_topi (fun x8 ex8 => ?_)
    have h := h x8 ex8
    obtain ⟨o_a6, h⟩ := h
    refine r_callVi0 (pc := 21) C (rest := []) (a := a6) o_a6 [.int x8] yV_X8_hasWalker g_664 (c_X8_hasWalker h) dX9_wetness_21 rfl rfl (Nat.le_of_ble_eq_true rfl) ⟨by decide, by decide⟩ ⟨by decide, by decide⟩ ⟨rfl, rfl⟩ (fun x11 S9 h g10 => ?_)
    have bx11 := h.1
    have h := h.2 g10 bx11
    have o_a1 := gr_ob g10 o_a1
    have o_a6 := gr_ob g10 o_a6
    have o_a7 := gr_ob g10 o_a7
    have o_v0 := gr_ob g10 o_v0
    refine r_if_ne (pc := 24) C (tgt := 34) dX9_wetness_24 (by decide) (fun c12 => ?_) (fun c12 => ?_)
    · have h := h.1 c12
      refine r_aload_n (pc := 34) C dX9_wetness_34 0 rfl ?_
      refine r_iconst (pc := 35) C (v := (0 : Int32)) dX9_wetness_35 (by decide) ?_
      refine r_puti (pc := 36) C pfL_X9_92 dX9_wetness_36 o_v0 ?_
      refine r_heap (fun S13 eS13 => ?_)
      have h := h S13 eS13
      have o_a1 := ob_I eS13 o_a1
      have o_a6 := ob_I eS13 o_a6
      have o_a7 := ob_I eS13 o_a7
      have o_v0 := ob_I eS13 o_v0
      refine r_aload_n (pc := 39) C dX9_wetness_39 0 rfl ?_
      obtain ⟨a14, ea14, h⟩ := h
      refine r_getr (pc := 40) C fL_X9_44 dX9_wetness_40 o_v0 ea14 ?_
      obtain ⟨o_a14, h⟩ := h
      obtain ⟨a15, ea15, h⟩ := h
      refine r_getr (pc := 43) C fL_X9_287 dX9_wetness_43 o_a14 ea15 ?_
      obtain ⟨o_a15, h⟩ := h
      refine r_callVl0 (pc := 46) C (rest := []) (a := a15) o_a15 [] yV_X2_allGot g_1022 (c_X2_allGot h) dX9_wetness_46 rfl rfl (Nat.le_of_ble_eq_true rfl) ⟨by decide, by decide⟩ ⟨by decide, by decide⟩ ⟨rfl, rfl⟩ (fun x18 S16 h g17 => ?_)
      have h := h g17
      have o_a1 := gr_ob g17 o_a1
      have o_a14 := gr_ob g17 o_a14
      have o_a15 := gr_ob g17 o_a15
      have o_a6 := gr_ob g17 o_a6
      have o_a7 := gr_ob g17 o_a7
      have o_v0 := gr_ob g17 o_v0
      refine r_aload_n (pc := 49) C dX9_wetness_49 0 rfl ?_
      obtain ⟨a19, ea19, h⟩ := h
      refine r_getr (pc := 50) C fL_X9_16 dX9_wetness_50 o_v0 ea19 ?_
      obtain ⟨o_a19, h⟩ := h
      obtain ⟨a20, ea20, h⟩ := h
      refine r_getr (pc := 53) C fL_X9_108 dX9_wetness_53 o_a19 ea20 ?_
      refine r_aload_n (pc := 56) C dX9_wetness_56 0 rfl ?_
      obtain ⟨a21, ea21, h⟩ := h
      refine r_getr (pc := 57) C fL_X9_44 dX9_wetness_57 o_v0 ea21 ?_
      obtain ⟨o_a21, h⟩ := h
      refine r_geti (pc := 60) C fL_X9_282 dX9_wetness_60 o_a21 ?_
      refine r_topi (fun x22 ex22 => ?_)
      have h := h x22 ex22
      obtain ⟨o_a20, h⟩ := h
      obtain ⟨i23, a24, ea24, h⟩ := h
      refine r_aald19 (pc := 63) C dX9_wetness_63 o_a20 i23 ea24 ?_
      refine r_callSl0 (pc := 64) C (rest := [.long x18]) rfl [.ref a24] yS_X9_coatParts g_1026 (c_X9_coatParts h) dX9_wetness_64 rfl rfl (Nat.le_of_ble_eq_true rfl) ⟨by decide, by decide⟩ ⟨by decide, by decide⟩ ⟨rfl, rfl⟩ (fun x27 S25 h g26 => ?_)
      have h := h g26
      have o_a1 := gr_ob g26 o_a1
      have o_a14 := gr_ob g26 o_a14
      have o_a15 := gr_ob g26 o_a15
      have o_a19 := gr_ob g26 o_a19
      have o_a20 := gr_ob g26 o_a20
      have o_a21 := gr_ob g26 o_a21
      have o_a6 := gr_ob g26 o_a6
      have o_a7 := gr_ob g26 o_a7
      have o_v0 := gr_ob g26 o_v0
      refine r_lsub (pc := 67) C dX9_wetness_67 ?_
      refine r_topl (fun x28 ex28 => ?_)
      have h := h x28 ex28
      refine r_lstore_n (pc := 68) C dX9_wetness_68 rfl (by decide) (lv' := [(2, .long x28), (0, .ref v0), (1, .int v1)]) rfl ?_
      refine r_lload_n (pc := 69) C dX9_wetness_69 0 rfl ?_
      refine r_lconst (pc := 70) C (v := (0 : Int64)) dX9_wetness_70 (by decide) ?_
      refine r_maxl (pc := 71) C g_1029 dX9_wetness_71 (by decide) (Nat.le_of_ble_eq_true rfl) (by decide) (by decide) ?_
      refine r_topl (fun x29 ex29 => ?_)
      have h := h x29 ex29
      refine r_ldc2 (pc := 74) C (v := (2520 : Int64)) dX9_wetness_74 g_721 ?_
      refine r_iload_n (pc := 77) C dX9_wetness_77 2 rfl ?_
      refine r_callSl0 (pc := 78) C (rest := []) rfl [.long x29, .long (2520 : Int64), .int v1] yS_X9_fraction g_722 (c_X9_fraction h) dX9_wetness_78 rfl rfl (Nat.le_of_ble_eq_true rfl) ⟨by decide, by decide⟩ ⟨by decide, by decide⟩ ⟨rfl, rfl⟩ (fun x32 S30 h g31 => ?_)
      have h := h g31
      have o_a1 := gr_ob g31 o_a1
      have o_a14 := gr_ob g31 o_a14
      have o_a15 := gr_ob g31 o_a15
      have o_a19 := gr_ob g31 o_a19
      have o_a20 := gr_ob g31 o_a20
      have o_a21 := gr_ob g31 o_a21
      have o_a6 := gr_ob g31 o_a6
      have o_a7 := gr_ob g31 o_a7
      have o_v0 := gr_ob g31 o_v0
      exact r_lret (pc := 81) C E ht dX9_wetness_81 (by decide) (by decide) h
    · have h := h.2 c12
      exact r_sub [0] rfl (T_X9_wetness_27 C E ht hn h)
def P_X9_wetness (v0 : Nat) (v1 : Int32) (Q : Int64 → HS → Prop) (S : HS) : Prop := P_X9_wetness_0 Q v0 v1 S
theorem c_X9_wetness {l : Launch} {Ee : EE} {S : HS} {v0 : Nat} {v1 : Int32} {Q : Int64 → HS → Prop} (h : P_X9_wetness v0 v1 Q S) : MJ l yX9_wetness cX9_wetness 4 (some .long) rm_X9_wetness Ee S [.ref v0, .int v1] Q :=
  openJ (by decide) (Nat.le_of_ble_eq_true rfl) (fun X C E ht hn hE hl => by subst hE; exact r_sub [0, 1] rfl (T_X9_wetness_0 C E ht hn h))
def rm_X9_where : Room := { frames := 0, cells := 0, slots := 0, locals := 0 }
def P_X9_where_0 (Q : Int32 → HS → Prop) (v0 : Nat) (S : HS) : Prop := ob S v0 9 ∧ (∀ x1 : Int32, x1 = fI S v0 9 → (((¬ x1 = (4 : Int32)) → (Q (-1 : Int32) S)) ∧ ((x1 = (4 : Int32)) → (∀ x3 : Int32, x3 = fI S v0 8 → (Q x3 S)))))
set_option maxRecDepth 20000 in
set_option maxHeartbeats 4000000 in
theorem T_X9_where_0 {X : CX} {Q : Int32 → HS → Prop} (C : Cx X cX9_where RX9 1 rm_X9_where) (E : ReI X rm_X9_where Q) (ht : (xh X).sig.returnType = (some .int)) (hn : (xh X).name = yX9_where.name) {v0 : Nat} {S : HS} (h : P_X9_where_0 Q v0 S) : WS X 1 0 0 0 [(0, .ref v0)] [] S := by
  refine r_aload_n (pc := 0) C dX9_where_0 0 rfl ?_
  obtain ⟨o_v0, h⟩ := h
  refine r_geti (pc := 1) C fL_X9_92 dX9_where_1 o_v0 ?_
  refine r_topi (fun x1 ex1 => ?_)
  have h := h x1 ex1
  refine r_iconst (pc := 4) C (v := (4 : Int32)) dX9_where_4 (by decide) ?_
  refine r_icmp_ne (pc := 5) C (tgt := 15) dX9_where_5 (by decide) (fun c2 => ?_) (fun c2 => ?_)
  · have h := h.1 c2
    refine r_iconst (pc := 15) C (v := (-1 : Int32)) dX9_where_15 (by decide) ?_
    exact r_iret (pc := 16) C E ht dX9_where_16 (by decide) (by decide) h
  · have h := h.2 c2
    refine r_aload_n (pc := 8) C dX9_where_8 0 rfl ?_
    refine r_geti (pc := 9) C fL_X9_73 dX9_where_9 o_v0 ?_
    refine r_topi (fun x3 ex3 => ?_)
    have h := h x3 ex3
    refine r_goto (pc := 12) C (tgt := 16) dX9_where_12 (by decide) ?_
    exact r_iret (pc := 16) C E ht dX9_where_16 (by decide) (by decide) h
def P_X9_where (v0 : Nat) (Q : Int32 → HS → Prop) (S : HS) : Prop := P_X9_where_0 Q v0 S
theorem c_X9_where {l : Launch} {Ee : EE} {S : HS} {v0 : Nat} {Q : Int32 → HS → Prop} (h : P_X9_where v0 Q S) : MI l yX9_where cX9_where 1 (some .int) rm_X9_where Ee S [.ref v0] Q :=
  openI (by decide) (Nat.le_of_ble_eq_true rfl) (fun X C E ht hn hE hl => by subst hE; exact r_sub [0] rfl (T_X9_where_0 C E ht hn h))
def rm_X9_world : Room := { frames := 11, cells := 0, slots := 0, locals := 257 }
def P_X9_world_12 (Q : Int32 → HS → Prop) (v0 : Nat) (S : HS) : Prop := ob S v0 9 ∧ (P_X9_refuse v0 (2 : Int32) (fun x3 S1 => Gr S S1 → (Q x3 S1)) S)
set_option maxRecDepth 20000 in
set_option maxHeartbeats 4000000 in
theorem T_X9_world_12 {X : CX} {Q : Int32 → HS → Prop} (C : Cx X cX9_world RX9 3 rm_X9_world) (E : ReI X rm_X9_world Q) (ht : (xh X).sig.returnType = (some .int)) (hn : (xh X).name = yX9_world.name) {v0 : Nat} {S : HS} (h : P_X9_world_12 Q v0 S) : WS X 3 0 0 12 [(0, .ref v0)] [] S := by
  refine r_aload_n (pc := 12) C dX9_world_12 0 rfl ?_
  refine r_iconst (pc := 13) C (v := (2 : Int32)) dX9_world_13 (by decide) ?_
  obtain ⟨o_v0, h⟩ := h
  refine r_callVi0 (pc := 14) C (rest := []) (a := v0) o_v0 [.int (2 : Int32)] yV_X9_refuse g_430 (c_X9_refuse h) dX9_world_14 rfl rfl (Nat.le_of_ble_eq_true rfl) ⟨by decide, by decide⟩ ⟨by decide, by decide⟩ ⟨rfl, rfl⟩ (fun x3 S1 h g2 => ?_)
  have h := h g2
  have o_v0 := gr_ob g2 o_v0
  exact r_iret (pc := 17) C E ht dX9_world_17 (by decide) (by decide) h
def P_X9_world_0 (Q : Int32 → HS → Prop) (v0 : Nat) (v1 : Int32) (S : HS) : Prop := ((v1 < 0) → (P_X9_world_12 Q v0 S)) ∧ ((¬ v1 < 0) → (ob S v0 9 ∧ (∀ x2 : Int32, x2 = fI S v0 1 → (((v1 ≤ x2) → (∃ a4 : Nat, fR S v0 3 = some a4 ∧ (∃ a5 : Nat, fR S v0 0 = some a5 ∧ (ob S a4 4 ∧ (P_X4_read a4 a5 v1 (fun x8 S6 => Gr S S6 → bl x8 → (∀ S9 : HS, S9 = sI S6 v0 1 (0 : Int32) → (∃ a10 : Nat, fR S9 v0 3 = some a10 ∧ (ob S9 a10 4 ∧ (∀ x11 : Int32, x11 = fI S9 a10 0 → (∀ S12 : HS, S12 = sI S9 v0 7 x11 → (∃ a13 : Nat, fR S12 v0 3 = some a13 ∧ (ob S12 a13 4 ∧ (∀ x14 : Int32, x14 = fI S12 a13 1 → (∀ S15 : HS, S15 = sI S12 v0 8 x14 → (((¬ x8 = 0) → (∃ a17 : Nat, fR S15 v0 3 = some a17 ∧ (∃ a18 : Nat, fR S15 v0 2 = some a18 ∧ (ob S15 a17 4 ∧ (P_X4_exchange a17 a18 (fun a21 S19 => Gr S15 S19 → (∀ S22 : HS, S22 = sR S19 v0 2 (some a21) → (∃ a23 : Nat, fR S22 v0 5 = some a23 ∧ (ob S22 a23 7 ∧ (P_X7_forget a23 (fun S24 => Gr S22 S24 → (∃ a27 : Nat, fR S24 v0 6 = some a27 ∧ (ob S24 a27 0 ∧ (P_X0_end a27 (fun S28 => Gr S24 S28 → (∃ a31 : Nat, fR S28 v0 2 = some a31 ∧ (ob S28 a31 8 ∧ (∀ x32 : Int32, x32 = fI S28 a31 4 → (P_X9_grant v0 x32 (fun x35 S33 => Gr S28 S33 → (Q x35 S33)) S28))))) S24)))) S22))))) S15))))) ∧ ((x8 = 0) → (P_X9_refuse v0 (4 : Int32) (fun x38 S36 => Gr S15 S36 → (Q x38 S36)) S15))))))))))))) S))))) ∧ ((¬ v1 ≤ x2) → (P_X9_world_12 Q v0 S))))))
set_option maxRecDepth 20000 in
set_option maxHeartbeats 4000000 in
theorem T_X9_world_0 {X : CX} {Q : Int32 → HS → Prop} (C : Cx X cX9_world RX9 3 rm_X9_world) (E : ReI X rm_X9_world Q) (ht : (xh X).sig.returnType = (some .int)) (hn : (xh X).name = yX9_world.name) {v0 : Nat} {v1 : Int32} {S : HS} (h : P_X9_world_0 Q v0 v1 S) : WS X 3 0 0 0 [(0, .ref v0), (1, .int v1)] [] S := by
  refine r_iload_n (pc := 0) C dX9_world_0 1 rfl ?_
  refine r_if_lt (pc := 1) C (tgt := 12) dX9_world_1 (by decide) (fun c1 => ?_) (fun c1 => ?_)
  · have h := h.1 c1
    exact r_sub [0] rfl (T_X9_world_12 C E ht hn h)
  · have h := h.2 c1
    refine r_iload_n (pc := 4) C dX9_world_4 1 rfl ?_
    refine r_aload_n (pc := 5) C dX9_world_5 0 rfl ?_
    obtain ⟨o_v0, h⟩ := h
    refine r_geti (pc := 6) C fL_X9_48 dX9_world_6 o_v0 ?_
    refine r_topi (fun x2 ex2 => ?_)
    have h := h x2 ex2
    refine r_icmp_le (pc := 9) C (tgt := 18) dX9_world_9 (by decide) (fun c3 => ?_) (fun c3 => ?_)
    · have h := h.1 c3
      refine r_aload_n (pc := 18) C dX9_world_18 0 rfl ?_
      obtain ⟨a4, ea4, h⟩ := h
      refine r_getr (pc := 19) C fL_X9_23 dX9_world_19 o_v0 ea4 ?_
      refine r_aload_n (pc := 22) C dX9_world_22 0 rfl ?_
      obtain ⟨a5, ea5, h⟩ := h
      refine r_getr (pc := 23) C fL_X9_9 dX9_world_23 o_v0 ea5 ?_
      refine r_iload_n (pc := 26) C dX9_world_26 1 rfl ?_
      obtain ⟨o_a4, h⟩ := h
      refine r_callVi0 (pc := 27) C (rest := []) (a := a4) o_a4 [.ref a5, .int v1] yV_X4_read g_434 (c_X4_read h) dX9_world_27 rfl rfl (Nat.le_of_ble_eq_true rfl) ⟨by decide, by decide⟩ ⟨by decide, by decide⟩ ⟨rfl, rfl⟩ (fun x8 S6 h g7 => ?_)
      have bx8 := h.1
      have h := h.2 g7 bx8
      have o_a4 := gr_ob g7 o_a4
      have o_v0 := gr_ob g7 o_v0
      refine r_istore_n (pc := 30) C dX9_world_30 rfl (by decide) (lv' := [(2, .int x8), (0, .ref v0), (1, .int v1)]) rfl ?_
      refine r_aload_n (pc := 31) C dX9_world_31 1 rfl ?_
      refine r_iconst (pc := 32) C (v := (0 : Int32)) dX9_world_32 (by decide) ?_
      refine r_puti (pc := 33) C pfL_X9_48 dX9_world_33 o_v0 ?_
      refine r_heap (fun S9 eS9 => ?_)
      have h := h S9 eS9
      have o_a4 := ob_I eS9 o_a4
      have o_v0 := ob_I eS9 o_v0
      refine r_aload_n (pc := 36) C dX9_world_36 1 rfl ?_
      refine r_aload_n (pc := 37) C dX9_world_37 1 rfl ?_
      obtain ⟨a10, ea10, h⟩ := h
      refine r_getr (pc := 38) C fL_X9_23 dX9_world_38 o_v0 ea10 ?_
      obtain ⟨o_a10, h⟩ := h
      refine r_geti (pc := 41) C fL_X9_64 dX9_world_41 o_a10 ?_
      refine r_topi (fun x11 ex11 => ?_)
      have h := h x11 ex11
      refine r_puti (pc := 44) C pfL_X9_67 dX9_world_44 o_v0 ?_
      refine r_heap (fun S12 eS12 => ?_)
      have h := h S12 eS12
      have o_a10 := ob_I eS12 o_a10
      have o_a4 := ob_I eS12 o_a4
      have o_v0 := ob_I eS12 o_v0
      refine r_aload_n (pc := 47) C dX9_world_47 1 rfl ?_
      refine r_aload_n (pc := 48) C dX9_world_48 1 rfl ?_
      obtain ⟨a13, ea13, h⟩ := h
      refine r_getr (pc := 49) C fL_X9_23 dX9_world_49 o_v0 ea13 ?_
      obtain ⟨o_a13, h⟩ := h
      refine r_geti (pc := 52) C fL_X9_70 dX9_world_52 o_a13 ?_
      refine r_topi (fun x14 ex14 => ?_)
      have h := h x14 ex14
      refine r_puti (pc := 55) C pfL_X9_73 dX9_world_55 o_v0 ?_
      refine r_heap (fun S15 eS15 => ?_)
      have h := h S15 eS15
      have o_a10 := ob_I eS15 o_a10
      have o_a13 := ob_I eS15 o_a13
      have o_a4 := ob_I eS15 o_a4
      have o_v0 := ob_I eS15 o_v0
      refine r_iload_n (pc := 58) C dX9_world_58 0 rfl ?_
      refine r_if_ne (pc := 59) C (tgt := 68) dX9_world_59 (by decide) (fun c16 => ?_) (fun c16 => ?_)
      · have h := h.1 c16
        refine r_aload_n (pc := 68) C dX9_world_68 1 rfl ?_
        refine r_aload_n (pc := 69) C dX9_world_69 1 rfl ?_
        obtain ⟨a17, ea17, h⟩ := h
        refine r_getr (pc := 70) C fL_X9_23 dX9_world_70 o_v0 ea17 ?_
        refine r_aload_n (pc := 73) C dX9_world_73 1 rfl ?_
        obtain ⟨a18, ea18, h⟩ := h
        refine r_getr (pc := 74) C fL_X9_16 dX9_world_74 o_v0 ea18 ?_
        obtain ⟨o_a17, h⟩ := h
        refine r_callVr0 (pc := 77) C (rest := [.ref v0]) (a := a17) o_a17 [.ref a18] yV_X4_exchange g_625 (c_X4_exchange h) dX9_world_77 rfl rfl (Nat.le_of_ble_eq_true rfl) ⟨by decide, by decide⟩ ⟨by decide, by decide⟩ ⟨rfl, rfl⟩ (fun r S19 h g20 => ?_)
        obtain ⟨a21, rfl, h⟩ := h
        have h := h g20
        refine r_rf ?_
        have o_a10 := gr_ob g20 o_a10
        have o_a13 := gr_ob g20 o_a13
        have o_a17 := gr_ob g20 o_a17
        have o_a4 := gr_ob g20 o_a4
        have o_v0 := gr_ob g20 o_v0
        refine r_putr (pc := 80) C pfL_X9_16 dX9_world_80 o_v0 ?_
        refine r_heap (fun S22 eS22 => ?_)
        have h := h S22 eS22
        have o_a10 := ob_R eS22 o_a10
        have o_a13 := ob_R eS22 o_a13
        have o_a17 := ob_R eS22 o_a17
        have o_a4 := ob_R eS22 o_a4
        have o_v0 := ob_R eS22 o_v0
        refine r_aload_n (pc := 83) C dX9_world_83 1 rfl ?_
        obtain ⟨a23, ea23, h⟩ := h
        refine r_getr (pc := 84) C fL_X9_37 dX9_world_84 o_v0 ea23 ?_
        obtain ⟨o_a23, h⟩ := h
        refine r_callVv0 (pc := 87) C (rest := []) (a := a23) o_a23 [] yV_X7_forget g_629 (c_X7_forget h) dX9_world_87 rfl rfl (Nat.le_of_ble_eq_true rfl) ⟨by decide, by decide⟩ ⟨by decide, by decide⟩ ⟨rfl, rfl⟩ (fun S24 h g25 => ?_)
        have h := h g25
        have o_a10 := gr_ob g25 o_a10
        have o_a13 := gr_ob g25 o_a13
        have o_a17 := gr_ob g25 o_a17
        have o_a23 := gr_ob g25 o_a23
        have o_a4 := gr_ob g25 o_a4
        have o_v0 := gr_ob g25 o_v0
        refine r_aload_n (pc := 90) C dX9_world_90 1 rfl ?_
        obtain ⟨a27, ea27, h⟩ := h
        refine r_getr (pc := 91) C fL_X9_44 dX9_world_91 o_v0 ea27 ?_
        obtain ⟨o_a27, h⟩ := h
        refine r_callVv0 (pc := 94) C (rest := []) (a := a27) o_a27 [] yV_X0_end g_633 (c_X0_end h) dX9_world_94 rfl rfl (Nat.le_of_ble_eq_true rfl) ⟨by decide, by decide⟩ ⟨by decide, by decide⟩ ⟨rfl, rfl⟩ (fun S28 h g29 => ?_)
        have h := h g29
        have o_a10 := gr_ob g29 o_a10
        have o_a13 := gr_ob g29 o_a13
        have o_a17 := gr_ob g29 o_a17
        have o_a23 := gr_ob g29 o_a23
        have o_a27 := gr_ob g29 o_a27
        have o_a4 := gr_ob g29 o_a4
        have o_v0 := gr_ob g29 o_v0
        refine r_aload_n (pc := 97) C dX9_world_97 1 rfl ?_
        refine r_aload_n (pc := 98) C dX9_world_98 1 rfl ?_
        obtain ⟨a31, ea31, h⟩ := h
        refine r_getr (pc := 99) C fL_X9_16 dX9_world_99 o_v0 ea31 ?_
        obtain ⟨o_a31, h⟩ := h
        refine r_geti (pc := 102) C fL_X9_86 dX9_world_102 o_a31 ?_
        refine r_topi (fun x32 ex32 => ?_)
        have h := h x32 ex32
        refine r_callVi0 (pc := 105) C (rest := []) (a := v0) o_v0 [.int x32] yV_X9_grant g_637 (c_X9_grant h) dX9_world_105 rfl rfl (Nat.le_of_ble_eq_true rfl) ⟨by decide, by decide⟩ ⟨by decide, by decide⟩ ⟨rfl, rfl⟩ (fun x35 S33 h g34 => ?_)
        have h := h g34
        have o_a10 := gr_ob g34 o_a10
        have o_a13 := gr_ob g34 o_a13
        have o_a17 := gr_ob g34 o_a17
        have o_a23 := gr_ob g34 o_a23
        have o_a27 := gr_ob g34 o_a27
        have o_a31 := gr_ob g34 o_a31
        have o_a4 := gr_ob g34 o_a4
        have o_v0 := gr_ob g34 o_v0
        exact r_iret (pc := 108) C E ht dX9_world_108 (by decide) (by decide) h
      · have h := h.2 c16
        refine r_aload_n (pc := 62) C dX9_world_62 1 rfl ?_
        refine r_iconst (pc := 63) C (v := (4 : Int32)) dX9_world_63 (by decide) ?_
        refine r_callVi0 (pc := 64) C (rest := []) (a := v0) o_v0 [.int (4 : Int32)] yV_X9_refuse g_430 (c_X9_refuse h) dX9_world_64 rfl rfl (Nat.le_of_ble_eq_true rfl) ⟨by decide, by decide⟩ ⟨by decide, by decide⟩ ⟨rfl, rfl⟩ (fun x38 S36 h g37 => ?_)
        have h := h g37
        have o_a10 := gr_ob g37 o_a10
        have o_a13 := gr_ob g37 o_a13
        have o_a4 := gr_ob g37 o_a4
        have o_v0 := gr_ob g37 o_v0
        exact r_iret (pc := 67) C E ht dX9_world_67 (by decide) (by decide) h
    · have h := h.2 c3
      exact r_sub [0] rfl (T_X9_world_12 C E ht hn h)
def P_X9_world (v0 : Nat) (v1 : Int32) (Q : Int32 → HS → Prop) (S : HS) : Prop := P_X9_world_0 Q v0 v1 S
theorem c_X9_world {l : Launch} {Ee : EE} {S : HS} {v0 : Nat} {v1 : Int32} {Q : Int32 → HS → Prop} (h : P_X9_world v0 v1 Q S) : MI l yX9_world cX9_world 3 (some .int) rm_X9_world Ee S [.ref v0, .int v1] Q :=
  openI (by decide) (Nat.le_of_ble_eq_true rfl) (fun X C E ht hn hE hl => by subst hE; exact r_sub [0, 1] rfl (T_X9_world_0 C E ht hn h))
def rm_X9_worst : Room := { frames := 5, cells := 0, slots := 0, locals := 131 }
def P_X9_worst_0 (Q : Int32 → HS → Prop) (v0 : Nat) (v1 : Int32) (v2 : Int32) (v3 : Int32) (v4 : Int32) (S : HS) : Prop := ob S v0 9 ∧ (P_X9_tripTrouble v0 v1 v2 v3 v4 (fun x3 S1 => Gr S S1 → (P_X9_refusedBy v0 x3 (fun x6 S4 => Gr S1 S4 → bl x6 → (((x6 = 0) → (∃ a8 : Nat, fR S4 v0 4 = some a8 ∧ (∃ a9 : Nat, fR S4 v0 2 = some a9 ∧ (ob S4 a9 8 ∧ (∃ a10 : Nat, fR S4 a9 9 = some a10 ∧ (ob S4 a10 19 ∧ (vp_in v1 (hN S4 a10) ∧ ∃ a12 : Nat, fR S4 a10 v1.toNatClampNeg = some a12 ∧ (∃ a13 : Nat, fR S4 v0 2 = some a13 ∧ (ob S4 a13 8 ∧ (∃ a14 : Nat, fR S4 a13 8 = some a14 ∧ (ob S4 a14 18 ∧ (vp_in v2 (hN S4 a14) ∧ ∃ a16 : Nat, fR S4 a14 v2.toNatClampNeg = some a16 ∧ (∃ a17 : Nat, fR S4 v0 2 = some a17 ∧ (ob S4 a17 8 ∧ (∃ a18 : Nat, fR S4 a17 6 = some a18 ∧ (ob S4 a18 17 ∧ (vp_in v4 (hN S4 a18) ∧ ∃ a20 : Nat, fR S4 a18 v4.toNatClampNeg = some a20 ∧ (ob S4 a8 1 ∧ (P_X1_worstSpeed a8 a12 a16 v3 a20 (fun x23 S21 => Gr S4 S21 → (Q x23 S21)) S4))))))))))))))))))) ∧ ((¬ x6 = 0) → (Q (-1 : Int32) S4)))) S1)) S)
set_option maxRecDepth 20000 in
set_option maxHeartbeats 4000000 in
theorem T_X9_worst_0 {X : CX} {Q : Int32 → HS → Prop} (C : Cx X cX9_worst RX9 5 rm_X9_worst) (E : ReI X rm_X9_worst Q) (ht : (xh X).sig.returnType = (some .int)) (hn : (xh X).name = yX9_worst.name) {v0 : Nat} {v1 : Int32} {v2 : Int32} {v3 : Int32} {v4 : Int32} {S : HS} (h : P_X9_worst_0 Q v0 v1 v2 v3 v4 S) : WS X 5 0 0 0 [(0, .ref v0), (1, .int v1), (2, .int v2), (3, .int v3), (4, .int v4)] [] S := by
  refine r_aload_n (pc := 0) C dX9_worst_0 0 rfl ?_
  refine r_aload_n (pc := 1) C dX9_worst_1 0 rfl ?_
  refine r_iload_n (pc := 2) C dX9_worst_2 1 rfl ?_
  refine r_iload_n (pc := 3) C dX9_worst_3 2 rfl ?_
  refine r_iload_n (pc := 4) C dX9_worst_4 3 rfl ?_
  refine r_iload (pc := 5) C dX9_worst_5 4 rfl ?_
  obtain ⟨o_v0, h⟩ := h
  refine r_callVi0 (pc := 7) C (rest := [.ref v0]) (a := v0) o_v0 [.int v1, .int v2, .int v3, .int v4] yV_X9_tripTrouble g_660 (c_X9_tripTrouble h) dX9_worst_7 rfl rfl (Nat.le_of_ble_eq_true rfl) ⟨by decide, by decide⟩ ⟨by decide, by decide⟩ ⟨rfl, rfl⟩ (fun x3 S1 h g2 => ?_)
  have h := h g2
  have o_v0 := gr_ob g2 o_v0
  refine r_callVi0 (pc := 10) C (rest := []) (a := v0) o_v0 [.int x3] yV_X9_refusedBy g_683 (c_X9_refusedBy h) dX9_worst_10 rfl rfl (Nat.le_of_ble_eq_true rfl) ⟨by decide, by decide⟩ ⟨by decide, by decide⟩ ⟨rfl, rfl⟩ (fun x6 S4 h g5 => ?_)
  have bx6 := h.1
  have h := h.2 g5 bx6
  have o_v0 := gr_ob g5 o_v0
  refine r_if_eq (pc := 13) C (tgt := 18) dX9_worst_13 (by decide) (fun c7 => ?_) (fun c7 => ?_)
  · have h := h.1 c7
    refine r_aload_n (pc := 18) C dX9_worst_18 0 rfl ?_
    obtain ⟨a8, ea8, h⟩ := h
    refine r_getr (pc := 19) C fL_X9_30 dX9_worst_19 o_v0 ea8 ?_
    refine r_aload_n (pc := 22) C dX9_worst_22 0 rfl ?_
    obtain ⟨a9, ea9, h⟩ := h
    refine r_getr (pc := 23) C fL_X9_16 dX9_worst_23 o_v0 ea9 ?_
    obtain ⟨o_a9, h⟩ := h
    obtain ⟨a10, ea10, h⟩ := h
    refine r_getr (pc := 26) C fL_X9_108 dX9_worst_26 o_a9 ea10 ?_
    refine r_iload_n (pc := 29) C dX9_worst_29 1 rfl ?_
    obtain ⟨o_a10, h⟩ := h
    obtain ⟨i11, a12, ea12, h⟩ := h
    refine r_aald19 (pc := 30) C dX9_worst_30 o_a10 i11 ea12 ?_
    refine r_aload_n (pc := 31) C dX9_worst_31 0 rfl ?_
    obtain ⟨a13, ea13, h⟩ := h
    refine r_getr (pc := 32) C fL_X9_16 dX9_worst_32 o_v0 ea13 ?_
    obtain ⟨o_a13, h⟩ := h
    obtain ⟨a14, ea14, h⟩ := h
    refine r_getr (pc := 35) C fL_X9_112 dX9_worst_35 o_a13 ea14 ?_
    refine r_iload_n (pc := 38) C dX9_worst_38 2 rfl ?_
    obtain ⟨o_a14, h⟩ := h
    obtain ⟨i15, a16, ea16, h⟩ := h
    refine r_aald18 (pc := 39) C dX9_worst_39 o_a14 i15 ea16 ?_
    refine r_iload_n (pc := 40) C dX9_worst_40 3 rfl ?_
    refine r_aload_n (pc := 41) C dX9_worst_41 0 rfl ?_
    obtain ⟨a17, ea17, h⟩ := h
    refine r_getr (pc := 42) C fL_X9_16 dX9_worst_42 o_v0 ea17 ?_
    obtain ⟨o_a17, h⟩ := h
    obtain ⟨a18, ea18, h⟩ := h
    refine r_getr (pc := 45) C fL_X9_116 dX9_worst_45 o_a17 ea18 ?_
    refine r_iload (pc := 48) C dX9_worst_48 4 rfl ?_
    obtain ⟨o_a18, h⟩ := h
    obtain ⟨i19, a20, ea20, h⟩ := h
    refine r_aald17 (pc := 50) C dX9_worst_50 o_a18 i19 ea20 ?_
    obtain ⟨o_a8, h⟩ := h
    refine r_callVi0 (pc := 51) C (rest := []) (a := a8) o_a8 [.ref a12, .ref a16, .int v3, .ref a20] yV_X1_worstSpeed g_779 (c_X1_worstSpeed h) dX9_worst_51 rfl rfl (Nat.le_of_ble_eq_true rfl) ⟨by decide, by decide⟩ ⟨by decide, by decide⟩ ⟨rfl, rfl⟩ (fun x23 S21 h g22 => ?_)
    have h := h g22
    have o_a10 := gr_ob g22 o_a10
    have o_a13 := gr_ob g22 o_a13
    have o_a14 := gr_ob g22 o_a14
    have o_a17 := gr_ob g22 o_a17
    have o_a18 := gr_ob g22 o_a18
    have o_a8 := gr_ob g22 o_a8
    have o_a9 := gr_ob g22 o_a9
    have o_v0 := gr_ob g22 o_v0
    exact r_iret (pc := 54) C E ht dX9_worst_54 (by decide) (by decide) h
  · have h := h.2 c7
    refine r_iconst (pc := 16) C (v := (-1 : Int32)) dX9_worst_16 (by decide) ?_
    exact r_iret (pc := 17) C E ht dX9_worst_17 (by decide) (by decide) h
def P_X9_worst (v0 : Nat) (v1 : Int32) (v2 : Int32) (v3 : Int32) (v4 : Int32) (Q : Int32 → HS → Prop) (S : HS) : Prop := P_X9_worst_0 Q v0 v1 v2 v3 v4 S
theorem c_X9_worst {l : Launch} {Ee : EE} {S : HS} {v0 : Nat} {v1 : Int32} {v2 : Int32} {v3 : Int32} {v4 : Int32} {Q : Int32 → HS → Prop} (h : P_X9_worst v0 v1 v2 v3 v4 Q S) : MI l yX9_worst cX9_worst 5 (some .int) rm_X9_worst Ee S [.ref v0, .int v1, .int v2, .int v3, .int v4] Q :=
  openI (by decide) (Nat.le_of_ble_eq_true rfl) (fun X C E ht hn hE hl => by subst hE; exact r_sub [0, 1, 2, 3, 4] rfl (T_X9_worst_0 C E ht hn h))
end
section
/-! THE INVARIANTS -/
def nuT : List (Nat × Nat × Int32 × Int32) := [(9, 1, 0, 900), (0, 0, (-1), 3), (0, 2, 0, 16), (0, 3, 0, 3), (6, 5, 0, 9), (6, 6, 0, 9), (4, 3, 0, 900), (4, 10, 0, 12), (7, 3, 0, 224), (7, 13, 0, 401), (8, 0, 0, 60), (8, 1, 0, 6), (8, 2, 0, 8), (8, 3, 0, 12), (8, 4, 0, 4), (8, 5, 0, 4), (10, 0, 0, 60), (10, 1, 0, 6), (10, 2, 0, 8), (10, 3, 0, 12), (10, 4, 0, 4), (10, 5, 0, 4), (10, 6, 0, 12), (11, 6, 0, 900), (11, 7, 0, 900), (11, 8, 0, 900), (11, 19, (-2), 3), (11, 24, 0, 16), (11, 25, 0, 3)]
def shT : List (Nat × Nat × Nat × Nat) := [(9, 0, 12, 900), (9, 2, 8, 0), (9, 3, 4, 0), (9, 4, 1, 0), (9, 5, 7, 0), (9, 6, 0, 0), (0, 4, 2, 0), (0, 5, 16, 16), (0, 6, 16, 3), (1, 0, 14, 5), (1, 1, 14, 5), (2, 2, 14, 5), (4, 5, 8, 0), (4, 11, 14, 12), (4, 12, 13, 12), (8, 6, 17, 6), (8, 7, 13, 8), (8, 8, 18, 12), (8, 9, 19, 4), (8, 10, 13, 4), (8, 11, 13, 20), (7, 0, 13, 0), (7, 1, 14, 0), (7, 2, 13, 0), (7, 4, 13, 0), (7, 5, 13, 0), (7, 6, 13, 0), (7, 7, 14, 0), (7, 8, 13, 0), (10, 7, 13, 6), (10, 8, 13, 6), (10, 9, 13, 6), (10, 10, 13, 6), (10, 11, 13, 6), (10, 12, 13, 8), (10, 13, 13, 12), (10, 14, 13, 12), (10, 15, 13, 12), (10, 16, 13, 12), (10, 17, 13, 12), (10, 18, 15, 8), (10, 19, 13, 4), (10, 20, 13, 4), (10, 21, 13, 4), (10, 22, 13, 4), (10, 23, 13, 4), (10, 24, 13, 4), (10, 25, 13, 4), (10, 26, 13, 4), (10, 27, 13, 20), (10, 28, 14, 12), (10, 29, 13, 12), (10, 30, 13, 12), (11, 5, 12, 900), (11, 16, 14, 3208), (11, 17, 13, 3208), (11, 18, 13, 3208), (11, 21, 14, 7), (11, 22, 14, 112), (11, 23, 14, 21)]
/-- the int fields are in their bounds -/
def NUF (S : HS) : Prop := ∀ e ∈ nuT, ∀ a, ob S a e.1 → e.2.2.1 ≤ fI S a e.2.1 ∧ fI S a e.2.1 ≤ e.2.2.2
/-- the reference fields hold what they must -/
def SHF (S : HS) : Prop := ∀ e ∈ shT, ∀ a, ob S a e.1 → ∃ b, fR S a e.2.1 = some b ∧ ob S b e.2.2.1 ∧ (e.2.2.2 = 0 ∨ hN S b = e.2.2.2)
/-- the arrays of references are full -/
def aeK (q : Nat) : Nat := if q = 16 then 2 else if q = 17 then 3 else if q = 18 then 5 else 6
def AEF (S : HS) : Prop := ∀ q, 16 ≤ q → q < 20 → ∀ a, ob S a q → ∀ i, i < hN S a → ∃ b, fR S a i = some b ∧ ob S b (aeK q)
/-- the rows of Ways are all empty or all made -/
def wyT : List (Nat × Nat) := [(0, 401), (1, 3208), (2, 3208), (4, 224), (5, 224), (6, 224), (7, 224), (8, 224)]
def WYF (S : HS) : Prop := ∀ a, ob S a 7 → (∀ e ∈ wyT, ∀ b, fR S a e.1 = some b → hN S b = 0) ∨ (∀ e ∈ wyT, ∀ b, fR S a e.1 = some b → hN S b = e.2)
/-- the reference's own -/
def prT : List (Nat × Nat) := [(10, 13), (10, 14), (10, 16), (10, 24), (10, 25), (10, 26), (10, 29), (10, 30), (11, 18), (11, 21), (11, 22), (11, 23)]
/-- an array of the reference whose contents matter has one owner -/
def OW (S : HS) : Prop := ∀ a k j a' k' j' b, ob S a k → k < 12 → ob S a' k' → (k', j') ∈ prT → fR S a j = some b → fR S a' j' = some b → a = a' ∧ j = j'
/-- what an object's field holds is there -/
def CLO (S : HS) : Prop := ∀ a k j b, ob S a k → k < 12 → fR S a j = some b → b ∈ hL S
/-- the contents of a world of the reference, below its counters: counter, array, least, greatest, the counter below which it is -/
def wgT : List (Nat × Nat × Int32 × Int32 × Nat) := [(3, 13, 0, 7, 2), (3, 14, 0, 7, 2), (3, 16, 1, 60, 99), (4, 24, 1, 9, 99), (4, 25, 0, 9, 99), (5, 26, 0, 3, 4)]
def EG (S : HS) (w : Nat) (e : Nat × Nat × Int32 × Int32 × Nat) (v : Int32) : Prop := e.2.2.1 ≤ v ∧ v ≤ e.2.2.2.1 ∧ (e.2.2.2.2 = 99 ∨ v < fI S w e.2.2.2.2)
def WG (S : HS) (w : Nat) : Prop := (∀ e ∈ wgT, ∀ x : Int32, 0 ≤ x → x < fI S w e.1 → ∀ b, fR S w e.2.1 = some b → EG S w e (fI S b x.toNatClampNeg)) ∧ ∀ x : Int32, 0 ≤ x → x < fI S w 2 + fI S w 4 → ∀ b c, fR S w 29 = some b → fR S w 30 = some c → 0 ≤ fI S c x.toNatClampNeg ∧ (fI S b x.toNatClampNeg = 0 → fI S c x.toNatClampNeg < fI S w 2) ∧ (fI S b x.toNatClampNeg = 1 → fI S c x.toNatClampNeg < fI S w 4)
/-- a place and a minute at each seventh -/
def de1 (z : Nat) (v : Int64) : Prop := (z % 7 = 0 → 0 ≤ v ∧ v ≤ 7) ∧ (z % 7 = 1 → 0 ≤ v ∧ v ≤ 999)
def DE (S : HS) (b : Nat) : Prop := ∀ z, de1 z (fJ S b z)
def ML (S : HS) (o : Nat) : Prop := (∀ w, fR S o 3 = some w → ob S w 10 ∧ WG S w ∧ 1 ≤ fI S w 0) ∧ (∀ w, fR S o 4 = some w → ob S w 10) ∧ (fI S o 19 = -2 ∨ (0 ≤ fI S o 19 ∧ ∃ w, fR S o 3 = some w ∧ fI S o 19 < fI S w 4)) ∧ ∀ j, j = 21 ∨ j = 22 ∨ j = 23 → ∀ b, fR S o j = some b → DE S b
def MOF (S : HS) : Prop := OW S ∧ CLO S ∧ ∀ o, ob S o 11 → ML S o
def IV (S : HS) : Prop := SHF S ∧ AEF S ∧ WYF S ∧ NUF S ∧ MOF S
theorem pr_kind {S : HS} {x k j b : Nat} (h : SHF S) (o : ob S x k) (hp : (k, j) ∈ prT) (e : fR S x j = some b) : ∃ q, ob S b q ∧ 13 ≤ q ∧ q < 15 := by
  have hd : ∀ p ∈ prT, ∃ t ∈ shT, t.1 = p.1 ∧ t.2.1 = p.2 ∧ 13 ≤ t.2.2.1 ∧ t.2.2.1 < 15 := by decide
  obtain ⟨t, ht, h1, h2, h3, h4⟩ := hd _ hp
  obtain ⟨c, c1, c2, -⟩ := h t ht x (by rw [h1]; exact o)
  rw [h2] at c1
  cases c1.symm.trans e
  exact ⟨_, c2, h3, h4⟩
theorem pr_ge : ∀ p ∈ prT, 10 ≤ p.1 ∧ p.1 < 12 := by decide
theorem ob_inj {S : HS} {a k q : Nat} (o : ob S a k) (p : ob S a q) : k = q := o.2.symm.trans p.2
/-- what the reference's invariant speaks of at a world w, at its object o, is the same -/
def SW (S T : HS) (w : Nat) : Prop := fI T w = fI S w ∧ fR T w = fR S w ∧ ∀ j b, (10, j) ∈ prT → fR S w j = some b → fI T b = fI S b
def SO (S T : HS) (o : Nat) : Prop := fI T o 19 = fI S o 19 ∧ fR T o = fR S o ∧ (∀ w, fR S o 3 = some w → SW S T w) ∧ ∀ j b, (11, j) ∈ prT → fR S o j = some b → fJ T b = fJ S b
theorem wg_same {S T : HS} {w : Nat} (sw : SW S T w) (h : WG S w) : WG T w := by
  obtain ⟨hi, hr, ha⟩ := sw
  have hp : ∀ e ∈ wgT, (10, e.2.1) ∈ prT := by decide
  refine ⟨fun e he x h0 hx b hb => ?_, fun x h0 hx b c hb hc => ?_⟩
  · rw [hi] at hx
    rw [hr] at hb
    have h1 := h.1 e he x h0 hx b hb
    have h2 := ha _ b (hp e he) hb
    unfold EG at h1 ⊢
    rw [h2, hi]
    exact h1
  · rw [hi] at hx
    rw [hr] at hb hc
    rw [ha _ b (by decide) hb, ha _ c (by decide) hc, hi]
    exact h.2 x h0 hx b c hb hc
theorem ml_same {S T : HS} {o : Nat} (hob : ∀ a k, ob S a k → ob T a k) (so : SO S T o) (h : ML S o) : ML T o := by
  obtain ⟨hi, hr, hw, hd⟩ := so
  obtain ⟨h1, h2, h3, h4⟩ := h
  refine ⟨fun w e => ?_, fun w e => ?_, ?_, fun j hj b e => ?_⟩
  · rw [hr] at e
    obtain ⟨a1, a2, a3⟩ := h1 w e
    refine ⟨hob _ _ a1, wg_same (hw w e) a2, ?_⟩
    rw [(hw w e).1]; exact a3
  · rw [hr] at e; exact hob _ _ (h2 w e)
  · rw [hi]
    rcases h3 with g | ⟨g, w, g2, g3⟩
    · exact Or.inl g
    · refine Or.inr ⟨g, w, by rw [hr]; exact g2, ?_⟩
      rw [(hw w g2).1]; exact g3
  · rw [hr] at e
    have hp : (11, j) ∈ prT := by rcases hj with rfl | rfl | rfl <;> decide
    have h5 := hd j b hp e
    intro z
    rw [h5]
    exact h4 j hj b e z
/-- neither an object of the reference nor one of its arrays that matter -/
def FRE (S : HS) (a : Nat) : Prop := (∀ k, ob S a k → k ≠ 10 ∧ k ≠ 11) ∧ ∀ x k j, ob S x k → (k, j) ∈ prT → fR S x j ≠ some a
theorem fre_I {S : HS} {a j : Nat} {v : Int32} (hf : FRE S a) (h : MOF S) : MOF (sI S a j v) := by
  refine ⟨h.1, h.2.1, fun o oo => ?_⟩
  have oo' : ob S o 11 := oo
  have hm := h.2.2 o oo'
  have ho : o ≠ a := fun z => (hf.1 11 (z ▸ oo')).2 rfl
  refine ml_same (S := S) (fun _ _ z => z) ⟨congrFun (u2_row _ _ ho) 19, rfl, fun w e => ?_, fun _ _ _ _ => rfl⟩ hm
  have hw := (hm.1 w e).1
  exact ⟨u2_row _ _ (fun z => (hf.1 10 (z ▸ hw)).1 rfl), rfl, fun i b hp hb => u2_row _ _ (fun z => hf.2 w 10 i hw hp (z ▸ hb))⟩
theorem fre_J {S : HS} {a j : Nat} {v : Int64} (hf : ∀ x k j, ob S x k → (k, j) ∈ prT → fR S x j ≠ some a) (h : MOF S) : MOF (sJ S a j v) := by
  refine ⟨h.1, h.2.1, fun o oo => ?_⟩
  have oo' : ob S o 11 := oo
  have hm := h.2.2 o oo'
  exact ml_same (S := S) (fun _ _ z => z) ⟨rfl, rfl, fun w e => ⟨rfl, rfl, fun _ _ _ _ => rfl⟩, fun i b hp hb => u2_row _ _ (fun z => hf o 11 i oo' hp (z ▸ hb))⟩ hm
theorem npr {S : HS} {v q : Nat} (h : SHF S) (ov : ob S v q) (hq : q < 13 ∨ 15 ≤ q) : ∀ x k j, ob S x k → (k, j) ∈ prT → fR S x j ≠ some v := by
  intro x k j ox hp e
  obtain ⟨r, r1, r2, r3⟩ := pr_kind h ox hp e
  have := ob_inj ov r1
  omega
theorem fre_ob {S : HS} {a k : Nat} (h : SHF S) (o : ob S a k) (hk : k < 10) : FRE S a := ⟨fun q p => by have := ob_inj o p; omega, npr h o (Or.inl (by omega))⟩
theorem npr_arr {S : HS} {a b k j : Nat} (h : OW S) (o : ob S a k) (hk : k < 12) (hnp : (k, j) ∉ prT) (e : fR S a j = some b) : ∀ x q i, ob S x q → (q, i) ∈ prT → fR S x i ≠ some b := by
  intro x q i ox hp e2
  obtain ⟨rfl, rfl⟩ := h a k j x q i b o hk ox hp e e2
  exact hnp (by rw [ob_inj o ox]; exact hp)
theorem fre_arr {S : HS} {a b k j q : Nat} (h : OW S) (o : ob S a k) (hk : k < 12) (hnp : (k, j) ∉ prT) (e : fR S a j = some b) (p : ob S b q) (hq : 12 ≤ q) : FRE S b := ⟨fun r z => by have := ob_inj p z; omega, npr_arr h o hk hnp e⟩
theorem np10 {k j : Nat} (hk : k < 10) : (k, j) ∉ prT := fun h => by have := (pr_ge _ h).1; simp only at this; omega
theorem mof_aR {S : HS} {a j q : Nat} {v : Option Nat} (o : ob S a q) (hq : 12 ≤ q) (h : MOF S) (h12 : SHF S) : MOF (sR S a j v) := by
  have hne : ∀ x k, ob S x k → k < 12 → fR (sR S a j v) x = fR S x := fun x k ox hk => u2_row _ _ (fun z => by have := ob_inj (z ▸ ox) o; omega)
  refine ⟨fun x k i x' k' i' b ox hk ox' hp e e' => ?_, fun x k i b ox hk e => ?_, fun y oo => ?_⟩
  · rw [hne x k ox hk] at e
    rw [hne x' k' ox' (pr_ge _ hp).2] at e'
    exact h.1 x k i x' k' i' b ox hk ox' hp e e'
  · rw [hne x k ox hk] at e
    exact h.2.1 x k i b ox hk e
  · have oo' : ob S y 11 := oo
    refine ml_same (S := S) (fun _ _ z => z) ⟨rfl, hne y 11 oo' (by omega), fun w e => ⟨rfl, hne w 10 ((h.2.2 y oo').1 w e).1 (by omega), fun _ _ _ _ => rfl⟩, fun _ _ _ _ => rfl⟩ (h.2.2 y oo')
theorem ow_sR {S : HS} {a k j v : Nat} (o : ob S a k) (hnp : (k, j) ∉ prT) (hv : ∀ x q i, ob S x q → (q, i) ∈ prT → fR S x i ≠ some v) (hvl : v ∈ hL S) (h : OW S ∧ CLO S) : OW (sR S a j (some v)) ∧ CLO (sR S a j (some v)) := by
  refine ⟨fun x q i x' q' i' b ox hk ox' hp e e' => ?_, fun x q i b ox hk e => ?_⟩
  · have ox : ob S x q := ox
    have ox' : ob S x' q' := ox'
    have c' : ¬ (x' = a ∧ i' = j) := fun z => hnp (by
      have e2 : q' = k := ob_inj ox' (show ob S x' k by rw [z.1]; exact o)
      rw [← e2, ← z.2]; exact hp)
    have e'2 : fR S x' i' = some b := (u2_ne _ _ c').symm.trans e'
    by_cases c : x = a ∧ i = j
    · have : some v = some b := by
        rw [c.1, c.2] at e
        exact (u2_self _ _ _ _).symm.trans e
      cases this
      exact absurd e'2 (hv x' q' i' ox' hp)
    · exact h.1 x q i x' q' i' b ox hk ox' hp ((u2_ne _ _ c).symm.trans e) e'2
  · have ox : ob S x q := ox
    by_cases c : x = a ∧ i = j
    · have : some v = some b := by
        rw [c.1, c.2] at e
        exact (u2_self _ _ _ _).symm.trans e
      cases this
      exact hvl
    · exact h.2 x q i b ox hk ((u2_ne _ _ c).symm.trans e)
theorem mof_sR {S : HS} {a k j v : Nat} (o : ob S a k) (hk : k < 10) (hv : ∀ x q i, ob S x q → (q, i) ∈ prT → fR S x i ≠ some v) (hvl : v ∈ hL S) (h : MOF S) : MOF (sR S a j (some v)) := by
  obtain ⟨h1, h2⟩ := ow_sR (j := j) o (np10 hk) hv hvl ⟨h.1, h.2.1⟩
  refine ⟨h1, h2, fun y oo => ?_⟩
  have oo' : ob S y 11 := oo
  have hne : ∀ x q, ob S x q → 10 ≤ q → fR (sR S a j (some v)) x = fR S x := fun x q ox hq => u2_row _ _ (fun z => by have := ob_inj (z ▸ ox) o; omega)
  exact ml_same (S := S) (fun _ _ z => z) ⟨rfl, hne y 11 oo' (by omega), fun w e => ⟨rfl, hne w 10 ((h.2.2 y oo').1 w e).1 (by omega), fun _ _ _ _ => rfl⟩, fun _ _ _ _ => rfl⟩ (h.2.2 y oo')
theorem nu {S : HS} {a k j : Nat} {lo hi : Int32} (i : Nat) (hi' : nuT[i]? = some (k, j, lo, hi)) (h : IV S) (o : ob S a k) : lo ≤ fI S a j ∧ fI S a j ≤ hi := h.2.2.2.1 _ (List.mem_of_getElem? hi') a o
theorem sh {S : HS} {a k j q N : Nat} (i : Nat) (hi' : shT[i]? = some (k, j, q, N)) (h : IV S) (o : ob S a k) : ∃ b, fR S a j = some b ∧ ob S b q ∧ (N = 0 ∨ hN S b = N) := h.1 _ (List.mem_of_getElem? hi') a o
theorem shl {S : HS} {a k j q N : Nat} (i : Nat) (hi' : shT[i]? = some (k, j, q, N + 1)) (h : IV S) (o : ob S a k) : ∃ b, fR S a j = some b ∧ ob S b q ∧ hN S b = N + 1 := by
  obtain ⟨b, h1, h2, h3⟩ := sh i hi' h o
  exact ⟨b, h1, h2, h3.resolve_left (by omega)⟩
theorem ae {S : HS} {a q : Nat} (h : IV S) (o : ob S a q) (h1 : 16 ≤ q) (h2 : q < 20) {x : Int32} (hx : vp_in x (hN S a)) : ∃ b, fR S a x.toNatClampNeg = some b ∧ ob S b (aeK q) := h.2.1 q h1 h2 a o _ (Nat.not_le.mp fun z => hx (Or.inr z))
theorem vin {x m : Int32} {n N : Nat} (e : n = N) (hm : m.toInt = (N : Int)) (h : 0 ≤ x ∧ x < m) : vp_in x n := by
  rw [vp_in_iff, e, ← hm]
  exact ⟨by simpa using Int32.le_iff_toInt_le.mp h.1, Int32.lt_iff_toInt_lt.mp h.2⟩
theorem vinL {x : Int32} {n : Nat} (hn : n < 2147483648) (h : 0 ≤ x ∧ x < nI n) : vp_in x n := by
  rw [vp_in_iff, ← nI_toInt hn]
  exact ⟨by simpa using Int32.le_iff_toInt_le.mp h.1, Int32.lt_iff_toInt_lt.mp h.2⟩
theorem sI_ne {S : HS} {a b k q j : Nat} {v : Int32} (o : ob S a k) (p : ob S b q) (h : k ≠ q) (i : Nat) : fI (sI S a j v) b i = fI S b i := u2_ne _ _ (fun z => h (by rw [← o.2, ← p.2, z.1]))
theorem nuf_sI {S : HS} {a k j : Nat} {v : Int32} (h : NUF S) (o : ob S a k) (hc : ∀ e ∈ nuT, e.1 = k → e.2.1 = j → e.2.2.1 ≤ v ∧ v ≤ e.2.2.2) : NUF (sI S a j v) := by
  intro e he b hb
  have hb' : ob S b e.1 := hb
  show e.2.2.1 ≤ u2 (fI S) a j v b e.2.1 ∧ u2 (fI S) a j v b e.2.1 ≤ e.2.2.2
  by_cases c : b = a ∧ e.2.1 = j
  · obtain ⟨rfl, c2⟩ := c
    rw [c2, u2_self]
    exact hc e he (hb'.2.symm.trans o.2) c2
  · rw [u2_ne _ _ c]
    exact h e he b hb'
theorem nu_free {k j : Nat} {v : Int32} (h : (nuT.all fun e => !(e.1 == k && e.2.1 == j)) = true) : ∀ e ∈ nuT, e.1 = k → e.2.1 = j → e.2.2.1 ≤ v ∧ v ≤ e.2.2.2 := by
  intro e he h1 h2
  have := List.all_eq_true.mp h e he
  simp [h1, h2] at this
theorem nu_one {k j : Nat} {v lo hi : Int32} (h : nuT.filter (fun e => e.1 == k && e.2.1 == j) = [(k, j, lo, hi)]) (hv : lo ≤ v ∧ v ≤ hi) : ∀ e ∈ nuT, e.1 = k → e.2.1 = j → e.2.2.1 ≤ v ∧ v ≤ e.2.2.2 := by
  intro e he h1 h2
  have hm : e ∈ nuT.filter (fun e => e.1 == k && e.2.1 == j) := List.mem_filter.mpr ⟨he, by simp [h1, h2]⟩
  rw [h] at hm
  cases List.mem_singleton.mp hm
  exact hv
/-- an int field of the class's own is written -/
theorem iv_sI {S : HS} {a k j : Nat} {v : Int32} (h : IV S) (o : ob S a k) (hk : k < 10) (hc : ∀ e ∈ nuT, e.1 = k → e.2.1 = j → e.2.2.1 ≤ v ∧ v ≤ e.2.2.2) : IV (sI S a j v) := ⟨h.1, h.2.1, h.2.2.1, nuf_sI h.2.2.2.1 o hc, fre_I (fre_ob h.1 o hk) h.2.2.2.2⟩
theorem iv_sJ {S : HS} {a k j : Nat} {v : Int64} (h : IV S) (o : ob S a k) (hk : k < 10) : IV (sJ S a j v) := ⟨h.1, h.2.1, h.2.2.1, h.2.2.2.1, fre_J (npr h.1 o (Or.inl (by omega))) h.2.2.2.2⟩
/-- an int array's element is written (its owner: a field of the class's own) -/
theorem iv_aI {S : HS} {a b k j q i : Nat} {v : Int32} (h : IV S) (o : ob S a k) (hk : k < 10) (e : fR S a j = some b) (ob' : ob S b q) (hq : 12 ≤ q) : IV (sI S b i v) := by
  refine ⟨h.1, h.2.1, h.2.2.1, nuf_sI h.2.2.2.1 ob' ?_, fre_I (fre_arr h.2.2.2.2.1 o (by omega) (np10 hk) e ob' hq) h.2.2.2.2⟩
  intro e he h1 _
  have : ∀ e ∈ nuT, e.1 < 12 := by decide
  have := this e he
  omega
theorem iv_aJ {S : HS} {a b k j q i : Nat} {v : Int64} (h : IV S) (o : ob S a k) (hk : k < 10) (e : fR S a j = some b) (ob' : ob S b q) (hq : 12 ≤ q) : IV (sJ S b i v) := ⟨h.1, h.2.1, h.2.2.1, h.2.2.2.1, fre_J (npr_arr h.2.2.2.2.1 o (by omega) (np10 hk) e) h.2.2.2.2⟩
theorem mu_up {v x K : Int32} (h1 : v < x) (h2 : v < K) : (K.toInt - x.toInt).toNat < (K.toInt - v.toInt).toNat := by
  have a := Int32.lt_iff_toInt_lt.mp h1
  have b := Int32.lt_iff_toInt_lt.mp h2
  omega
theorem mu_down {v x K : Int32} (h1 : x < v) (h2 : K < v) : (x.toInt - K.toInt).toNat < (v.toInt - K.toInt).toNat := by
  have a := Int32.lt_iff_toInt_lt.mp h1
  have b := Int32.lt_iff_toInt_lt.mp h2
  omega
theorem sR_ne {S : HS} {a b k q j : Nat} {v : Option Nat} (o : ob S a k) (p : ob S b q) (h : k ≠ q) (i : Nat) : fR (sR S a j v) b i = fR S b i := u2_ne _ _ (fun z => h (by rw [← o.2, ← p.2, z.1]))
/-- an array of references gets an element -/
theorem iv_aR {S : HS} {a v q i : Nat} (h : IV S) (o : ob S a q) (h1 : 16 ≤ q) (h2 : q < 20) (ov : ob S v (aeK q)) : IV (sR S a i (some v)) := by
  have hs : ∀ e ∈ shT, e.1 < 12 := by decide
  refine ⟨fun e he b hb => ?_, fun r hr1 hr2 b hb z hz => ?_, fun b hb => ?_, h.2.2.2.1, mof_aR o (by omega) h.2.2.2.2 h.1⟩
  · have hb' : ob S b e.1 := hb
    have := hs e he
    obtain ⟨c, c1, c2⟩ := h.1 e he b hb'
    exact ⟨c, by rw [sR_ne o hb' (by omega)]; exact c1, c2⟩
  · have hb' : ob S b r := hb
    by_cases c : b = a ∧ z = i
    · obtain ⟨rfl, rfl⟩ := c
      refine ⟨v, u2_self _ _ _ _, ?_⟩
      rw [show r = q from hb'.2.symm.trans o.2]
      exact ov
    · obtain ⟨d, d1, d2⟩ := h.2.1 r hr1 hr2 b hb' z hz
      exact ⟨d, (u2_ne _ _ c).trans d1, d2⟩
  · have hb' : ob S b 7 := hb
    have hne : ∀ j, fR (sR S a i (some v)) b j = fR S b j := fun j => sR_ne o hb' (by omega) j
    rcases h.2.2.1 b hb' with g | g
    · exact Or.inl (fun e he d hd => g e he d (by rw [← hne]; exact hd))
    · exact Or.inr (fun e he d hd => g e he d (by rw [← hne]; exact hd))
/-- a reference field of the class's own (not of Ways) is written -/
theorem iv_sR {S : HS} {a v k j : Nat} (h : IV S) (o : ob S a k) (hk : k < 10) (h7 : k ≠ 7) (hv : ∀ x q i, ob S x q → (q, i) ∈ prT → fR S x i ≠ some v) (hvl : v ∈ hL S) (hc : ∀ e ∈ shT, e.1 = k → e.2.1 = j → ob S v e.2.2.1 ∧ (e.2.2.2 = 0 ∨ hN S v = e.2.2.2)) : IV (sR S a j (some v)) := by
  refine ⟨fun e he b hb => ?_, fun r hr1 hr2 b hb z hz => ?_, fun b hb => ?_, h.2.2.2.1, mof_sR o hk hv hvl h.2.2.2.2⟩
  · have hb' : ob S b e.1 := hb
    by_cases c : b = a ∧ e.2.1 = j
    · obtain ⟨rfl, c2⟩ := c
      refine ⟨v, ?_, hc e he (hb'.2.symm.trans o.2) c2⟩
      rw [c2]; exact u2_self _ _ _ _
    · obtain ⟨d, d1, d2⟩ := h.1 e he b hb'
      exact ⟨d, (u2_ne _ _ c).trans d1, d2⟩
  · have hb' : ob S b r := hb
    obtain ⟨d, d1, d2⟩ := h.2.1 r hr1 hr2 b hb' z hz
    exact ⟨d, by rw [sR_ne o hb' (by omega)]; exact d1, d2⟩
  · have hb' : ob S b 7 := hb
    have hne : ∀ z, fR (sR S a j (some v)) b z = fR S b z := fun z => sR_ne o hb' h7 z
    rcases h.2.2.1 b hb' with g | g
    · exact Or.inl (fun e he d hd => g e he d (by rw [← hne]; exact hd))
    · exact Or.inr (fun e he d hd => g e he d (by rw [← hne]; exact hd))
theorem sh_free {S : HS} {k j v : Nat} (h : (shT.all fun e => !(e.1 == k && e.2.1 == j)) = true) : ∀ e ∈ shT, e.1 = k → e.2.1 = j → ob S v e.2.2.1 ∧ (e.2.2.2 = 0 ∨ hN S v = e.2.2.2) := by
  intro e he h1 h2
  have := List.all_eq_true.mp h e he
  simp [h1, h2] at this
theorem sh_one {S : HS} {k j v q N : Nat} (h : shT.filter (fun e => e.1 == k && e.2.1 == j) = [(k, j, q, N)]) (hv : ob S v q ∧ (N = 0 ∨ hN S v = N)) : ∀ e ∈ shT, e.1 = k → e.2.1 = j → ob S v e.2.2.1 ∧ (e.2.2.2 = 0 ∨ hN S v = e.2.2.2) := by
  intro e he h1 h2
  have hm : e ∈ shT.filter (fun e => e.1 == k && e.2.1 == j) := List.mem_filter.mpr ⟨he, by simp [h1, h2]⟩
  rw [h] at hm
  cases List.mem_singleton.mp hm
  exact hv
theorem rd_j {S : HS} {a j b i : Nat} {v : Int32} (h : i ≠ j) : fI (sI S a j v) b i = fI S b i := u2_ne _ _ (fun z => h z.2)
/-- what stays: the int fields but those at the places wi, the reference fields but those at wr -/
def FRI (wi wr : List (Nat × Nat)) (S T : HS) : Prop := (∀ k j, k < 12 → (k, j) ∉ wi → ∀ a, ob S a k → fI T a j = fI S a j) ∧ ∀ k j, k < 12 → (k, j) ∉ wr → ∀ a, ob S a k → fR T a j = fR S a j
theorem fri_rf (wi wr : List (Nat × Nat)) (S : HS) : FRI wi wr S S := ⟨fun _ _ _ _ _ _ => rfl, fun _ _ _ _ _ _ => rfl⟩
theorem fri_sI {wi wr : List (Nat × Nat)} {S0 S : HS} {a k j : Nat} {v : Int32} (g : Gr S0 S) (h : FRI wi wr S0 S) (o : ob S a k) (hk : (k, j) ∈ wi) : FRI wi wr S0 (sI S a j v) := by
  refine ⟨fun q z h1 h2 b hb => ?_, h.2⟩
  have hne : ¬ (b = a ∧ z = j) := fun c => h2 (by rw [c.2, ← (gr_ob g hb).2, c.1, o.2]; exact hk)
  exact (u2_ne _ _ hne).trans (h.1 q z h1 h2 b hb)
theorem fri_aI {wi wr : List (Nat × Nat)} {S0 S : HS} {a k j : Nat} {v : Int32} (g : Gr S0 S) (h : FRI wi wr S0 S) (o : ob S a k) (hk : 12 ≤ k) : FRI wi wr S0 (sI S a j v) := by
  refine ⟨fun q z h1 h2 b hb => ?_, h.2⟩
  have hne : ¬ (b = a ∧ z = j) := fun c => by have := (gr_ob g hb).2; rw [c.1, o.2] at this; omega
  exact (u2_ne _ _ hne).trans (h.1 q z h1 h2 b hb)
theorem fri_sR {wi wr : List (Nat × Nat)} {S0 S : HS} {a k j : Nat} {v : Option Nat} (g : Gr S0 S) (h : FRI wi wr S0 S) (o : ob S a k) (hk : (k, j) ∈ wr) : FRI wi wr S0 (sR S a j v) := by
  refine ⟨h.1, fun q z h1 h2 b hb => ?_⟩
  have hne : ¬ (b = a ∧ z = j) := fun c => h2 (by rw [c.2, ← (gr_ob g hb).2, c.1, o.2]; exact hk)
  exact (u2_ne _ _ hne).trans (h.2 q z h1 h2 b hb)
theorem fri_aR {wi wr : List (Nat × Nat)} {S0 S : HS} {a k j : Nat} {v : Option Nat} (g : Gr S0 S) (h : FRI wi wr S0 S) (o : ob S a k) (hk : 12 ≤ k) : FRI wi wr S0 (sR S a j v) := by
  refine ⟨h.1, fun q z h1 h2 b hb => ?_⟩
  have hne : ¬ (b = a ∧ z = j) := fun c => by have := (gr_ob g hb).2; rw [c.1, o.2] at this; omega
  exact (u2_ne _ _ hne).trans (h.2 q z h1 h2 b hb)
theorem fri_tr {wi wr wi2 wr2 : List (Nat × Nat)} {S0 S T : HS} (g : Gr S0 S) (h : FRI wi wr S0 S) (h2 : FRI wi2 wr2 S T) (c : ∀ e ∈ wi2, e ∈ wi) (d : ∀ e ∈ wr2, e ∈ wr) : FRI wi wr S0 T := ⟨fun q z h1 h3 b hb => (h2.1 q z h1 (fun y => h3 (c _ y)) b (gr_ob g hb)).trans (h.1 q z h1 h3 b hb), fun q z h1 h3 b hb => (h2.2 q z h1 (fun y => h3 (d _ y)) b (gr_ob g hb)).trans (h.2 q z h1 h3 b hb)⟩
theorem fri_at {wi wr : List (Nat × Nat)} {S T : HS} {a k j : Nat} (h : FRI wi wr S T) (hk : k < 12) (hn : (k, j) ∉ wi) (o : ob S a k) : fI T a j = fI S a j := h.1 k j hk hn a o
theorem frr_at {wi wr : List (Nat × Nat)} {S T : HS} {a k j : Nat} (h : FRI wi wr S T) (hk : k < 12) (hn : (k, j) ∉ wr) (o : ob S a k) : fR T a j = fR S a j := h.2 k j hk hn a o
section Wr
variable {S0 S T : HS} {a j k b q i x : Nat}
theorem ln_I {v : Int32} {N : Nat} (e : T = sI S a j v) (h : hN S b = N) : hN T b = N := by rw [e]; exact h
theorem ln_J {v : Int64} {N : Nat} (e : T = sJ S a j v) (h : hN S b = N) : hN T b = N := by rw [e]; exact h
theorem ln_R {v : Option Nat} {N : Nat} (e : T = sR S a j v) (h : hN S b = N) : hN T b = N := by rw [e]; exact h
theorem hl_g {n : Nat} (g : Gr S T) (o : ob S b k) (h : hN S b < n) : hN T b < n := by rw [gr_len g o]; exact h
theorem hl_I {v : Int32} {N : Nat} (e : T = sI S a j v) (h : hN S b < N) : hN T b < N := by rw [e]; exact h
theorem rf_I {v : Int32} {r : Option Nat} (e : T = sI S a j v) (h : fR S b i = r) : fR T b i = r := by rw [e]; exact h
theorem rf_J {v : Int64} {r : Option Nat} (e : T = sJ S a j v) (h : fR S b i = r) : fR T b i = r := by rw [e]; exact h
theorem rf_Rk {v r : Option Nat} (e : T = sR S a j v) (o : ob S a k) (p : ob S b q) (hk : k ≠ q) (h : fR S b i = r) : fR T b i = r := by rw [e, sR_ne o p hk]; exact h
theorem rf_Rj {v r : Option Nat} (e : T = sR S a j v) (hj : i ≠ j) (h : fR S b i = r) : fR T b i = r := by rw [e]; exact (u2_ne _ _ (fun z => hj z.2)).trans h
theorem gr_I {v : Int32} (e : T = sI S a j v) (g : Gr S0 S) : Gr S0 T := by rw [e]; exact g
theorem gr_J {v : Int64} (e : T = sJ S a j v) (g : Gr S0 S) : Gr S0 T := by rw [e]; exact g
theorem gr_R {v : Option Nat} (e : T = sR S a j v) (g : Gr S0 S) : Gr S0 T := by rw [e]; exact g
theorem rd_Ij {v y : Int32} (e : T = sI S a j v) (hj : i ≠ j) (h : y = fI S b i) : y = fI T b i := by rw [e, rd_j hj]; exact h
theorem rd_Ik {v y : Int32} (e : T = sI S a j v) (o : ob S a k) (p : ob S b q) (hk : k ≠ q) (h : y = fI S b i) : y = fI T b i := by rw [e, sI_ne o p hk]; exact h
theorem rd_Is {v y : Int32} (e : T = sI S a j v) (h : y = v) : y = fI T a j := by rw [e, h]; exact (u2_self _ _ _ _).symm
theorem rd_J {v : Int64} {y : Int32} (e : T = sJ S a j v) (h : y = fI S b i) : y = fI T b i := by rw [e]; exact h
theorem rd_R {v : Option Nat} {y : Int32} (e : T = sR S a j v) (h : y = fI S b i) : y = fI T b i := by rw [e]; exact h
theorem fr_I {wi wr : List (Nat × Nat)} {v : Int32} (e : T = sI S a j v) (g : Gr S0 S) (h : FRI wi wr S0 S) (o : ob S a k) (hk : (k, j) ∈ wi) : FRI wi wr S0 T := by rw [e]; exact fri_sI g h o hk
theorem fr_A {wi wr : List (Nat × Nat)} {v : Int32} (e : T = sI S a j v) (g : Gr S0 S) (h : FRI wi wr S0 S) (o : ob S a k) (hk : 12 ≤ k) : FRI wi wr S0 T := by rw [e]; exact fri_aI g h o hk
theorem fr_J {wi wr : List (Nat × Nat)} {v : Int64} (e : T = sJ S a j v) (h : FRI wi wr S0 S) : FRI wi wr S0 T := by rw [e]; exact h
theorem fr_R {wi wr : List (Nat × Nat)} {v : Option Nat} (e : T = sR S a j v) (g : Gr S0 S) (h : FRI wi wr S0 S) (o : ob S a k) (hk : (k, j) ∈ wr) : FRI wi wr S0 T := by rw [e]; exact fri_sR g h o hk
theorem fr_AR {wi wr : List (Nat × Nat)} {v : Option Nat} (e : T = sR S a j v) (g : Gr S0 S) (h : FRI wi wr S0 S) (o : ob S a k) (hk : 12 ≤ k) : FRI wi wr S0 T := by rw [e]; exact fri_aR g h o hk
end Wr
theorem lc_ne {x : Int64} (h : ¬ lg_cmp x 0 = 0) : ¬ x = 0 := fun z => h (by rw [z]; decide)
theorem lc_gt {x : Int64} (h : 0 < lg_cmp x 0) : ¬ x = 0 := fun z => absurd h (by rw [z]; decide)
theorem lc_ge {x y : Int64} (h : ¬ lg_cmp x y < 0) : y ≤ x := by
  unfold lg_cmp at h
  by_cases c : x > y
  · exact Int64.le_of_lt c
  · rw [if_neg c] at h
    by_cases d : x = y
    · rw [d]; exact Int64.le_refl y
    · rw [if_neg d] at h; exact absurd (by decide) h
theorem lc_le {x y : Int64} (h : lg_cmp x y ≤ 0) : x ≤ y := by
  unfold lg_cmp at h
  by_cases c : x > y
  · rw [if_pos c] at h; exact absurd h (by decide)
  · exact Int64.not_lt.mp c
theorem i64_rng {t : Int64} {lo hi : Int32} (h1 : lo.toInt64 ≤ t) (h2 : t ≤ hi.toInt64) : lo ≤ t.toInt32 ∧ t.toInt32 ≤ hi := by
  have a := Int64.le_iff_toInt_le.mp h1
  have b := Int64.le_iff_toInt_le.mp h2
  rw [Int32.toInt_toInt64] at a b
  have l1 := lo.le_toInt
  have l2 := hi.toInt_lt
  have e : t.toInt32.toInt = t.toInt := by
    rw [Int64.toInt_toInt32]
    exact Int.bmod_eq_of_le (by omega) (by omega)
  exact ⟨Int32.le_iff_toInt_le.mpr (by rw [e]; exact a), Int32.le_iff_toInt_le.mpr (by rw [e]; exact b)⟩
theorem dvl {a c k m : Int32} (h0 : 0 ≤ a) (h : a < m) (hc : 0 < c.toInt) (hm : m.toInt = c.toInt * k.toInt) : 0 ≤ a / c ∧ a / c < k := by
  have a0 : 0 ≤ a.toInt := by simpa using Int32.le_iff_toInt_le.mp h0
  have a1 := Int32.lt_iff_toInt_lt.mp h
  have e : (a / c).toInt = a.toInt / c.toInt := by
    rw [Int32.toInt_div, Int.tdiv_eq_ediv_of_nonneg a0]
    refine Int.bmod_eq_of_le ?_ ?_
    · have := Int.ediv_nonneg a0 (Int.le_of_lt hc); omega
    · have := Int.ediv_le_self c.toInt a0; have := a.toInt_lt; omega
  have q0 : 0 ≤ a.toInt / c.toInt := Int.ediv_nonneg a0 (Int.le_of_lt hc)
  have q1 : a.toInt / c.toInt < k.toInt := Int.ediv_lt_of_lt_mul hc (by rw [Int.mul_comm]; omega)
  exact ⟨Int32.le_iff_toInt_le.mpr (by rw [e]; simpa using q0), Int32.lt_iff_toInt_lt.mpr (by rw [e]; exact q1)⟩
theorem dv0 {a c : Int32} (h0 : 0 ≤ a) (hc : 0 < c.toInt) : 0 ≤ a / c ∧ a / c ≤ a := by
  have a0 : 0 ≤ a.toInt := by simpa using Int32.le_iff_toInt_le.mp h0
  have e : (a / c).toInt = a.toInt / c.toInt := by
    rw [Int32.toInt_div, Int.tdiv_eq_ediv_of_nonneg a0]
    refine Int.bmod_eq_of_le ?_ ?_
    · have := Int.ediv_nonneg a0 (Int.le_of_lt hc); omega
    · have := Int.ediv_le_self c.toInt a0; have := a.toInt_lt; omega
  exact ⟨Int32.le_iff_toInt_le.mpr (by rw [e]; simpa using Int.ediv_nonneg a0 (Int.le_of_lt hc)), Int32.le_iff_toInt_le.mpr (by rw [e]; exact Int.ediv_le_self _ a0)⟩
theorem rm_rng {a b : Int32} (h0 : 0 ≤ a) (hb : 0 < b) : 0 ≤ a - a / b * b ∧ a - a / b * b < b := by
  have a0 : 0 ≤ a.toInt := by simpa using Int32.le_iff_toInt_le.mp h0
  have b0 : 0 < b.toInt := by simpa using Int32.lt_iff_toInt_lt.mp hb
  obtain ⟨n, hn, rfl⟩ := nI_of (x := a) (fun z => absurd (Int32.lt_iff_toInt_lt.mp z) (by simpa using a0))
  obtain ⟨d, hd, rfl⟩ := nI_of (x := b) (fun z => absurd (Int32.lt_iff_toInt_lt.mp z) (by simpa using Int.le_of_lt b0))
  have hd0 : 0 < d := by rw [nI_toInt hd] at b0; omega
  rw [pk_rem hn hd0 hd]
  have hl := Nat.mod_lt n hd0
  exact ⟨nI_pos' (by omega), nI_lt hl hd⟩
theorem wyl {S : HS} {a b j N : Nat} (h : IV S) (o : ob S a 7) (i : Nat) (hi : wyT[i]? = some (j, N)) (hN' : N < 2147483648) (e : fR S a j = some b) : hN S b < 2147483648 := by
  rcases h.2.2.1 a o with g | g
  · rw [g _ (List.mem_of_getElem? hi) b e]; decide
  · rw [g _ (List.mem_of_getElem? hi) b e]; exact hN'
/-- the rows of Ways are made -/
def WM (S : HS) (a : Nat) : Prop := ∀ e ∈ wyT, ∀ b, fR S a e.1 = some b → hN S b = e.2
theorem wm {S : HS} {a b j N : Nat} (h : WM S a) (i : Nat) (hi : wyT[i]? = some (j, N)) (e : fR S a j = some b) : hN S b = N := h _ (List.mem_of_getElem? hi) b e
theorem wm_of {S : HS} {a b : Nat} (h : IV S) (o : ob S a 7) (e : fR S a 1 = some b) (hb : ¬ nI (hN S b) = 0) : WM S a := by
  rcases h.2.2.1 a o with g | g
  · exact absurd (by rw [g (1, 3208) (by decide) b e]; decide) hb
  · exact g
theorem wm_I {S T : HS} {a j b : Nat} {v : Int32} (e : T = sI S a j v) (h : WM S b) : WM T b := by rw [e]; exact h
theorem wm_J {S T : HS} {a j b : Nat} {v : Int64} (e : T = sJ S a j v) (h : WM S b) : WM T b := by rw [e]; exact h
theorem wm_fr {wi wr : List (Nat × Nat)} {S T : HS} {a : Nat} (fc : FRI wi wr S T) (g : Gr S T) (hI : IV S) (o : ob S a 7) (hn : ∀ e ∈ wyT, (7, e.1) ∉ wr) (h : WM S a) : WM T a := by
  intro e he b hb
  have h1 : fR S a e.1 = some b := (frr_at fc (by decide) (hn e he) o).symm.trans hb
  have hm : ∀ e ∈ wyT, (7, e.1, 13, 0) ∈ shT ∨ (7, e.1, 14, 0) ∈ shT := by decide
  have hm2 : ∃ q, (7, e.1, q, 0) ∈ shT := (hm e he).elim (fun z => ⟨13, z⟩) (fun z => ⟨14, z⟩)
  obtain ⟨q, hq⟩ := hm2
  obtain ⟨c, c1, c2, -⟩ := hI.1 _ hq a o
  have hc : c = b := Option.some.inj (c1.symm.trans h1)
  subst hc
  rw [gr_len g c2]
  exact h e he c h1
theorem sl_lt (w : Nat) : sLen.getD w 0 < 2147483648 := by
  rw [List.getD_eq_getElem?_getD]
  cases h : sLen[w]? with
  | none => decide
  | some v => exact (show ∀ x ∈ sLen, x < 2147483648 by decide) v (List.mem_of_getElem? h)
/-- there is room for one more in the world that is read -/
def RM (S : HS) (a j : Nat) (n : Int32) : Prop := ∀ w, fR S a 5 = some w → fI S w j < n
/-- the reader has its text -/
def TX (S : HS) (a : Nat) : Prop := ∃ t, fR S a 2 = some t ∧ ob S t 12 ∧ hN S t = 900
theorem tx_I {S T : HS} {a j b : Nat} {v : Int32} (e : T = sI S a j v) (h : TX S b) : TX T b := by rw [e]; exact h
theorem tx_J {S T : HS} {a j b : Nat} {v : Int64} (e : T = sJ S a j v) (h : TX S b) : TX T b := by rw [e]; exact h
/-- w is no object's world -/
def NW (S : HS) (w : Nat) : Prop := ∀ o, ob S o 11 → fR S o 3 ≠ some w
section Ref
variable {S T : HS} {a b w o j k q i x : Nat}
theorem ml_of (h : IV S) (oo : ob S o 11) : ML S o := h.2.2.2.2.2.2 o oo
theorem ml_ob (h : IV S) (oo : ob S o 11) (e : fR S o 3 = some w) : ob S w 10 := ((ml_of h oo).1 w e).1
theorem ml_ob4 (h : IV S) (oo : ob S o 11) (e : fR S o 4 = some w) : ob S w 10 := (ml_of h oo).2.1 w e
theorem ml_wg (h : IV S) (oo : ob S o 11) (e : fR S o 3 = some w) : WG S w := ((ml_of h oo).1 w e).2.1
theorem ml_hour (h : IV S) (oo : ob S o 11) (e : fR S o 3 = some w) : 1 ≤ fI S w 0 := ((ml_of h oo).1 w e).2.2
theorem ml_who (h : IV S) (oo : ob S o 11) (e : fR S o 3 = some w) : fI S o 19 = -2 ∨ (0 ≤ fI S o 19 ∧ fI S o 19 < fI S w 4) := by
  rcases (ml_of h oo).2.2.1 with g | ⟨g, w', g2, g3⟩
  · exact Or.inl g
  · cases e.symm.trans g2
    exact Or.inr ⟨g, g3⟩
theorem ml_de (h : IV S) (oo : ob S o 11) (hj : j = 21 ∨ j = 22 ∨ j = 23) (e : fR S o j = some b) (z : Nat) : de1 z (fJ S b z) := (ml_of h oo).2.2.2 j hj b e z
theorem wg_at (h : WG S w) (n : Nat) {c jj hf : Nat} {lo hi : Int32} (hn : wgT[n]? = some (c, jj, lo, hi, hf)) {y : Int32} (hy : 0 ≤ y ∧ y < fI S w c) (e : fR S w jj = some b) : lo ≤ fI S b y.toNatClampNeg ∧ fI S b y.toNatClampNeg ≤ hi := by
  have h1 := h.1 _ (List.mem_of_getElem? hn) y hy.1 hy.2 b e
  exact ⟨h1.1, h1.2.1⟩
theorem wg_lt (h : WG S w) (n : Nat) {c jj hf : Nat} {lo hi : Int32} (hn : wgT[n]? = some (c, jj, lo, hi, hf)) (hff : hf ≠ 99) {y : Int32} (hy : 0 ≤ y ∧ y < fI S w c) (e : fR S w jj = some b) : fI S b y.toNatClampNeg < fI S w hf := ((h.1 _ (List.mem_of_getElem? hn) y hy.1 hy.2 b e).2.2).resolve_left hff
/-- an int field of the reference's object (not who) -/
theorem iv11_sI {v : Int32} (h : IV S) (oo : ob S a 11) (hj : j ≠ 19) (hc : ∀ e ∈ nuT, e.1 = 11 → e.2.1 = j → e.2.2.1 ≤ v ∧ v ≤ e.2.2.2) : IV (sI S a j v) := by
  refine ⟨h.1, h.2.1, h.2.2.1, nuf_sI h.2.2.2.1 oo hc, h.2.2.2.2.1, h.2.2.2.2.2.1, fun y oy => ?_⟩
  have oy' : ob S y 11 := oy
  have hm := ml_of h oy'
  refine ml_same (S := S) (fun _ _ z => z) ⟨u2_ne _ _ (fun z => hj z.2.symm), rfl, fun w e => ?_, fun _ _ _ _ => rfl⟩ hm
  have hw := (hm.1 w e).1
  refine ⟨u2_row _ _ (fun z => ?_), rfl, fun i b hp hb => u2_row _ _ (fun z => ?_)⟩
  · have := ob_inj (z ▸ hw) oo; omega
  · obtain ⟨r, r1, r2, r3⟩ := pr_kind h.1 hw hp hb
    have := ob_inj (z ▸ r1) oo; omega
theorem iv11_sJ {v : Int64} (h : IV S) (oo : ob S a 11) : IV (sJ S a j v) := ⟨h.1, h.2.1, h.2.2.1, h.2.2.2.1, fre_J (npr h.1 oo (Or.inl (by omega))) h.2.2.2.2⟩
theorem nuf_arr {v : Int32} (h : NUF S) (p : ob S b q) (hq : 12 ≤ q) : NUF (sI S b i v) := by
  refine nuf_sI h p ?_
  intro e he h1 _
  have : ∀ e ∈ nuT, e.1 < 12 := by decide
  have := this e he
  omega
/-- who he is -/
theorem ml_who_set {v : Int32} (h : IV S) (oo : ob S a 11) (hv : v = -2 ∨ (0 ≤ v ∧ v ≤ 3 ∧ ∃ w, fR S a 3 = some w ∧ v < fI S w 4)) : IV (sI S a 19 v) := by
  have hn : (-2 : Int32) ≤ v ∧ v ≤ 3 := by
    rcases hv with rfl | ⟨h1, h2, -⟩
    · decide
    · exact ⟨Int32.le_trans (by decide) h1, h2⟩
  refine ⟨h.1, h.2.1, h.2.2.1, nuf_sI h.2.2.2.1 oo (nu_one (lo := -2) (hi := 3) (by decide) hn), h.2.2.2.2.1, h.2.2.2.2.2.1, fun y oy => ?_⟩
  have oy' : ob S y 11 := oy
  have hm := ml_of h oy'
  have hI10 : ∀ z, ob S z 10 → fI (sI S a 19 v) z = fI S z := fun z oz => u2_row _ _ (fun t => by have := ob_inj (t ▸ oz) oo; omega)
  have hIar : ∀ w i b, ob S w 10 → (10, i) ∈ prT → fR S w i = some b → fI (sI S a 19 v) b = fI S b := fun w i b hw hp hb => u2_row _ _ (fun t => by
    obtain ⟨r, r1, r2, r3⟩ := pr_kind h.1 hw hp hb
    have := ob_inj (t ▸ r1) oo; omega)
  refine ⟨fun w e => ?_, hm.2.1, ?_, hm.2.2.2⟩
  · have hw := hm.1 w e
    refine ⟨hw.1, wg_same (S := S) ⟨hI10 w hw.1, rfl, fun i b hp hb => hIar w i b hw.1 hp hb⟩ hw.2.1, ?_⟩
    rw [hI10 w hw.1]; exact hw.2.2
  · by_cases c : y = a
    · subst c
      rw [show fI (sI S y 19 v) y 19 = v from u2_self _ _ _ _]
      rcases hv with g | ⟨g1, g2, w, g3, g4⟩
      · exact Or.inl g
      · exact Or.inr ⟨g1, w, g3, by rw [hI10 w (hm.1 w g3).1]; exact g4⟩
    · rw [show fI (sI S a 19 v) y 19 = fI S y 19 from u2_ne _ _ (fun z => c z.1)]
      rcases hm.2.2.1 with g | ⟨g1, w, g3, g4⟩
      · exact Or.inl g
      · exact Or.inr ⟨g1, w, g3, by rw [hI10 w (hm.1 w g3).1]; exact g4⟩
/-- an int field of a world that is no one's -/
theorem iv10_sI {v : Int32} (h : IV S) (oo : ob S a 10) (hn : NW S a) (hc : ∀ e ∈ nuT, e.1 = 10 → e.2.1 = j → e.2.2.1 ≤ v ∧ v ≤ e.2.2.2) : IV (sI S a j v) := by
  refine ⟨h.1, h.2.1, h.2.2.1, nuf_sI h.2.2.2.1 oo hc, h.2.2.2.2.1, h.2.2.2.2.2.1, fun y oy => ?_⟩
  have oy' : ob S y 11 := oy
  have hm := ml_of h oy'
  refine ml_same (S := S) (fun _ _ z => z) ⟨u2_ne _ _ (fun z => ?_), rfl, fun w e => ?_, fun _ _ _ _ => rfl⟩ hm
  · have := ob_inj (z.1 ▸ oy') oo; omega
  · have hw := (hm.1 w e).1
    refine ⟨u2_row _ _ (fun z => hn y oy' (z ▸ e)), rfl, fun i b hp hb => u2_row _ _ (fun z => ?_)⟩
    obtain ⟨r, r1, r2, r3⟩ := pr_kind h.1 hw hp hb
    have := ob_inj (z ▸ r1) oo; omega
/-- an array of a world that is no one's -/
theorem iv10_aI {v : Int32} (h : IV S) (oo : ob S a 10) (hn : NW S a) (e : fR S a j = some b) (p : ob S b q) (hq : 12 ≤ q) : IV (sI S b i v) := by
  refine ⟨h.1, h.2.1, h.2.2.1, nuf_arr h.2.2.2.1 p hq, h.2.2.2.2.1, h.2.2.2.2.2.1, fun y oy => ?_⟩
  have oy' : ob S y 11 := oy
  have hm := ml_of h oy'
  refine ml_same (S := S) (fun _ _ z => z) ⟨u2_ne _ _ (fun z => ?_), rfl, fun w e' => ?_, fun _ _ _ _ => rfl⟩ hm
  · have := ob_inj (z.1 ▸ oy') p; omega
  · have hw := (hm.1 w e').1
    refine ⟨u2_row _ _ (fun z => ?_), rfl, fun i2 b2 hp hb => u2_row _ _ (fun z => ?_)⟩
    · have := ob_inj (z ▸ hw) p; omega
    · have := (h.2.2.2.2.1 a 10 j w 10 i2 b oo (by omega) hw hp e (z ▸ hb)).1
      exact hn y oy' (this ▸ e')
theorem iv10_aJ {v : Int64} (h : IV S) (oo : ob S a 10) (hnp : (10, j) ∉ prT) (e : fR S a j = some b) : IV (sJ S b i v) := ⟨h.1, h.2.1, h.2.2.1, h.2.2.2.1, fre_J (npr_arr h.2.2.2.2.1 oo (by omega) hnp e) h.2.2.2.2⟩
/-- an array of ints, of bytes of the reference's object -/
theorem iv11_aI {v : Int32} (h : IV S) (oo : ob S a 11) (e : fR S a j = some b) (p : ob S b q) (hq : 12 ≤ q) : IV (sI S b i v) := by
  refine ⟨h.1, h.2.1, h.2.2.1, nuf_arr h.2.2.2.1 p hq, h.2.2.2.2.1, h.2.2.2.2.2.1, fun y oy => ?_⟩
  have oy' : ob S y 11 := oy
  have hm := ml_of h oy'
  refine ml_same (S := S) (fun _ _ z => z) ⟨u2_ne _ _ (fun z => ?_), rfl, fun w e' => ?_, fun _ _ _ _ => rfl⟩ hm
  · have := ob_inj (z.1 ▸ oy') p; omega
  · have hw := (hm.1 w e').1
    refine ⟨u2_row _ _ (fun z => ?_), rfl, fun i2 b2 hp hb => u2_row _ _ (fun z => ?_)⟩
    · have := ob_inj (z ▸ hw) p; omega
    · have := (h.2.2.2.2.1 a 11 j w 10 i2 b oo (by omega) hw hp e (z ▸ hb)).1
      have := ob_inj (this ▸ hw) oo
      omega
theorem iv11_aJ {v : Int64} (h : IV S) (oo : ob S a 11) (hnp : (11, j) ∉ prT) (e : fR S a j = some b) : IV (sJ S b i v) := ⟨h.1, h.2.1, h.2.2.1, h.2.2.2.1, fre_J (npr_arr h.2.2.2.2.1 oo (by omega) hnp e) h.2.2.2.2⟩
/-- a place or a minute of a day is written -/
theorem iv11_aD {v : Int64} (h : IV S) (hv : de1 i v) : IV (sJ S b i v) := by
  refine ⟨h.1, h.2.1, h.2.2.1, h.2.2.2.1, h.2.2.2.2.1, h.2.2.2.2.2.1, fun y oy => ?_⟩
  have oy' : ob S y 11 := oy
  have hm := ml_of h oy'
  refine ⟨hm.1, hm.2.1, hm.2.2.1, fun j hj c e z => ?_⟩
  show de1 z (u2 (fJ S) b i v c z)
  by_cases c' : c = b ∧ z = i
  · rw [c'.1, c'.2, u2_self]; exact hv
  · rw [u2_ne _ _ c']; exact hm.2.2.2 j hj c e z
/-- the world that is read -/
theorem sh_sR {v : Nat} (h : SHF S) (oo : ob S a k) (hf : ∀ e ∈ shT, ¬ (e.1 = k ∧ e.2.1 = j)) : SHF (sR S a j (some v)) := by
  intro e he b hb
  have hb' : ob S b e.1 := hb
  obtain ⟨d, d1, d2⟩ := h e he b hb'
  refine ⟨d, (u2_ne _ _ (fun z => ?_)).trans d1, d2⟩
  exact hf e he ⟨ob_inj hb' (z.1 ▸ oo), z.2⟩
theorem ae_sR {v : Nat} (h : AEF S) (oo : ob S a k) (hk : k < 12) : AEF (sR S a j (some v)) := by
  intro r h1 h2 b hb z hz
  have hb' : ob S b r := hb
  obtain ⟨d, d1, d2⟩ := h r h1 h2 b hb' z hz
  exact ⟨d, by rw [sR_ne oo hb' (by omega)]; exact d1, d2⟩
theorem wy_sR {v : Nat} (h : WYF S) (oo : ob S a k) (hk : k ≠ 7) : WYF (sR S a j (some v)) := by
  intro b hb
  have hb' : ob S b 7 := hb
  have hne : ∀ z, fR (sR S a j (some v)) b z = fR S b z := fun z => sR_ne oo hb' hk z
  rcases h b hb' with g | g
  · exact Or.inl (fun e he d hd => g e he d (by rw [← hne]; exact hd))
  · exact Or.inr (fun e he d hd => g e he d (by rw [← hne]; exact hd))
theorem iv11_read {v : Nat} (h : IV S) (oo : ob S a 11) (ov : ob S v 10) : IV (sR S a 4 (some v)) := by
  obtain ⟨h1, h2⟩ := ow_sR (j := 4) oo (by decide) (npr h.1 ov (Or.inl (by omega))) ov.1 ⟨h.2.2.2.2.1, h.2.2.2.2.2.1⟩
  refine ⟨sh_sR h.1 oo (by decide), ae_sR h.2.1 oo (by omega), wy_sR h.2.2.1 oo (by omega), h.2.2.2.1, h1, h2, fun y oy => ?_⟩
  have oy' : ob S y 11 := oy
  have hm := ml_of h oy'
  have hne : ∀ j, j ≠ 4 → fR (sR S a 4 (some v)) y j = fR S y j := fun j hj => u2_ne _ _ (fun z => hj z.2)
  have hne2 : ∀ w, ob S w 10 → fR (sR S a 4 (some v)) w = fR S w := fun w hw => u2_row _ _ (fun z => by have := ob_inj (z ▸ hw) oo; omega)
  refine ⟨fun w e => ?_, fun w e => ?_, ?_, fun j hj b e => ?_⟩
  · rw [hne 3 (by omega)] at e
    have hw := hm.1 w e
    exact ⟨hw.1, wg_same (S := S) ⟨rfl, hne2 w hw.1, fun _ _ _ _ => rfl⟩ hw.2.1, hw.2.2⟩
  · by_cases c : y = a
    · subst c
      rw [show fR (sR S y 4 (some v)) y 4 = some v from u2_self _ _ _ _] at e
      cases e; exact ov
    · rw [show fR (sR S a 4 (some v)) y 4 = fR S y 4 from u2_ne _ _ (fun z => c z.1)] at e
      exact hm.2.1 w e
  · rcases hm.2.2.1 with g | ⟨g1, w, g3, g4⟩
    · exact Or.inl g
    · exact Or.inr ⟨g1, w, by rw [hne 3 (by omega)]; exact g3, g4⟩
  · rw [hne j (by omega)] at e
    exact hm.2.2.2 j hj b e
/-- the world that was read is the world, and there is no day -/
theorem iv11_world {v : Nat} (h : IV S) (oo : ob S a 11) (ov : ob S v 10) (hg : WG S v) (hh : 1 ≤ fI S v 0) : IV (sI (sR S a 3 (some v)) a 19 (-2)) := by
  obtain ⟨h1, h2⟩ := ow_sR (j := 3) oo (by decide) (npr h.1 ov (Or.inl (by omega))) ov.1 ⟨h.2.2.2.2.1, h.2.2.2.2.2.1⟩
  refine ⟨sh_sR h.1 oo (by decide), ae_sR h.2.1 oo (by omega), wy_sR h.2.2.1 oo (by omega), nuf_sI (S := sR S a 3 (some v)) h.2.2.2.1 oo (nu_one (lo := -2) (hi := 3) (by decide) (by decide)), h1, h2, fun y oy => ?_⟩
  have oy' : ob S y 11 := oy
  have hm := ml_of h oy'
  have hne : ∀ j, j ≠ 3 → fR (sI (sR S a 3 (some v)) a 19 (-2)) y j = fR S y j := fun j hj => u2_ne _ _ (fun z => hj z.2)
  have hne2 : ∀ w, ob S w 10 → fR (sI (sR S a 3 (some v)) a 19 (-2)) w = fR S w := fun w hw => u2_row _ _ (fun z => by have := ob_inj (z ▸ hw) oo; omega)
  have hI10 : ∀ z, ob S z 10 → fI (sI (sR S a 3 (some v)) a 19 (-2)) z = fI S z := fun z oz => u2_row _ _ (fun t => by have := ob_inj (t ▸ oz) oo; omega)
  have hIar : ∀ w i b, ob S w 10 → (10, i) ∈ prT → fR S w i = some b → fI (sI (sR S a 3 (some v)) a 19 (-2)) b = fI S b := fun w i b hw hp hb => u2_row _ _ (fun t => by
    obtain ⟨r, r1, r2, r3⟩ := pr_kind h.1 hw hp hb
    have := ob_inj (t ▸ r1) oo; omega)
  have hwg : ∀ w, ob S w 10 → WG S w → 1 ≤ fI S w 0 → ob S w 10 ∧ WG (sI (sR S a 3 (some v)) a 19 (-2)) w ∧ 1 ≤ fI (sI (sR S a 3 (some v)) a 19 (-2)) w 0 := fun w ow g1 g2 => ⟨ow, wg_same (S := S) ⟨hI10 w ow, hne2 w ow, fun i b hp hb => hIar w i b ow hp hb⟩ g1, by rw [hI10 w ow]; exact g2⟩
  refine ⟨fun w e => ?_, fun w e => ?_, ?_, fun j hj b e => ?_⟩
  · by_cases c : y = a
    · subst c
      rw [show fR (sI (sR S y 3 (some v)) y 19 (-2)) y 3 = some v from u2_self _ _ _ _] at e
      cases e
      exact hwg v ov hg hh
    · rw [show fR (sI (sR S a 3 (some v)) a 19 (-2)) y 3 = fR S y 3 from u2_ne _ _ (fun z => c z.1)] at e
      have hw := hm.1 w e
      exact hwg w hw.1 hw.2.1 hw.2.2
  · rw [hne 4 (by omega)] at e
    exact hm.2.1 w e
  · by_cases c : y = a
    · subst c
      exact Or.inl (u2_self _ _ _ _)
    · rw [show fI (sI (sR S a 3 (some v)) a 19 (-2)) y 19 = fI S y 19 from u2_ne _ _ (fun z => c z.1)]
      rcases hm.2.2.1 with g | ⟨g1, w, g3, g4⟩
      · exact Or.inl g
      · refine Or.inr ⟨g1, w, ?_, by rw [hI10 w (hm.1 w g3).1]; exact g4⟩
        exact (show fR (sI (sR S a 3 (some v)) a 19 (-2)) y 3 = fR S y 3 from u2_ne _ _ (fun z => c z.1)).trans g3
  · rw [hne j (by omega)] at e
    exact hm.2.2.2 j hj b e
end Ref
end
section
/-! the pool grows: new arrays, one object made or made anew; kind 99: an object that is under construction -/
def FK (q : Nat) : Prop := (12 ≤ q ∧ q < 16) ∨ q = 99
def SD (S T : HS) (a : Nat) : Prop := a ∈ hL T ∧ hK T a = hK S a ∧ hN T a = hN S a ∧ fI T a = fI S a ∧ fJ T a = fJ S a ∧ fR T a = fR S a
def OKV (S T : HS) (v : Nat) : Prop := v ∈ hL T ∧ hK T v < 12 ∧ (v ∈ hL S → hK S v = 99 ∨ (hK S v = hK T v ∧ hK S v < 10)) ∧ (∀ e ∈ shT, e.1 = hK T v → ∃ b, fR T v e.2.1 = some b ∧ ob T b e.2.2.1 ∧ (e.2.2.2 = 0 ∨ hN T b = e.2.2.2)) ∧ (hK T v = 7 → (∀ e ∈ wyT, ∀ b, fR T v e.1 = some b → hN T b = 0) ∨ (∀ e ∈ wyT, ∀ b, fR T v e.1 = some b → hN T b = e.2)) ∧ (∀ e ∈ nuT, e.1 = hK T v → e.2.2.1 ≤ fI T v e.2.1 ∧ fI T v e.2.1 ≤ e.2.2.2) ∧ (∀ j b, fR T v j = some b → b ∈ hL T ∧ ∀ x k j', ob S x k → (k, j') ∈ prT → x ≠ v → fR S x j' ≠ some b) ∧ (∀ j b, (hK T v, j) ∈ prT → fR T v j = some b → b ∉ hL S ∧ ∀ j', fR T v j' = some b → j' = j) ∧ (hK T v = 11 → ML T v)
theorem ml_same' {S T : HS} {o : Nat} (hob : ∀ a, ob S a 10 → ob T a 10) (so : SO S T o) (h : ML S o) : ML T o := by
  obtain ⟨hi, hr, hw, hd⟩ := so
  obtain ⟨h1, h2, h3, h4⟩ := h
  refine ⟨fun w e => ?_, fun w e => ?_, ?_, fun j hj b e => ?_⟩
  · rw [hr] at e
    obtain ⟨a1, a2, a3⟩ := h1 w e
    refine ⟨hob _ a1, wg_same (hw w e) a2, ?_⟩
    rw [(hw w e).1]; exact a3
  · rw [hr] at e; exact hob _ (h2 w e)
  · rw [hi]
    rcases h3 with g | ⟨g, w, g2, g3⟩
    · exact Or.inl g
    · refine Or.inr ⟨g, w, by rw [hr]; exact g2, ?_⟩
      rw [(hw w g2).1]; exact g3
  · rw [hr] at e
    have hp : (11, j) ∈ prT := by rcases hj with rfl | rfl | rfl <;> decide
    have h5 := hd j b hp e
    intro z
    rw [h5]
    exact h4 j hj b e z
theorem iv_ext {S T : HS} {v : Nat} (hI : IV S) (ho : ∀ a, a ∈ hL S → a ≠ v → hK S a ≠ 99 → SD S T a) (hl : ∀ a, a ∈ hL S → a ∈ hL T) (hn : ∀ a, a ∈ hL T → (a ∈ hL S ∧ a ≠ v ∧ hK S a ≠ 99) ∨ a = v ∨ FK (hK T a)) (hv : (v ∈ hL T → FK (hK T v)) ∧ (v ∈ hL S → hK S v = 99) ∨ OKV S T v) : IV T := by
  have ks : ∀ e ∈ shT, e.1 < 12 ∧ e.2.2.1 < 20 := by decide
  have kn : ∀ e ∈ nuT, e.1 < 12 := by decide
  -- an object of T of kind below 12, or 16 to 19: of S, or v
  have cs : ∀ a k, ob T a k → ¬ FK k → (a ≠ v ∧ ob S a k ∧ SD S T a) ∨ (a = v ∧ OKV S T v) := by
    intro a k o hk
    rcases hn a o.1 with ⟨h1, h2, h3⟩ | h1 | h1
    · have sd := ho a h1 h2 h3
      exact Or.inl ⟨h2, ⟨h1, sd.2.1.symm.trans o.2⟩, sd⟩
    · subst h1
      rcases hv with ⟨h, -⟩ | h
      · exact absurd (o.2 ▸ h o.1) hk
      · exact Or.inr ⟨rfl, h⟩
    · exact absurd (o.2 ▸ h1) hk
  have nf : ∀ k, k < 12 → ¬ FK k := fun k hk h => by rcases h with h | h <;> omega
  have nf2 : ∀ k, 16 ≤ k → k < 20 → ¬ FK k := fun k hk hk2 h => by rcases h with h | h <;> omega
  -- what is of a kind in S is so in T
  have up : ∀ b q, ob S b q → q ≠ 99 → ob T b q ∧ hN T b = hN S b ∨ b = v ∧ (v ∈ hL T ∧ hK T v = q) := by
    intro b q o hq
    by_cases c : b = v
    · subst c
      rcases hv with ⟨-, h⟩ | h
      · exact absurd (o.2.symm.trans (h o.1)) hq
      · rcases h.2.2.1 o.1 with g | ⟨g, -⟩
        · exact absurd (o.2.symm.trans g) hq
        · exact Or.inr ⟨rfl, h.1, g.symm.trans o.2⟩
    · have sd := ho b o.1 c (by rw [o.2]; exact hq)
      exact Or.inl ⟨⟨sd.1, sd.2.1.trans o.2⟩, sd.2.2.1⟩
  have upo : ∀ b q, ob S b q → q ≠ 99 → ob T b q := by
    intro b q o hq
    rcases up b q o hq with h | ⟨rfl, h⟩
    · exact h.1
    · exact ⟨h.1, h.2⟩
  have upa : ∀ b q, ob S b q → 12 ≤ q → q < 20 → SD S T b := by
    intro b q o h1 h2
    refine ho b o.1 (fun c => ?_) (by rw [o.2]; omega)
    subst c
    rcases hv with ⟨-, h⟩ | h
    · have := o.2.symm.trans (h o.1); omega
    · rcases h.2.2.1 o.1 with g | ⟨g, g2⟩
      · have := o.2.symm.trans g; omega
      · have := o.2; omega
  have shs : SHF T := by
    intro e he a o
    rcases cs a e.1 o (nf _ (ks e he).1) with ⟨h1, h2, h3⟩ | ⟨rfl, h⟩
    · obtain ⟨b, b1, b2, b3⟩ := hI.1 e he a h2
      refine ⟨b, by rw [h3.2.2.2.2.2]; exact b1, upo b _ b2 (by have := (ks e he).2; omega), ?_⟩
      rcases b3 with b3 | b3
      · exact Or.inl b3
      · rcases up b _ b2 (by have := (ks e he).2; omega) with g | ⟨rfl, g⟩
        · exact Or.inr (g.2.trans b3)
        · by_cases z : e.2.2.2 = 0
          · exact Or.inl z
          · have hz : ∀ e ∈ shT, e.2.2.2 ≠ 0 → 12 ≤ e.2.2.1 := by decide
            have := hz e he z
            exact Or.inr ((upa _ _ b2 this (ks e he).2).2.2.1.trans b3)
    · exact h.2.2.2.1 e he o.2.symm
  refine ⟨shs, ?_, ?_, ?_, ?_, ?_, ?_⟩
  · intro q h1 h2 a o i hi
    rcases cs a q o (nf2 q h1 h2) with ⟨-, h3, h4⟩ | ⟨rfl, h⟩
    · obtain ⟨b, b1, b2⟩ := hI.2.1 q h1 h2 a h3 i (by rw [← h4.2.2.1]; exact hi)
      have hae : aeK q ≠ 99 := by unfold aeK; split <;> (try split) <;> (try split) <;> omega
      exact ⟨b, by rw [h4.2.2.2.2.2]; exact b1, upo b _ b2 hae⟩
    · have := h.2.1; have := o.2; omega
  · intro a o
    rcases cs a 7 o (nf 7 (by omega)) with ⟨-, h3, h4⟩ | ⟨rfl, h⟩
    · have key : ∀ e ∈ wyT, ∀ b, fR T a e.1 = some b → fR S a e.1 = some b ∧ hN T b = hN S b := by
        intro e he b hb
        rw [h4.2.2.2.2.2] at hb
        refine ⟨hb, ?_⟩
        have hm : ∀ e ∈ wyT, ∃ q, (7, e.1, q, 0) ∈ shT ∧ 12 ≤ q ∧ q < 20 := by
          intro e he
          have hm : ∀ e ∈ wyT, (7, e.1, 13, 0) ∈ shT ∨ (7, e.1, 14, 0) ∈ shT := by decide
          exact (hm e he).elim (fun z => ⟨13, z, by omega, by omega⟩) (fun z => ⟨14, z, by omega, by omega⟩)
        obtain ⟨q, hq, q1, q2⟩ := hm e he
        obtain ⟨c, c1, c2, -⟩ := hI.1 _ hq a h3
        obtain rfl : c = b := Option.some.inj (c1.symm.trans hb)
        exact (upa _ _ c2 q1 q2).2.2.1
      rcases hI.2.2.1 a h3 with g | g
      · exact Or.inl (fun e he b hb => (key e he b hb).2.trans (g e he b (key e he b hb).1))
      · exact Or.inr (fun e he b hb => (key e he b hb).2.trans (g e he b (key e he b hb).1))
    · exact h.2.2.2.2.1 o.2
  · intro e he a o
    rcases cs a e.1 o (nf _ (kn e he)) with ⟨-, h3, h4⟩ | ⟨rfl, h⟩
    · rw [h4.2.2.2.1]; exact hI.2.2.2.1 e he a h3
    · exact h.2.2.2.2.2.1 e he o.2.symm
  · intro a k j a' k' j' b o hk o' hp e e'
    rcases cs a' k' o' (nf _ (pr_ge _ hp).2) with ⟨n', s', d'⟩ | ⟨rfl, h'⟩
    · have e'2 : fR S a' j' = some b := by rw [← d'.2.2.2.2.2]; exact e'
      rcases cs a k o (nf _ hk) with ⟨-, s1, d1⟩ | ⟨rfl, h⟩
      · exact hI.2.2.2.2.1 a k j a' k' j' b s1 hk s' hp (by rw [← d1.2.2.2.2.2]; exact e) e'2
      · exact absurd e'2 ((h.2.2.2.2.2.2.1 j b e).2 a' k' j' s' hp n')
    · rcases cs a k o (nf _ hk) with ⟨n1, s1, d1⟩ | ⟨rfl, h⟩
      · have e2 : fR S a j = some b := by rw [← d1.2.2.2.2.2]; exact e
        exact absurd (hI.2.2.2.2.2.1 a k j b s1 hk e2) ((h'.2.2.2.2.2.2.2.1 j' b (by rw [o'.2]; exact hp) e').1)
      · exact ⟨rfl, (h'.2.2.2.2.2.2.2.1 j' b (by rw [o'.2]; exact hp) e').2 j e⟩
  · intro a k j b o hk e
    rcases cs a k o (nf _ hk) with ⟨-, s1, d1⟩ | ⟨rfl, h⟩
    · have e2 : fR S a j = some b := by rw [← d1.2.2.2.2.2]; exact e
      exact hl b (hI.2.2.2.2.2.1 a k j b s1 hk e2)
    · exact (h.2.2.2.2.2.2.1 j b e).1
  · intro a o
    rcases cs a 11 o (nf 11 (by omega)) with ⟨-, s1, d1⟩ | ⟨rfl, h⟩
    · have hm := hI.2.2.2.2.2.2 a s1
      have wne : ∀ w, ob S w 10 → SD S T w := by
        intro w ow
        refine ho w ow.1 (fun c => ?_) (by rw [ow.2]; omega)
        subst c
        rcases hv with ⟨-, h⟩ | h
        · have := ow.2.symm.trans (h ow.1); omega
        · rcases h.2.2.1 ow.1 with g | ⟨g, g2⟩
          · have := ow.2.symm.trans g; omega
          · have := ow.2; omega
      refine ml_same' (S := S) (fun w ow => ⟨(wne w ow).1, (wne w ow).2.1.trans ow.2⟩) ⟨by rw [d1.2.2.2.1], d1.2.2.2.2.2, fun w e => ?_, fun j b hp e => ?_⟩ hm
      · have ow := (hm.1 w e).1
        refine ⟨(wne w ow).2.2.2.1, (wne w ow).2.2.2.2.2, fun j b hp hb => ?_⟩
        obtain ⟨q, q1, q2, q3⟩ := pr_kind hI.1 ow hp hb
        exact (upa b q q1 (by omega) (by omega)).2.2.2.1
      · obtain ⟨q, q1, q2, q3⟩ := pr_kind hI.1 s1 hp e
        exact (upa b q q1 (by omega) (by omega)).2.2.2.2.1
    · exact h.2.2.2.2.2.2.2.2 o.2

/-- new arrays, put into an object's fields -/
def BX (S0 S : HS) (v : Nat) (F : List (Nat × Nat × Nat)) (f : Nat → Int32) : Prop := Gr S0 S ∧ (∀ a, a ∈ hL S0 → a ≠ v → fI S a = fI S0 a ∧ fJ S a = fJ S0 a ∧ fR S a = fR S0 a) ∧ (∀ a, a ∈ hL S → a ∈ hL S0 ∨ (12 ≤ hK S a ∧ hK S a < 16)) ∧ (∀ e ∈ F, ∃ b, fR S v e.1 = some b ∧ b ∉ hL S0 ∧ ob S b e.2.1 ∧ hN S b = e.2.2 ∧ ∀ z, fJ S b z = 0) ∧ (∀ j b, fR S v j = some b → (b ∉ hL S0 ∧ b ∈ hL S ∧ ∃ e ∈ F, e.1 = j) ∨ fR S0 v j = some b) ∧ (∀ j j' b, b ∉ hL S0 → fR S v j = some b → fR S v j' = some b → j = j') ∧ fI S v = f ∧ (∀ j b, fR S0 v j = some b → b ∈ hL S0) ∧ ∀ j, (∀ e ∈ F, e.1 ≠ j) → fR S v j = fR S0 v j
theorem bx_rf {S0 : HS} {v : Nat} (hc : ∀ j b, fR S0 v j = some b → b ∈ hL S0) : BX S0 S0 v [] (fI S0 v) := ⟨gr_rf S0, fun _ _ _ => ⟨rfl, rfl, rfl⟩, fun _ h => Or.inl h, fun e he => absurd he (by simp), fun _ _ h => Or.inr h, fun j _ b hb h _ => absurd (hc j b h) hb, rfl, hc, fun _ _ => rfl⟩
theorem bx_I {S0 S T : HS} {v j : Nat} {F : List (Nat × Nat × Nat)} {f : Nat → Int32} {x : Int32} (h : BX S0 S v F f) (hv : v ∈ hL S0) (E : T = sI S v j x) : BX S0 T v F (upd f j x) := by
  subst E
  obtain ⟨h1, h2, h3, h4, h5, h6, h7, h8, h9⟩ := h
  refine ⟨h1, fun a ha hn => ⟨(u2_row _ _ hn).trans (h2 a ha hn).1, (h2 a ha hn).2⟩, h3, h4, h5, h6, ?_, h8, h9⟩
  show u2 (fI S) v j x v = _
  rw [u2_upd, h7]
theorem bx_arr {S0 S T U : HS} {v j q N b : Nat} {F : List (Nat × Nat × Nat)} {f : Nat → Int32} (h : BX S0 S v F f) (hv : v ∈ hL S0) (hb : b ∉ hL S) (E1 : T = nW S b q N) (E2 : U = sR T v j (some b)) (hq : 12 ≤ q ∧ q < 16) (hj : ∀ e ∈ F, e.1 ≠ j) : BX S0 U v ((j, q, N) :: F) f := by
  subst E1
  subst E2
  obtain ⟨h1, h2, h3, h4, h5, h6, h7, h8, h9⟩ := h
  have hvS := (h1 v hv).1
  have hbv : v ≠ b := fun z => hb (z ▸ hvS)
  have hb0 : b ∉ hL S0 := fun z => hb (h1 b z).1
  have oR : ∀ a i, a ≠ b → ¬ (a = v ∧ i = j) → fR (sR (nW S b q N) v j (some b)) a i = fR S a i := fun a i ha hc => by
    show u2 (va_up (fR S) b (fun _ => none)) v j (some b) a i = _
    rw [u2_ne _ _ hc, va_up_ne _ _ ha]
  have vR : fR (sR (nW S b q N) v j (some b)) v j = some b := u2_self _ _ _ _
  refine ⟨gr_sR (gr_nW h1 q N hb) v j _, fun a ha hn => ?_, fun a ha => ?_, fun e he => ?_, fun i c hc => ?_, fun i i' c hc0 hc hc' => ?_, ?_, h8, fun i hi => ?_⟩
  · have hab : a ≠ b := fun z => hb0 (z ▸ ha)
    refine ⟨(va_up_ne _ _ hab).trans (h2 a ha hn).1, (va_up_ne _ _ hab).trans (h2 a ha hn).2.1, ?_⟩
    rw [← (h2 a ha hn).2.2]
    funext i
    exact oR a i hab (fun z => hn z.1)
  · rcases List.mem_append.mp ha with g | g
    · have hab : a ≠ b := fun z => hb (z ▸ g)
      rcases h3 a g with k | k
      · exact Or.inl k
      · exact Or.inr (by rw [show hK (sR (nW S b q N) v j (some b)) a = hK S a from va_up_ne _ _ hab]; exact k)
    · have : a = b := List.mem_singleton.mp g
      subst this
      exact Or.inr (by rw [show hK (sR (nW S a q N) v j (some a)) a = q from va_up_self _ _ _]; exact hq)
  · rcases List.mem_cons.mp he with rfl | he
    · refine ⟨b, vR, hb0, ⟨List.mem_append_right _ (List.mem_singleton.mpr rfl), va_up_self _ _ _⟩, va_up_self _ _ _, fun z => ?_⟩
      show va_up (fJ S) b (fun _ => 0) b z = 0
      rw [va_up_self]
    · obtain ⟨c, c1, c2, c3, c4, c5⟩ := h4 e he
      have hcb : c ≠ b := fun z => hb (z ▸ c3.1)
      refine ⟨c, (oR v e.1 hbv (fun z => hj e he z.2)).trans c1, c2, ⟨List.mem_append_left _ c3.1, (va_up_ne _ _ hcb).trans c3.2⟩, (va_up_ne _ _ hcb).trans c4, fun z => ?_⟩
      show va_up (fJ S) b (fun _ => 0) c z = 0
      rw [va_up_ne _ _ hcb]; exact c5 z
  · by_cases cz : i = j
    · subst cz
      obtain rfl : b = c := Option.some.inj (vR.symm.trans hc)
      exact Or.inl ⟨hb0, List.mem_append_right _ (List.mem_singleton.mpr rfl), _, List.mem_cons_self, rfl⟩
    · rw [oR v i hbv (fun z => cz z.2)] at hc
      rcases h5 i c hc with ⟨g1, g2, e, g3, g4⟩ | g
      · exact Or.inl ⟨g1, List.mem_append_left _ g2, e, List.mem_cons_of_mem _ g3, g4⟩
      · exact Or.inr g
  · by_cases cz : i = j
    · by_cases cz' : i' = j
      · rw [cz, cz']
      · subst cz
        obtain rfl : b = c := Option.some.inj (vR.symm.trans hc)
        rw [oR v i' hbv (fun z => cz' z.2)] at hc'
        rcases h5 i' b hc' with ⟨-, g, -⟩ | g
        · exact absurd g hb
        · by_cases k : b ∈ hL S0
          · exact absurd k hc0
          · exact absurd (h8 i' b g) k
    · rw [oR v i hbv (fun z => cz z.2)] at hc
      by_cases cz' : i' = j
      · subst cz'
        obtain rfl : b = c := Option.some.inj (vR.symm.trans hc')
        rcases h5 i b hc with ⟨-, g, -⟩ | g
        · exact absurd g hb
        · exact absurd (h8 i b g) hc0
      · rw [oR v i' hbv (fun z => cz' z.2)] at hc'
        exact h6 i i' c hc0 hc hc'
  · show va_up (fI S) b (fun _ => 0) v = f
    rw [va_up_ne _ _ hbv]; exact h7
  · rw [oR v i hbv (fun z => hi _ List.mem_cons_self z.2.symm)]
    exact h9 i (fun e he => hi e (List.mem_cons_of_mem _ he))
def rowsF : List (Nat × Nat × Nat) := [(8, 13, 224), (7, 14, 224), (6, 13, 224), (5, 13, 224), (4, 13, 224), (2, 13, 3208), (1, 14, 3208), (0, 13, 401)]
def wldF : List (Nat × Nat × Nat) := [(30, 13, 12), (29, 13, 12), (28, 14, 12), (27, 13, 20), (26, 13, 4), (25, 13, 4), (24, 13, 4), (23, 13, 4), (22, 13, 4), (21, 13, 4), (20, 13, 4), (19, 13, 4), (18, 15, 8), (17, 13, 12), (16, 13, 12), (15, 13, 12), (14, 13, 12), (13, 13, 12), (12, 13, 8), (11, 13, 6), (10, 13, 6), (9, 13, 6), (8, 13, 6), (7, 13, 6)]
def refF : List (Nat × Nat × Nat) := [(23, 14, 21), (22, 14, 112), (21, 14, 7), (18, 13, 3208), (17, 13, 3208), (16, 14, 3208), (5, 12, 900)]
theorem bx_get {S0 S : HS} {v : Nat} {F : List (Nat × Nat × Nat)} {f : Nat → Int32} (h : BX S0 S v F f) {e : Nat × Nat × Nat} (he : e ∈ F) {b : Nat} (hb : fR S v e.1 = some b) : ob S b e.2.1 ∧ hN S b = e.2.2 ∧ b ∉ hL S0 ∧ ∀ z, fJ S b z = 0 := by
  obtain ⟨c, c1, c2, c3, c4, c5⟩ := h.2.2.2.1 e he
  obtain rfl : c = b := Option.some.inj (c1.symm.trans hb)
  exact ⟨c3, c4, c2, c5⟩
theorem bx_sh {S0 S : HS} {v k : Nat} {F : List (Nat × Nat × Nat)} {f : Nat → Int32} (h : BX S0 S v F f) (hF : ∀ e ∈ shT, e.1 = k → ∃ g ∈ F, g.1 = e.2.1 ∧ g.2.1 = e.2.2.1 ∧ (e.2.2.2 = 0 ∨ g.2.2 = e.2.2.2)) : ∀ e ∈ shT, e.1 = k → ∃ b, fR S v e.2.1 = some b ∧ ob S b e.2.2.1 ∧ (e.2.2.2 = 0 ∨ hN S b = e.2.2.2) := by
  intro e he hk
  obtain ⟨g, hg, g1, g2, g3⟩ := hF e he hk
  obtain ⟨c, c1, c2, c3, c4, c5⟩ := h.2.2.2.1 g hg
  refine ⟨c, by rw [← g1]; exact c1, by rw [← g2]; exact c3, ?_⟩
  rcases g3 with g3 | g3
  · exact Or.inl g3
  · exact Or.inr (c4.trans g3)
theorem bx_iv7 {S T : HS} {v : Nat} (hI : IV S) (o : ob S v 7) (h : BX S T v rowsF (fI S v)) : IV T ∧ WM T v ∧ Gr S T ∧ FRI [] [(7, 0), (7, 1), (7, 2), (7, 4), (7, 5), (7, 6), (7, 7), (7, 8)] S T := by
  have hh := h
  obtain ⟨h1, h2, h3, h4, h5, h6, h7, h8, h9⟩ := h
  have hv7 : hK T v = 7 := (h1 v o.1).2.1.trans o.2
  have wm : WM T v := fun e he b hb => by
    have hm : ∀ e ∈ wyT, ∃ f ∈ rowsF, f.1 = e.1 ∧ f.2.2 = e.2 := by decide
    obtain ⟨f, hf, f1, f2⟩ := hm e he
    rw [← f2]; exact (bx_get hh hf (by rw [f1]; exact hb)).2.1
  refine ⟨iv_ext (v := v) hI (fun a ha hn _ => ⟨(h1 a ha).1, (h1 a ha).2.1, (h1 a ha).2.2, (h2 a ha hn).1, (h2 a ha hn).2.1, (h2 a ha hn).2.2⟩) (fun a ha => (h1 a ha).1) (fun a ha => ?_) (Or.inr ⟨(h1 v o.1).1, by rw [hv7]; omega, fun _ => Or.inr ⟨o.2.trans hv7.symm, by rw [o.2]; omega⟩, ?_, fun _ => Or.inr wm, ?_, fun j b hb => ?_, fun j b hp => ?_, fun z => ?_⟩), wm, h1, ?_⟩
  · rcases h3 a ha with g | g
    · by_cases c : a = v
      · exact Or.inr (Or.inl c)
      · by_cases c2 : hK S a = 99
        · exact Or.inr (Or.inr (Or.inr ((h1 a g).2.1.trans c2)))
        · exact Or.inl ⟨g, c, c2⟩
    · exact Or.inr (Or.inr (Or.inl g))
  · rw [hv7]
    exact bx_sh hh (by decide)
  · intro e he hk
    rw [h7]
    exact hI.2.2.2.1 e he v (by rw [hk, hv7]; exact o)
  · rcases h5 j b hb with ⟨g1, g2, -⟩ | g
    · refine ⟨g2, fun x k j' ox hp hx e => ?_⟩
      exact g1 (hI.2.2.2.2.2.1 x k j' b ox (pr_ge _ hp).2 e)
    · refine ⟨(h1 b (h8 j b g)).1, fun x k j' ox hp hx e => ?_⟩
      exact hx (hI.2.2.2.2.1 v 7 j x k j' b o (by omega) ox hp g e).1.symm
  · rw [hv7] at hp
    exact absurd hp (np10 (by omega))
  · rw [hv7] at z; omega
  · refine ⟨fun k j hk hj a oa => ?_, fun k j hk hj a oa => ?_⟩
    · by_cases c : a = v
      · rw [c, h7]
      · rw [(h2 a oa.1 c).1]
    · by_cases c : a = v
      · subst c
        have hk7 := ob_inj oa o
        subst hk7
        refine h9 j (fun f hf hfj => ?_)
        have : ∀ f ∈ rowsF, (7, f.1) ∈ [(7, 0), (7, 1), (7, 2), (7, 4), (7, 5), (7, 6), (7, 7), (7, 8)] := by decide
        exact hj (hfj ▸ this f hf)
      · rw [(h2 a oa.1 c).2.2]

theorem zero_new {S : HS} {v k : Nat} : (∀ j, fR (nW S v k 0) v j = none) ∧ (fI (nW S v k 0) v = fun _ => 0) := ⟨fun j => by
  show va_up (fR S) v (fun _ => none) v j = none
  rw [va_up_self], va_up_self _ _ _⟩
/-- an object of the reference is made: what it was before, and its arrays -/
theorem bx_iv {S T : HS} {v k : Nat} {F : List (Nat × Nat × Nat)} {f : Nat → Int32} (hI : IV S) (hv : v ∉ hL S) (hk : k < 12) (h7n : k ≠ 7) (h : BX (nW S v k 0) T v F f) (hF : ∀ e ∈ shT, e.1 = k → ∃ g ∈ F, g.1 = e.2.1 ∧ g.2.1 = e.2.2.1 ∧ (e.2.2.2 = 0 ∨ g.2.2 = e.2.2.2)) (hf : ∀ e ∈ nuT, e.1 = k → e.2.2.1 ≤ f e.2.1 ∧ f e.2.1 ≤ e.2.2.2) (hm : k = 11 → ML T v) : IV T ∧ Gr S T ∧ FRI [] [] S T ∧ ob T v k ∧ (∀ a, a ∈ hL S → fR T a = fR S a) ∧ (∀ a k', ob T a k' → k' < 12 → a = v ∨ a ∈ hL S) := by
  have hh := h
  obtain ⟨h1, h2, h3, h4, h5, h6, h7, h8, h9⟩ := h
  have hvb : v ∈ hL (nW S v k 0) := List.mem_append_right _ (List.mem_singleton.mpr rfl)
  have hin : ∀ a, a ∈ hL S → a ∈ hL (nW S v k 0) := fun a ha => List.mem_append_left _ ha
  have hne : ∀ a, a ∈ hL S → a ≠ v := fun a ha z => hv (z ▸ ha)
  have hvk : hK T v = k := (h1 v hvb).2.1.trans (va_up_self _ _ _)
  have sd : ∀ a, a ∈ hL S → SD S T a := fun a ha => by
    have n := hne a ha
    have g := h1 a (hin a ha)
    have g2 := h2 a (hin a ha) n
    exact ⟨g.1, g.2.1.trans (va_up_ne _ _ n), g.2.2.trans (va_up_ne _ _ n), g2.1.trans (va_up_ne _ _ n), g2.2.1.trans (va_up_ne _ _ n), g2.2.2.trans (va_up_ne _ _ n)⟩
  have hc : ∀ a, a ∈ hL T → a ∈ hL S ∨ a = v ∨ (12 ≤ hK T a ∧ hK T a < 16) := fun a ha => by
    rcases h3 a ha with g | g
    · rcases List.mem_append.mp g with g | g
      · exact Or.inl g
      · exact Or.inr (Or.inl (List.mem_singleton.mp g))
    · exact Or.inr (Or.inr g)
  have z := (zero_new (S := S) (v := v) (k := k)).1
  refine ⟨iv_ext (v := v) hI (fun a ha _ _ => sd a ha) (fun a ha => (sd a ha).1) (fun a ha => ?_) (Or.inr ⟨(h1 v hvb).1, by rw [hvk]; exact hk, fun t => absurd t hv, ?_, fun t => absurd (hvk.symm.trans t) h7n, ?_, fun j b hb => ?_, fun j b hp hb => ?_, fun t => hm (hvk.symm.trans t)⟩), fun a ha => ⟨(sd a ha).1, (sd a ha).2.1, (sd a ha).2.2.1⟩, ⟨fun _ j _ _ a oa => by rw [(sd a oa.1).2.2.2.1], fun _ j _ _ a oa => by rw [(sd a oa.1).2.2.2.2.2]⟩, ⟨(h1 v hvb).1, hvk⟩, fun a ha => (sd a ha).2.2.2.2.2, fun a k' oa hk' => ?_⟩
  · rcases hc a ha with g | g | g
    · by_cases c2 : hK S a = 99
      · exact Or.inr (Or.inr (Or.inr ((sd a g).2.1.trans c2)))
      · exact Or.inl ⟨g, hne a g, c2⟩
    · exact Or.inr (Or.inl g)
    · exact Or.inr (Or.inr (Or.inl g))
  · rw [hvk]
    exact bx_sh hh hF
  · intro e he hk2
    rw [h7]
    exact hf e he (hk2.trans hvk)
  · rcases h5 j b hb with ⟨g1, g2, -⟩ | g
    · refine ⟨g2, fun x q j' ox hp hx e => ?_⟩
      exact g1 (hin b (hI.2.2.2.2.2.1 x q j' b ox (pr_ge _ hp).2 e))
    · rw [z j] at g
      exact absurd g (by simp)
  · rcases h5 j b hb with ⟨g1, g2, -⟩ | g
    · exact ⟨fun t => g1 (hin b t), fun j' hb' => h6 j' j b g1 hb' hb⟩
    · rw [z j] at g
      exact absurd g (by simp)
  · rcases hc a oa.1 with g | g | g
    · exact Or.inr g
    · exact Or.inl g
    · have := oa.2; omega
set_option maxRecDepth 20000 in
theorem m_X7_makeRows {v0 : Nat} {Q : HS → Prop} {S : HS} (hI : IV S) (o_v0 : ob S v0 7) (hq : ∀ (T : HS), IV T → Gr S T → FRI [] [(7, 0), (7, 1), (7, 2), (7, 4), (7, 5), (7, 6), (7, 7), (7, 8)] S T → (WM T v0) → Q T) : P_X7_makeRows v0 Q S := by
  show P_X7_makeRows_0 Q v0 S
  unfold P_X7_makeRows_0
  have b0 := bx_rf (S0 := S) (v := v0) (fun j b e => hI.2.2.2.2.2.1 v0 7 j b o_v0 (by omega) e)
  intro a0 q0 T0 e0
  refine ⟨gr_ob (gr_of_new e0 q0) o_v0, ?_⟩
  intro U0 g0
  have b1 := bx_arr b0 o_v0.1 q0 e0 g0 (by decide) (by decide)
  intro a1 q1 T1 e1
  intro U1 g1
  have b2 := bx_arr b1 o_v0.1 q1 e1 g1 (by decide) (by decide)
  intro a2 q2 T2 e2
  intro U2 g2
  have b3 := bx_arr b2 o_v0.1 q2 e2 g2 (by decide) (by decide)
  intro a3 q3 T3 e3
  intro U3 g3
  have b4 := bx_arr b3 o_v0.1 q3 e3 g3 (by decide) (by decide)
  intro a4 q4 T4 e4
  intro U4 g4
  have b5 := bx_arr b4 o_v0.1 q4 e4 g4 (by decide) (by decide)
  intro a5 q5 T5 e5
  intro U5 g5
  have b6 := bx_arr b5 o_v0.1 q5 e5 g5 (by decide) (by decide)
  intro a6 q6 T6 e6
  intro U6 g6
  have b7 := bx_arr b6 o_v0.1 q6 e6 g6 (by decide) (by decide)
  intro a7 q7 T7 e7
  intro U7 g7
  have b8 := bx_arr b7 o_v0.1 q7 e7 g7 (by decide) (by decide)
  obtain ⟨r1, r2, r3, r4⟩ := bx_iv7 hI o_v0 b8
  exact hq _ r1 r3 r4 r2
set_option maxRecDepth 20000 in
theorem m_X10_init {v0 : Nat} {Q : HS → Prop} {S0 S : HS} (hI : IV S0) (hf : v0 ∉ hL S0) (E : S = nW S0 v0 10 0) (hq : ∀ T, IV T → Gr S0 T → Gr S T → FRI [] [] S0 T → ob T v0 10 → (∀ j, fI T v0 j = 0) → WG T v0 → NW T v0 → Q T) : P_X10_init v0 Q S := by
  subst E
  show P_X10_init_0 Q v0 _
  unfold P_X10_init_0
  have hv : v0 ∈ hL (nW S0 v0 10 0) := List.mem_append_right _ (List.mem_singleton.mpr rfl)
  have b0 := bx_rf (S0 := nW S0 v0 10 0) (v := v0) (fun j b e => by rw [zero_new.1 j] at e; exact absurd e (by simp))
  have o_v0 : ob (nW S0 v0 10 0) v0 10 := ob_of_new rfl
  intro a0 q0 T0 e0
  refine ⟨gr_ob (gr_of_new e0 q0) o_v0, ?_⟩
  intro U0 g0
  have b1 := bx_arr b0 hv q0 e0 g0 (by decide) (by decide)
  intro a1 q1 T1 e1
  intro U1 g1
  have b2 := bx_arr b1 hv q1 e1 g1 (by decide) (by decide)
  intro a2 q2 T2 e2
  intro U2 g2
  have b3 := bx_arr b2 hv q2 e2 g2 (by decide) (by decide)
  intro a3 q3 T3 e3
  intro U3 g3
  have b4 := bx_arr b3 hv q3 e3 g3 (by decide) (by decide)
  intro a4 q4 T4 e4
  intro U4 g4
  have b5 := bx_arr b4 hv q4 e4 g4 (by decide) (by decide)
  intro a5 q5 T5 e5
  intro U5 g5
  have b6 := bx_arr b5 hv q5 e5 g5 (by decide) (by decide)
  intro a6 q6 T6 e6
  intro U6 g6
  have b7 := bx_arr b6 hv q6 e6 g6 (by decide) (by decide)
  intro a7 q7 T7 e7
  intro U7 g7
  have b8 := bx_arr b7 hv q7 e7 g7 (by decide) (by decide)
  intro a8 q8 T8 e8
  intro U8 g8
  have b9 := bx_arr b8 hv q8 e8 g8 (by decide) (by decide)
  intro a9 q9 T9 e9
  intro U9 g9
  have b10 := bx_arr b9 hv q9 e9 g9 (by decide) (by decide)
  intro a10 q10 T10 e10
  intro U10 g10
  have b11 := bx_arr b10 hv q10 e10 g10 (by decide) (by decide)
  intro a11 q11 T11 e11
  intro U11 g11
  have b12 := bx_arr b11 hv q11 e11 g11 (by decide) (by decide)
  intro a12 q12 T12 e12
  intro U12 g12
  have b13 := bx_arr b12 hv q12 e12 g12 (by decide) (by decide)
  intro a13 q13 T13 e13
  intro U13 g13
  have b14 := bx_arr b13 hv q13 e13 g13 (by decide) (by decide)
  intro a14 q14 T14 e14
  intro U14 g14
  have b15 := bx_arr b14 hv q14 e14 g14 (by decide) (by decide)
  intro a15 q15 T15 e15
  intro U15 g15
  have b16 := bx_arr b15 hv q15 e15 g15 (by decide) (by decide)
  intro a16 q16 T16 e16
  intro U16 g16
  have b17 := bx_arr b16 hv q16 e16 g16 (by decide) (by decide)
  intro a17 q17 T17 e17
  intro U17 g17
  have b18 := bx_arr b17 hv q17 e17 g17 (by decide) (by decide)
  intro a18 q18 T18 e18
  intro U18 g18
  have b19 := bx_arr b18 hv q18 e18 g18 (by decide) (by decide)
  intro a19 q19 T19 e19
  intro U19 g19
  have b20 := bx_arr b19 hv q19 e19 g19 (by decide) (by decide)
  intro a20 q20 T20 e20
  intro U20 g20
  have b21 := bx_arr b20 hv q20 e20 g20 (by decide) (by decide)
  intro a21 q21 T21 e21
  intro U21 g21
  have b22 := bx_arr b21 hv q21 e21 g21 (by decide) (by decide)
  intro a22 q22 T22 e22
  intro U22 g22
  have b23 := bx_arr b22 hv q22 e22 g22 (by decide) (by decide)
  intro a23 q23 T23 e23
  intro U23 g23
  have b24 := bx_arr b23 hv q23 e23 g23 (by decide) (by decide)
  have e0 : fI (nW S0 v0 10 0) v0 = fun _ => 0 := zero_new.2
  rw [e0] at b24
  obtain ⟨r1, r2, r3, r4, r5, r6⟩ := bx_iv hI hf (by omega) (by omega) b24 (F := wldF) (by decide) (by decide) (fun z => absurd z (by omega))
  have z0 : ∀ j, fI U23 v0 j = 0 := fun j => by rw [b24.2.2.2.2.2.2.1]
  refine hq _ r1 r2 b24.1 r3 r4 z0 ⟨fun e he x h0 hx b hb => ?_, fun x h0 hx b c hb hc => ?_⟩ (fun y oy e => ?_)
  · rw [z0] at hx
    exact absurd (Int32.lt_iff_toInt_lt.mp hx) (by have := Int32.le_iff_toInt_le.mp h0; omega)
  · rw [z0, z0] at hx
    have hz : (0 : Int32) + 0 = 0 := by decide
    rw [hz] at hx
    exact absurd (Int32.lt_iff_toInt_lt.mp hx) (by have := Int32.le_iff_toInt_le.mp h0; omega)
  · rcases r6 y 11 oy (by omega) with g | g
    · have := ob_inj (g ▸ oy) r4; omega
    · rw [r5 y g] at e
      have oy' : ob S0 y 11 := ⟨g, by rw [← (r2 y g).2.1]; exact oy.2⟩
      exact hf ((ml_ob hI oy' e).1)
set_option maxRecDepth 20000 in
theorem m_X11_init {v0 : Nat} {Q : HS → Prop} {S0 S : HS} (hI : IV S0) (hf : v0 ∉ hL S0) (E : S = nW S0 v0 11 0) (hq : ∀ T, IV T → Gr S0 T → Gr S T → FRI [] [] S0 T → ob T v0 11 → fI T v0 6 = 0 → Q T) : P_X11_init v0 Q S := by
  subst E
  show P_X11_init_0 Q v0 _
  unfold P_X11_init_0
  have hv : v0 ∈ hL (nW S0 v0 11 0) := List.mem_append_right _ (List.mem_singleton.mpr rfl)
  have b00 := bx_rf (S0 := nW S0 v0 11 0) (v := v0) (fun j b e => by rw [zero_new.1 j] at e; exact absurd e (by simp))
  have o_v0 : ob (nW S0 v0 11 0) v0 11 := ob_of_new rfl
  refine ⟨o_v0, ?_⟩
  intro Ua ga
  have b0 := bx_I b00 hv ga
  intro a0 q0 T0 e0
  intro U0 g0
  have b1 := bx_arr b0 hv q0 e0 g0 (by decide) (by decide)
  intro a1 q1 T1 e1
  intro U1 g1
  have b2 := bx_arr b1 hv q1 e1 g1 (by decide) (by decide)
  intro a2 q2 T2 e2
  intro U2 g2
  have b3 := bx_arr b2 hv q2 e2 g2 (by decide) (by decide)
  intro a3 q3 T3 e3
  intro U3 g3
  have b4 := bx_arr b3 hv q3 e3 g3 (by decide) (by decide)
  intro Ub gb
  have b4 := bx_I b4 hv gb
  intro a4 q4 T4 e4
  intro U4 g4
  have b5 := bx_arr b4 hv q4 e4 g4 (by decide) (by decide)
  intro a5 q5 T5 e5
  intro U5 g5
  have b6 := bx_arr b5 hv q5 e5 g5 (by decide) (by decide)
  intro a6 q6 T6 e6
  intro U6 g6
  have b7 := bx_arr b6 hv q6 e6 g6 (by decide) (by decide)
  have e0 : fI (nW S0 v0 11 0) v0 = fun _ => 0 := zero_new.2
  rw [e0] at b7
  have n3 : ∀ j, (∀ e ∈ refF, e.1 ≠ j) → fR U6 v0 j = none := fun j hj => (b7.2.2.2.2.2.2.2.2 j hj).trans (zero_new.1 j)
  have ml : ML U6 v0 := by
    refine ⟨fun w e => ?_, fun w e => ?_, Or.inl ?_, fun j hj b e z => ?_⟩
    · rw [n3 3 (by decide)] at e; exact absurd e (by simp)
    · rw [n3 4 (by decide)] at e; exact absurd e (by simp)
    · rw [b7.2.2.2.2.2.2.1]; decide
    · have hm : ∃ g ∈ refF, g.1 = j := by rcases hj with rfl | rfl | rfl <;> decide
      obtain ⟨g, hg, rfl⟩ := hm
      rw [(bx_get b7 hg e).2.2.2 z]
      exact ⟨fun _ => by decide, fun _ => by decide⟩
  obtain ⟨r1, r2, r3, r4, r5, r6⟩ := bx_iv hI hf (by omega) (by omega) b7 (F := refF) (by decide) (by decide) (fun _ => ml)
  exact hq _ r1 r2 b7.1 r3 r4 (by rw [b7.2.2.2.2.2.2.1]; decide)
end
