def rm_X9_mean : Room := { frames := 4, cells := 0, slots := 0, locals := 101 }
def P_X9_mean_0 (Q : Int64 → HS → Prop) (v0 : Nat) (v1 : Int32) (v2 : Int32) (v3 : Int32) (v4 : Int32) (v5 : Int32) (v6 : Int32) (S : HS) : Prop := ob S v0 9 ∧ (P_X9_legTrouble v0 v1 v2 v3 v4 v5 (fun x3 S1 => Gr S S1 → (P_X9_refusedBy v0 x3 (fun x6 S4 => Gr S1 S4 → bl x6 → (((x6 = 0) → (∃ a8 : Nat, fR S4 v0 4 = some a8 ∧ (∃ a9 : Nat, fR S4 v0 2 = some a9 ∧ (ob S4 a9 8 ∧ (∃ a10 : Nat, fR S4 a9 9 = some a10 ∧ (ob S4 a10 19 ∧ (vp_in v1 (hN S4 a10) ∧ ∃ a12 : Nat, fR S4 a10 v1.toNatClampNeg = some a12 ∧ (∃ a13 : Nat, fR S4 v0 2 = some a13 ∧ (ob S4 a13 8 ∧ (∃ a14 : Nat, fR S4 a13 8 = some a14 ∧ (ob S4 a14 18 ∧ (vp_in v2 (hN S4 a14) ∧ ∃ a16 : Nat, fR S4 a14 v2.toNatClampNeg = some a16 ∧ (∃ a17 : Nat, fR S4 v0 2 = some a17 ∧ (ob S4 a17 8 ∧ (∃ a18 : Nat, fR S4 a17 6 = some a18 ∧ (ob S4 a18 17 ∧ (vp_in v4 (hN S4 a18) ∧ ∃ a20 : Nat, fR S4 a18 v4.toNatClampNeg = some a20 ∧ (ob S4 a8 1 ∧ (P_X1_wetOf a8 a12 a16 v3 a20 v5 (fun x23 S21 => Gr S4 S21 → (∃ a24 : Nat, fR S21 v0 2 = some a24 ∧ (ob S21 a24 8 ∧ (∃ a25 : Nat, fR S21 a24 6 = some a25 ∧ (ob S21 a25 17 ∧ (vp_in v4 (hN S21 a25) ∧ ∃ a27 : Nat, fR S21 a25 v4.toNatClampNeg = some a27 ∧ (ob S21 a27 3 ∧ (∀ x28 : Int32, x28 = fI S21 a27 4 → (P_X9_fraction (x23 * x28.toInt64) (252000 : Int64) v6 (fun x31 S29 => Gr S21 S29 → (Q x31 S29)) S21))))))))) S4))))))))))))))))))) ∧ ((¬ x6 = 0) → (Q (-1 : Int64) S4)))) S1)) S)
set_option maxRecDepth 20000 in
set_option maxHeartbeats 4000000 in
theorem T_X9_mean_0 {X : CX} {Q : Int64 → HS → Prop} (C : Cx X cX9_mean RX9 9 rm_X9_mean) (E : ReJ X rm_X9_mean Q) (ht : (xh X).sig.returnType = (some .long)) (hn : (xh X).name = yX9_mean.name) {v0 : Nat} {v1 : Int32} {v2 : Int32} {v3 : Int32} {v4 : Int32} {v5 : Int32} {v6 : Int32} {S : HS} (h : P_X9_mean_0 Q v0 v1 v2 v3 v4 v5 v6 S) : WS X 9 0 0 0 [(0, .ref v0), (1, .int v1), (2, .int v2), (3, .int v3), (4, .int v4), (5, .int v5), (6, .int v6)] [] S := by
  refine r_aload_n (pc := 0) C dX9_mean_0 0 rfl ?_
  refine r_aload_n (pc := 1) C dX9_mean_1 0 rfl ?_
  refine r_iload_n (pc := 2) C dX9_mean_2 1 rfl ?_
  refine r_iload_n (pc := 3) C dX9_mean_3 2 rfl ?_
  refine r_iload_n (pc := 4) C dX9_mean_4 3 rfl ?_
  refine r_iload (pc := 5) C dX9_mean_5 4 rfl ?_
  refine r_iload (pc := 7) C dX9_mean_7 5 rfl ?_
  obtain ⟨o_v0, h⟩ := h
  refine r_callVi0 (pc := 9) C (rest := [.ref v0]) (a := v0) o_v0 [.int v1, .int v2, .int v3, .int v4, .int v5] yV_X9_legTrouble g_656 (c_X9_legTrouble h) dX9_mean_9 rfl rfl (Nat.le_of_ble_eq_true rfl) ⟨by decide, by decide⟩ ⟨by decide, by decide⟩ ⟨rfl, rfl⟩ (fun x3 S1 h g2 => ?_)
  have h := h g2
  have o_v0 := gr_ob g2 o_v0
  refine r_callVi0 (pc := 12) C (rest := []) (a := v0) o_v0 [.int x3] yV_X9_refusedBy g_683 (c_X9_refusedBy h) dX9_mean_12 rfl rfl (Nat.le_of_ble_eq_true rfl) ⟨by decide, by decide⟩ ⟨by decide, by decide⟩ ⟨rfl, rfl⟩ (fun x6 S4 h g5 => ?_)
  have bx6 := h.1
  have h := h.2 g5 bx6
  have o_v0 := gr_ob g5 o_v0
  refine r_if_eq (pc := 15) C (tgt := 22) dX9_mean_15 (by decide) (fun c7 => ?_) (fun c7 => ?_)
  · have h := h.1 c7
    refine r_aload_n (pc := 22) C dX9_mean_22 0 rfl ?_
    obtain ⟨a8, ea8, h⟩ := h
    refine r_getr (pc := 23) C fL_X9_30 dX9_mean_23 o_v0 ea8 ?_
    refine r_aload_n (pc := 26) C dX9_mean_26 0 rfl ?_
    obtain ⟨a9, ea9, h⟩ := h
    refine r_getr (pc := 27) C fL_X9_16 dX9_mean_27 o_v0 ea9 ?_
    obtain ⟨o_a9, h⟩ := h
    obtain ⟨a10, ea10, h⟩ := h
    refine r_getr (pc := 30) C fL_X9_108 dX9_mean_30 o_a9 ea10 ?_
    refine r_iload_n (pc := 33) C dX9_mean_33 1 rfl ?_
    obtain ⟨o_a10, h⟩ := h
    obtain ⟨i11, a12, ea12, h⟩ := h
    refine r_aald19 (pc := 34) C dX9_mean_34 o_a10 i11 ea12 ?_
    refine r_aload_n (pc := 35) C dX9_mean_35 0 rfl ?_
    obtain ⟨a13, ea13, h⟩ := h
    refine r_getr (pc := 36) C fL_X9_16 dX9_mean_36 o_v0 ea13 ?_
    obtain ⟨o_a13, h⟩ := h
    obtain ⟨a14, ea14, h⟩ := h
    refine r_getr (pc := 39) C fL_X9_112 dX9_mean_39 o_a13 ea14 ?_
    refine r_iload_n (pc := 42) C dX9_mean_42 2 rfl ?_
    obtain ⟨o_a14, h⟩ := h
    obtain ⟨i15, a16, ea16, h⟩ := h
    refine r_aald18 (pc := 43) C dX9_mean_43 o_a14 i15 ea16 ?_
    refine r_iload_n (pc := 44) C dX9_mean_44 3 rfl ?_
    refine r_aload_n (pc := 45) C dX9_mean_45 0 rfl ?_
    obtain ⟨a17, ea17, h⟩ := h
    refine r_getr (pc := 46) C fL_X9_16 dX9_mean_46 o_v0 ea17 ?_
    obtain ⟨o_a17, h⟩ := h
    obtain ⟨a18, ea18, h⟩ := h
    refine r_getr (pc := 49) C fL_X9_116 dX9_mean_49 o_a17 ea18 ?_
    refine r_iload (pc := 52) C dX9_mean_52 4 rfl ?_
    obtain ⟨o_a18, h⟩ := h
    obtain ⟨i19, a20, ea20, h⟩ := h
    refine r_aald17 (pc := 54) C dX9_mean_54 o_a18 i19 ea20 ?_
    refine r_iload (pc := 55) C dX9_mean_55 5 rfl ?_
    obtain ⟨o_a8, h⟩ := h
    refine r_callVl0 (pc := 57) C (rest := []) (a := a8) o_a8 [.ref a12, .ref a16, .int v3, .ref a20, .int v5] yV_X1_wetOf g_688 (c_X1_wetOf h) dX9_mean_57 rfl rfl (Nat.le_of_ble_eq_true rfl) ⟨by decide, by decide⟩ ⟨by decide, by decide⟩ ⟨rfl, rfl⟩ (fun x23 S21 h g22 => ?_)
    have h := h g22
    have o_a10 := gr_ob g22 o_a10
    have o_a13 := gr_ob g22 o_a13
    have o_a14 := gr_ob g22 o_a14
    have o_a17 := gr_ob g22 o_a17
    have o_a18 := gr_ob g22 o_a18
    have o_a8 := gr_ob g22 o_a8
    have o_a9 := gr_ob g22 o_a9
    have o_v0 := gr_ob g22 o_v0
    refine r_lstore (pc := 60) C dX9_mean_60 (by decide) (lv' := [(7, .long x23), (0, .ref v0), (1, .int v1), (2, .int v2), (3, .int v3), (4, .int v4), (5, .int v5), (6, .int v6)]) rfl ?_
    refine r_lload (pc := 62) C dX9_mean_62 0 rfl ?_
    refine r_aload_n (pc := 64) C dX9_mean_64 1 rfl ?_
    obtain ⟨a24, ea24, h⟩ := h
    refine r_getr (pc := 65) C fL_X9_16 dX9_mean_65 o_v0 ea24 ?_
    obtain ⟨o_a24, h⟩ := h
    obtain ⟨a25, ea25, h⟩ := h
    refine r_getr (pc := 68) C fL_X9_116 dX9_mean_68 o_a24 ea25 ?_
    refine r_iload (pc := 71) C dX9_mean_71 5 rfl ?_
    obtain ⟨o_a25, h⟩ := h
    obtain ⟨i26, a27, ea27, h⟩ := h
    refine r_aald17 (pc := 73) C dX9_mean_73 o_a25 i26 ea27 ?_
    obtain ⟨o_a27, h⟩ := h
    refine r_geti (pc := 74) C fL_X9_134 dX9_mean_74 o_a27 ?_
    refine r_topi (fun x28 ex28 => ?_)
    have h := h x28 ex28
    refine r_i2l (pc := 77) C dX9_mean_77 ?_
    refine r_lmul (pc := 78) C dX9_mean_78 ?_
    refine r_ldc2 (pc := 79) C (v := (252000 : Int64)) dX9_mean_79 g_736 ?_
    refine r_iload (pc := 82) C dX9_mean_82 7 rfl ?_
    refine r_callSl0 (pc := 84) C (rest := []) rfl [.long (x23 * x28.toInt64), .long (252000 : Int64), .int v6] yS_X9_fraction g_722 (c_X9_fraction h) dX9_mean_84 rfl rfl (Nat.le_of_ble_eq_true rfl) ⟨by decide, by decide⟩ ⟨by decide, by decide⟩ ⟨rfl, rfl⟩ (fun x31 S29 h g30 => ?_)
    have h := h g30
    have o_a10 := gr_ob g30 o_a10
    have o_a13 := gr_ob g30 o_a13
    have o_a14 := gr_ob g30 o_a14
    have o_a17 := gr_ob g30 o_a17
    have o_a18 := gr_ob g30 o_a18
    have o_a24 := gr_ob g30 o_a24
    have o_a25 := gr_ob g30 o_a25
    have o_a27 := gr_ob g30 o_a27
    have o_a8 := gr_ob g30 o_a8
    have o_a9 := gr_ob g30 o_a9
    have o_v0 := gr_ob g30 o_v0
    exact r_lret (pc := 87) C E ht dX9_mean_87 (by decide) (by decide) h
  · have h := h.2 c7
    refine r_ldc2 (pc := 18) C (v := (-1 : Int64)) dX9_mean_18 g_687 ?_
    exact r_lret (pc := 21) C E ht dX9_mean_21 (by decide) (by decide) h
def P_X9_mean (v0 : Nat) (v1 : Int32) (v2 : Int32) (v3 : Int32) (v4 : Int32) (v5 : Int32) (v6 : Int32) (Q : Int64 → HS → Prop) (S : HS) : Prop := P_X9_mean_0 Q v0 v1 v2 v3 v4 v5 v6 S
theorem c_X9_mean {l : Launch} {Ee : EE} {S : HS} {v0 : Nat} {v1 : Int32} {v2 : Int32} {v3 : Int32} {v4 : Int32} {v5 : Int32} {v6 : Int32} {Q : Int64 → HS → Prop} (h : P_X9_mean v0 v1 v2 v3 v4 v5 v6 Q S) : MJ l yX9_mean cX9_mean 9 (some .long) rm_X9_mean Ee S [.ref v0, .int v1, .int v2, .int v3, .int v4, .int v5, .int v6] Q :=
  openJ (by decide) (Nat.le_of_ble_eq_true rfl) (fun X C E ht hn hE hl => by subst hE; exact r_sub [0, 1, 2, 3, 4, 5, 6] rfl (T_X9_mean_0 C E ht hn h))
def rm_X9_minutes : Room := { frames := 1, cells := 0, slots := 0, locals := 21 }
def P_X9_minutes_22 (Q : Int32 → HS → Prop) (v0 : Nat) (S : HS) : Prop := ob S v0 9 ∧ (P_X9_refuse v0 (1 : Int32) (fun x3 S1 => Gr S S1 → (Q x3 S1)) S)
set_option maxRecDepth 20000 in
set_option maxHeartbeats 4000000 in
theorem T_X9_minutes_22 {X : CX} {Q : Int32 → HS → Prop} (C : Cx X cX9_minutes RX9 4 rm_X9_minutes) (E : ReI X rm_X9_minutes Q) (ht : (xh X).sig.returnType = (some .int)) (hn : (xh X).name = yX9_minutes.name) {v0 : Nat} {S : HS} (h : P_X9_minutes_22 Q v0 S) : WS X 4 0 0 22 [(0, .ref v0)] [] S := by
  refine r_aload_n (pc := 22) C dX9_minutes_22 0 rfl ?_
  refine r_iconst (pc := 23) C (v := (1 : Int32)) dX9_minutes_23 (by decide) ?_
  obtain ⟨o_v0, h⟩ := h
  refine r_callVi0 (pc := 24) C (rest := []) (a := v0) o_v0 [.int (1 : Int32)] yV_X9_refuse g_430 (c_X9_refuse h) dX9_minutes_24 rfl rfl (Nat.le_of_ble_eq_true rfl) ⟨by decide, by decide⟩ ⟨by decide, by decide⟩ ⟨rfl, rfl⟩ (fun x3 S1 h g2 => ?_)
  have h := h g2
  have o_v0 := gr_ob g2 o_v0
  exact r_iret (pc := 27) C E ht dX9_minutes_27 (by decide) (by decide) h
def P_X9_minutes_0 (Q : Int32 → HS → Prop) (v0 : Nat) (v1 : Int32) (v2 : Int32) (v3 : Int32) (S : HS) : Prop := ob S v0 9 ∧ (∃ a1 : Nat, fR S v0 2 = some a1 ∧ (ob S a1 8 ∧ (P_X8_hasWalker a1 v1 (fun x4 S2 => Gr S S2 → bl x4 → (((x4 = 0) → (P_X9_minutes_22 Q v0 S2)) ∧ ((¬ x4 = 0) → (∃ a6 : Nat, fR S2 v0 2 = some a6 ∧ (ob S2 a6 8 ∧ (P_X8_hasRoad a6 v2 (fun x9 S7 => Gr S2 S7 → bl x9 → (((¬ x9 = 0) → (∃ a11 : Nat, fR S7 v0 2 = some a11 ∧ (ob S7 a11 8 ∧ (∃ a12 : Nat, fR S7 a11 9 = some a12 ∧ (ob S7 a12 19 ∧ (vp_in v1 (hN S7 a12) ∧ ∃ a14 : Nat, fR S7 a12 v1.toNatClampNeg = some a14 ∧ (ob S7 a14 6 ∧ (P_X6_canGo a14 v3 (fun x17 S15 => Gr S7 S15 → bl x17 → (((¬ x17 = 0) → (∃ a19 : Nat, fR S15 v0 2 = some a19 ∧ (ob S15 a19 8 ∧ (∃ a20 : Nat, fR S15 a19 8 = some a20 ∧ (ob S15 a20 18 ∧ (vp_in v2 (hN S15 a20) ∧ ∃ a22 : Nat, fR S15 a20 v2.toNatClampNeg = some a22 ∧ (ob S15 a22 5 ∧ (P_X5_minutesAt a22 v3 (fun x25 S23 => Gr S15 S23 → (P_X9_grant v0 x25 (fun x28 S26 => Gr S23 S26 → (Q x28 S26)) S23)) S15)))))))) ∧ ((x17 = 0) → (P_X9_refuse v0 (2 : Int32) (fun x31 S29 => Gr S15 S29 → (Q x31 S29)) S15)))) S7)))))))) ∧ ((x9 = 0) → (P_X9_minutes_22 Q v0 S7)))) S2)))))) S)))
set_option maxRecDepth 20000 in
set_option maxHeartbeats 4000000 in
theorem T_X9_minutes_0 {X : CX} {Q : Int32 → HS → Prop} (C : Cx X cX9_minutes RX9 4 rm_X9_minutes) (E : ReI X rm_X9_minutes Q) (ht : (xh X).sig.returnType = (some .int)) (hn : (xh X).name = yX9_minutes.name) {v0 : Nat} {v1 : Int32} {v2 : Int32} {v3 : Int32} {S : HS} (h : P_X9_minutes_0 Q v0 v1 v2 v3 S) : WS X 4 0 0 0 [(0, .ref v0), (1, .int v1), (2, .int v2), (3, .int v3)] [] S := by
  refine r_aload_n (pc := 0) C dX9_minutes_0 0 rfl ?_
  obtain ⟨o_v0, h⟩ := h
  obtain ⟨a1, ea1, h⟩ := h
  refine r_getr (pc := 1) C fL_X9_16 dX9_minutes_1 o_v0 ea1 ?_
  refine r_iload_n (pc := 4) C dX9_minutes_4 1 rfl ?_
  obtain ⟨o_a1, h⟩ := h
  refine r_callVi0 (pc := 5) C (rest := []) (a := a1) o_a1 [.int v1] yV_X8_hasWalker g_664 (c_X8_hasWalker h) dX9_minutes_5 rfl rfl (Nat.le_of_ble_eq_true rfl) ⟨by decide, by decide⟩ ⟨by decide, by decide⟩ ⟨rfl, rfl⟩ (fun x4 S2 h g3 => ?_)
  have bx4 := h.1
  have h := h.2 g3 bx4
  have o_a1 := gr_ob g3 o_a1
  have o_v0 := gr_ob g3 o_v0
  refine r_if_eq (pc := 8) C (tgt := 22) dX9_minutes_8 (by decide) (fun c5 => ?_) (fun c5 => ?_)
  · have h := h.1 c5
    exact r_sub [0] rfl (T_X9_minutes_22 C E ht hn h)
  · have h := h.2 c5
    refine r_aload_n (pc := 11) C dX9_minutes_11 0 rfl ?_
    obtain ⟨a6, ea6, h⟩ := h
    refine r_getr (pc := 12) C fL_X9_16 dX9_minutes_12 o_v0 ea6 ?_
    refine r_iload_n (pc := 15) C dX9_minutes_15 2 rfl ?_
    obtain ⟨o_a6, h⟩ := h
    refine r_callVi0 (pc := 16) C (rest := []) (a := a6) o_a6 [.int v2] yV_X8_hasRoad g_668 (c_X8_hasRoad h) dX9_minutes_16 rfl rfl (Nat.le_of_ble_eq_true rfl) ⟨by decide, by decide⟩ ⟨by decide, by decide⟩ ⟨rfl, rfl⟩ (fun x9 S7 h g8 => ?_)
    have bx9 := h.1
    have h := h.2 g8 bx9
    have o_a1 := gr_ob g8 o_a1
    have o_a6 := gr_ob g8 o_a6
    have o_v0 := gr_ob g8 o_v0
    refine r_if_ne (pc := 19) C (tgt := 28) dX9_minutes_19 (by decide) (fun c10 => ?_) (fun c10 => ?_)
    · have h := h.1 c10
      refine r_aload_n (pc := 28) C dX9_minutes_28 0 rfl ?_
      obtain ⟨a11, ea11, h⟩ := h
      refine r_getr (pc := 29) C fL_X9_16 dX9_minutes_29 o_v0 ea11 ?_
      obtain ⟨o_a11, h⟩ := h
      obtain ⟨a12, ea12, h⟩ := h
      refine r_getr (pc := 32) C fL_X9_108 dX9_minutes_32 o_a11 ea12 ?_
      refine r_iload_n (pc := 35) C dX9_minutes_35 1 rfl ?_
      obtain ⟨o_a12, h⟩ := h
      obtain ⟨i13, a14, ea14, h⟩ := h
      refine r_aald19 (pc := 36) C dX9_minutes_36 o_a12 i13 ea14 ?_
      refine r_iload_n (pc := 37) C dX9_minutes_37 3 rfl ?_
      obtain ⟨o_a14, h⟩ := h
      refine r_callVi0 (pc := 38) C (rest := []) (a := a14) o_a14 [.int v3] yV_X6_canGo g_679 (c_X6_canGo h) dX9_minutes_38 rfl rfl (Nat.le_of_ble_eq_true rfl) ⟨by decide, by decide⟩ ⟨by decide, by decide⟩ ⟨rfl, rfl⟩ (fun x17 S15 h g16 => ?_)
      have bx17 := h.1
      have h := h.2 g16 bx17
      have o_a1 := gr_ob g16 o_a1
      have o_a11 := gr_ob g16 o_a11
      have o_a12 := gr_ob g16 o_a12
      have o_a14 := gr_ob g16 o_a14
      have o_a6 := gr_ob g16 o_a6
      have o_v0 := gr_ob g16 o_v0
      refine r_if_ne (pc := 41) C (tgt := 50) dX9_minutes_41 (by decide) (fun c18 => ?_) (fun c18 => ?_)
      · have h := h.1 c18
        refine r_aload_n (pc := 50) C dX9_minutes_50 0 rfl ?_
        refine r_aload_n (pc := 51) C dX9_minutes_51 0 rfl ?_
        obtain ⟨a19, ea19, h⟩ := h
        refine r_getr (pc := 52) C fL_X9_16 dX9_minutes_52 o_v0 ea19 ?_
        obtain ⟨o_a19, h⟩ := h
        obtain ⟨a20, ea20, h⟩ := h
        refine r_getr (pc := 55) C fL_X9_112 dX9_minutes_55 o_a19 ea20 ?_
        refine r_iload_n (pc := 58) C dX9_minutes_58 2 rfl ?_
        obtain ⟨o_a20, h⟩ := h
        obtain ⟨i21, a22, ea22, h⟩ := h
        refine r_aald18 (pc := 59) C dX9_minutes_59 o_a20 i21 ea22 ?_
        refine r_iload_n (pc := 60) C dX9_minutes_60 3 rfl ?_
        obtain ⟨o_a22, h⟩ := h
        refine r_callVi0 (pc := 61) C (rest := [.ref v0]) (a := a22) o_a22 [.int v3] yV_X5_minutesAt g_741 (c_X5_minutesAt h) dX9_minutes_61 rfl rfl (Nat.le_of_ble_eq_true rfl) ⟨by decide, by decide⟩ ⟨by decide, by decide⟩ ⟨rfl, rfl⟩ (fun x25 S23 h g24 => ?_)
        have h := h g24
        have o_a1 := gr_ob g24 o_a1
        have o_a11 := gr_ob g24 o_a11
        have o_a12 := gr_ob g24 o_a12
        have o_a14 := gr_ob g24 o_a14
        have o_a19 := gr_ob g24 o_a19
        have o_a20 := gr_ob g24 o_a20
        have o_a22 := gr_ob g24 o_a22
        have o_a6 := gr_ob g24 o_a6
        have o_v0 := gr_ob g24 o_v0
        refine r_callVi0 (pc := 64) C (rest := []) (a := v0) o_v0 [.int x25] yV_X9_grant g_637 (c_X9_grant h) dX9_minutes_64 rfl rfl (Nat.le_of_ble_eq_true rfl) ⟨by decide, by decide⟩ ⟨by decide, by decide⟩ ⟨rfl, rfl⟩ (fun x28 S26 h g27 => ?_)
        have h := h g27
        have o_a1 := gr_ob g27 o_a1
        have o_a11 := gr_ob g27 o_a11
        have o_a12 := gr_ob g27 o_a12
        have o_a14 := gr_ob g27 o_a14
        have o_a19 := gr_ob g27 o_a19
        have o_a20 := gr_ob g27 o_a20
        have o_a22 := gr_ob g27 o_a22
        have o_a6 := gr_ob g27 o_a6
        have o_v0 := gr_ob g27 o_v0
        exact r_iret (pc := 67) C E ht dX9_minutes_67 (by decide) (by decide) h
      · have h := h.2 c18
        refine r_aload_n (pc := 44) C dX9_minutes_44 0 rfl ?_
        refine r_iconst (pc := 45) C (v := (2 : Int32)) dX9_minutes_45 (by decide) ?_
        refine r_callVi0 (pc := 46) C (rest := []) (a := v0) o_v0 [.int (2 : Int32)] yV_X9_refuse g_430 (c_X9_refuse h) dX9_minutes_46 rfl rfl (Nat.le_of_ble_eq_true rfl) ⟨by decide, by decide⟩ ⟨by decide, by decide⟩ ⟨rfl, rfl⟩ (fun x31 S29 h g30 => ?_)
        have h := h g30
        have o_a1 := gr_ob g30 o_a1
        have o_a11 := gr_ob g30 o_a11
        have o_a12 := gr_ob g30 o_a12
        have o_a14 := gr_ob g30 o_a14
        have o_a6 := gr_ob g30 o_a6
        have o_v0 := gr_ob g30 o_v0
        exact r_iret (pc := 49) C E ht dX9_minutes_49 (by decide) (by decide) h
    · have h := h.2 c10
      exact r_sub [0] rfl (T_X9_minutes_22 C E ht hn h)
def P_X9_minutes (v0 : Nat) (v1 : Int32) (v2 : Int32) (v3 : Int32) (Q : Int32 → HS → Prop) (S : HS) : Prop := P_X9_minutes_0 Q v0 v1 v2 v3 S
theorem c_X9_minutes {l : Launch} {Ee : EE} {S : HS} {v0 : Nat} {v1 : Int32} {v2 : Int32} {v3 : Int32} {Q : Int32 → HS → Prop} (h : P_X9_minutes v0 v1 v2 v3 Q S) : MI l yX9_minutes cX9_minutes 4 (some .int) rm_X9_minutes Ee S [.ref v0, .int v1, .int v2, .int v3] Q :=
  openI (by decide) (Nat.le_of_ble_eq_true rfl) (fun X C E ht hn hE hl => by subst hE; exact r_sub [0, 1, 2, 3] rfl (T_X9_minutes_0 C E ht hn h))
def rm_X9_off : Room := { frames := 6, cells := 8, slots := 7937, locals := 160 }
def P_X9_off_128 (Q : Int32 → HS → Prop) (X62 : Nat → Int32 → Int32 → Int32 → Int32 → HS → Prop) (v0 : Nat) (v2 : Int32) (v4 : Int32) (v6 : Int32) (v7 : Int32) (S : HS) : Prop := ∀ x1 : Int32, x1 = v7 + (1 : Int32) → (X62 v0 v2 v4 v6 x1 S)
set_option maxRecDepth 20000 in
set_option maxHeartbeats 4000000 in
theorem T_X9_off_128 {X : CX} {Q : Int32 → HS → Prop} (C : Cx X cX9_off RX9 9 rm_X9_off) (E : ReI X rm_X9_off Q) (ht : (xh X).sig.returnType = (some .int)) (hn : (xh X).name = yX9_off.name) {X62 : Nat → Int32 → Int32 → Int32 → Int32 → HS → Prop} (hX62 : ∀ (v0 : Nat) (v2 : Int32) (v4 : Int32) (v6 : Int32) (v7 : Int32) (S : HS), X62 v0 v2 v4 v6 v7 S → WS X 9 8 7937 62 [(0, .ref v0), (2, .int v2), (4, .int v4), (6, .int v6), (7, .int v7)] [] S) {v0 : Nat} {v2 : Int32} {v4 : Int32} {v6 : Int32} {v7 : Int32} {S : HS} (h : P_X9_off_128 Q X62 v0 v2 v4 v6 v7 S) : WS X 9 8 7937 128 [(0, .ref v0), (2, .int v2), (4, .int v4), (6, .int v6), (7, .int v7)] [] S := by
  obtain ⟨x1, ex1⟩ : ∃ z : Int32, z = v7 + (1 : Int32) := ⟨_, rfl⟩
  have h := h x1 ex1
  refine r_iinc (pc := 128) C (v := x1) (lv' := [(7, .int x1), (0, .ref v0), (2, .int v2), (4, .int v4), (6, .int v6)]) dX9_off_128 4 rfl ex1.symm (by decide) rfl ?_
  refine r_goto (pc := 131) C (tgt := 62) dX9_off_131 (by decide) ?_
  exact r_sub [1, 2, 3, 4, 0] rfl (hX62 v0 v2 v4 v6 x1 S h)
def P_X9_off_104 (Q : Int32 → HS → Prop) (X62 : Nat → Int32 → Int32 → Int32 → Int32 → HS → Prop) (v0 : Nat) (v2 : Int32) (v4 : Int32) (v6 : Int32) (v7 : Int32) (s0 : Int32) (S : HS) : Prop := ob S v0 9 ∧ (∃ a1 : Nat, fR S v0 5 = some a1 ∧ (ob S a1 7 ∧ (P_X7_isOpen a1 v2 v7 (fun x4 S2 => Gr S S2 → bl x4 → (((x4 = 0) → (P_X9_off_128 Q X62 v0 v2 v4 v6 v7 S2)) ∧ ((¬ x4 = 0) → (((s0 = 0) → (P_X9_off_128 Q X62 v0 v2 v4 v6 v7 S2)) ∧ ((¬ s0 = 0) → (P_X9_off_128 Q X62 v0 v2 v4 v7 v7 S2)))))) S)))
set_option maxRecDepth 20000 in
set_option maxHeartbeats 4000000 in
theorem T_X9_off_104 {X : CX} {Q : Int32 → HS → Prop} (C : Cx X cX9_off RX9 9 rm_X9_off) (E : ReI X rm_X9_off Q) (ht : (xh X).sig.returnType = (some .int)) (hn : (xh X).name = yX9_off.name) {X62 : Nat → Int32 → Int32 → Int32 → Int32 → HS → Prop} (hX62 : ∀ (v0 : Nat) (v2 : Int32) (v4 : Int32) (v6 : Int32) (v7 : Int32) (S : HS), X62 v0 v2 v4 v6 v7 S → WS X 9 8 7937 62 [(0, .ref v0), (2, .int v2), (4, .int v4), (6, .int v6), (7, .int v7)] [] S) {v0 : Nat} {v2 : Int32} {v4 : Int32} {v6 : Int32} {v7 : Int32} {s0 : Int32} {S : HS} (h : P_X9_off_104 Q X62 v0 v2 v4 v6 v7 s0 S) : WS X 9 8 7937 104 [(0, .ref v0), (2, .int v2), (4, .int v4), (6, .int v6), (7, .int v7)] [.int s0] S := by
  refine r_istore (pc := 104) C dX9_off_104 (by decide) (lv' := [(8, .int s0), (0, .ref v0), (2, .int v2), (4, .int v4), (6, .int v6), (7, .int v7)]) rfl ?_
  refine r_aload_n (pc := 106) C dX9_off_106 1 rfl ?_
  obtain ⟨o_v0, h⟩ := h
  obtain ⟨a1, ea1, h⟩ := h
  refine r_getr (pc := 107) C fL_X9_37 dX9_off_107 o_v0 ea1 ?_
  refine r_iload_n (pc := 110) C dX9_off_110 2 rfl ?_
  refine r_iload (pc := 111) C dX9_off_111 5 rfl ?_
  obtain ⟨o_a1, h⟩ := h
  refine r_callVi0 (pc := 113) C (rest := []) (a := a1) o_a1 [.int v2, .int v7] yV_X7_isOpen g_888 (c_X7_isOpen h) dX9_off_113 rfl rfl (Nat.le_of_ble_eq_true rfl) ⟨by decide, by decide⟩ ⟨by decide, by decide⟩ ⟨rfl, rfl⟩ (fun x4 S2 h g3 => ?_)
  have bx4 := h.1
  have h := h.2 g3 bx4
  have o_a1 := gr_ob g3 o_a1
  have o_v0 := gr_ob g3 o_v0
  refine r_if_eq (pc := 116) C (tgt := 128) dX9_off_116 (by decide) (fun c5 => ?_) (fun c5 => ?_)
  · have h := h.1 c5
    exact r_sub [1, 2, 3, 4, 5] rfl (T_X9_off_128 C E ht hn hX62 h)
  · have h := h.2 c5
    refine r_iload (pc := 119) C dX9_off_119 0 rfl ?_
    refine r_if_eq (pc := 121) C (tgt := 128) dX9_off_121 (by decide) (fun c6 => ?_) (fun c6 => ?_)
    · have h := h.1 c6
      exact r_sub [1, 2, 3, 4, 5] rfl (T_X9_off_128 C E ht hn hX62 h)
    · have h := h.2 c6
      refine r_iload (pc := 124) C dX9_off_124 5 rfl ?_
      refine r_istore (pc := 126) C dX9_off_126 (by decide) (lv' := [(6, .int v7), (8, .int s0), (0, .ref v0), (2, .int v2), (4, .int v4), (7, .int v7)]) rfl ?_
      exact r_sub [2, 3, 4, 0, 5] rfl (T_X9_off_128 C E ht hn hX62 h)
def P_X9_off_99 (Q : Int32 → HS → Prop) (X62 : Nat → Int32 → Int32 → Int32 → Int32 → HS → Prop) (v0 : Nat) (v2 : Int32) (v4 : Int32) (v6 : Int32) (v7 : Int32) (S : HS) : Prop := P_X9_off_104 Q X62 v0 v2 v4 v6 v7 (1 : Int32) S
set_option maxRecDepth 20000 in
set_option maxHeartbeats 4000000 in
theorem T_X9_off_99 {X : CX} {Q : Int32 → HS → Prop} (C : Cx X cX9_off RX9 9 rm_X9_off) (E : ReI X rm_X9_off Q) (ht : (xh X).sig.returnType = (some .int)) (hn : (xh X).name = yX9_off.name) {X62 : Nat → Int32 → Int32 → Int32 → Int32 → HS → Prop} (hX62 : ∀ (v0 : Nat) (v2 : Int32) (v4 : Int32) (v6 : Int32) (v7 : Int32) (S : HS), X62 v0 v2 v4 v6 v7 S → WS X 9 8 7937 62 [(0, .ref v0), (2, .int v2), (4, .int v4), (6, .int v6), (7, .int v7)] [] S) {v0 : Nat} {v2 : Int32} {v4 : Int32} {v6 : Int32} {v7 : Int32} {S : HS} (h : P_X9_off_99 Q X62 v0 v2 v4 v6 v7 S) : WS X 9 8 7937 99 [(0, .ref v0), (2, .int v2), (4, .int v4), (6, .int v6), (7, .int v7)] [] S := by
  refine r_iconst (pc := 99) C (v := (1 : Int32)) dX9_off_99 (by decide) ?_
  refine r_goto (pc := 100) C (tgt := 104) dX9_off_100 (by decide) ?_
  exact r_sub [0, 1, 2, 3, 4] rfl (T_X9_off_104 C E ht hn hX62 h)
def B_X9_off_62 (Q : Int32 → HS → Prop) (X62 : Nat → Int32 → Int32 → Int32 → Int32 → HS → Prop) (v0 : Nat) (v2 : Int32) (v4 : Int32) (v6 : Int32) (v7 : Int32) (S : HS) : Prop := ((v4 < v7) → (((¬ v6 = (-1 : Int32)) → (Q v6 S)) ∧ ((v6 = (-1 : Int32)) → (ob S v0 9 ∧ (P_X9_refuse v0 (6 : Int32) (fun x5 S3 => Gr S S3 → (Q x5 S3)) S))))) ∧ ((¬ v4 < v7) → (((v6 = (-1 : Int32)) → (P_X9_off_99 Q X62 v0 v2 v4 v6 v7 S)) ∧ ((¬ v6 = (-1 : Int32)) → (ob S v0 9 ∧ (∃ a7 : Nat, fR S v0 5 = some a7 ∧ (ob S a7 7 ∧ (P_X7_meanFrom a7 v2 v7 (fun x10 S8 => Gr S S8 → (∃ a11 : Nat, fR S8 v0 5 = some a11 ∧ (ob S8 a11 7 ∧ (P_X7_meanFrom a11 v2 v6 (fun x14 S12 => Gr S8 S12 → (((0 ≤ (lg_cmp x10 x14)) → (P_X9_off_104 Q X62 v0 v2 v4 v6 v7 (0 : Int32) S12)) ∧ ((¬ 0 ≤ (lg_cmp x10 x14)) → (P_X9_off_99 Q X62 v0 v2 v4 v6 v7 S12)))) S8)))) S)))))))
def P_X9_off_62 (Q : Int32 → HS → Prop) (v0 : Nat) (v2 : Int32) (v4 : Int32) (v6 : Int32) (v7 : Int32) (S : HS) : Prop := ∀ X62 : Nat → Int32 → Int32 → Int32 → Int32 → HS → Prop, (∀ (v0 : Nat) (v2 : Int32) (v4 : Int32) (v6 : Int32) (v7 : Int32) (S : HS), B_X9_off_62 Q X62 v0 v2 v4 v6 v7 S → X62 v0 v2 v4 v6 v7 S) → X62 v0 v2 v4 v6 v7 S
set_option maxRecDepth 20000 in
set_option maxHeartbeats 4000000 in
theorem TB_X9_off_62 {X : CX} {Q : Int32 → HS → Prop} (C : Cx X cX9_off RX9 9 rm_X9_off) (E : ReI X rm_X9_off Q) (ht : (xh X).sig.returnType = (some .int)) (hn : (xh X).name = yX9_off.name) {X62 : Nat → Int32 → Int32 → Int32 → Int32 → HS → Prop} (hX62 : ∀ (v0 : Nat) (v2 : Int32) (v4 : Int32) (v6 : Int32) (v7 : Int32) (S : HS), X62 v0 v2 v4 v6 v7 S → WS X 9 8 7937 62 [(0, .ref v0), (2, .int v2), (4, .int v4), (6, .int v6), (7, .int v7)] [] S) {v0 : Nat} {v2 : Int32} {v4 : Int32} {v6 : Int32} {v7 : Int32} {S : HS} (h : B_X9_off_62 Q X62 v0 v2 v4 v6 v7 S) : WS X 9 8 7937 62 [(0, .ref v0), (2, .int v2), (4, .int v4), (6, .int v6), (7, .int v7)] [] S := by
  refine r_iload (pc := 62) C dX9_off_62 4 rfl ?_
  refine r_iload (pc := 64) C dX9_off_64 2 rfl ?_
  refine r_icmp_gt (pc := 66) C (tgt := 134) dX9_off_66 (by decide) (fun c1 => ?_) (fun c1 => ?_)
  · have h := h.1 c1
    refine r_iload (pc := 134) C dX9_off_134 3 rfl ?_
    refine r_iconst (pc := 136) C (v := (-1 : Int32)) dX9_off_136 (by decide) ?_
    refine r_icmp_ne (pc := 137) C (tgt := 149) dX9_off_137 (by decide) (fun c2 => ?_) (fun c2 => ?_)
    · have h := h.1 c2
      refine r_iload (pc := 149) C dX9_off_149 3 rfl ?_
      exact r_iret (pc := 151) C E ht dX9_off_151 (by decide) (by decide) h
    · have h := h.2 c2
      refine r_aload_n (pc := 140) C dX9_off_140 0 rfl ?_
      refine r_bipush (pc := 141) C (v := (6 : Int32)) dX9_off_141 (by decide) ?_
      obtain ⟨o_v0, h⟩ := h
      refine r_callVi0 (pc := 143) C (rest := []) (a := v0) o_v0 [.int (6 : Int32)] yV_X9_refuse g_430 (c_X9_refuse h) dX9_off_143 rfl rfl (Nat.le_of_ble_eq_true rfl) ⟨by decide, by decide⟩ ⟨by decide, by decide⟩ ⟨rfl, rfl⟩ (fun x5 S3 h g4 => ?_)
      have h := h g4
      have o_v0 := gr_ob g4 o_v0
      refine r_goto (pc := 146) C (tgt := 151) dX9_off_146 (by decide) ?_
      exact r_iret (pc := 151) C E ht dX9_off_151 (by decide) (by decide) h
  · have h := h.2 c1
    refine r_iload (pc := 69) C dX9_off_69 3 rfl ?_
    refine r_iconst (pc := 71) C (v := (-1 : Int32)) dX9_off_71 (by decide) ?_
    refine r_icmp_eq (pc := 72) C (tgt := 99) dX9_off_72 (by decide) (fun c6 => ?_) (fun c6 => ?_)
    · have h := h.1 c6
      exact r_sub [0, 1, 2, 3, 4] rfl (T_X9_off_99 C E ht hn hX62 h)
    · have h := h.2 c6
      refine r_aload_n (pc := 75) C dX9_off_75 0 rfl ?_
      obtain ⟨o_v0, h⟩ := h
      obtain ⟨a7, ea7, h⟩ := h
      refine r_getr (pc := 76) C fL_X9_37 dX9_off_76 o_v0 ea7 ?_
      refine r_iload_n (pc := 79) C dX9_off_79 1 rfl ?_
      refine r_iload (pc := 80) C dX9_off_80 4 rfl ?_
      obtain ⟨o_a7, h⟩ := h
      refine r_callVl0 (pc := 82) C (rest := []) (a := a7) o_a7 [.int v2, .int v7] yV_X7_meanFrom g_896 (c_X7_meanFrom h) dX9_off_82 rfl rfl (Nat.le_of_ble_eq_true rfl) ⟨by decide, by decide⟩ ⟨by decide, by decide⟩ ⟨rfl, rfl⟩ (fun x10 S8 h g9 => ?_)
      have h := h g9
      have o_a7 := gr_ob g9 o_a7
      have o_v0 := gr_ob g9 o_v0
      refine r_aload_n (pc := 85) C dX9_off_85 0 rfl ?_
      obtain ⟨a11, ea11, h⟩ := h
      refine r_getr (pc := 86) C fL_X9_37 dX9_off_86 o_v0 ea11 ?_
      refine r_iload_n (pc := 89) C dX9_off_89 1 rfl ?_
      refine r_iload (pc := 90) C dX9_off_90 3 rfl ?_
      obtain ⟨o_a11, h⟩ := h
      refine r_callVl0 (pc := 92) C (rest := [.long x10]) (a := a11) o_a11 [.int v2, .int v6] yV_X7_meanFrom g_896 (c_X7_meanFrom h) dX9_off_92 rfl rfl (Nat.le_of_ble_eq_true rfl) ⟨by decide, by decide⟩ ⟨by decide, by decide⟩ ⟨rfl, rfl⟩ (fun x14 S12 h g13 => ?_)
      have h := h g13
      have o_a11 := gr_ob g13 o_a11
      have o_a7 := gr_ob g13 o_a7
      have o_v0 := gr_ob g13 o_v0
      refine r_lcmp (pc := 95) C dX9_off_95 ?_
      refine r_if_ge (pc := 96) C (tgt := 103) dX9_off_96 (by decide) (fun c15 => ?_) (fun c15 => ?_)
      · have h := h.1 c15
        refine r_iconst (pc := 103) C (v := (0 : Int32)) dX9_off_103 (by decide) ?_
        exact r_sub [0, 1, 2, 3, 4] rfl (T_X9_off_104 C E ht hn hX62 h)
      · have h := h.2 c15
        exact r_sub [0, 1, 2, 3, 4] rfl (T_X9_off_99 C E ht hn hX62 h)
theorem T_X9_off_62 {X : CX} {Q : Int32 → HS → Prop} (C : Cx X cX9_off RX9 9 rm_X9_off) (E : ReI X rm_X9_off Q) (ht : (xh X).sig.returnType = (some .int)) (hn : (xh X).name = yX9_off.name) {v0 : Nat} {v2 : Int32} {v4 : Int32} {v6 : Int32} {v7 : Int32} {S : HS} (h : P_X9_off_62 Q v0 v2 v4 v6 v7 S) : WS X 9 8 7937 62 [(0, .ref v0), (2, .int v2), (4, .int v4), (6, .int v6), (7, .int v7)] [] S :=
  h (fun v0 v2 v4 v6 v7 S => WS X 9 8 7937 62 [(0, .ref v0), (2, .int v2), (4, .int v4), (6, .int v6), (7, .int v7)] [] S) (fun v0 v2 v4 v6 v7 S hh => TB_X9_off_62 C E ht hn (fun v0 v2 v4 v6 v7 S z => z) hh)
def P_X9_off_25 (Q : Int32 → HS → Prop) (v0 : Nat) (v1 : Int32) (v2 : Int32) (v3 : Int32) (v4 : Int32) (v5 : Int32) (S : HS) : Prop := ob S v0 9 ∧ (P_X9_refusedBy v0 v5 (fun x3 S1 => Gr S S1 → bl x3 → (((x3 = 0) → (∃ a5 : Nat, fR S1 v0 5 = some a5 ∧ (∃ a6 : Nat, fR S1 v0 2 = some a6 ∧ (∃ a7 : Nat, fR S1 v0 4 = some a7 ∧ (ob S1 a5 7 ∧ (P_X7_reckon a5 a6 a7 v1 v3 v4 (0 : Int32) (fun S8 => Gr S1 S8 → (P_X9_off_62 Q v0 v2 v4 (-1 : Int32) (0 : Int32) S8)) S1)))))) ∧ ((¬ x3 = 0) → (Q (-1 : Int32) S1)))) S)
set_option maxRecDepth 20000 in
set_option maxHeartbeats 4000000 in
theorem T_X9_off_25 {X : CX} {Q : Int32 → HS → Prop} (C : Cx X cX9_off RX9 9 rm_X9_off) (E : ReI X rm_X9_off Q) (ht : (xh X).sig.returnType = (some .int)) (hn : (xh X).name = yX9_off.name) {v0 : Nat} {v1 : Int32} {v2 : Int32} {v3 : Int32} {v4 : Int32} {v5 : Int32} {S : HS} (h : P_X9_off_25 Q v0 v1 v2 v3 v4 v5 S) : WS X 9 0 0 25 [(0, .ref v0), (1, .int v1), (2, .int v2), (3, .int v3), (4, .int v4), (5, .int v5)] [] S := by
  refine r_aload_n (pc := 25) C dX9_off_25 0 rfl ?_
  refine r_iload (pc := 26) C dX9_off_26 5 rfl ?_
  obtain ⟨o_v0, h⟩ := h
  refine r_callVi0 (pc := 28) C (rest := []) (a := v0) o_v0 [.int v5] yV_X9_refusedBy g_683 (c_X9_refusedBy h) dX9_off_28 rfl rfl (Nat.le_of_ble_eq_true rfl) ⟨by decide, by decide⟩ ⟨by decide, by decide⟩ ⟨rfl, rfl⟩ (fun x3 S1 h g2 => ?_)
  have bx3 := h.1
  have h := h.2 g2 bx3
  have o_v0 := gr_ob g2 o_v0
  refine r_if_eq (pc := 31) C (tgt := 36) dX9_off_31 (by decide) (fun c4 => ?_) (fun c4 => ?_)
  · have h := h.1 c4
    refine r_aload_n (pc := 36) C dX9_off_36 0 rfl ?_
    obtain ⟨a5, ea5, h⟩ := h
    refine r_getr (pc := 37) C fL_X9_37 dX9_off_37 o_v0 ea5 ?_
    refine r_aload_n (pc := 40) C dX9_off_40 0 rfl ?_
    obtain ⟨a6, ea6, h⟩ := h
    refine r_getr (pc := 41) C fL_X9_16 dX9_off_41 o_v0 ea6 ?_
    refine r_aload_n (pc := 44) C dX9_off_44 0 rfl ?_
    obtain ⟨a7, ea7, h⟩ := h
    refine r_getr (pc := 45) C fL_X9_30 dX9_off_45 o_v0 ea7 ?_
    refine r_iload_n (pc := 48) C dX9_off_48 1 rfl ?_
    refine r_iload_n (pc := 49) C dX9_off_49 3 rfl ?_
    refine r_iload (pc := 50) C dX9_off_50 4 rfl ?_
    refine r_iconst (pc := 52) C (v := (0 : Int32)) dX9_off_52 (by decide) ?_
    obtain ⟨o_a5, h⟩ := h
    refine r_callVv (pc := 53) C (rest := []) (a := a5) o_a5 [.ref a6, .ref a7, .int v1, .int v3, .int v4, .int (0 : Int32)] yV_X7_reckon g_832 (c_X7_reckon h) dX9_off_53 rfl rfl (Nat.le_of_ble_eq_true rfl) ⟨by decide, by decide⟩ ⟨by decide, by decide⟩ (fun S8 h g9 => ?_)
    have h := h g9
    have o_a5 := gr_ob g9 o_a5
    have o_v0 := gr_ob g9 o_v0
    refine r_iconst (pc := 56) C (v := (-1 : Int32)) dX9_off_56 (by decide) ?_
    refine r_istore (pc := 57) C dX9_off_57 (by decide) (lv' := [(6, .int (-1 : Int32)), (0, .ref v0), (1, .int v1), (2, .int v2), (3, .int v3), (4, .int v4), (5, .int v5)]) rfl ?_
    refine r_iconst (pc := 59) C (v := (0 : Int32)) dX9_off_59 (by decide) ?_
    refine r_istore (pc := 60) C dX9_off_60 (by decide) (lv' := [(7, .int (0 : Int32)), (6, .int (-1 : Int32)), (0, .ref v0), (1, .int v1), (2, .int v2), (3, .int v3), (4, .int v4), (5, .int v5)]) rfl ?_
    exact r_sub [2, 4, 6, 1, 0] rfl (T_X9_off_62 C E ht hn h)
  · have h := h.2 c4
    refine r_iconst (pc := 34) C (v := (-1 : Int32)) dX9_off_34 (by decide) ?_
    exact r_iret (pc := 35) C E ht dX9_off_35 (by decide) (by decide) h
def P_X9_off_0 (Q : Int32 → HS → Prop) (v0 : Nat) (v1 : Int32) (v2 : Int32) (v3 : Int32) (v4 : Int32) (S : HS) : Prop := ob S v0 9 ∧ (P_X9_placesTrouble v0 v1 v2 v3 (fun x3 S1 => Gr S S1 → (((¬ x3 = 0) → (P_X9_off_25 Q v0 v1 v2 v3 v4 x3 S1)) ∧ ((x3 = 0) → (P_X9_isTill v4 (fun x7 S5 => Gr S1 S5 → bl x7 → (((¬ x7 = 0) → (P_X9_off_25 Q v0 v1 v2 v3 v4 x3 S5)) ∧ ((x7 = 0) → (P_X9_off_25 Q v0 v1 v2 v3 v4 (2 : Int32) S5)))) S1)))) S)
set_option maxRecDepth 20000 in
set_option maxHeartbeats 4000000 in
theorem T_X9_off_0 {X : CX} {Q : Int32 → HS → Prop} (C : Cx X cX9_off RX9 9 rm_X9_off) (E : ReI X rm_X9_off Q) (ht : (xh X).sig.returnType = (some .int)) (hn : (xh X).name = yX9_off.name) {v0 : Nat} {v1 : Int32} {v2 : Int32} {v3 : Int32} {v4 : Int32} {S : HS} (h : P_X9_off_0 Q v0 v1 v2 v3 v4 S) : WS X 9 0 0 0 [(0, .ref v0), (1, .int v1), (2, .int v2), (3, .int v3), (4, .int v4)] [] S := by
  refine r_aload_n (pc := 0) C dX9_off_0 0 rfl ?_
  refine r_iload_n (pc := 1) C dX9_off_1 1 rfl ?_
  refine r_iload_n (pc := 2) C dX9_off_2 2 rfl ?_
  refine r_iload_n (pc := 3) C dX9_off_3 3 rfl ?_
  obtain ⟨o_v0, h⟩ := h
  refine r_callVi0 (pc := 4) C (rest := []) (a := v0) o_v0 [.int v1, .int v2, .int v3] yV_X9_placesTrouble g_821 (c_X9_placesTrouble h) dX9_off_4 rfl rfl (Nat.le_of_ble_eq_true rfl) ⟨by decide, by decide⟩ ⟨by decide, by decide⟩ ⟨rfl, rfl⟩ (fun x3 S1 h g2 => ?_)
  have h := h g2
  have o_v0 := gr_ob g2 o_v0
  refine r_istore (pc := 7) C dX9_off_7 (by decide) (lv' := [(5, .int x3), (0, .ref v0), (1, .int v1), (2, .int v2), (3, .int v3), (4, .int v4)]) rfl ?_
  refine r_iload (pc := 9) C dX9_off_9 0 rfl ?_
  refine r_if_ne (pc := 11) C (tgt := 25) dX9_off_11 (by decide) (fun c4 => ?_) (fun c4 => ?_)
  · have h := h.1 c4
    exact r_sub [1, 2, 3, 4, 5, 0] rfl (T_X9_off_25 C E ht hn h)
  · have h := h.2 c4
    refine r_iload (pc := 14) C dX9_off_14 5 rfl ?_
    refine r_callSi0 (pc := 16) C (rest := []) rfl [.int v4] yS_X9_isTill g_829 (c_X9_isTill h) dX9_off_16 rfl rfl (Nat.le_of_ble_eq_true rfl) ⟨by decide, by decide⟩ ⟨by decide, by decide⟩ ⟨rfl, rfl⟩ (fun x7 S5 h g6 => ?_)
    have bx7 := h.1
    have h := h.2 g6 bx7
    have o_v0 := gr_ob g6 o_v0
    refine r_if_ne (pc := 19) C (tgt := 25) dX9_off_19 (by decide) (fun c8 => ?_) (fun c8 => ?_)
    · have h := h.1 c8
      exact r_sub [1, 2, 3, 4, 5, 0] rfl (T_X9_off_25 C E ht hn h)
    · have h := h.2 c8
      refine r_iconst (pc := 22) C (v := (2 : Int32)) dX9_off_22 (by decide) ?_
      refine r_istore (pc := 23) C dX9_off_23 (by decide) (lv' := [(5, .int (2 : Int32)), (0, .ref v0), (1, .int v1), (2, .int v2), (3, .int v3), (4, .int v4)]) rfl ?_
      exact r_sub [1, 2, 3, 4, 5, 0] rfl (T_X9_off_25 C E ht hn h)
def P_X9_off (v0 : Nat) (v1 : Int32) (v2 : Int32) (v3 : Int32) (v4 : Int32) (Q : Int32 → HS → Prop) (S : HS) : Prop := P_X9_off_0 Q v0 v1 v2 v3 v4 S
theorem c_X9_off {l : Launch} {Ee : EE} {S : HS} {v0 : Nat} {v1 : Int32} {v2 : Int32} {v3 : Int32} {v4 : Int32} {Q : Int32 → HS → Prop} (h : P_X9_off v0 v1 v2 v3 v4 Q S) : MI l yX9_off cX9_off 9 (some .int) rm_X9_off Ee S [.ref v0, .int v1, .int v2, .int v3, .int v4] Q :=
  openI (by decide) (Nat.le_of_ble_eq_true rfl) (fun X C E ht hn hE hl => by subst hE; exact r_sub [0, 1, 2, 3, 4] rfl (T_X9_off_0 C E ht hn h))
def rm_X9_road : Room := { frames := 1, cells := 0, slots := 0, locals := 21 }
def P_X9_road_20 (Q : Int32 → HS → Prop) (v0 : Nat) (S : HS) : Prop := ob S v0 9 ∧ (P_X9_refuse v0 (1 : Int32) (fun x3 S1 => Gr S S1 → (Q x3 S1)) S)
set_option maxRecDepth 20000 in
set_option maxHeartbeats 4000000 in
theorem T_X9_road_20 {X : CX} {Q : Int32 → HS → Prop} (C : Cx X cX9_road RX9 3 rm_X9_road) (E : ReI X rm_X9_road Q) (ht : (xh X).sig.returnType = (some .int)) (hn : (xh X).name = yX9_road.name) {v0 : Nat} {S : HS} (h : P_X9_road_20 Q v0 S) : WS X 3 0 0 20 [(0, .ref v0)] [] S := by
  refine r_aload_n (pc := 20) C dX9_road_20 0 rfl ?_
  refine r_iconst (pc := 21) C (v := (1 : Int32)) dX9_road_21 (by decide) ?_
  obtain ⟨o_v0, h⟩ := h
  refine r_callVi0 (pc := 22) C (rest := []) (a := v0) o_v0 [.int (1 : Int32)] yV_X9_refuse g_430 (c_X9_refuse h) dX9_road_22 rfl rfl (Nat.le_of_ble_eq_true rfl) ⟨by decide, by decide⟩ ⟨by decide, by decide⟩ ⟨rfl, rfl⟩ (fun x3 S1 h g2 => ?_)
  have h := h g2
  have o_v0 := gr_ob g2 o_v0
  exact r_iret (pc := 25) C E ht dX9_road_25 (by decide) (by decide) h
def P_X9_road_0 (Q : Int32 → HS → Prop) (v0 : Nat) (v1 : Int32) (v2 : Int32) (S : HS) : Prop := ob S v0 9 ∧ (∃ a1 : Nat, fR S v0 2 = some a1 ∧ (ob S a1 8 ∧ (P_X8_hasRoad a1 v1 (fun x4 S2 => Gr S S2 → bl x4 → (((x4 = 0) → (P_X9_road_20 Q v0 S2)) ∧ ((¬ x4 = 0) → (((v2 < 0) → (P_X9_road_20 Q v0 S2)) ∧ ((¬ v2 < 0) → (((v2 ≤ (4 : Int32)) → (∃ a8 : Nat, fR S2 v0 2 = some a8 ∧ (ob S2 a8 8 ∧ (∃ a9 : Nat, fR S2 a8 8 = some a9 ∧ (ob S2 a9 18 ∧ (vp_in v1 (hN S2 a9) ∧ ∃ a11 : Nat, fR S2 a9 v1.toNatClampNeg = some a11 ∧ (ob S2 a11 5 ∧ (P_X5_tell a11 v2 (fun x14 S12 => Gr S2 S12 → (P_X9_grant v0 x14 (fun x17 S15 => Gr S12 S15 → (Q x17 S15)) S12)) S2)))))))) ∧ ((¬ v2 ≤ (4 : Int32)) → (P_X9_road_20 Q v0 S2)))))))) S)))
set_option maxRecDepth 20000 in
set_option maxHeartbeats 4000000 in
theorem T_X9_road_0 {X : CX} {Q : Int32 → HS → Prop} (C : Cx X cX9_road RX9 3 rm_X9_road) (E : ReI X rm_X9_road Q) (ht : (xh X).sig.returnType = (some .int)) (hn : (xh X).name = yX9_road.name) {v0 : Nat} {v1 : Int32} {v2 : Int32} {S : HS} (h : P_X9_road_0 Q v0 v1 v2 S) : WS X 3 0 0 0 [(0, .ref v0), (1, .int v1), (2, .int v2)] [] S := by
  refine r_aload_n (pc := 0) C dX9_road_0 0 rfl ?_
  obtain ⟨o_v0, h⟩ := h
  obtain ⟨a1, ea1, h⟩ := h
  refine r_getr (pc := 1) C fL_X9_16 dX9_road_1 o_v0 ea1 ?_
  refine r_iload_n (pc := 4) C dX9_road_4 1 rfl ?_
  obtain ⟨o_a1, h⟩ := h
  refine r_callVi0 (pc := 5) C (rest := []) (a := a1) o_a1 [.int v1] yV_X8_hasRoad g_668 (c_X8_hasRoad h) dX9_road_5 rfl rfl (Nat.le_of_ble_eq_true rfl) ⟨by decide, by decide⟩ ⟨by decide, by decide⟩ ⟨rfl, rfl⟩ (fun x4 S2 h g3 => ?_)
  have bx4 := h.1
  have h := h.2 g3 bx4
  have o_a1 := gr_ob g3 o_a1
  have o_v0 := gr_ob g3 o_v0
  refine r_if_eq (pc := 8) C (tgt := 20) dX9_road_8 (by decide) (fun c5 => ?_) (fun c5 => ?_)
  · have h := h.1 c5
    exact r_sub [0] rfl (T_X9_road_20 C E ht hn h)
  · have h := h.2 c5
    refine r_iload_n (pc := 11) C dX9_road_11 2 rfl ?_
    refine r_if_lt (pc := 12) C (tgt := 20) dX9_road_12 (by decide) (fun c6 => ?_) (fun c6 => ?_)
    · have h := h.1 c6
      exact r_sub [0] rfl (T_X9_road_20 C E ht hn h)
    · have h := h.2 c6
      refine r_iload_n (pc := 15) C dX9_road_15 2 rfl ?_
      refine r_iconst (pc := 16) C (v := (4 : Int32)) dX9_road_16 (by decide) ?_
      refine r_icmp_le (pc := 17) C (tgt := 26) dX9_road_17 (by decide) (fun c7 => ?_) (fun c7 => ?_)
      · have h := h.1 c7
        refine r_aload_n (pc := 26) C dX9_road_26 0 rfl ?_
        refine r_aload_n (pc := 27) C dX9_road_27 0 rfl ?_
        obtain ⟨a8, ea8, h⟩ := h
        refine r_getr (pc := 28) C fL_X9_16 dX9_road_28 o_v0 ea8 ?_
        obtain ⟨o_a8, h⟩ := h
        obtain ⟨a9, ea9, h⟩ := h
        refine r_getr (pc := 31) C fL_X9_112 dX9_road_31 o_a8 ea9 ?_
        refine r_iload_n (pc := 34) C dX9_road_34 1 rfl ?_
        obtain ⟨o_a9, h⟩ := h
        obtain ⟨i10, a11, ea11, h⟩ := h
        refine r_aald18 (pc := 35) C dX9_road_35 o_a9 i10 ea11 ?_
        refine r_iload_n (pc := 36) C dX9_road_36 2 rfl ?_
        obtain ⟨o_a11, h⟩ := h
        refine r_callVi0 (pc := 37) C (rest := [.ref v0]) (a := a11) o_a11 [.int v2] yV_X5_tell g_1072 (c_X5_tell h) dX9_road_37 rfl rfl (Nat.le_of_ble_eq_true rfl) ⟨by decide, by decide⟩ ⟨by decide, by decide⟩ ⟨rfl, rfl⟩ (fun x14 S12 h g13 => ?_)
        have h := h g13
        have o_a1 := gr_ob g13 o_a1
        have o_a11 := gr_ob g13 o_a11
        have o_a8 := gr_ob g13 o_a8
        have o_a9 := gr_ob g13 o_a9
        have o_v0 := gr_ob g13 o_v0
        refine r_callVi0 (pc := 40) C (rest := []) (a := v0) o_v0 [.int x14] yV_X9_grant g_637 (c_X9_grant h) dX9_road_40 rfl rfl (Nat.le_of_ble_eq_true rfl) ⟨by decide, by decide⟩ ⟨by decide, by decide⟩ ⟨rfl, rfl⟩ (fun x17 S15 h g16 => ?_)
        have h := h g16
        have o_a1 := gr_ob g16 o_a1
        have o_a11 := gr_ob g16 o_a11
        have o_a8 := gr_ob g16 o_a8
        have o_a9 := gr_ob g16 o_a9
        have o_v0 := gr_ob g16 o_v0
        exact r_iret (pc := 43) C E ht dX9_road_43 (by decide) (by decide) h
      · have h := h.2 c7
        exact r_sub [0] rfl (T_X9_road_20 C E ht hn h)
def P_X9_road (v0 : Nat) (v1 : Int32) (v2 : Int32) (Q : Int32 → HS → Prop) (S : HS) : Prop := P_X9_road_0 Q v0 v1 v2 S
theorem c_X9_road {l : Launch} {Ee : EE} {S : HS} {v0 : Nat} {v1 : Int32} {v2 : Int32} {Q : Int32 → HS → Prop} (h : P_X9_road v0 v1 v2 Q S) : MI l yX9_road cX9_road 3 (some .int) rm_X9_road Ee S [.ref v0, .int v1, .int v2] Q :=
  openI (by decide) (Nat.le_of_ble_eq_true rfl) (fun X C E ht hn hE hl => by subst hE; exact r_sub [0, 1, 2] rfl (T_X9_road_0 C E ht hn h))
def rm_X9_round : Room := { frames := 6, cells := 0, slots := 0, locals := 155 }
def P_X9_round_0 (Q : Int64 → HS → Prop) (v0 : Nat) (v1 : Int32) (v2 : Int32) (v3 : Int32) (v4 : Int32) (S : HS) : Prop := ob S v0 9 ∧ (P_X9_tripTrouble v0 v1 v2 (0 : Int32) v3 (fun x3 S1 => Gr S S1 → (P_X9_refusedBy v0 x3 (fun x6 S4 => Gr S1 S4 → bl x6 → (((x6 = 0) → (∃ a8 : Nat, fR S4 v0 4 = some a8 ∧ (∃ a9 : Nat, fR S4 v0 2 = some a9 ∧ (ob S4 a9 8 ∧ (∃ a10 : Nat, fR S4 a9 9 = some a10 ∧ (ob S4 a10 19 ∧ (vp_in v1 (hN S4 a10) ∧ ∃ a12 : Nat, fR S4 a10 v1.toNatClampNeg = some a12 ∧ (∃ a13 : Nat, fR S4 v0 2 = some a13 ∧ (ob S4 a13 8 ∧ (∃ a14 : Nat, fR S4 a13 8 = some a14 ∧ (ob S4 a14 18 ∧ (vp_in v2 (hN S4 a14) ∧ ∃ a16 : Nat, fR S4 a14 v2.toNatClampNeg = some a16 ∧ (∃ a17 : Nat, fR S4 v0 2 = some a17 ∧ (ob S4 a17 8 ∧ (∃ a18 : Nat, fR S4 a17 6 = some a18 ∧ (ob S4 a18 17 ∧ (vp_in v3 (hN S4 a18) ∧ ∃ a20 : Nat, fR S4 a18 v3.toNatClampNeg = some a20 ∧ (ob S4 a8 1 ∧ (P_X1_leastWet a8 a12 a16 (0 : Int32) a20 (fun x23 S21 => Gr S4 S21 → (∃ a24 : Nat, fR S21 v0 4 = some a24 ∧ (∃ a25 : Nat, fR S21 v0 2 = some a25 ∧ (ob S21 a25 8 ∧ (∃ a26 : Nat, fR S21 a25 9 = some a26 ∧ (ob S21 a26 19 ∧ (vp_in v1 (hN S21 a26) ∧ ∃ a28 : Nat, fR S21 a26 v1.toNatClampNeg = some a28 ∧ (∃ a29 : Nat, fR S21 v0 2 = some a29 ∧ (ob S21 a29 8 ∧ (∃ a30 : Nat, fR S21 a29 8 = some a30 ∧ (ob S21 a30 18 ∧ (vp_in v2 (hN S21 a30) ∧ ∃ a32 : Nat, fR S21 a30 v2.toNatClampNeg = some a32 ∧ (∃ a33 : Nat, fR S21 v0 2 = some a33 ∧ (ob S21 a33 8 ∧ (∃ a34 : Nat, fR S21 a33 6 = some a34 ∧ (ob S21 a34 17 ∧ (vp_in v3 (hN S21 a34) ∧ ∃ a36 : Nat, fR S21 a34 v3.toNatClampNeg = some a36 ∧ (ob S21 a24 1 ∧ (P_X1_leastWet a24 a28 a32 (1 : Int32) a36 (fun x39 S37 => Gr S21 S37 → (P_X9_fraction (x23 + x39) (2520 : Int64) v4 (fun x42 S40 => Gr S37 S40 → (Q x42 S40)) S37)) S21))))))))))))))))))) S4))))))))))))))))))) ∧ ((¬ x6 = 0) → (Q (-1 : Int64) S4)))) S1)) S)
set_option maxRecDepth 20000 in
set_option maxHeartbeats 4000000 in
theorem T_X9_round_0 {X : CX} {Q : Int64 → HS → Prop} (C : Cx X cX9_round RX9 9 rm_X9_round) (E : ReJ X rm_X9_round Q) (ht : (xh X).sig.returnType = (some .long)) (hn : (xh X).name = yX9_round.name) {v0 : Nat} {v1 : Int32} {v2 : Int32} {v3 : Int32} {v4 : Int32} {S : HS} (h : P_X9_round_0 Q v0 v1 v2 v3 v4 S) : WS X 9 0 0 0 [(0, .ref v0), (1, .int v1), (2, .int v2), (3, .int v3), (4, .int v4)] [] S := by
  refine r_aload_n (pc := 0) C dX9_round_0 0 rfl ?_
  refine r_aload_n (pc := 1) C dX9_round_1 0 rfl ?_
  refine r_iload_n (pc := 2) C dX9_round_2 1 rfl ?_
  refine r_iload_n (pc := 3) C dX9_round_3 2 rfl ?_
  refine r_iconst (pc := 4) C (v := (0 : Int32)) dX9_round_4 (by decide) ?_
  refine r_iload_n (pc := 5) C dX9_round_5 3 rfl ?_
  obtain ⟨o_v0, h⟩ := h
  refine r_callVi0 (pc := 6) C (rest := [.ref v0]) (a := v0) o_v0 [.int v1, .int v2, .int (0 : Int32), .int v3] yV_X9_tripTrouble g_660 (c_X9_tripTrouble h) dX9_round_6 rfl rfl (Nat.le_of_ble_eq_true rfl) ⟨by decide, by decide⟩ ⟨by decide, by decide⟩ ⟨rfl, rfl⟩ (fun x3 S1 h g2 => ?_)
  have h := h g2
  have o_v0 := gr_ob g2 o_v0
  refine r_callVi0 (pc := 9) C (rest := []) (a := v0) o_v0 [.int x3] yV_X9_refusedBy g_683 (c_X9_refusedBy h) dX9_round_9 rfl rfl (Nat.le_of_ble_eq_true rfl) ⟨by decide, by decide⟩ ⟨by decide, by decide⟩ ⟨rfl, rfl⟩ (fun x6 S4 h g5 => ?_)
  have bx6 := h.1
  have h := h.2 g5 bx6
  have o_v0 := gr_ob g5 o_v0
  refine r_if_eq (pc := 12) C (tgt := 19) dX9_round_12 (by decide) (fun c7 => ?_) (fun c7 => ?_)
  · have h := h.1 c7
    refine r_aload_n (pc := 19) C dX9_round_19 0 rfl ?_
    obtain ⟨a8, ea8, h⟩ := h
    refine r_getr (pc := 20) C fL_X9_30 dX9_round_20 o_v0 ea8 ?_
    refine r_aload_n (pc := 23) C dX9_round_23 0 rfl ?_
    obtain ⟨a9, ea9, h⟩ := h
    refine r_getr (pc := 24) C fL_X9_16 dX9_round_24 o_v0 ea9 ?_
    obtain ⟨o_a9, h⟩ := h
    obtain ⟨a10, ea10, h⟩ := h
    refine r_getr (pc := 27) C fL_X9_108 dX9_round_27 o_a9 ea10 ?_
    refine r_iload_n (pc := 30) C dX9_round_30 1 rfl ?_
    obtain ⟨o_a10, h⟩ := h
    obtain ⟨i11, a12, ea12, h⟩ := h
    refine r_aald19 (pc := 31) C dX9_round_31 o_a10 i11 ea12 ?_
    refine r_aload_n (pc := 32) C dX9_round_32 0 rfl ?_
    obtain ⟨a13, ea13, h⟩ := h
    refine r_getr (pc := 33) C fL_X9_16 dX9_round_33 o_v0 ea13 ?_
    obtain ⟨o_a13, h⟩ := h
    obtain ⟨a14, ea14, h⟩ := h
    refine r_getr (pc := 36) C fL_X9_112 dX9_round_36 o_a13 ea14 ?_
    refine r_iload_n (pc := 39) C dX9_round_39 2 rfl ?_
    obtain ⟨o_a14, h⟩ := h
    obtain ⟨i15, a16, ea16, h⟩ := h
    refine r_aald18 (pc := 40) C dX9_round_40 o_a14 i15 ea16 ?_
    refine r_iconst (pc := 41) C (v := (0 : Int32)) dX9_round_41 (by decide) ?_
    refine r_aload_n (pc := 42) C dX9_round_42 0 rfl ?_
    obtain ⟨a17, ea17, h⟩ := h
    refine r_getr (pc := 43) C fL_X9_16 dX9_round_43 o_v0 ea17 ?_
    obtain ⟨o_a17, h⟩ := h
    obtain ⟨a18, ea18, h⟩ := h
    refine r_getr (pc := 46) C fL_X9_116 dX9_round_46 o_a17 ea18 ?_
    refine r_iload_n (pc := 49) C dX9_round_49 3 rfl ?_
    obtain ⟨o_a18, h⟩ := h
    obtain ⟨i19, a20, ea20, h⟩ := h
    refine r_aald17 (pc := 50) C dX9_round_50 o_a18 i19 ea20 ?_
    obtain ⟨o_a8, h⟩ := h
    refine r_callVl0 (pc := 51) C (rest := []) (a := a8) o_a8 [.ref a12, .ref a16, .int (0 : Int32), .ref a20] yV_X1_leastWet g_770 (c_X1_leastWet h) dX9_round_51 rfl rfl (Nat.le_of_ble_eq_true rfl) ⟨by decide, by decide⟩ ⟨by decide, by decide⟩ ⟨rfl, rfl⟩ (fun x23 S21 h g22 => ?_)
    have h := h g22
    have o_a10 := gr_ob g22 o_a10
    have o_a13 := gr_ob g22 o_a13
    have o_a14 := gr_ob g22 o_a14
    have o_a17 := gr_ob g22 o_a17
    have o_a18 := gr_ob g22 o_a18
    have o_a8 := gr_ob g22 o_a8
    have o_a9 := gr_ob g22 o_a9
    have o_v0 := gr_ob g22 o_v0
    refine r_lstore (pc := 54) C dX9_round_54 (by decide) (lv' := [(5, .long x23), (0, .ref v0), (1, .int v1), (2, .int v2), (3, .int v3), (4, .int v4)]) rfl ?_
    refine r_aload_n (pc := 56) C dX9_round_56 1 rfl ?_
    obtain ⟨a24, ea24, h⟩ := h
    refine r_getr (pc := 57) C fL_X9_30 dX9_round_57 o_v0 ea24 ?_
    refine r_aload_n (pc := 60) C dX9_round_60 1 rfl ?_
    obtain ⟨a25, ea25, h⟩ := h
    refine r_getr (pc := 61) C fL_X9_16 dX9_round_61 o_v0 ea25 ?_
    obtain ⟨o_a25, h⟩ := h
    obtain ⟨a26, ea26, h⟩ := h
    refine r_getr (pc := 64) C fL_X9_108 dX9_round_64 o_a25 ea26 ?_
    refine r_iload_n (pc := 67) C dX9_round_67 2 rfl ?_
    obtain ⟨o_a26, h⟩ := h
    obtain ⟨i27, a28, ea28, h⟩ := h
    refine r_aald19 (pc := 68) C dX9_round_68 o_a26 i27 ea28 ?_
    refine r_aload_n (pc := 69) C dX9_round_69 1 rfl ?_
    obtain ⟨a29, ea29, h⟩ := h
    refine r_getr (pc := 70) C fL_X9_16 dX9_round_70 o_v0 ea29 ?_
    obtain ⟨o_a29, h⟩ := h
    obtain ⟨a30, ea30, h⟩ := h
    refine r_getr (pc := 73) C fL_X9_112 dX9_round_73 o_a29 ea30 ?_
    refine r_iload_n (pc := 76) C dX9_round_76 3 rfl ?_
    obtain ⟨o_a30, h⟩ := h
    obtain ⟨i31, a32, ea32, h⟩ := h
    refine r_aald18 (pc := 77) C dX9_round_77 o_a30 i31 ea32 ?_
    refine r_iconst (pc := 78) C (v := (1 : Int32)) dX9_round_78 (by decide) ?_
    refine r_aload_n (pc := 79) C dX9_round_79 1 rfl ?_
    obtain ⟨a33, ea33, h⟩ := h
    refine r_getr (pc := 80) C fL_X9_16 dX9_round_80 o_v0 ea33 ?_
    obtain ⟨o_a33, h⟩ := h
    obtain ⟨a34, ea34, h⟩ := h
    refine r_getr (pc := 83) C fL_X9_116 dX9_round_83 o_a33 ea34 ?_
    refine r_iload_n (pc := 86) C dX9_round_86 4 rfl ?_
    obtain ⟨o_a34, h⟩ := h
    obtain ⟨i35, a36, ea36, h⟩ := h
    refine r_aald17 (pc := 87) C dX9_round_87 o_a34 i35 ea36 ?_
    obtain ⟨o_a24, h⟩ := h
    refine r_callVl0 (pc := 88) C (rest := []) (a := a24) o_a24 [.ref a28, .ref a32, .int (1 : Int32), .ref a36] yV_X1_leastWet g_770 (c_X1_leastWet h) dX9_round_88 rfl rfl (Nat.le_of_ble_eq_true rfl) ⟨by decide, by decide⟩ ⟨by decide, by decide⟩ ⟨rfl, rfl⟩ (fun x39 S37 h g38 => ?_)
    have h := h g38
    have o_a10 := gr_ob g38 o_a10
    have o_a13 := gr_ob g38 o_a13
    have o_a14 := gr_ob g38 o_a14
    have o_a17 := gr_ob g38 o_a17
    have o_a18 := gr_ob g38 o_a18
    have o_a24 := gr_ob g38 o_a24
    have o_a25 := gr_ob g38 o_a25
    have o_a26 := gr_ob g38 o_a26
    have o_a29 := gr_ob g38 o_a29
    have o_a30 := gr_ob g38 o_a30
    have o_a33 := gr_ob g38 o_a33
    have o_a34 := gr_ob g38 o_a34
    have o_a8 := gr_ob g38 o_a8
    have o_a9 := gr_ob g38 o_a9
    have o_v0 := gr_ob g38 o_v0
    refine r_lstore (pc := 91) C dX9_round_91 (by decide) (lv' := [(7, .long x39), (5, .long x23), (0, .ref v0), (1, .int v1), (2, .int v2), (3, .int v3), (4, .int v4)]) rfl ?_
    refine r_lload (pc := 93) C dX9_round_93 1 rfl ?_
    refine r_lload (pc := 95) C dX9_round_95 0 rfl ?_
    refine r_ladd (pc := 97) C dX9_round_97 ?_
    refine r_ldc2 (pc := 98) C (v := (2520 : Int64)) dX9_round_98 g_721 ?_
    refine r_iload (pc := 101) C dX9_round_101 6 rfl ?_
    refine r_callSl0 (pc := 103) C (rest := []) rfl [.long (x23 + x39), .long (2520 : Int64), .int v4] yS_X9_fraction g_722 (c_X9_fraction h) dX9_round_103 rfl rfl (Nat.le_of_ble_eq_true rfl) ⟨by decide, by decide⟩ ⟨by decide, by decide⟩ ⟨rfl, rfl⟩ (fun x42 S40 h g41 => ?_)
    have h := h g41
    have o_a10 := gr_ob g41 o_a10
    have o_a13 := gr_ob g41 o_a13
    have o_a14 := gr_ob g41 o_a14
    have o_a17 := gr_ob g41 o_a17
    have o_a18 := gr_ob g41 o_a18
    have o_a24 := gr_ob g41 o_a24
    have o_a25 := gr_ob g41 o_a25
    have o_a26 := gr_ob g41 o_a26
    have o_a29 := gr_ob g41 o_a29
    have o_a30 := gr_ob g41 o_a30
    have o_a33 := gr_ob g41 o_a33
    have o_a34 := gr_ob g41 o_a34
    have o_a8 := gr_ob g41 o_a8
    have o_a9 := gr_ob g41 o_a9
    have o_v0 := gr_ob g41 o_v0
    exact r_lret (pc := 106) C E ht dX9_round_106 (by decide) (by decide) h
  · have h := h.2 c7
    refine r_ldc2 (pc := 15) C (v := (-1 : Int64)) dX9_round_15 g_687 ?_
    exact r_lret (pc := 18) C E ht dX9_round_18 (by decide) (by decide) h
def P_X9_round (v0 : Nat) (v1 : Int32) (v2 : Int32) (v3 : Int32) (v4 : Int32) (Q : Int64 → HS → Prop) (S : HS) : Prop := P_X9_round_0 Q v0 v1 v2 v3 v4 S
theorem c_X9_round {l : Launch} {Ee : EE} {S : HS} {v0 : Nat} {v1 : Int32} {v2 : Int32} {v3 : Int32} {v4 : Int32} {Q : Int64 → HS → Prop} (h : P_X9_round v0 v1 v2 v3 v4 Q S) : MJ l yX9_round cX9_round 9 (some .long) rm_X9_round Ee S [.ref v0, .int v1, .int v2, .int v3, .int v4] Q :=
  openJ (by decide) (Nat.le_of_ble_eq_true rfl) (fun X C E ht hn hE hl => by subst hE; exact r_sub [0, 1, 2, 3, 4] rfl (T_X9_round_0 C E ht hn h))
def rm_X9_saves : Room := { frames := 6, cells := 0, slots := 0, locals := 155 }
def P_X9_saves_0 (Q : Int64 → HS → Prop) (v0 : Nat) (v1 : Int32) (v2 : Int32) (v3 : Int32) (v4 : Int32) (v5 : Int32) (S : HS) : Prop := ob S v0 9 ∧ (P_X9_tripTrouble v0 v1 v2 v3 v4 (fun x3 S1 => Gr S S1 → (P_X9_refusedBy v0 x3 (fun x6 S4 => Gr S1 S4 → bl x6 → (((x6 = 0) → (∃ a8 : Nat, fR S4 v0 2 = some a8 ∧ (ob S4 a8 8 ∧ (∃ a9 : Nat, fR S4 a8 9 = some a9 ∧ (ob S4 a9 19 ∧ (vp_in v1 (hN S4 a9) ∧ ∃ a11 : Nat, fR S4 a9 v1.toNatClampNeg = some a11 ∧ (∃ a12 : Nat, fR S4 v0 4 = some a12 ∧ (∃ a13 : Nat, fR S4 v0 2 = some a13 ∧ (ob S4 a13 8 ∧ (∃ a14 : Nat, fR S4 a13 8 = some a14 ∧ (ob S4 a14 18 ∧ (vp_in v2 (hN S4 a14) ∧ ∃ a16 : Nat, fR S4 a14 v2.toNatClampNeg = some a16 ∧ (∃ a17 : Nat, fR S4 v0 2 = some a17 ∧ (ob S4 a17 8 ∧ (∃ a18 : Nat, fR S4 a17 6 = some a18 ∧ (ob S4 a18 17 ∧ (vp_in v4 (hN S4 a18) ∧ ∃ a20 : Nat, fR S4 a18 v4.toNatClampNeg = some a20 ∧ (ob S4 a11 6 ∧ (∀ x21 : Int32, x21 = fI S4 a11 5 → (ob S4 a12 1 ∧ (P_X1_wetOf a12 a11 a16 v3 a20 x21 (fun x24 S22 => Gr S4 S22 → (∃ a25 : Nat, fR S22 v0 4 = some a25 ∧ (∃ a26 : Nat, fR S22 v0 2 = some a26 ∧ (ob S22 a26 8 ∧ (∃ a27 : Nat, fR S22 a26 8 = some a27 ∧ (ob S22 a27 18 ∧ (vp_in v2 (hN S22 a27) ∧ ∃ a29 : Nat, fR S22 a27 v2.toNatClampNeg = some a29 ∧ (∃ a30 : Nat, fR S22 v0 2 = some a30 ∧ (ob S22 a30 8 ∧ (∃ a31 : Nat, fR S22 a30 6 = some a31 ∧ (ob S22 a31 17 ∧ (vp_in v4 (hN S22 a31) ∧ ∃ a33 : Nat, fR S22 a31 v4.toNatClampNeg = some a33 ∧ (ob S22 a25 1 ∧ (P_X1_leastWet a25 a11 a29 v3 a33 (fun x36 S34 => Gr S22 S34 → (P_X9_fraction (x24 - x36) (2520 : Int64) v5 (fun x39 S37 => Gr S34 S37 → (Q x39 S37)) S34)) S22)))))))))))))) S4))))))))))))))))))))) ∧ ((¬ x6 = 0) → (Q (-1 : Int64) S4)))) S1)) S)
set_option maxRecDepth 20000 in
set_option maxHeartbeats 4000000 in
theorem T_X9_saves_0 {X : CX} {Q : Int64 → HS → Prop} (C : Cx X cX9_saves RX9 9 rm_X9_saves) (E : ReJ X rm_X9_saves Q) (ht : (xh X).sig.returnType = (some .long)) (hn : (xh X).name = yX9_saves.name) {v0 : Nat} {v1 : Int32} {v2 : Int32} {v3 : Int32} {v4 : Int32} {v5 : Int32} {S : HS} (h : P_X9_saves_0 Q v0 v1 v2 v3 v4 v5 S) : WS X 9 0 0 0 [(0, .ref v0), (1, .int v1), (2, .int v2), (3, .int v3), (4, .int v4), (5, .int v5)] [] S := by
  refine r_aload_n (pc := 0) C dX9_saves_0 0 rfl ?_
  refine r_aload_n (pc := 1) C dX9_saves_1 0 rfl ?_
  refine r_iload_n (pc := 2) C dX9_saves_2 1 rfl ?_
  refine r_iload_n (pc := 3) C dX9_saves_3 2 rfl ?_
  refine r_iload_n (pc := 4) C dX9_saves_4 3 rfl ?_
  refine r_iload (pc := 5) C dX9_saves_5 4 rfl ?_
  obtain ⟨o_v0, h⟩ := h
  refine r_callVi0 (pc := 7) C (rest := [.ref v0]) (a := v0) o_v0 [.int v1, .int v2, .int v3, .int v4] yV_X9_tripTrouble g_660 (c_X9_tripTrouble h) dX9_saves_7 rfl rfl (Nat.le_of_ble_eq_true rfl) ⟨by decide, by decide⟩ ⟨by decide, by decide⟩ ⟨rfl, rfl⟩ (fun x3 S1 h g2 => ?_)
  have h := h g2
  have o_v0 := gr_ob g2 o_v0
  refine r_callVi0 (pc := 10) C (rest := []) (a := v0) o_v0 [.int x3] yV_X9_refusedBy g_683 (c_X9_refusedBy h) dX9_saves_10 rfl rfl (Nat.le_of_ble_eq_true rfl) ⟨by decide, by decide⟩ ⟨by decide, by decide⟩ ⟨rfl, rfl⟩ (fun x6 S4 h g5 => ?_)
  have bx6 := h.1
  have h := h.2 g5 bx6
  have o_v0 := gr_ob g5 o_v0
  refine r_if_eq (pc := 13) C (tgt := 20) dX9_saves_13 (by decide) (fun c7 => ?_) (fun c7 => ?_)
  · have h := h.1 c7
    refine r_aload_n (pc := 20) C dX9_saves_20 0 rfl ?_
    obtain ⟨a8, ea8, h⟩ := h
    refine r_getr (pc := 21) C fL_X9_16 dX9_saves_21 o_v0 ea8 ?_
    obtain ⟨o_a8, h⟩ := h
    obtain ⟨a9, ea9, h⟩ := h
    refine r_getr (pc := 24) C fL_X9_108 dX9_saves_24 o_a8 ea9 ?_
    refine r_iload_n (pc := 27) C dX9_saves_27 1 rfl ?_
    obtain ⟨o_a9, h⟩ := h
    obtain ⟨i10, a11, ea11, h⟩ := h
    refine r_aald19 (pc := 28) C dX9_saves_28 o_a9 i10 ea11 ?_
    refine r_astore (pc := 29) C dX9_saves_29 (by decide) (lv' := [(6, .ref a11), (0, .ref v0), (1, .int v1), (2, .int v2), (3, .int v3), (4, .int v4), (5, .int v5)]) rfl ?_
    refine r_aload_n (pc := 31) C dX9_saves_31 1 rfl ?_
    obtain ⟨a12, ea12, h⟩ := h
    refine r_getr (pc := 32) C fL_X9_30 dX9_saves_32 o_v0 ea12 ?_
    refine r_aload (pc := 35) C dX9_saves_35 0 rfl ?_
    refine r_aload_n (pc := 37) C dX9_saves_37 1 rfl ?_
    obtain ⟨a13, ea13, h⟩ := h
    refine r_getr (pc := 38) C fL_X9_16 dX9_saves_38 o_v0 ea13 ?_
    obtain ⟨o_a13, h⟩ := h
    obtain ⟨a14, ea14, h⟩ := h
    refine r_getr (pc := 41) C fL_X9_112 dX9_saves_41 o_a13 ea14 ?_
    refine r_iload_n (pc := 44) C dX9_saves_44 3 rfl ?_
    obtain ⟨o_a14, h⟩ := h
    obtain ⟨i15, a16, ea16, h⟩ := h
    refine r_aald18 (pc := 45) C dX9_saves_45 o_a14 i15 ea16 ?_
    refine r_iload_n (pc := 46) C dX9_saves_46 4 rfl ?_
    refine r_aload_n (pc := 47) C dX9_saves_47 1 rfl ?_
    obtain ⟨a17, ea17, h⟩ := h
    refine r_getr (pc := 48) C fL_X9_16 dX9_saves_48 o_v0 ea17 ?_
    obtain ⟨o_a17, h⟩ := h
    obtain ⟨a18, ea18, h⟩ := h
    refine r_getr (pc := 51) C fL_X9_116 dX9_saves_51 o_a17 ea18 ?_
    refine r_iload (pc := 54) C dX9_saves_54 5 rfl ?_
    obtain ⟨o_a18, h⟩ := h
    obtain ⟨i19, a20, ea20, h⟩ := h
    refine r_aald17 (pc := 56) C dX9_saves_56 o_a18 i19 ea20 ?_
    refine r_aload (pc := 57) C dX9_saves_57 0 rfl ?_
    obtain ⟨o_a11, h⟩ := h
    refine r_geti (pc := 59) C fL_X9_186 dX9_saves_59 o_a11 ?_
    refine r_topi (fun x21 ex21 => ?_)
    have h := h x21 ex21
    obtain ⟨o_a12, h⟩ := h
    refine r_callVl0 (pc := 62) C (rest := []) (a := a12) o_a12 [.ref a11, .ref a16, .int v3, .ref a20, .int x21] yV_X1_wetOf g_688 (c_X1_wetOf h) dX9_saves_62 rfl rfl (Nat.le_of_ble_eq_true rfl) ⟨by decide, by decide⟩ ⟨by decide, by decide⟩ ⟨rfl, rfl⟩ (fun x24 S22 h g23 => ?_)
    have h := h g23
    have o_a11 := gr_ob g23 o_a11
    have o_a12 := gr_ob g23 o_a12
    have o_a13 := gr_ob g23 o_a13
    have o_a14 := gr_ob g23 o_a14
    have o_a17 := gr_ob g23 o_a17
    have o_a18 := gr_ob g23 o_a18
    have o_a8 := gr_ob g23 o_a8
    have o_a9 := gr_ob g23 o_a9
    have o_v0 := gr_ob g23 o_v0
    refine r_lstore (pc := 65) C dX9_saves_65 (by decide) (lv' := [(7, .long x24), (6, .ref a11), (0, .ref v0), (1, .int v1), (2, .int v2), (3, .int v3), (4, .int v4), (5, .int v5)]) rfl ?_
    refine r_lload (pc := 67) C dX9_saves_67 0 rfl ?_
    refine r_aload_n (pc := 69) C dX9_saves_69 2 rfl ?_
    obtain ⟨a25, ea25, h⟩ := h
    refine r_getr (pc := 70) C fL_X9_30 dX9_saves_70 o_v0 ea25 ?_
    refine r_aload (pc := 73) C dX9_saves_73 1 rfl ?_
    refine r_aload_n (pc := 75) C dX9_saves_75 2 rfl ?_
    obtain ⟨a26, ea26, h⟩ := h
    refine r_getr (pc := 76) C fL_X9_16 dX9_saves_76 o_v0 ea26 ?_
    obtain ⟨o_a26, h⟩ := h
    obtain ⟨a27, ea27, h⟩ := h
    refine r_getr (pc := 79) C fL_X9_112 dX9_saves_79 o_a26 ea27 ?_
    refine r_iload_n (pc := 82) C dX9_saves_82 4 rfl ?_
    obtain ⟨o_a27, h⟩ := h
    obtain ⟨i28, a29, ea29, h⟩ := h
    refine r_aald18 (pc := 83) C dX9_saves_83 o_a27 i28 ea29 ?_
    refine r_iload_n (pc := 84) C dX9_saves_84 5 rfl ?_
    refine r_aload_n (pc := 85) C dX9_saves_85 2 rfl ?_
    obtain ⟨a30, ea30, h⟩ := h
    refine r_getr (pc := 86) C fL_X9_16 dX9_saves_86 o_v0 ea30 ?_
    obtain ⟨o_a30, h⟩ := h
    obtain ⟨a31, ea31, h⟩ := h
    refine r_getr (pc := 89) C fL_X9_116 dX9_saves_89 o_a30 ea31 ?_
    refine r_iload (pc := 92) C dX9_saves_92 6 rfl ?_
    obtain ⟨o_a31, h⟩ := h
    obtain ⟨i32, a33, ea33, h⟩ := h
    refine r_aald17 (pc := 94) C dX9_saves_94 o_a31 i32 ea33 ?_
    obtain ⟨o_a25, h⟩ := h
    refine r_callVl0 (pc := 95) C (rest := [.long x24]) (a := a25) o_a25 [.ref a11, .ref a29, .int v3, .ref a33] yV_X1_leastWet g_770 (c_X1_leastWet h) dX9_saves_95 rfl rfl (Nat.le_of_ble_eq_true rfl) ⟨by decide, by decide⟩ ⟨by decide, by decide⟩ ⟨rfl, rfl⟩ (fun x36 S34 h g35 => ?_)
    have h := h g35
    have o_a11 := gr_ob g35 o_a11
    have o_a12 := gr_ob g35 o_a12
    have o_a13 := gr_ob g35 o_a13
    have o_a14 := gr_ob g35 o_a14
    have o_a17 := gr_ob g35 o_a17
    have o_a18 := gr_ob g35 o_a18
    have o_a25 := gr_ob g35 o_a25
    have o_a26 := gr_ob g35 o_a26
    have o_a27 := gr_ob g35 o_a27
    have o_a30 := gr_ob g35 o_a30
    have o_a31 := gr_ob g35 o_a31
    have o_a8 := gr_ob g35 o_a8
    have o_a9 := gr_ob g35 o_a9
    have o_v0 := gr_ob g35 o_v0
    refine r_lsub (pc := 98) C dX9_saves_98 ?_
    refine r_ldc2 (pc := 99) C (v := (2520 : Int64)) dX9_saves_99 g_721 ?_
    refine r_iload (pc := 102) C dX9_saves_102 7 rfl ?_
    refine r_callSl0 (pc := 104) C (rest := []) rfl [.long (x24 - x36), .long (2520 : Int64), .int v5] yS_X9_fraction g_722 (c_X9_fraction h) dX9_saves_104 rfl rfl (Nat.le_of_ble_eq_true rfl) ⟨by decide, by decide⟩ ⟨by decide, by decide⟩ ⟨rfl, rfl⟩ (fun x39 S37 h g38 => ?_)
    have h := h g38
    have o_a11 := gr_ob g38 o_a11
    have o_a12 := gr_ob g38 o_a12
    have o_a13 := gr_ob g38 o_a13
    have o_a14 := gr_ob g38 o_a14
    have o_a17 := gr_ob g38 o_a17
    have o_a18 := gr_ob g38 o_a18
    have o_a25 := gr_ob g38 o_a25
    have o_a26 := gr_ob g38 o_a26
    have o_a27 := gr_ob g38 o_a27
    have o_a30 := gr_ob g38 o_a30
    have o_a31 := gr_ob g38 o_a31
    have o_a8 := gr_ob g38 o_a8
    have o_a9 := gr_ob g38 o_a9
    have o_v0 := gr_ob g38 o_v0
    exact r_lret (pc := 107) C E ht dX9_saves_107 (by decide) (by decide) h
  · have h := h.2 c7
    refine r_ldc2 (pc := 16) C (v := (-1 : Int64)) dX9_saves_16 g_687 ?_
    exact r_lret (pc := 19) C E ht dX9_saves_19 (by decide) (by decide) h
def P_X9_saves (v0 : Nat) (v1 : Int32) (v2 : Int32) (v3 : Int32) (v4 : Int32) (v5 : Int32) (Q : Int64 → HS → Prop) (S : HS) : Prop := P_X9_saves_0 Q v0 v1 v2 v3 v4 v5 S
theorem c_X9_saves {l : Launch} {Ee : EE} {S : HS} {v0 : Nat} {v1 : Int32} {v2 : Int32} {v3 : Int32} {v4 : Int32} {v5 : Int32} {Q : Int64 → HS → Prop} (h : P_X9_saves v0 v1 v2 v3 v4 v5 Q S) : MJ l yX9_saves cX9_saves 9 (some .long) rm_X9_saves Ee S [.ref v0, .int v1, .int v2, .int v3, .int v4, .int v5] Q :=
  openJ (by decide) (Nat.le_of_ble_eq_true rfl) (fun X C E ht hn hE hl => by subst hE; exact r_sub [0, 1, 2, 3, 4, 5] rfl (T_X9_saves_0 C E ht hn h))
def rm_X9_size : Room := { frames := 1, cells := 0, slots := 0, locals := 20 }
def P_X9_size_0 (Q : Int32 → HS → Prop) (v0 : Nat) (v1 : Int32) (S : HS) : Prop := (v1.toInt < 0 ∨ 11 < v1.toInt → (Q (-1 : Int32) S)) ∧ (v1.toInt = 0 → (ob S v0 9 ∧ (∃ a2 : Nat, fR S v0 2 = some a2 ∧ (ob S a2 8 ∧ (∀ x3 : Int32, x3 = fI S a2 0 → (Q x3 S)))))) ∧ (v1.toInt = 1 → (ob S v0 9 ∧ (∃ a4 : Nat, fR S v0 2 = some a4 ∧ (ob S a4 8 ∧ (∀ x5 : Int32, x5 = fI S a4 1 → (Q x5 S)))))) ∧ (v1.toInt = 2 → (ob S v0 9 ∧ (∃ a6 : Nat, fR S v0 2 = some a6 ∧ (ob S a6 8 ∧ (∀ x7 : Int32, x7 = fI S a6 2 → (Q x7 S)))))) ∧ (v1.toInt = 3 → (ob S v0 9 ∧ (∃ a8 : Nat, fR S v0 2 = some a8 ∧ (ob S a8 8 ∧ (∀ x9 : Int32, x9 = fI S a8 3 → (Q x9 S)))))) ∧ (v1.toInt = 4 → (ob S v0 9 ∧ (∃ a10 : Nat, fR S v0 2 = some a10 ∧ (ob S a10 8 ∧ (∀ x11 : Int32, x11 = fI S a10 4 → (Q x11 S)))))) ∧ (v1.toInt = 5 → (ob S v0 9 ∧ (∃ a12 : Nat, fR S v0 2 = some a12 ∧ (ob S a12 8 ∧ (∀ x13 : Int32, x13 = fI S a12 5 → (Q x13 S)))))) ∧ (v1.toInt = 6 → (ob S v0 9 ∧ (∃ a14 : Nat, fR S v0 6 = some a14 ∧ (ob S a14 0 ∧ (P_X0_isOn a14 (fun x17 S15 => Gr S S15 → bl x17 → (((x17 = 0) → (Q (-2 : Int32) S15)) ∧ ((¬ x17 = 0) → (∃ a19 : Nat, fR S15 v0 6 = some a19 ∧ (ob S15 a19 0 ∧ (∀ x20 : Int32, x20 = fI S15 a19 0 → (Q x20 S15))))))) S))))) ∧ (v1.toInt = 7 → (ob S v0 9 ∧ (∃ a21 : Nat, fR S v0 6 = some a21 ∧ (ob S a21 0 ∧ (P_X0_isOn a21 (fun x24 S22 => Gr S S22 → bl x24 → (((x24 = 0) → (Q (-2 : Int32) S22)) ∧ ((¬ x24 = 0) → (∃ a26 : Nat, fR S22 v0 6 = some a26 ∧ (ob S22 a26 0 ∧ (∃ a27 : Nat, fR S22 a26 4 = some a27 ∧ (ob S22 a27 2 ∧ (∀ x28 : Int32, x28 = fI S22 a27 0 → (Q x28 S22))))))))) S))))) ∧ (v1.toInt = 8 → (ob S v0 9 ∧ (∃ a29 : Nat, fR S v0 6 = some a29 ∧ (ob S a29 0 ∧ (P_X0_isOn a29 (fun x32 S30 => Gr S S30 → bl x32 → (((x32 = 0) → (Q (0 : Int32) S30)) ∧ ((¬ x32 = 0) → (∃ a34 : Nat, fR S30 v0 6 = some a34 ∧ (ob S30 a34 0 ∧ (∃ a35 : Nat, fR S30 a34 4 = some a35 ∧ (ob S30 a35 2 ∧ (∀ x36 : Int32, x36 = fI S30 a35 1 → (Q x36 S30))))))))) S))))) ∧ (v1.toInt = 9 → (ob S v0 9 ∧ (∃ a37 : Nat, fR S v0 6 = some a37 ∧ (ob S a37 0 ∧ (∀ x38 : Int32, x38 = fI S a37 2 → (Q x38 S)))))) ∧ (v1.toInt = 10 → (ob S v0 9 ∧ (∃ a39 : Nat, fR S v0 6 = some a39 ∧ (ob S a39 0 ∧ (∀ x40 : Int32, x40 = fI S a39 3 → (Q x40 S)))))) ∧ (v1.toInt = 11 → (ob S v0 9 ∧ (∀ x41 : Int32, x41 = fI S v0 1 → (Q x41 S))))
set_option maxRecDepth 20000 in
set_option maxHeartbeats 4000000 in
theorem T_X9_size_0 {X : CX} {Q : Int32 → HS → Prop} (C : Cx X cX9_size RX9 2 rm_X9_size) (E : ReI X rm_X9_size Q) (ht : (xh X).sig.returnType = (some .int)) (hn : (xh X).name = yX9_size.name) {v0 : Nat} {v1 : Int32} {S : HS} (h : P_X9_size_0 Q v0 v1 S) : WS X 2 0 0 0 [(0, .ref v0), (1, .int v1)] [] S := by
  refine r_iload_n (pc := 0) C dX9_size_0 1 rfl ?_
  refine r_table (pc := 1) C (tgt := 207) dX9_size_1 (by decide) (fun c1 => ?_) (fun j hj hx => ?_)
  · have h := h.1 c1
    refine r_iconst (pc := 207) C (v := (-1 : Int32)) dX9_size_207 (by decide) ?_
    exact r_iret (pc := 208) C E ht dX9_size_208 (by decide) (by decide) h
  · match j, hj, hx with
    | 0, _, hx =>
      refine ⟨63, 64, rfl, by decide, ?_⟩
      have h := h.2.1 (by simpa using hx)
      refine r_aload_n (pc := 64) C dX9_size_64 0 rfl ?_
      obtain ⟨o_v0, h⟩ := h
      obtain ⟨a2, ea2, h⟩ := h
      refine r_getr (pc := 65) C fL_X9_16 dX9_size_65 o_v0 ea2 ?_
      obtain ⟨o_a2, h⟩ := h
      refine r_geti (pc := 68) C fL_X9_367 dX9_size_68 o_a2 ?_
      refine r_topi (fun x3 ex3 => ?_)
      have h := h x3 ex3
      exact r_iret (pc := 71) C E ht dX9_size_71 (by decide) (by decide) h
    | 1, _, hx =>
      refine ⟨71, 72, rfl, by decide, ?_⟩
      have h := h.2.2.1 (by simpa using hx)
      refine r_aload_n (pc := 72) C dX9_size_72 0 rfl ?_
      obtain ⟨o_v0, h⟩ := h
      obtain ⟨a4, ea4, h⟩ := h
      refine r_getr (pc := 73) C fL_X9_16 dX9_size_73 o_v0 ea4 ?_
      obtain ⟨o_a4, h⟩ := h
      refine r_geti (pc := 76) C fL_X9_196 dX9_size_76 o_a4 ?_
      refine r_topi (fun x5 ex5 => ?_)
      have h := h x5 ex5
      exact r_iret (pc := 79) C E ht dX9_size_79 (by decide) (by decide) h
    | 2, _, hx =>
      refine ⟨79, 80, rfl, by decide, ?_⟩
      have h := h.2.2.2.1 (by simpa using hx)
      refine r_aload_n (pc := 80) C dX9_size_80 0 rfl ?_
      obtain ⟨o_v0, h⟩ := h
      obtain ⟨a6, ea6, h⟩ := h
      refine r_getr (pc := 81) C fL_X9_16 dX9_size_81 o_v0 ea6 ?_
      obtain ⟨o_a6, h⟩ := h
      refine r_geti (pc := 84) C fL_X9_370 dX9_size_84 o_a6 ?_
      refine r_topi (fun x7 ex7 => ?_)
      have h := h x7 ex7
      exact r_iret (pc := 87) C E ht dX9_size_87 (by decide) (by decide) h
    | 3, _, hx =>
      refine ⟨87, 88, rfl, by decide, ?_⟩
      have h := h.2.2.2.2.1 (by simpa using hx)
      refine r_aload_n (pc := 88) C dX9_size_88 0 rfl ?_
      obtain ⟨o_v0, h⟩ := h
      obtain ⟨a8, ea8, h⟩ := h
      refine r_getr (pc := 89) C fL_X9_16 dX9_size_89 o_v0 ea8 ?_
      obtain ⟨o_a8, h⟩ := h
      refine r_geti (pc := 92) C fL_X9_358 dX9_size_92 o_a8 ?_
      refine r_topi (fun x9 ex9 => ?_)
      have h := h x9 ex9
      exact r_iret (pc := 95) C E ht dX9_size_95 (by decide) (by decide) h
    | 4, _, hx =>
      refine ⟨95, 96, rfl, by decide, ?_⟩
      have h := h.2.2.2.2.2.1 (by simpa using hx)
      refine r_aload_n (pc := 96) C dX9_size_96 0 rfl ?_
      obtain ⟨o_v0, h⟩ := h
      obtain ⟨a10, ea10, h⟩ := h
      refine r_getr (pc := 97) C fL_X9_16 dX9_size_97 o_v0 ea10 ?_
      obtain ⟨o_a10, h⟩ := h
      refine r_geti (pc := 100) C fL_X9_86 dX9_size_100 o_a10 ?_
      refine r_topi (fun x11 ex11 => ?_)
      have h := h x11 ex11
      exact r_iret (pc := 103) C E ht dX9_size_103 (by decide) (by decide) h
    | 5, _, hx =>
      refine ⟨103, 104, rfl, by decide, ?_⟩
      have h := h.2.2.2.2.2.2.1 (by simpa using hx)
      refine r_aload_n (pc := 104) C dX9_size_104 0 rfl ?_
      obtain ⟨o_v0, h⟩ := h
      obtain ⟨a12, ea12, h⟩ := h
      refine r_getr (pc := 105) C fL_X9_16 dX9_size_105 o_v0 ea12 ?_
      obtain ⟨o_a12, h⟩ := h
      refine r_geti (pc := 108) C fL_X9_264 dX9_size_108 o_a12 ?_
      refine r_topi (fun x13 ex13 => ?_)
      have h := h x13 ex13
      exact r_iret (pc := 111) C E ht dX9_size_111 (by decide) (by decide) h
    | 6, _, hx =>
      refine ⟨111, 112, rfl, by decide, ?_⟩
      have h := h.2.2.2.2.2.2.2.1 (by simpa using hx)
      refine r_aload_n (pc := 112) C dX9_size_112 0 rfl ?_
      obtain ⟨o_v0, h⟩ := h
      obtain ⟨a14, ea14, h⟩ := h
      refine r_getr (pc := 113) C fL_X9_44 dX9_size_113 o_v0 ea14 ?_
      obtain ⟨o_a14, h⟩ := h
      refine r_callVi0 (pc := 116) C (rest := []) (a := a14) o_a14 [] yV_X0_isOn g_981 (c_X0_isOn h) dX9_size_116 rfl rfl (Nat.le_of_ble_eq_true rfl) ⟨by decide, by decide⟩ ⟨by decide, by decide⟩ ⟨rfl, rfl⟩ (fun x17 S15 h g16 => ?_)
      have bx17 := h.1
      have h := h.2 g16 bx17
      have o_a14 := gr_ob g16 o_a14
      have o_v0 := gr_ob g16 o_v0
      refine r_if_eq (pc := 119) C (tgt := 132) dX9_size_119 (by decide) (fun c18 => ?_) (fun c18 => ?_)
      · have h := h.1 c18
        refine r_bipush (pc := 132) C (v := (-2 : Int32)) dX9_size_132 (by decide) ?_
        exact r_iret (pc := 134) C E ht dX9_size_134 (by decide) (by decide) h
      · have h := h.2 c18
        refine r_aload_n (pc := 122) C dX9_size_122 0 rfl ?_
        obtain ⟨a19, ea19, h⟩ := h
        refine r_getr (pc := 123) C fL_X9_44 dX9_size_123 o_v0 ea19 ?_
        obtain ⟨o_a19, h⟩ := h
        refine r_geti (pc := 126) C fL_X9_282 dX9_size_126 o_a19 ?_
        refine r_topi (fun x20 ex20 => ?_)
        have h := h x20 ex20
        refine r_goto (pc := 129) C (tgt := 134) dX9_size_129 (by decide) ?_
        exact r_iret (pc := 134) C E ht dX9_size_134 (by decide) (by decide) h
    | 7, _, hx =>
      refine ⟨134, 135, rfl, by decide, ?_⟩
      have h := h.2.2.2.2.2.2.2.2.1 (by simpa using hx)
      refine r_aload_n (pc := 135) C dX9_size_135 0 rfl ?_
      obtain ⟨o_v0, h⟩ := h
      obtain ⟨a21, ea21, h⟩ := h
      refine r_getr (pc := 136) C fL_X9_44 dX9_size_136 o_v0 ea21 ?_
      obtain ⟨o_a21, h⟩ := h
      refine r_callVi0 (pc := 139) C (rest := []) (a := a21) o_a21 [] yV_X0_isOn g_981 (c_X0_isOn h) dX9_size_139 rfl rfl (Nat.le_of_ble_eq_true rfl) ⟨by decide, by decide⟩ ⟨by decide, by decide⟩ ⟨rfl, rfl⟩ (fun x24 S22 h g23 => ?_)
      have bx24 := h.1
      have h := h.2 g23 bx24
      have o_a21 := gr_ob g23 o_a21
      have o_v0 := gr_ob g23 o_v0
      refine r_if_eq (pc := 142) C (tgt := 158) dX9_size_142 (by decide) (fun c25 => ?_) (fun c25 => ?_)
      · have h := h.1 c25
        refine r_bipush (pc := 158) C (v := (-2 : Int32)) dX9_size_158 (by decide) ?_
        exact r_iret (pc := 160) C E ht dX9_size_160 (by decide) (by decide) h
      · have h := h.2 c25
        refine r_aload_n (pc := 145) C dX9_size_145 0 rfl ?_
        obtain ⟨a26, ea26, h⟩ := h
        refine r_getr (pc := 146) C fL_X9_44 dX9_size_146 o_v0 ea26 ?_
        obtain ⟨o_a26, h⟩ := h
        obtain ⟨a27, ea27, h⟩ := h
        refine r_getr (pc := 149) C fL_X9_287 dX9_size_149 o_a26 ea27 ?_
        obtain ⟨o_a27, h⟩ := h
        refine r_geti (pc := 152) C fL_X9_291 dX9_size_152 o_a27 ?_
        refine r_topi (fun x28 ex28 => ?_)
        have h := h x28 ex28
        refine r_goto (pc := 155) C (tgt := 160) dX9_size_155 (by decide) ?_
        exact r_iret (pc := 160) C E ht dX9_size_160 (by decide) (by decide) h
    | 8, _, hx =>
      refine ⟨160, 161, rfl, by decide, ?_⟩
      have h := h.2.2.2.2.2.2.2.2.2.1 (by simpa using hx)
      refine r_aload_n (pc := 161) C dX9_size_161 0 rfl ?_
      obtain ⟨o_v0, h⟩ := h
      obtain ⟨a29, ea29, h⟩ := h
      refine r_getr (pc := 162) C fL_X9_44 dX9_size_162 o_v0 ea29 ?_
      obtain ⟨o_a29, h⟩ := h
      refine r_callVi0 (pc := 165) C (rest := []) (a := a29) o_a29 [] yV_X0_isOn g_981 (c_X0_isOn h) dX9_size_165 rfl rfl (Nat.le_of_ble_eq_true rfl) ⟨by decide, by decide⟩ ⟨by decide, by decide⟩ ⟨rfl, rfl⟩ (fun x32 S30 h g31 => ?_)
      have bx32 := h.1
      have h := h.2 g31 bx32
      have o_a29 := gr_ob g31 o_a29
      have o_v0 := gr_ob g31 o_v0
      refine r_if_eq (pc := 168) C (tgt := 184) dX9_size_168 (by decide) (fun c33 => ?_) (fun c33 => ?_)
      · have h := h.1 c33
        refine r_iconst (pc := 184) C (v := (0 : Int32)) dX9_size_184 (by decide) ?_
        exact r_iret (pc := 185) C E ht dX9_size_185 (by decide) (by decide) h
      · have h := h.2 c33
        refine r_aload_n (pc := 171) C dX9_size_171 0 rfl ?_
        obtain ⟨a34, ea34, h⟩ := h
        refine r_getr (pc := 172) C fL_X9_44 dX9_size_172 o_v0 ea34 ?_
        obtain ⟨o_a34, h⟩ := h
        obtain ⟨a35, ea35, h⟩ := h
        refine r_getr (pc := 175) C fL_X9_287 dX9_size_175 o_a34 ea35 ?_
        obtain ⟨o_a35, h⟩ := h
        refine r_geti (pc := 178) C fL_X9_296 dX9_size_178 o_a35 ?_
        refine r_topi (fun x36 ex36 => ?_)
        have h := h x36 ex36
        refine r_goto (pc := 181) C (tgt := 185) dX9_size_181 (by decide) ?_
        exact r_iret (pc := 185) C E ht dX9_size_185 (by decide) (by decide) h
    | 9, _, hx =>
      refine ⟨185, 186, rfl, by decide, ?_⟩
      have h := h.2.2.2.2.2.2.2.2.2.2.1 (by simpa using hx)
      refine r_aload_n (pc := 186) C dX9_size_186 0 rfl ?_
      obtain ⟨o_v0, h⟩ := h
      obtain ⟨a37, ea37, h⟩ := h
      refine r_getr (pc := 187) C fL_X9_44 dX9_size_187 o_v0 ea37 ?_
      obtain ⟨o_a37, h⟩ := h
      refine r_geti (pc := 190) C fL_X9_373 dX9_size_190 o_a37 ?_
      refine r_topi (fun x38 ex38 => ?_)
      have h := h x38 ex38
      exact r_iret (pc := 193) C E ht dX9_size_193 (by decide) (by decide) h
    | 10, _, hx =>
      refine ⟨193, 194, rfl, by decide, ?_⟩
      have h := h.2.2.2.2.2.2.2.2.2.2.2.1 (by simpa using hx)
      refine r_aload_n (pc := 194) C dX9_size_194 0 rfl ?_
      obtain ⟨o_v0, h⟩ := h
      obtain ⟨a39, ea39, h⟩ := h
      refine r_getr (pc := 195) C fL_X9_44 dX9_size_195 o_v0 ea39 ?_
      obtain ⟨o_a39, h⟩ := h
      refine r_geti (pc := 198) C fL_X9_376 dX9_size_198 o_a39 ?_
      refine r_topi (fun x40 ex40 => ?_)
      have h := h x40 ex40
      exact r_iret (pc := 201) C E ht dX9_size_201 (by decide) (by decide) h
    | 11, _, hx =>
      refine ⟨201, 202, rfl, by decide, ?_⟩
      have h := h.2.2.2.2.2.2.2.2.2.2.2.2 (by simpa using hx)
      refine r_aload_n (pc := 202) C dX9_size_202 0 rfl ?_
      obtain ⟨o_v0, h⟩ := h
      refine r_geti (pc := 203) C fL_X9_48 dX9_size_203 o_v0 ?_
      refine r_topi (fun x41 ex41 => ?_)
      have h := h x41 ex41
      exact r_iret (pc := 206) C E ht dX9_size_206 (by decide) (by decide) h
    | j + 12, hj, _ => exact absurd hj (by omega)
def P_X9_size (v0 : Nat) (v1 : Int32) (Q : Int32 → HS → Prop) (S : HS) : Prop := P_X9_size_0 Q v0 v1 S
theorem c_X9_size {l : Launch} {Ee : EE} {S : HS} {v0 : Nat} {v1 : Int32} {Q : Int32 → HS → Prop} (h : P_X9_size v0 v1 Q S) : MI l yX9_size cX9_size 2 (some .int) rm_X9_size Ee S [.ref v0, .int v1] Q :=
  openI (by decide) (Nat.le_of_ble_eq_true rfl) (fun X C E ht hn hE hl => by subst hE; exact r_sub [0, 1] rfl (T_X9_size_0 C E ht hn h))
def rm_X9_soaked : Room := { frames := 1, cells := 0, slots := 0, locals := 23 }
def P_X9_soaked_27 (Q : Int32 → HS → Prop) (v0 : Nat) (S : HS) : Prop := ob S v0 9 ∧ (P_X9_refuse v0 (1 : Int32) (fun x3 S1 => Gr S S1 → (Q x3 S1)) S)
set_option maxRecDepth 20000 in
set_option maxHeartbeats 4000000 in
theorem T_X9_soaked_27 {X : CX} {Q : Int32 → HS → Prop} (C : Cx X cX9_soaked RX9 2 rm_X9_soaked) (E : ReI X rm_X9_soaked Q) (ht : (xh X).sig.returnType = (some .int)) (hn : (xh X).name = yX9_soaked.name) {v0 : Nat} {S : HS} (h : P_X9_soaked_27 Q v0 S) : WS X 2 0 0 27 [(0, .ref v0)] [] S := by
  refine r_aload_n (pc := 27) C dX9_soaked_27 0 rfl ?_
  refine r_iconst (pc := 28) C (v := (1 : Int32)) dX9_soaked_28 (by decide) ?_
  obtain ⟨o_v0, h⟩ := h
  refine r_callVi0 (pc := 29) C (rest := []) (a := v0) o_v0 [.int (1 : Int32)] yV_X9_refuse g_430 (c_X9_refuse h) dX9_soaked_29 rfl rfl (Nat.le_of_ble_eq_true rfl) ⟨by decide, by decide⟩ ⟨by decide, by decide⟩ ⟨rfl, rfl⟩ (fun x3 S1 h g2 => ?_)
  have h := h g2
  have o_v0 := gr_ob g2 o_v0
  exact r_iret (pc := 32) C E ht dX9_soaked_32 (by decide) (by decide) h
def P_X9_soaked_88 (Q : Int32 → HS → Prop) (s0 : Nat) (s1 : Int32) (S : HS) : Prop := ob S s0 9 ∧ (P_X9_grant s0 s1 (fun x3 S1 => Gr S S1 → (Q x3 S1)) S)
set_option maxRecDepth 20000 in
set_option maxHeartbeats 4000000 in
theorem T_X9_soaked_88 {X : CX} {Q : Int32 → HS → Prop} (C : Cx X cX9_soaked RX9 2 rm_X9_soaked) (E : ReI X rm_X9_soaked Q) (ht : (xh X).sig.returnType = (some .int)) (hn : (xh X).name = yX9_soaked.name) {s0 : Nat} {s1 : Int32} {S : HS} (h : P_X9_soaked_88 Q s0 s1 S) : WS X 2 0 0 88 [] [.int s1, .ref s0] S := by
  obtain ⟨o_s0, h⟩ := h
  refine r_callVi0 (pc := 88) C (rest := []) (a := s0) o_s0 [.int s1] yV_X9_grant g_637 (c_X9_grant h) dX9_soaked_88 rfl rfl (Nat.le_of_ble_eq_true rfl) ⟨by decide, by decide⟩ ⟨by decide, by decide⟩ ⟨rfl, rfl⟩ (fun x3 S1 h g2 => ?_)
  have h := h g2
  have o_s0 := gr_ob g2 o_s0
  exact r_iret (pc := 91) C E ht dX9_soaked_91 (by decide) (by decide) h
def P_X9_soaked_0 (Q : Int32 → HS → Prop) (v0 : Nat) (S : HS) : Prop := ob S v0 9 ∧ (∃ a1 : Nat, fR S v0 6 = some a1 ∧ (ob S a1 0 ∧ (P_X0_isOn a1 (fun x4 S2 => Gr S S2 → bl x4 → (((x4 = 0) → (P_X9_soaked_27 Q v0 S2)) ∧ ((¬ x4 = 0) → (∃ a6 : Nat, fR S2 v0 2 = some a6 ∧ (∃ a7 : Nat, fR S2 v0 6 = some a7 ∧ (ob S2 a7 0 ∧ (∀ x8 : Int32, x8 = fI S2 a7 0 → (ob S2 a6 8 ∧ (P_X8_hasWalker a6 x8 (fun x11 S9 => Gr S2 S9 → bl x11 → (((¬ x11 = 0) → (∃ a13 : Nat, fR S9 v0 2 = some a13 ∧ (ob S9 a13 8 ∧ (∃ a14 : Nat, fR S9 a13 9 = some a14 ∧ (∃ a15 : Nat, fR S9 v0 6 = some a15 ∧ (ob S9 a15 0 ∧ (∀ x16 : Int32, x16 = fI S9 a15 0 → (ob S9 a14 19 ∧ (vp_in x16 (hN S9 a14) ∧ ∃ a18 : Nat, fR S9 a14 x16.toNatClampNeg = some a18 ∧ (ob S9 a18 6 ∧ (∀ x19 : Int32, x19 = fI S9 a18 0 → (((x19 = (2 : Int32)) → (∃ a21 : Nat, fR S9 v0 6 = some a21 ∧ (ob S9 a21 0 ∧ (∃ a22 : Nat, fR S9 a21 4 = some a22 ∧ (ob S9 a22 2 ∧ (P_X2_allGot a22 (fun x25 S23 => Gr S9 S23 → (P_X9_coatParts a18 (fun x28 S26 => Gr S23 S26 → ((((lg_cmp x25 x28) ≤ 0) → (P_X9_soaked_88 Q v0 (0 : Int32) S26)) ∧ ((¬ (lg_cmp x25 x28) ≤ 0) → (P_X9_soaked_88 Q v0 (1 : Int32) S26)))) S23)) S9)))))) ∧ ((¬ x19 = (2 : Int32)) → (P_X9_grant v0 (-2 : Int32) (fun x32 S30 => Gr S9 S30 → (Q x32 S30)) S9)))))))))))))) ∧ ((x11 = 0) → (P_X9_soaked_27 Q v0 S9)))) S2))))))))) S)))
set_option maxRecDepth 20000 in
set_option maxHeartbeats 4000000 in
theorem T_X9_soaked_0 {X : CX} {Q : Int32 → HS → Prop} (C : Cx X cX9_soaked RX9 2 rm_X9_soaked) (E : ReI X rm_X9_soaked Q) (ht : (xh X).sig.returnType = (some .int)) (hn : (xh X).name = yX9_soaked.name) {v0 : Nat} {S : HS} (h : P_X9_soaked_0 Q v0 S) : WS X 2 0 0 0 [(0, .ref v0)] [] S := by
  refine r_aload_n (pc := 0) C dX9_soaked_0 0 rfl ?_
  obtain ⟨o_v0, h⟩ := h
  obtain ⟨a1, ea1, h⟩ := h
  refine r_getr (pc := 1) C fL_X9_44 dX9_soaked_1 o_v0 ea1 ?_
  obtain ⟨o_a1, h⟩ := h
  refine r_callVi0 (pc := 4) C (rest := []) (a := a1) o_a1 [] yV_X0_isOn g_981 (c_X0_isOn h) dX9_soaked_4 rfl rfl (Nat.le_of_ble_eq_true rfl) ⟨by decide, by decide⟩ ⟨by decide, by decide⟩ ⟨rfl, rfl⟩ (fun x4 S2 h g3 => ?_)
  have bx4 := h.1
  have h := h.2 g3 bx4
  have o_a1 := gr_ob g3 o_a1
  have o_v0 := gr_ob g3 o_v0
  refine r_if_eq (pc := 7) C (tgt := 27) dX9_soaked_7 (by decide) (fun c5 => ?_) (fun c5 => ?_)
  · have h := h.1 c5
    exact r_sub [0] rfl (T_X9_soaked_27 C E ht hn h)
  · have h := h.2 c5
    refine r_aload_n (pc := 10) C dX9_soaked_10 0 rfl ?_
    obtain ⟨a6, ea6, h⟩ := h
    refine r_getr (pc := 11) C fL_X9_16 dX9_soaked_11 o_v0 ea6 ?_
    refine r_aload_n (pc := 14) C dX9_soaked_14 0 rfl ?_
    obtain ⟨a7, ea7, h⟩ := h
    refine r_getr (pc := 15) C fL_X9_44 dX9_soaked_15 o_v0 ea7 ?_
    obtain ⟨o_a7, h⟩ := h
    refine r_geti (pc := 18) C fL_X9_282 dX9_soaked_18 o_a7 ?_
    refine r_topi (fun x8 ex8 => ?_)
    have h := h x8 ex8
    obtain ⟨o_a6, h⟩ := h
    refine r_callVi0 (pc := 21) C (rest := []) (a := a6) o_a6 [.int x8] yV_X8_hasWalker g_664 (c_X8_hasWalker h) dX9_soaked_21 rfl rfl (Nat.le_of_ble_eq_true rfl) ⟨by decide, by decide⟩ ⟨by decide, by decide⟩ ⟨rfl, rfl⟩ (fun x11 S9 h g10 => ?_)
    have bx11 := h.1
    have h := h.2 g10 bx11
    have o_a1 := gr_ob g10 o_a1
    have o_a6 := gr_ob g10 o_a6
    have o_a7 := gr_ob g10 o_a7
    have o_v0 := gr_ob g10 o_v0
    refine r_if_ne (pc := 24) C (tgt := 33) dX9_soaked_24 (by decide) (fun c12 => ?_) (fun c12 => ?_)
    · have h := h.1 c12
      refine r_aload_n (pc := 33) C dX9_soaked_33 0 rfl ?_
      obtain ⟨a13, ea13, h⟩ := h
      refine r_getr (pc := 34) C fL_X9_16 dX9_soaked_34 o_v0 ea13 ?_
      obtain ⟨o_a13, h⟩ := h
      obtain ⟨a14, ea14, h⟩ := h
      refine r_getr (pc := 37) C fL_X9_108 dX9_soaked_37 o_a13 ea14 ?_
      refine r_aload_n (pc := 40) C dX9_soaked_40 0 rfl ?_
      obtain ⟨a15, ea15, h⟩ := h
      refine r_getr (pc := 41) C fL_X9_44 dX9_soaked_41 o_v0 ea15 ?_
      obtain ⟨o_a15, h⟩ := h
      refine r_geti (pc := 44) C fL_X9_282 dX9_soaked_44 o_a15 ?_
      refine r_topi (fun x16 ex16 => ?_)
      have h := h x16 ex16
      obtain ⟨o_a14, h⟩ := h
      obtain ⟨i17, a18, ea18, h⟩ := h
      refine r_aald19 (pc := 47) C dX9_soaked_47 o_a14 i17 ea18 ?_
      refine r_astore_n (pc := 48) C dX9_soaked_48 rfl (by decide) (lv' := [(1, .ref a18), (0, .ref v0)]) rfl ?_
      refine r_aload_n (pc := 49) C dX9_soaked_49 0 rfl ?_
      obtain ⟨o_a18, h⟩ := h
      refine r_geti (pc := 50) C fL_X9_167 dX9_soaked_50 o_a18 ?_
      refine r_topi (fun x19 ex19 => ?_)
      have h := h x19 ex19
      refine r_iconst (pc := 53) C (v := (2 : Int32)) dX9_soaked_53 (by decide) ?_
      refine r_icmp_eq (pc := 54) C (tgt := 64) dX9_soaked_54 (by decide) (fun c20 => ?_) (fun c20 => ?_)
      · have h := h.1 c20
        refine r_aload_n (pc := 64) C dX9_soaked_64 1 rfl ?_
        refine r_aload_n (pc := 65) C dX9_soaked_65 1 rfl ?_
        obtain ⟨a21, ea21, h⟩ := h
        refine r_getr (pc := 66) C fL_X9_44 dX9_soaked_66 o_v0 ea21 ?_
        obtain ⟨o_a21, h⟩ := h
        obtain ⟨a22, ea22, h⟩ := h
        refine r_getr (pc := 69) C fL_X9_287 dX9_soaked_69 o_a21 ea22 ?_
        obtain ⟨o_a22, h⟩ := h
        refine r_callVl0 (pc := 72) C (rest := [.ref v0]) (a := a22) o_a22 [] yV_X2_allGot g_1022 (c_X2_allGot h) dX9_soaked_72 rfl rfl (Nat.le_of_ble_eq_true rfl) ⟨by decide, by decide⟩ ⟨by decide, by decide⟩ ⟨rfl, rfl⟩ (fun x25 S23 h g24 => ?_)
        have h := h g24
        have o_a1 := gr_ob g24 o_a1
        have o_a13 := gr_ob g24 o_a13
        have o_a14 := gr_ob g24 o_a14
        have o_a15 := gr_ob g24 o_a15
        have o_a18 := gr_ob g24 o_a18
        have o_a21 := gr_ob g24 o_a21
        have o_a22 := gr_ob g24 o_a22
        have o_a6 := gr_ob g24 o_a6
        have o_a7 := gr_ob g24 o_a7
        have o_v0 := gr_ob g24 o_v0
        refine r_aload_n (pc := 75) C dX9_soaked_75 0 rfl ?_
        refine r_callSl0 (pc := 76) C (rest := [.long x25, .ref v0]) rfl [.ref a18] yS_X9_coatParts g_1026 (c_X9_coatParts h) dX9_soaked_76 rfl rfl (Nat.le_of_ble_eq_true rfl) ⟨by decide, by decide⟩ ⟨by decide, by decide⟩ ⟨rfl, rfl⟩ (fun x28 S26 h g27 => ?_)
        have h := h g27
        have o_a1 := gr_ob g27 o_a1
        have o_a13 := gr_ob g27 o_a13
        have o_a14 := gr_ob g27 o_a14
        have o_a15 := gr_ob g27 o_a15
        have o_a18 := gr_ob g27 o_a18
        have o_a21 := gr_ob g27 o_a21
        have o_a22 := gr_ob g27 o_a22
        have o_a6 := gr_ob g27 o_a6
        have o_a7 := gr_ob g27 o_a7
        have o_v0 := gr_ob g27 o_v0
        refine r_lcmp (pc := 79) C dX9_soaked_79 ?_
        refine r_if_le (pc := 80) C (tgt := 87) dX9_soaked_80 (by decide) (fun c29 => ?_) (fun c29 => ?_)
        · have h := h.1 c29
          refine r_iconst (pc := 87) C (v := (0 : Int32)) dX9_soaked_87 (by decide) ?_
          exact r_sub [] rfl (T_X9_soaked_88 C E ht hn h)
        · have h := h.2 c29
          refine r_iconst (pc := 83) C (v := (1 : Int32)) dX9_soaked_83 (by decide) ?_
          refine r_goto (pc := 84) C (tgt := 88) dX9_soaked_84 (by decide) ?_
          exact r_sub [] rfl (T_X9_soaked_88 C E ht hn h)
      · have h := h.2 c20
        refine r_aload_n (pc := 57) C dX9_soaked_57 1 rfl ?_
        refine r_bipush (pc := 58) C (v := (-2 : Int32)) dX9_soaked_58 (by decide) ?_
        refine r_callVi0 (pc := 60) C (rest := []) (a := v0) o_v0 [.int (-2 : Int32)] yV_X9_grant g_637 (c_X9_grant h) dX9_soaked_60 rfl rfl (Nat.le_of_ble_eq_true rfl) ⟨by decide, by decide⟩ ⟨by decide, by decide⟩ ⟨rfl, rfl⟩ (fun x32 S30 h g31 => ?_)
        have h := h g31
        have o_a1 := gr_ob g31 o_a1
        have o_a13 := gr_ob g31 o_a13
        have o_a14 := gr_ob g31 o_a14
        have o_a15 := gr_ob g31 o_a15
        have o_a18 := gr_ob g31 o_a18
        have o_a6 := gr_ob g31 o_a6
        have o_a7 := gr_ob g31 o_a7
        have o_v0 := gr_ob g31 o_v0
        exact r_iret (pc := 63) C E ht dX9_soaked_63 (by decide) (by decide) h
    · have h := h.2 c12
      exact r_sub [0] rfl (T_X9_soaked_27 C E ht hn h)
def P_X9_soaked (v0 : Nat) (Q : Int32 → HS → Prop) (S : HS) : Prop := P_X9_soaked_0 Q v0 S
theorem c_X9_soaked {l : Launch} {Ee : EE} {S : HS} {v0 : Nat} {Q : Int32 → HS → Prop} (h : P_X9_soaked v0 Q S) : MI l yX9_soaked cX9_soaked 2 (some .int) rm_X9_soaked Ee S [.ref v0] Q :=
  openI (by decide) (Nat.le_of_ble_eq_true rfl) (fun X C E ht hn hE hl => by subst hE; exact r_sub [0] rfl (T_X9_soaked_0 C E ht hn h))
def rm_X9_stayTrouble : Room := { frames := 2, cells := 0, slots := 0, locals := 42 }
def P_X9_stayTrouble_0 (Q : Int32 → HS → Prop) (v0 : Nat) (v1 : Int32) (S : HS) : Prop := ob S v0 9 ∧ (∃ a1 : Nat, fR S v0 6 = some a1 ∧ (ob S a1 0 ∧ (P_X0_isOn a1 (fun x4 S2 => Gr S S2 → bl x4 → (((x4 = 0) → (Q (1 : Int32) S2)) ∧ ((¬ x4 = 0) → (∃ a6 : Nat, fR S2 v0 2 = some a6 ∧ (∃ a7 : Nat, fR S2 v0 6 = some a7 ∧ (ob S2 a7 0 ∧ (∀ x8 : Int32, x8 = fI S2 a7 0 → (ob S2 a6 8 ∧ (P_X8_hasWalker a6 x8 (fun x11 S9 => Gr S2 S9 → bl x11 → (((¬ x11 = 0) → (((v1 < (1 : Int32)) → (Q (2 : Int32) S9)) ∧ ((¬ v1 < (1 : Int32)) → (((v1 ≤ (60 : Int32)) → (∃ a15 : Nat, fR S9 v0 2 = some a15 ∧ (∃ a16 : Nat, fR S9 v0 6 = some a16 ∧ (ob S9 a16 0 ∧ (∃ a17 : Nat, fR S9 a16 4 = some a17 ∧ (ob S9 a17 2 ∧ (∀ x18 : Int32, x18 = fI S9 a17 0 → (ob S9 a15 8 ∧ (P_X8_canWait a15 x18 (fun x21 S19 => Gr S9 S19 → bl x21 → (((¬ x21 = 0) → (∃ a23 : Nat, fR S19 v0 6 = some a23 ∧ (ob S19 a23 0 ∧ (∃ a24 : Nat, fR S19 a23 4 = some a24 ∧ (ob S19 a24 2 ∧ (∀ x25 : Int32, x25 = fI S19 a24 1 → ((((x25 + v1) ≤ (999 : Int32)) → (Q (0 : Int32) S19)) ∧ ((¬ (x25 + v1) ≤ (999 : Int32)) → (Q (3 : Int32) S19))))))))) ∧ ((x21 = 0) → (Q (5 : Int32) S19)))) S9))))))))) ∧ ((¬ v1 ≤ (60 : Int32)) → (Q (2 : Int32) S9)))))) ∧ ((x11 = 0) → (Q (1 : Int32) S9)))) S2))))))))) S)))
set_option maxRecDepth 20000 in
set_option maxHeartbeats 4000000 in
theorem T_X9_stayTrouble_0 {X : CX} {Q : Int32 → HS → Prop} (C : Cx X cX9_stayTrouble RX9 2 rm_X9_stayTrouble) (E : ReI X rm_X9_stayTrouble Q) (ht : (xh X).sig.returnType = (some .int)) (hn : (xh X).name = yX9_stayTrouble.name) {v0 : Nat} {v1 : Int32} {S : HS} (h : P_X9_stayTrouble_0 Q v0 v1 S) : WS X 2 0 0 0 [(0, .ref v0), (1, .int v1)] [] S := by
  refine r_aload_n (pc := 0) C dX9_stayTrouble_0 0 rfl ?_
  obtain ⟨o_v0, h⟩ := h
  obtain ⟨a1, ea1, h⟩ := h
  refine r_getr (pc := 1) C fL_X9_44 dX9_stayTrouble_1 o_v0 ea1 ?_
  obtain ⟨o_a1, h⟩ := h
  refine r_callVi0 (pc := 4) C (rest := []) (a := a1) o_a1 [] yV_X0_isOn g_981 (c_X0_isOn h) dX9_stayTrouble_4 rfl rfl (Nat.le_of_ble_eq_true rfl) ⟨by decide, by decide⟩ ⟨by decide, by decide⟩ ⟨rfl, rfl⟩ (fun x4 S2 h g3 => ?_)
  have bx4 := h.1
  have h := h.2 g3 bx4
  have o_a1 := gr_ob g3 o_a1
  have o_v0 := gr_ob g3 o_v0
  refine r_if_eq (pc := 7) C (tgt := 27) dX9_stayTrouble_7 (by decide) (fun c5 => ?_) (fun c5 => ?_)
  · have h := h.1 c5
    refine r_iconst (pc := 27) C (v := (1 : Int32)) dX9_stayTrouble_27 (by decide) ?_
    exact r_iret (pc := 28) C E ht dX9_stayTrouble_28 (by decide) (by decide) h
  · have h := h.2 c5
    refine r_aload_n (pc := 10) C dX9_stayTrouble_10 0 rfl ?_
    obtain ⟨a6, ea6, h⟩ := h
    refine r_getr (pc := 11) C fL_X9_16 dX9_stayTrouble_11 o_v0 ea6 ?_
    refine r_aload_n (pc := 14) C dX9_stayTrouble_14 0 rfl ?_
    obtain ⟨a7, ea7, h⟩ := h
    refine r_getr (pc := 15) C fL_X9_44 dX9_stayTrouble_15 o_v0 ea7 ?_
    obtain ⟨o_a7, h⟩ := h
    refine r_geti (pc := 18) C fL_X9_282 dX9_stayTrouble_18 o_a7 ?_
    refine r_topi (fun x8 ex8 => ?_)
    have h := h x8 ex8
    obtain ⟨o_a6, h⟩ := h
    refine r_callVi0 (pc := 21) C (rest := []) (a := a6) o_a6 [.int x8] yV_X8_hasWalker g_664 (c_X8_hasWalker h) dX9_stayTrouble_21 rfl rfl (Nat.le_of_ble_eq_true rfl) ⟨by decide, by decide⟩ ⟨by decide, by decide⟩ ⟨rfl, rfl⟩ (fun x11 S9 h g10 => ?_)
    have bx11 := h.1
    have h := h.2 g10 bx11
    have o_a1 := gr_ob g10 o_a1
    have o_a6 := gr_ob g10 o_a6
    have o_a7 := gr_ob g10 o_a7
    have o_v0 := gr_ob g10 o_v0
    refine r_if_ne (pc := 24) C (tgt := 29) dX9_stayTrouble_24 (by decide) (fun c12 => ?_) (fun c12 => ?_)
    · have h := h.1 c12
      refine r_iload_n (pc := 29) C dX9_stayTrouble_29 1 rfl ?_
      refine r_iconst (pc := 30) C (v := (1 : Int32)) dX9_stayTrouble_30 (by decide) ?_
      refine r_icmp_lt (pc := 31) C (tgt := 40) dX9_stayTrouble_31 (by decide) (fun c13 => ?_) (fun c13 => ?_)
      · have h := h.1 c13
        refine r_iconst (pc := 40) C (v := (2 : Int32)) dX9_stayTrouble_40 (by decide) ?_
        exact r_iret (pc := 41) C E ht dX9_stayTrouble_41 (by decide) (by decide) h
      · have h := h.2 c13
        refine r_iload_n (pc := 34) C dX9_stayTrouble_34 1 rfl ?_
        refine r_bipush (pc := 35) C (v := (60 : Int32)) dX9_stayTrouble_35 (by decide) ?_
        refine r_icmp_le (pc := 37) C (tgt := 42) dX9_stayTrouble_37 (by decide) (fun c14 => ?_) (fun c14 => ?_)
        · have h := h.1 c14
          refine r_aload_n (pc := 42) C dX9_stayTrouble_42 0 rfl ?_
          obtain ⟨a15, ea15, h⟩ := h
          refine r_getr (pc := 43) C fL_X9_16 dX9_stayTrouble_43 o_v0 ea15 ?_
          refine r_aload_n (pc := 46) C dX9_stayTrouble_46 0 rfl ?_
          obtain ⟨a16, ea16, h⟩ := h
          refine r_getr (pc := 47) C fL_X9_44 dX9_stayTrouble_47 o_v0 ea16 ?_
          obtain ⟨o_a16, h⟩ := h
          obtain ⟨a17, ea17, h⟩ := h
          refine r_getr (pc := 50) C fL_X9_287 dX9_stayTrouble_50 o_a16 ea17 ?_
          obtain ⟨o_a17, h⟩ := h
          refine r_geti (pc := 53) C fL_X9_291 dX9_stayTrouble_53 o_a17 ?_
          refine r_topi (fun x18 ex18 => ?_)
          have h := h x18 ex18
          obtain ⟨o_a15, h⟩ := h
          refine r_callVi0 (pc := 56) C (rest := []) (a := a15) o_a15 [.int x18] yV_X8_canWait g_1012 (c_X8_canWait h) dX9_stayTrouble_56 rfl rfl (Nat.le_of_ble_eq_true rfl) ⟨by decide, by decide⟩ ⟨by decide, by decide⟩ ⟨rfl, rfl⟩ (fun x21 S19 h g20 => ?_)
          have bx21 := h.1
          have h := h.2 g20 bx21
          have o_a1 := gr_ob g20 o_a1
          have o_a15 := gr_ob g20 o_a15
          have o_a16 := gr_ob g20 o_a16
          have o_a17 := gr_ob g20 o_a17
          have o_a6 := gr_ob g20 o_a6
          have o_a7 := gr_ob g20 o_a7
          have o_v0 := gr_ob g20 o_v0
          refine r_if_ne (pc := 59) C (tgt := 64) dX9_stayTrouble_59 (by decide) (fun c22 => ?_) (fun c22 => ?_)
          · have h := h.1 c22
            refine r_aload_n (pc := 64) C dX9_stayTrouble_64 0 rfl ?_
            obtain ⟨a23, ea23, h⟩ := h
            refine r_getr (pc := 65) C fL_X9_44 dX9_stayTrouble_65 o_v0 ea23 ?_
            obtain ⟨o_a23, h⟩ := h
            obtain ⟨a24, ea24, h⟩ := h
            refine r_getr (pc := 68) C fL_X9_287 dX9_stayTrouble_68 o_a23 ea24 ?_
            obtain ⟨o_a24, h⟩ := h
            refine r_geti (pc := 71) C fL_X9_296 dX9_stayTrouble_71 o_a24 ?_
            refine r_topi (fun x25 ex25 => ?_)
            have h := h x25 ex25
            refine r_iload_n (pc := 74) C dX9_stayTrouble_74 1 rfl ?_
            refine r_iadd (pc := 75) C dX9_stayTrouble_75 ?_
            refine r_sipush (pc := 76) C (v := (999 : Int32)) dX9_stayTrouble_76 (by decide) ?_
            refine r_icmp_le (pc := 79) C (tgt := 86) dX9_stayTrouble_79 (by decide) (fun c26 => ?_) (fun c26 => ?_)
            · have h := h.1 c26
              refine r_iconst (pc := 86) C (v := (0 : Int32)) dX9_stayTrouble_86 (by decide) ?_
              exact r_iret (pc := 87) C E ht dX9_stayTrouble_87 (by decide) (by decide) h
            · have h := h.2 c26
              refine r_iconst (pc := 82) C (v := (3 : Int32)) dX9_stayTrouble_82 (by decide) ?_
              refine r_goto (pc := 83) C (tgt := 87) dX9_stayTrouble_83 (by decide) ?_
              exact r_iret (pc := 87) C E ht dX9_stayTrouble_87 (by decide) (by decide) h
          · have h := h.2 c22
            refine r_iconst (pc := 62) C (v := (5 : Int32)) dX9_stayTrouble_62 (by decide) ?_
            exact r_iret (pc := 63) C E ht dX9_stayTrouble_63 (by decide) (by decide) h
        · have h := h.2 c14
          refine r_iconst (pc := 40) C (v := (2 : Int32)) dX9_stayTrouble_40 (by decide) ?_
          exact r_iret (pc := 41) C E ht dX9_stayTrouble_41 (by decide) (by decide) h
    · have h := h.2 c12
      refine r_iconst (pc := 27) C (v := (1 : Int32)) dX9_stayTrouble_27 (by decide) ?_
      exact r_iret (pc := 28) C E ht dX9_stayTrouble_28 (by decide) (by decide) h
def P_X9_stayTrouble (v0 : Nat) (v1 : Int32) (Q : Int32 → HS → Prop) (S : HS) : Prop := P_X9_stayTrouble_0 Q v0 v1 S
theorem c_X9_stayTrouble {l : Launch} {Ee : EE} {S : HS} {v0 : Nat} {v1 : Int32} {Q : Int32 → HS → Prop} (h : P_X9_stayTrouble v0 v1 Q S) : MI l yX9_stayTrouble cX9_stayTrouble 2 (some .int) rm_X9_stayTrouble Ee S [.ref v0, .int v1] Q :=
  openI (by decide) (Nat.le_of_ble_eq_true rfl) (fun X C E ht hn hE hl => by subst hE; exact r_sub [0, 1] rfl (T_X9_stayTrouble_0 C E ht hn h))
def rm_X9_stay : Room := { frames := 3, cells := 0, slots := 0, locals := 64 }
def P_X9_stay_111 (Q : Int32 → HS → Prop) (X58 : Nat → Int32 → Int64 → Int32 → HS → Prop) (v0 : Nat) (v1 : Int32) (v2 : Int64) (v4 : Int32) (S : HS) : Prop := ob S v0 9 ∧ (∃ a1 : Nat, fR S v0 6 = some a1 ∧ (ob S a1 0 ∧ (∃ a2 : Nat, fR S a1 4 = some a2 ∧ (ob S a2 2 ∧ (∀ x3 : Int32, x3 = fI S a2 1 → (∀ x4 : Int32, x4 = x3 + (1 : Int32) → (∀ S5 : HS, S5 = sI S a2 1 x4 → (∀ x6 : Int32, x6 = v4 + (1 : Int32) → (X58 v0 v1 v2 x6 S5)))))))))
set_option maxRecDepth 20000 in
set_option maxHeartbeats 4000000 in
theorem T_X9_stay_111 {X : CX} {Q : Int32 → HS → Prop} (C : Cx X cX9_stay RX9 5 rm_X9_stay) (E : ReI X rm_X9_stay (fun r S => bl r ∧ Q r S)) (ht : (xh X).sig.returnType = (some .boolean)) (hn : (xh X).name = yX9_stay.name) {X58 : Nat → Int32 → Int64 → Int32 → HS → Prop} (hX58 : ∀ (v0 : Nat) (v1 : Int32) (v2 : Int64) (v4 : Int32) (S : HS), X58 v0 v1 v2 v4 S → WS X 5 0 0 58 [(0, .ref v0), (1, .int v1), (2, .long v2), (4, .int v4)] [] S) {v0 : Nat} {v1 : Int32} {v2 : Int64} {v4 : Int32} {S : HS} (h : P_X9_stay_111 Q X58 v0 v1 v2 v4 S) : WS X 5 0 0 111 [(0, .ref v0), (1, .int v1), (2, .long v2), (4, .int v4)] [] S := by
  refine r_aload_n (pc := 111) C dX9_stay_111 0 rfl ?_
  obtain ⟨o_v0, h⟩ := h
  obtain ⟨a1, ea1, h⟩ := h
  refine r_getr (pc := 112) C fL_X9_44 dX9_stay_112 o_v0 ea1 ?_
  obtain ⟨o_a1, h⟩ := h
  obtain ⟨a2, ea2, h⟩ := h
  refine r_getr (pc := 115) C fL_X9_287 dX9_stay_115 o_a1 ea2 ?_
  refine r_dup (pc := 118) C dX9_stay_118 rfl ?_
  obtain ⟨o_a2, h⟩ := h
  refine r_geti (pc := 119) C fL_X9_296 dX9_stay_119 o_a2 ?_
  refine r_topi (fun x3 ex3 => ?_)
  have h := h x3 ex3
  refine r_iconst (pc := 122) C (v := (1 : Int32)) dX9_stay_122 (by decide) ?_
  refine r_iadd (pc := 123) C dX9_stay_123 ?_
  refine r_topi (fun x4 ex4 => ?_)
  have h := h x4 ex4
  refine r_puti (pc := 124) C pfL_X9_296 dX9_stay_124 o_a2 ?_
  refine r_heap (fun S5 eS5 => ?_)
  have h := h S5 eS5
  have o_a1 := ob_I eS5 o_a1
  have o_a2 := ob_I eS5 o_a2
  have o_v0 := ob_I eS5 o_v0
  obtain ⟨x6, ex6⟩ : ∃ z : Int32, z = v4 + (1 : Int32) := ⟨_, rfl⟩
  have h := h x6 ex6
  refine r_iinc (pc := 127) C (v := x6) (lv' := [(4, .int x6), (0, .ref v0), (1, .int v1), (2, .long v2)]) dX9_stay_127 3 rfl ex6.symm (by decide) rfl ?_
  refine r_goto (pc := 130) C (tgt := 58) dX9_stay_130 (by decide) ?_
  exact r_sub [1, 2, 3, 0] rfl (hX58 v0 v1 v2 x6 S5 h)
def B_X9_stay_58 (Q : Int32 → HS → Prop) (X58 : Nat → Int32 → Int64 → Int32 → HS → Prop) (v0 : Nat) (v1 : Int32) (v2 : Int64) (v4 : Int32) (S : HS) : Prop := ((v1 ≤ v4) → (Q (1 : Int32) S)) ∧ ((¬ v1 ≤ v4) → (ob S v0 9 ∧ (∃ a2 : Nat, fR S v0 6 = some a2 ∧ (∃ a3 : Nat, fR S v0 2 = some a3 ∧ (∃ a4 : Nat, fR S v0 6 = some a4 ∧ (ob S a4 0 ∧ (∃ a5 : Nat, fR S a4 4 = some a5 ∧ (ob S a5 2 ∧ (∀ x6 : Int32, x6 = fI S a5 1 → (ob S a3 8 ∧ (P_X8_hourOf a3 x6 (fun x9 S7 => Gr S S7 → (ob S7 a2 0 ∧ (P_X0_rainsIn a2 x9 (fun x12 S10 => Gr S7 S10 → bl x12 → (((x12 = 0) → (P_X9_stay_111 Q X58 v0 v1 v2 v4 S10)) ∧ ((¬ x12 = 0) → (∃ a14 : Nat, fR S10 v0 6 = some a14 ∧ (ob S10 a14 0 ∧ (∃ a15 : Nat, fR S10 a14 4 = some a15 ∧ (ob S10 a15 2 ∧ (∃ a16 : Nat, fR S10 a15 2 = some a16 ∧ (ob S10 a16 14 ∧ (vp_in (0 : Int32) (hN S10 a16) ∧ ∀ x18 : Int64, x18 = fJ S10 a16 (0 : Int32).toNatClampNeg → (∀ x20 : Int64, x20 = x18 + (v2 * (2520 : Int64)) → (vp_in (0 : Int32) (hN S10 a16) ∧ (∀ S21 : HS, S21 = sJ S10 a16 (0 : Int32).toNatClampNeg x20 → (P_X9_stay_111 Q X58 v0 v1 v2 v4 S21)))))))))))))) S7))) S)))))))))))
def P_X9_stay_58 (Q : Int32 → HS → Prop) (v0 : Nat) (v1 : Int32) (v2 : Int64) (v4 : Int32) (S : HS) : Prop := ∀ X58 : Nat → Int32 → Int64 → Int32 → HS → Prop, (∀ (v0 : Nat) (v1 : Int32) (v2 : Int64) (v4 : Int32) (S : HS), B_X9_stay_58 Q X58 v0 v1 v2 v4 S → X58 v0 v1 v2 v4 S) → X58 v0 v1 v2 v4 S
set_option maxRecDepth 20000 in
set_option maxHeartbeats 4000000 in
theorem TB_X9_stay_58 {X : CX} {Q : Int32 → HS → Prop} (C : Cx X cX9_stay RX9 5 rm_X9_stay) (E : ReI X rm_X9_stay (fun r S => bl r ∧ Q r S)) (ht : (xh X).sig.returnType = (some .boolean)) (hn : (xh X).name = yX9_stay.name) {X58 : Nat → Int32 → Int64 → Int32 → HS → Prop} (hX58 : ∀ (v0 : Nat) (v1 : Int32) (v2 : Int64) (v4 : Int32) (S : HS), X58 v0 v1 v2 v4 S → WS X 5 0 0 58 [(0, .ref v0), (1, .int v1), (2, .long v2), (4, .int v4)] [] S) {v0 : Nat} {v1 : Int32} {v2 : Int64} {v4 : Int32} {S : HS} (h : B_X9_stay_58 Q X58 v0 v1 v2 v4 S) : WS X 5 0 0 58 [(0, .ref v0), (1, .int v1), (2, .long v2), (4, .int v4)] [] S := by
  refine r_iload (pc := 58) C dX9_stay_58 3 rfl ?_
  refine r_iload_n (pc := 60) C dX9_stay_60 1 rfl ?_
  refine r_icmp_ge (pc := 61) C (tgt := 133) dX9_stay_61 (by decide) (fun c1 => ?_) (fun c1 => ?_)
  · have h := h.1 c1
    refine r_iconst (pc := 133) C (v := (1 : Int32)) dX9_stay_133 (by decide) ?_
    exact r_zret (pc := 134) C E ht dX9_stay_134 (by decide) (by decide) (Or.inr rfl) h
  · have h := h.2 c1
    refine r_aload_n (pc := 64) C dX9_stay_64 0 rfl ?_
    obtain ⟨o_v0, h⟩ := h
    obtain ⟨a2, ea2, h⟩ := h
    refine r_getr (pc := 65) C fL_X9_44 dX9_stay_65 o_v0 ea2 ?_
    refine r_aload_n (pc := 68) C dX9_stay_68 0 rfl ?_
    obtain ⟨a3, ea3, h⟩ := h
    refine r_getr (pc := 69) C fL_X9_16 dX9_stay_69 o_v0 ea3 ?_
    refine r_aload_n (pc := 72) C dX9_stay_72 0 rfl ?_
    obtain ⟨a4, ea4, h⟩ := h
    refine r_getr (pc := 73) C fL_X9_44 dX9_stay_73 o_v0 ea4 ?_
    obtain ⟨o_a4, h⟩ := h
    obtain ⟨a5, ea5, h⟩ := h
    refine r_getr (pc := 76) C fL_X9_287 dX9_stay_76 o_a4 ea5 ?_
    obtain ⟨o_a5, h⟩ := h
    refine r_geti (pc := 79) C fL_X9_296 dX9_stay_79 o_a5 ?_
    refine r_topi (fun x6 ex6 => ?_)
    have h := h x6 ex6
    obtain ⟨o_a3, h⟩ := h
    refine r_callVi0 (pc := 82) C (rest := [.ref a2]) (a := a3) o_a3 [.int x6] yV_X8_hourOf g_994 (c_X8_hourOf h) dX9_stay_82 rfl rfl (Nat.le_of_ble_eq_true rfl) ⟨by decide, by decide⟩ ⟨by decide, by decide⟩ ⟨rfl, rfl⟩ (fun x9 S7 h g8 => ?_)
    have h := h g8
    have o_a3 := gr_ob g8 o_a3
    have o_a4 := gr_ob g8 o_a4
    have o_a5 := gr_ob g8 o_a5
    have o_v0 := gr_ob g8 o_v0
    obtain ⟨o_a2, h⟩ := h
    refine r_callVi0 (pc := 85) C (rest := []) (a := a2) o_a2 [.int x9] yV_X0_rainsIn g_995 (c_X0_rainsIn h) dX9_stay_85 rfl rfl (Nat.le_of_ble_eq_true rfl) ⟨by decide, by decide⟩ ⟨by decide, by decide⟩ ⟨rfl, rfl⟩ (fun x12 S10 h g11 => ?_)
    have bx12 := h.1
    have h := h.2 g11 bx12
    have o_a2 := gr_ob g11 o_a2
    have o_a3 := gr_ob g11 o_a3
    have o_a4 := gr_ob g11 o_a4
    have o_a5 := gr_ob g11 o_a5
    have o_v0 := gr_ob g11 o_v0
    refine r_if_eq (pc := 88) C (tgt := 111) dX9_stay_88 (by decide) (fun c13 => ?_) (fun c13 => ?_)
    · have h := h.1 c13
      exact r_sub [0, 1, 2, 3] rfl (T_X9_stay_111 C E ht hn hX58 h)
    · have h := h.2 c13
      refine r_aload_n (pc := 91) C dX9_stay_91 0 rfl ?_
      obtain ⟨a14, ea14, h⟩ := h
      refine r_getr (pc := 92) C fL_X9_44 dX9_stay_92 o_v0 ea14 ?_
      obtain ⟨o_a14, h⟩ := h
      obtain ⟨a15, ea15, h⟩ := h
      refine r_getr (pc := 95) C fL_X9_287 dX9_stay_95 o_a14 ea15 ?_
      obtain ⟨o_a15, h⟩ := h
      obtain ⟨a16, ea16, h⟩ := h
      refine r_getr (pc := 98) C fL_X9_322 dX9_stay_98 o_a15 ea16 ?_
      refine r_iconst (pc := 101) C (v := (0 : Int32)) dX9_stay_101 (by decide) ?_
      refine r_dup2 (pc := 102) C dX9_stay_102 rfl rfl ?_
      obtain ⟨o_a16, h⟩ := h
      obtain ⟨i17, h⟩ := h
      refine r_lald (pc := 103) C dX9_stay_103 o_a16 i17 ?_
      refine r_topl (fun x18 ex18 => ?_)
      have h := h x18 ex18
      refine r_lload_n (pc := 104) C dX9_stay_104 2 rfl ?_
      refine r_ldc2 (pc := 105) C (v := (2520 : Int64)) dX9_stay_105 g_721 ?_
      refine r_lmul (pc := 108) C dX9_stay_108 ?_
      refine r_ladd (pc := 109) C dX9_stay_109 ?_
      refine r_topl (fun x20 ex20 => ?_)
      have h := h x20 ex20
      obtain ⟨i19, h⟩ := h
      refine r_last (pc := 110) C dX9_stay_110 o_a16 i19 ?_
      refine r_heap (fun S21 eS21 => ?_)
      have h := h S21 eS21
      have o_a14 := ob_J eS21 o_a14
      have o_a15 := ob_J eS21 o_a15
      have o_a16 := ob_J eS21 o_a16
      have o_a2 := ob_J eS21 o_a2
      have o_a3 := ob_J eS21 o_a3
      have o_a4 := ob_J eS21 o_a4
      have o_a5 := ob_J eS21 o_a5
      have o_v0 := ob_J eS21 o_v0
      exact r_sub [0, 1, 2, 3] rfl (T_X9_stay_111 C E ht hn hX58 h)
theorem T_X9_stay_58 {X : CX} {Q : Int32 → HS → Prop} (C : Cx X cX9_stay RX9 5 rm_X9_stay) (E : ReI X rm_X9_stay (fun r S => bl r ∧ Q r S)) (ht : (xh X).sig.returnType = (some .boolean)) (hn : (xh X).name = yX9_stay.name) {v0 : Nat} {v1 : Int32} {v2 : Int64} {v4 : Int32} {S : HS} (h : P_X9_stay_58 Q v0 v1 v2 v4 S) : WS X 5 0 0 58 [(0, .ref v0), (1, .int v1), (2, .long v2), (4, .int v4)] [] S :=
  h (fun v0 v1 v2 v4 S => WS X 5 0 0 58 [(0, .ref v0), (1, .int v1), (2, .long v2), (4, .int v4)] [] S) (fun v0 v1 v2 v4 S hh => TB_X9_stay_58 C E ht hn (fun v0 v1 v2 v4 S z => z) hh)
def P_X9_stay_0 (Q : Int32 → HS → Prop) (v0 : Nat) (v1 : Int32) (S : HS) : Prop := ob S v0 9 ∧ (P_X9_stayTrouble v0 v1 (fun x3 S1 => Gr S S1 → (P_X9_refusedBy v0 x3 (fun x6 S4 => Gr S1 S4 → bl x6 → (((x6 = 0) → (∃ a8 : Nat, fR S4 v0 6 = some a8 ∧ (ob S4 a8 0 ∧ (P_X0_keepForUndo a8 (fun S9 => Gr S4 S9 → (∃ a12 : Nat, fR S9 v0 2 = some a12 ∧ (∃ a13 : Nat, fR S9 v0 2 = some a13 ∧ (ob S9 a13 8 ∧ (∃ a14 : Nat, fR S9 a13 9 = some a14 ∧ (∃ a15 : Nat, fR S9 v0 6 = some a15 ∧ (ob S9 a15 0 ∧ (∀ x16 : Int32, x16 = fI S9 a15 0 → (ob S9 a14 19 ∧ (vp_in x16 (hN S9 a14) ∧ ∃ a18 : Nat, fR S9 a14 x16.toNatClampNeg = some a18 ∧ (∃ a19 : Nat, fR S9 v0 6 = some a19 ∧ (ob S9 a19 0 ∧ (∃ a20 : Nat, fR S9 a19 4 = some a20 ∧ (ob S9 a20 2 ∧ (∀ x21 : Int32, x21 = fI S9 a20 0 → (ob S9 a12 8 ∧ (P_X8_dripOn a12 a18 x21 (fun x24 S22 => Gr S9 S22 → (∀ x25 : Int64, x25 = x24.toInt64 → (P_X9_stay_58 Q v0 v1 x25 (0 : Int32) S22))) S9))))))))))))))))) S4)))) ∧ ((¬ x6 = 0) → (Q (0 : Int32) S4)))) S1)) S)
set_option maxRecDepth 20000 in
set_option maxHeartbeats 4000000 in
theorem T_X9_stay_0 {X : CX} {Q : Int32 → HS → Prop} (C : Cx X cX9_stay RX9 5 rm_X9_stay) (E : ReI X rm_X9_stay (fun r S => bl r ∧ Q r S)) (ht : (xh X).sig.returnType = (some .boolean)) (hn : (xh X).name = yX9_stay.name) {v0 : Nat} {v1 : Int32} {S : HS} (h : P_X9_stay_0 Q v0 v1 S) : WS X 5 0 0 0 [(0, .ref v0), (1, .int v1)] [] S := by
  refine r_aload_n (pc := 0) C dX9_stay_0 0 rfl ?_
  refine r_aload_n (pc := 1) C dX9_stay_1 0 rfl ?_
  refine r_iload_n (pc := 2) C dX9_stay_2 1 rfl ?_
  obtain ⟨o_v0, h⟩ := h
  refine r_callVi0 (pc := 3) C (rest := [.ref v0]) (a := v0) o_v0 [.int v1] yV_X9_stayTrouble g_1008 (c_X9_stayTrouble h) dX9_stay_3 rfl rfl (Nat.le_of_ble_eq_true rfl) ⟨by decide, by decide⟩ ⟨by decide, by decide⟩ ⟨rfl, rfl⟩ (fun x3 S1 h g2 => ?_)
  have h := h g2
  have o_v0 := gr_ob g2 o_v0
  refine r_callVi0 (pc := 6) C (rest := []) (a := v0) o_v0 [.int x3] yV_X9_refusedBy g_683 (c_X9_refusedBy h) dX9_stay_6 rfl rfl (Nat.le_of_ble_eq_true rfl) ⟨by decide, by decide⟩ ⟨by decide, by decide⟩ ⟨rfl, rfl⟩ (fun x6 S4 h g5 => ?_)
  have bx6 := h.1
  have h := h.2 g5 bx6
  have o_v0 := gr_ob g5 o_v0
  refine r_if_eq (pc := 9) C (tgt := 14) dX9_stay_9 (by decide) (fun c7 => ?_) (fun c7 => ?_)
  · have h := h.1 c7
    refine r_aload_n (pc := 14) C dX9_stay_14 0 rfl ?_
    obtain ⟨a8, ea8, h⟩ := h
    refine r_getr (pc := 15) C fL_X9_44 dX9_stay_15 o_v0 ea8 ?_
    obtain ⟨o_a8, h⟩ := h
    refine r_callVv0 (pc := 18) C (rest := []) (a := a8) o_a8 [] yV_X0_keepForUndo g_986 (c_X0_keepForUndo h) dX9_stay_18 rfl rfl (Nat.le_of_ble_eq_true rfl) ⟨by decide, by decide⟩ ⟨by decide, by decide⟩ ⟨rfl, rfl⟩ (fun S9 h g10 => ?_)
    have h := h g10
    have o_a8 := gr_ob g10 o_a8
    have o_v0 := gr_ob g10 o_v0
    refine r_aload_n (pc := 21) C dX9_stay_21 0 rfl ?_
    obtain ⟨a12, ea12, h⟩ := h
    refine r_getr (pc := 22) C fL_X9_16 dX9_stay_22 o_v0 ea12 ?_
    refine r_aload_n (pc := 25) C dX9_stay_25 0 rfl ?_
    obtain ⟨a13, ea13, h⟩ := h
    refine r_getr (pc := 26) C fL_X9_16 dX9_stay_26 o_v0 ea13 ?_
    obtain ⟨o_a13, h⟩ := h
    obtain ⟨a14, ea14, h⟩ := h
    refine r_getr (pc := 29) C fL_X9_108 dX9_stay_29 o_a13 ea14 ?_
    refine r_aload_n (pc := 32) C dX9_stay_32 0 rfl ?_
    obtain ⟨a15, ea15, h⟩ := h
    refine r_getr (pc := 33) C fL_X9_44 dX9_stay_33 o_v0 ea15 ?_
    obtain ⟨o_a15, h⟩ := h
    refine r_geti (pc := 36) C fL_X9_282 dX9_stay_36 o_a15 ?_
    refine r_topi (fun x16 ex16 => ?_)
    have h := h x16 ex16
    obtain ⟨o_a14, h⟩ := h
    obtain ⟨i17, a18, ea18, h⟩ := h
    refine r_aald19 (pc := 39) C dX9_stay_39 o_a14 i17 ea18 ?_
    refine r_aload_n (pc := 40) C dX9_stay_40 0 rfl ?_
    obtain ⟨a19, ea19, h⟩ := h
    refine r_getr (pc := 41) C fL_X9_44 dX9_stay_41 o_v0 ea19 ?_
    obtain ⟨o_a19, h⟩ := h
    obtain ⟨a20, ea20, h⟩ := h
    refine r_getr (pc := 44) C fL_X9_287 dX9_stay_44 o_a19 ea20 ?_
    obtain ⟨o_a20, h⟩ := h
    refine r_geti (pc := 47) C fL_X9_291 dX9_stay_47 o_a20 ?_
    refine r_topi (fun x21 ex21 => ?_)
    have h := h x21 ex21
    obtain ⟨o_a12, h⟩ := h
    refine r_callVi0 (pc := 50) C (rest := []) (a := a12) o_a12 [.ref a18, .int x21] yV_X8_dripOn g_1013 (c_X8_dripOn h) dX9_stay_50 rfl rfl (Nat.le_of_ble_eq_true rfl) ⟨by decide, by decide⟩ ⟨by decide, by decide⟩ ⟨rfl, rfl⟩ (fun x24 S22 h g23 => ?_)
    have h := h g23
    have o_a12 := gr_ob g23 o_a12
    have o_a13 := gr_ob g23 o_a13
    have o_a14 := gr_ob g23 o_a14
    have o_a15 := gr_ob g23 o_a15
    have o_a19 := gr_ob g23 o_a19
    have o_a20 := gr_ob g23 o_a20
    have o_a8 := gr_ob g23 o_a8
    have o_v0 := gr_ob g23 o_v0
    refine r_i2l (pc := 53) C dX9_stay_53 ?_
    refine r_topl (fun x25 ex25 => ?_)
    have h := h x25 ex25
    refine r_lstore_n (pc := 54) C dX9_stay_54 rfl (by decide) (lv' := [(2, .long x25), (0, .ref v0), (1, .int v1)]) rfl ?_
    refine r_iconst (pc := 55) C (v := (0 : Int32)) dX9_stay_55 (by decide) ?_
    refine r_istore (pc := 56) C dX9_stay_56 (by decide) (lv' := [(4, .int (0 : Int32)), (2, .long x25), (0, .ref v0), (1, .int v1)]) rfl ?_
    exact r_sub [2, 3, 1, 0] rfl (T_X9_stay_58 C E ht hn h)
  · have h := h.2 c7
    refine r_iconst (pc := 12) C (v := (0 : Int32)) dX9_stay_12 (by decide) ?_
    exact r_zret (pc := 13) C E ht dX9_stay_13 (by decide) (by decide) (Or.inl rfl) h
def P_X9_stay (v0 : Nat) (v1 : Int32) (Q : Int32 → HS → Prop) (S : HS) : Prop := P_X9_stay_0 Q v0 v1 S
theorem c_X9_stay {l : Launch} {Ee : EE} {S : HS} {v0 : Nat} {v1 : Int32} {Q : Int32 → HS → Prop} (h : P_X9_stay v0 v1 Q S) : MI l yX9_stay cX9_stay 5 (some .boolean) rm_X9_stay Ee S [.ref v0, .int v1] (fun r S => bl r ∧ Q r S) :=
  openI (by decide) (Nat.le_of_ble_eq_true rfl) (fun X C E ht hn hE hl => by subst hE; exact r_sub [0, 1] rfl (T_X9_stay_0 C E ht hn h))
def rm_X9_step : Room := { frames := 7, cells := 8, slots := 7937, locals := 186 }
def P_X9_step_61 (Q : Int32 → HS → Prop) (v0 : Nat) (S : HS) : Prop := ob S v0 9 ∧ (P_X9_refuse v0 (1 : Int32) (fun x3 S1 => Gr S S1 → (Q x3 S1)) S)
set_option maxRecDepth 20000 in
set_option maxHeartbeats 4000000 in
theorem T_X9_step_61 {X : CX} {Q : Int32 → HS → Prop} (C : Cx X cX9_step RX9 8 rm_X9_step) (E : ReI X rm_X9_step Q) (ht : (xh X).sig.returnType = (some .int)) (hn : (xh X).name = yX9_step.name) {v0 : Nat} {S : HS} (h : P_X9_step_61 Q v0 S) : WS X 8 8 7937 61 [(0, .ref v0)] [] S := by
  refine r_aload_n (pc := 61) C dX9_step_61 0 rfl ?_
  refine r_iconst (pc := 62) C (v := (1 : Int32)) dX9_step_62 (by decide) ?_
  obtain ⟨o_v0, h⟩ := h
  refine r_callVi0 (pc := 63) C (rest := []) (a := v0) o_v0 [.int (1 : Int32)] yV_X9_refuse g_430 (c_X9_refuse h) dX9_step_63 rfl rfl (Nat.le_of_ble_eq_true rfl) ⟨by decide, by decide⟩ ⟨by decide, by decide⟩ ⟨rfl, rfl⟩ (fun x3 S1 h g2 => ?_)
  have h := h g2
  have o_v0 := gr_ob g2 o_v0
  exact r_iret (pc := 66) C E ht dX9_step_66 (by decide) (by decide) h
def P_X9_step_0 (Q : Int32 → HS → Prop) (v0 : Nat) (v1 : Int32) (v2 : Int32) (v3 : Int32) (v4 : Int32) (v5 : Int32) (v6 : Int32) (S : HS) : Prop := ob S v0 9 ∧ (P_X9_wayTrouble v0 v1 v2 v3 v4 v5 (fun x3 S1 => Gr S S1 → (P_X9_refusedBy v0 x3 (fun x6 S4 => Gr S1 S4 → bl x6 → (((x6 = 0) → (∃ a8 : Nat, fR S4 v0 5 = some a8 ∧ (∃ a9 : Nat, fR S4 v0 2 = some a9 ∧ (ob S4 a8 7 ∧ (P_X7_trace a8 a9 v2 v4 (fun x12 S10 => Gr S4 S10 → (((v6 < 0) → (P_X9_step_61 Q v0 S10)) ∧ ((¬ v6 < 0) → (((x12 ≤ v6) → (P_X9_step_61 Q v0 S10)) ∧ ((¬ x12 ≤ v6) → (∃ a15 : Nat, fR S10 v0 5 = some a15 ∧ (ob S10 a15 7 ∧ (∃ a16 : Nat, fR S10 a15 0 = some a16 ∧ (ob S10 a16 13 ∧ (((v6 < (nI (hN S10 a16))) → (∃ a18 : Nat, fR S10 v0 5 = some a18 ∧ (ob S10 a18 7 ∧ (∃ a19 : Nat, fR S10 a18 0 = some a19 ∧ (ob S10 a19 13 ∧ (vp_in v6 (hN S10 a19) ∧ ∀ x21 : Int32, x21 = fI S10 a19 v6.toNatClampNeg → (Q x21 S10))))))) ∧ ((¬ v6 < (nI (hN S10 a16))) → (P_X9_step_61 Q v0 S10)))))))))))) S4))))) ∧ ((¬ x6 = 0) → (Q (-1 : Int32) S4)))) S1)) S)
set_option maxRecDepth 20000 in
set_option maxHeartbeats 4000000 in
theorem T_X9_step_0 {X : CX} {Q : Int32 → HS → Prop} (C : Cx X cX9_step RX9 8 rm_X9_step) (E : ReI X rm_X9_step Q) (ht : (xh X).sig.returnType = (some .int)) (hn : (xh X).name = yX9_step.name) {v0 : Nat} {v1 : Int32} {v2 : Int32} {v3 : Int32} {v4 : Int32} {v5 : Int32} {v6 : Int32} {S : HS} (h : P_X9_step_0 Q v0 v1 v2 v3 v4 v5 v6 S) : WS X 8 0 0 0 [(0, .ref v0), (1, .int v1), (2, .int v2), (3, .int v3), (4, .int v4), (5, .int v5), (6, .int v6)] [] S := by
  refine r_aload_n (pc := 0) C dX9_step_0 0 rfl ?_
  refine r_aload_n (pc := 1) C dX9_step_1 0 rfl ?_
  refine r_iload_n (pc := 2) C dX9_step_2 1 rfl ?_
  refine r_iload_n (pc := 3) C dX9_step_3 2 rfl ?_
  refine r_iload_n (pc := 4) C dX9_step_4 3 rfl ?_
  refine r_iload (pc := 5) C dX9_step_5 4 rfl ?_
  refine r_iload (pc := 7) C dX9_step_7 5 rfl ?_
  obtain ⟨o_v0, h⟩ := h
  refine r_callVi (pc := 9) C (rest := [.ref v0]) (a := v0) o_v0 [.int v1, .int v2, .int v3, .int v4, .int v5] yV_X9_wayTrouble g_817 (c_X9_wayTrouble h) dX9_step_9 rfl rfl (Nat.le_of_ble_eq_true rfl) ⟨by decide, by decide⟩ ⟨by decide, by decide⟩ (fun x3 S1 h g2 => ?_)
  have h := h g2
  have o_v0 := gr_ob g2 o_v0
  refine r_callVi0 (pc := 12) C (rest := []) (a := v0) o_v0 [.int x3] yV_X9_refusedBy g_683 (c_X9_refusedBy h) dX9_step_12 rfl rfl (Nat.le_of_ble_eq_true rfl) ⟨by decide, by decide⟩ ⟨by decide, by decide⟩ ⟨rfl, rfl⟩ (fun x6 S4 h g5 => ?_)
  have bx6 := h.1
  have h := h.2 g5 bx6
  have o_v0 := gr_ob g5 o_v0
  refine r_if_eq (pc := 15) C (tgt := 20) dX9_step_15 (by decide) (fun c7 => ?_) (fun c7 => ?_)
  · have h := h.1 c7
    refine r_aload_n (pc := 20) C dX9_step_20 0 rfl ?_
    obtain ⟨a8, ea8, h⟩ := h
    refine r_getr (pc := 21) C fL_X9_37 dX9_step_21 o_v0 ea8 ?_
    refine r_aload_n (pc := 24) C dX9_step_24 0 rfl ?_
    obtain ⟨a9, ea9, h⟩ := h
    refine r_getr (pc := 25) C fL_X9_16 dX9_step_25 o_v0 ea9 ?_
    refine r_iload_n (pc := 28) C dX9_step_28 2 rfl ?_
    refine r_iload (pc := 29) C dX9_step_29 4 rfl ?_
    obtain ⟨o_a8, h⟩ := h
    refine r_callVi0 (pc := 31) C (rest := []) (a := a8) o_a8 [.ref a9, .int v2, .int v4] yV_X7_trace g_912 (c_X7_trace h) dX9_step_31 rfl rfl (Nat.le_of_ble_eq_true rfl) ⟨by decide, by decide⟩ ⟨by decide, by decide⟩ ⟨rfl, rfl⟩ (fun x12 S10 h g11 => ?_)
    have h := h g11
    have o_a8 := gr_ob g11 o_a8
    have o_v0 := gr_ob g11 o_v0
    refine r_istore (pc := 34) C dX9_step_34 (by decide) (lv' := [(7, .int x12), (0, .ref v0), (1, .int v1), (2, .int v2), (3, .int v3), (4, .int v4), (5, .int v5), (6, .int v6)]) rfl ?_
    refine r_iload (pc := 36) C dX9_step_36 7 rfl ?_
    refine r_if_lt (pc := 38) C (tgt := 61) dX9_step_38 (by decide) (fun c13 => ?_) (fun c13 => ?_)
    · have h := h.1 c13
      exact r_sub [1] rfl (T_X9_step_61 C E ht hn h)
    · have h := h.2 c13
      refine r_iload (pc := 41) C dX9_step_41 7 rfl ?_
      refine r_iload (pc := 43) C dX9_step_43 0 rfl ?_
      refine r_icmp_ge (pc := 45) C (tgt := 61) dX9_step_45 (by decide) (fun c14 => ?_) (fun c14 => ?_)
      · have h := h.1 c14
        exact r_sub [1] rfl (T_X9_step_61 C E ht hn h)
      · have h := h.2 c14
        refine r_iload (pc := 48) C dX9_step_48 7 rfl ?_
        refine r_aload_n (pc := 50) C dX9_step_50 1 rfl ?_
        obtain ⟨a15, ea15, h⟩ := h
        refine r_getr (pc := 51) C fL_X9_37 dX9_step_51 o_v0 ea15 ?_
        obtain ⟨o_a15, h⟩ := h
        obtain ⟨a16, ea16, h⟩ := h
        refine r_getr (pc := 54) C fL_X9_228 dX9_step_54 o_a15 ea16 ?_
        obtain ⟨o_a16, h⟩ := h
        refine r_alen13 (pc := 57) C dX9_step_57 o_a16 ?_
        refine r_icmp_lt (pc := 58) C (tgt := 67) dX9_step_58 (by decide) (fun c17 => ?_) (fun c17 => ?_)
        · have h := h.1 c17
          refine r_aload_n (pc := 67) C dX9_step_67 1 rfl ?_
          obtain ⟨a18, ea18, h⟩ := h
          refine r_getr (pc := 68) C fL_X9_37 dX9_step_68 o_v0 ea18 ?_
          obtain ⟨o_a18, h⟩ := h
          obtain ⟨a19, ea19, h⟩ := h
          refine r_getr (pc := 71) C fL_X9_228 dX9_step_71 o_a18 ea19 ?_
          refine r_iload (pc := 74) C dX9_step_74 7 rfl ?_
          obtain ⟨o_a19, h⟩ := h
          obtain ⟨i20, h⟩ := h
          refine r_iald (pc := 76) C dX9_step_76 o_a19 i20 ?_
          refine r_topi (fun x21 ex21 => ?_)
          have h := h x21 ex21
          exact r_iret (pc := 77) C E ht dX9_step_77 (by decide) (by decide) h
        · have h := h.2 c17
          exact r_sub [1] rfl (T_X9_step_61 C E ht hn h)
  · have h := h.2 c7
    refine r_iconst (pc := 18) C (v := (-1 : Int32)) dX9_step_18 (by decide) ?_
    exact r_iret (pc := 19) C E ht dX9_step_19 (by decide) (by decide) h
def P_X9_step (v0 : Nat) (v1 : Int32) (v2 : Int32) (v3 : Int32) (v4 : Int32) (v5 : Int32) (v6 : Int32) (Q : Int32 → HS → Prop) (S : HS) : Prop := P_X9_step_0 Q v0 v1 v2 v3 v4 v5 v6 S
theorem c_X9_step {l : Launch} {Ee : EE} {S : HS} {v0 : Nat} {v1 : Int32} {v2 : Int32} {v3 : Int32} {v4 : Int32} {v5 : Int32} {v6 : Int32} {Q : Int32 → HS → Prop} (h : P_X9_step v0 v1 v2 v3 v4 v5 v6 Q S) : MI l yX9_step cX9_step 8 (some .int) rm_X9_step Ee S [.ref v0, .int v1, .int v2, .int v3, .int v4, .int v5, .int v6] Q :=
  openI (by decide) (Nat.le_of_ble_eq_true rfl) (fun X C E ht hn hE hl => by subst hE; exact r_sub [0, 1, 2, 3, 4, 5, 6] rfl (T_X9_step_0 C E ht hn h))
def rm_X9_steps : Room := { frames := 7, cells := 8, slots := 7937, locals := 186 }
def P_X9_steps_0 (Q : Int32 → HS → Prop) (v0 : Nat) (v1 : Int32) (v2 : Int32) (v3 : Int32) (v4 : Int32) (v5 : Int32) (S : HS) : Prop := ob S v0 9 ∧ (P_X9_wayTrouble v0 v1 v2 v3 v4 v5 (fun x3 S1 => Gr S S1 → (P_X9_refusedBy v0 x3 (fun x6 S4 => Gr S1 S4 → bl x6 → (((x6 = 0) → (∃ a8 : Nat, fR S4 v0 5 = some a8 ∧ (∃ a9 : Nat, fR S4 v0 2 = some a9 ∧ (ob S4 a8 7 ∧ (P_X7_trace a8 a9 v2 v4 (fun x12 S10 => Gr S4 S10 → (Q x12 S10)) S4))))) ∧ ((¬ x6 = 0) → (Q (-1 : Int32) S4)))) S1)) S)
set_option maxRecDepth 20000 in
set_option maxHeartbeats 4000000 in
theorem T_X9_steps_0 {X : CX} {Q : Int32 → HS → Prop} (C : Cx X cX9_steps RX9 6 rm_X9_steps) (E : ReI X rm_X9_steps Q) (ht : (xh X).sig.returnType = (some .int)) (hn : (xh X).name = yX9_steps.name) {v0 : Nat} {v1 : Int32} {v2 : Int32} {v3 : Int32} {v4 : Int32} {v5 : Int32} {S : HS} (h : P_X9_steps_0 Q v0 v1 v2 v3 v4 v5 S) : WS X 6 0 0 0 [(0, .ref v0), (1, .int v1), (2, .int v2), (3, .int v3), (4, .int v4), (5, .int v5)] [] S := by
  refine r_aload_n (pc := 0) C dX9_steps_0 0 rfl ?_
  refine r_aload_n (pc := 1) C dX9_steps_1 0 rfl ?_
  refine r_iload_n (pc := 2) C dX9_steps_2 1 rfl ?_
  refine r_iload_n (pc := 3) C dX9_steps_3 2 rfl ?_
  refine r_iload_n (pc := 4) C dX9_steps_4 3 rfl ?_
  refine r_iload (pc := 5) C dX9_steps_5 4 rfl ?_
  refine r_iload (pc := 7) C dX9_steps_7 5 rfl ?_
  obtain ⟨o_v0, h⟩ := h
  refine r_callVi (pc := 9) C (rest := [.ref v0]) (a := v0) o_v0 [.int v1, .int v2, .int v3, .int v4, .int v5] yV_X9_wayTrouble g_817 (c_X9_wayTrouble h) dX9_steps_9 rfl rfl (Nat.le_of_ble_eq_true rfl) ⟨by decide, by decide⟩ ⟨by decide, by decide⟩ (fun x3 S1 h g2 => ?_)
  have h := h g2
  have o_v0 := gr_ob g2 o_v0
  refine r_callVi0 (pc := 12) C (rest := []) (a := v0) o_v0 [.int x3] yV_X9_refusedBy g_683 (c_X9_refusedBy h) dX9_steps_12 rfl rfl (Nat.le_of_ble_eq_true rfl) ⟨by decide, by decide⟩ ⟨by decide, by decide⟩ ⟨rfl, rfl⟩ (fun x6 S4 h g5 => ?_)
  have bx6 := h.1
  have h := h.2 g5 bx6
  have o_v0 := gr_ob g5 o_v0
  refine r_if_eq (pc := 15) C (tgt := 20) dX9_steps_15 (by decide) (fun c7 => ?_) (fun c7 => ?_)
  · have h := h.1 c7
    refine r_aload_n (pc := 20) C dX9_steps_20 0 rfl ?_
    obtain ⟨a8, ea8, h⟩ := h
    refine r_getr (pc := 21) C fL_X9_37 dX9_steps_21 o_v0 ea8 ?_
    refine r_aload_n (pc := 24) C dX9_steps_24 0 rfl ?_
    obtain ⟨a9, ea9, h⟩ := h
    refine r_getr (pc := 25) C fL_X9_16 dX9_steps_25 o_v0 ea9 ?_
    refine r_iload_n (pc := 28) C dX9_steps_28 2 rfl ?_
    refine r_iload (pc := 29) C dX9_steps_29 4 rfl ?_
    obtain ⟨o_a8, h⟩ := h
    refine r_callVi0 (pc := 31) C (rest := []) (a := a8) o_a8 [.ref a9, .int v2, .int v4] yV_X7_trace g_912 (c_X7_trace h) dX9_steps_31 rfl rfl (Nat.le_of_ble_eq_true rfl) ⟨by decide, by decide⟩ ⟨by decide, by decide⟩ ⟨rfl, rfl⟩ (fun x12 S10 h g11 => ?_)
    have h := h g11
    have o_a8 := gr_ob g11 o_a8
    have o_v0 := gr_ob g11 o_v0
    exact r_iret (pc := 34) C E ht dX9_steps_34 (by decide) (by decide) h
  · have h := h.2 c7
    refine r_iconst (pc := 18) C (v := (-1 : Int32)) dX9_steps_18 (by decide) ?_
    exact r_iret (pc := 19) C E ht dX9_steps_19 (by decide) (by decide) h
def P_X9_steps (v0 : Nat) (v1 : Int32) (v2 : Int32) (v3 : Int32) (v4 : Int32) (v5 : Int32) (Q : Int32 → HS → Prop) (S : HS) : Prop := P_X9_steps_0 Q v0 v1 v2 v3 v4 v5 S
theorem c_X9_steps {l : Launch} {Ee : EE} {S : HS} {v0 : Nat} {v1 : Int32} {v2 : Int32} {v3 : Int32} {v4 : Int32} {v5 : Int32} {Q : Int32 → HS → Prop} (h : P_X9_steps v0 v1 v2 v3 v4 v5 Q S) : MI l yX9_steps cX9_steps 6 (some .int) rm_X9_steps Ee S [.ref v0, .int v1, .int v2, .int v3, .int v4, .int v5] Q :=
  openI (by decide) (Nat.le_of_ble_eq_true rfl) (fun X C E ht hn hE hl => by subst hE; exact r_sub [0, 1, 2, 3, 4, 5] rfl (T_X9_steps_0 C E ht hn h))
def rm_X9_there : Room := { frames := 7, cells := 8, slots := 7937, locals := 186 }
def P_X9_there_0 (Q : Int32 → HS → Prop) (v0 : Nat) (v1 : Int32) (v2 : Int32) (v3 : Int32) (v4 : Int32) (v5 : Int32) (S : HS) : Prop := ob S v0 9 ∧ (P_X9_wayTrouble v0 v1 v2 v3 v4 v5 (fun x3 S1 => Gr S S1 → (P_X9_refusedBy v0 x3 (fun x6 S4 => Gr S1 S4 → bl x6 → (((x6 = 0) → (∃ a8 : Nat, fR S4 v0 5 = some a8 ∧ (ob S4 a8 7 ∧ (P_X7_endFrom a8 v2 v4 (fun x11 S9 => Gr S4 S9 → (Q x11 S9)) S4)))) ∧ ((¬ x6 = 0) → (Q (-1 : Int32) S4)))) S1)) S)
set_option maxRecDepth 20000 in
set_option maxHeartbeats 4000000 in
theorem T_X9_there_0 {X : CX} {Q : Int32 → HS → Prop} (C : Cx X cX9_there RX9 6 rm_X9_there) (E : ReI X rm_X9_there Q) (ht : (xh X).sig.returnType = (some .int)) (hn : (xh X).name = yX9_there.name) {v0 : Nat} {v1 : Int32} {v2 : Int32} {v3 : Int32} {v4 : Int32} {v5 : Int32} {S : HS} (h : P_X9_there_0 Q v0 v1 v2 v3 v4 v5 S) : WS X 6 0 0 0 [(0, .ref v0), (1, .int v1), (2, .int v2), (3, .int v3), (4, .int v4), (5, .int v5)] [] S := by
  refine r_aload_n (pc := 0) C dX9_there_0 0 rfl ?_
  refine r_aload_n (pc := 1) C dX9_there_1 0 rfl ?_
  refine r_iload_n (pc := 2) C dX9_there_2 1 rfl ?_
  refine r_iload_n (pc := 3) C dX9_there_3 2 rfl ?_
  refine r_iload_n (pc := 4) C dX9_there_4 3 rfl ?_
  refine r_iload (pc := 5) C dX9_there_5 4 rfl ?_
  refine r_iload (pc := 7) C dX9_there_7 5 rfl ?_
  obtain ⟨o_v0, h⟩ := h
  refine r_callVi (pc := 9) C (rest := [.ref v0]) (a := v0) o_v0 [.int v1, .int v2, .int v3, .int v4, .int v5] yV_X9_wayTrouble g_817 (c_X9_wayTrouble h) dX9_there_9 rfl rfl (Nat.le_of_ble_eq_true rfl) ⟨by decide, by decide⟩ ⟨by decide, by decide⟩ (fun x3 S1 h g2 => ?_)
  have h := h g2
  have o_v0 := gr_ob g2 o_v0
  refine r_callVi0 (pc := 12) C (rest := []) (a := v0) o_v0 [.int x3] yV_X9_refusedBy g_683 (c_X9_refusedBy h) dX9_there_12 rfl rfl (Nat.le_of_ble_eq_true rfl) ⟨by decide, by decide⟩ ⟨by decide, by decide⟩ ⟨rfl, rfl⟩ (fun x6 S4 h g5 => ?_)
  have bx6 := h.1
  have h := h.2 g5 bx6
  have o_v0 := gr_ob g5 o_v0
  refine r_if_eq (pc := 15) C (tgt := 20) dX9_there_15 (by decide) (fun c7 => ?_) (fun c7 => ?_)
  · have h := h.1 c7
    refine r_aload_n (pc := 20) C dX9_there_20 0 rfl ?_
    obtain ⟨a8, ea8, h⟩ := h
    refine r_getr (pc := 21) C fL_X9_37 dX9_there_21 o_v0 ea8 ?_
    refine r_iload_n (pc := 24) C dX9_there_24 2 rfl ?_
    refine r_iload (pc := 25) C dX9_there_25 4 rfl ?_
    obtain ⟨o_a8, h⟩ := h
    refine r_callVi0 (pc := 27) C (rest := []) (a := a8) o_a8 [.int v2, .int v4] yV_X7_endFrom g_904 (c_X7_endFrom h) dX9_there_27 rfl rfl (Nat.le_of_ble_eq_true rfl) ⟨by decide, by decide⟩ ⟨by decide, by decide⟩ ⟨rfl, rfl⟩ (fun x11 S9 h g10 => ?_)
    have h := h g10
    have o_a8 := gr_ob g10 o_a8
    have o_v0 := gr_ob g10 o_v0
    exact r_iret (pc := 30) C E ht dX9_there_30 (by decide) (by decide) h
  · have h := h.2 c7
    refine r_iconst (pc := 18) C (v := (-1 : Int32)) dX9_there_18 (by decide) ?_
    exact r_iret (pc := 19) C E ht dX9_there_19 (by decide) (by decide) h
def P_X9_there (v0 : Nat) (v1 : Int32) (v2 : Int32) (v3 : Int32) (v4 : Int32) (v5 : Int32) (Q : Int32 → HS → Prop) (S : HS) : Prop := P_X9_there_0 Q v0 v1 v2 v3 v4 v5 S
theorem c_X9_there {l : Launch} {Ee : EE} {S : HS} {v0 : Nat} {v1 : Int32} {v2 : Int32} {v3 : Int32} {v4 : Int32} {v5 : Int32} {Q : Int32 → HS → Prop} (h : P_X9_there v0 v1 v2 v3 v4 v5 Q S) : MI l yX9_there cX9_there 6 (some .int) rm_X9_there Ee S [.ref v0, .int v1, .int v2, .int v3, .int v4, .int v5] Q :=
  openI (by decide) (Nat.le_of_ble_eq_true rfl) (fun X C E ht hn hE hl => by subst hE; exact r_sub [0, 1, 2, 3, 4, 5] rfl (T_X9_there_0 C E ht hn h))
