def rm_X7_isOpen : Room := { frames := 1, cells := 0, slots := 0, locals := 23 }
def P_X7_isOpen_0 (Q : Int32 → HS → Prop) (v0 : Nat) (v1 : Int32) (v2 : Int32) (S : HS) : Prop := ob S v0 7 ∧ (P_X7_keyOf v0 v1 v2 (fun x3 S1 => Gr S S1 → ((((lg_cmp x3 (4611686018427387904 : Int64)) = 0) → (Q (0 : Int32) S1)) ∧ ((¬ (lg_cmp x3 (4611686018427387904 : Int64)) = 0) → (Q (1 : Int32) S1)))) S)
set_option maxRecDepth 20000 in
set_option maxHeartbeats 4000000 in
theorem T_X7_isOpen_0 {X : CX} {Q : Int32 → HS → Prop} (C : Cx X cX7_isOpen RX7 3 rm_X7_isOpen) (E : ReI X rm_X7_isOpen (fun r S => bl r ∧ Q r S)) (ht : (xh X).sig.returnType = (some .boolean)) (hn : (xh X).name = yX7_isOpen.name) {v0 : Nat} {v1 : Int32} {v2 : Int32} {S : HS} (h : P_X7_isOpen_0 Q v0 v1 v2 S) : WS X 3 0 0 0 [(0, .ref v0), (1, .int v1), (2, .int v2)] [] S := by
  refine r_aload_n (pc := 0) C dX7_isOpen_0 0 rfl ?_
  refine r_iload_n (pc := 1) C dX7_isOpen_1 1 rfl ?_
  refine r_iload_n (pc := 2) C dX7_isOpen_2 2 rfl ?_
  obtain ⟨o_v0, h⟩ := h
  refine r_callVl0 (pc := 3) C (rest := []) (a := v0) o_v0 [.int v1, .int v2] yV_X7_keyOf g_892 (c_X7_keyOf h) dX7_isOpen_3 rfl rfl (Nat.le_of_ble_eq_true rfl) ⟨by decide, by decide⟩ ⟨by decide, by decide⟩ ⟨rfl, rfl⟩ (fun x3 S1 h g2 => ?_)
  have h := h g2
  have o_v0 := gr_ob g2 o_v0
  refine r_ldc2 (pc := 6) C (v := (4611686018427387904 : Int64)) dX7_isOpen_6 g_887 ?_
  refine r_lcmp (pc := 9) C dX7_isOpen_9 ?_
  refine r_if_eq (pc := 10) C (tgt := 17) dX7_isOpen_10 (by decide) (fun c4 => ?_) (fun c4 => ?_)
  · have h := h.1 c4
    refine r_iconst (pc := 17) C (v := (0 : Int32)) dX7_isOpen_17 (by decide) ?_
    exact r_zret (pc := 18) C E ht dX7_isOpen_18 (by decide) (by decide) (Or.inl rfl) h
  · have h := h.2 c4
    refine r_iconst (pc := 13) C (v := (1 : Int32)) dX7_isOpen_13 (by decide) ?_
    refine r_goto (pc := 14) C (tgt := 18) dX7_isOpen_14 (by decide) ?_
    exact r_zret (pc := 18) C E ht dX7_isOpen_18 (by decide) (by decide) (Or.inr rfl) h
def P_X7_isOpen (v0 : Nat) (v1 : Int32) (v2 : Int32) (Q : Int32 → HS → Prop) (S : HS) : Prop := P_X7_isOpen_0 Q v0 v1 v2 S
theorem c_X7_isOpen {l : Launch} {Ee : EE} {S : HS} {v0 : Nat} {v1 : Int32} {v2 : Int32} {Q : Int32 → HS → Prop} (h : P_X7_isOpen v0 v1 v2 Q S) : MI l yX7_isOpen cX7_isOpen 3 (some .boolean) rm_X7_isOpen Ee S [.ref v0, .int v1, .int v2] (fun r S => bl r ∧ Q r S) :=
  openI (by decide) (Nat.le_of_ble_eq_true rfl) (fun X C E ht hn hE hl => by subst hE; exact r_sub [0, 1, 2] rfl (T_X7_isOpen_0 C E ht hn h))
def rm_X7_makeRows : Room := { frames := 0, cells := 8, slots := 7937, locals := 0 }
def P_X7_makeRows_0 (Q : HS → Prop) (v0 : Nat) (S : HS) : Prop := ∀ a1 : Nat, a1 ∉ hL S → ∀ S2 : HS, S2 = nW S a1 13 401 → (ob S2 v0 7 ∧ (∀ S3 : HS, S3 = sR S2 v0 0 (some a1) → (∀ a4 : Nat, a4 ∉ hL S3 → ∀ S5 : HS, S5 = nW S3 a4 14 3208 → (∀ S6 : HS, S6 = sR S5 v0 1 (some a4) → (∀ a7 : Nat, a7 ∉ hL S6 → ∀ S8 : HS, S8 = nW S6 a7 13 3208 → (∀ S9 : HS, S9 = sR S8 v0 2 (some a7) → (∀ a10 : Nat, a10 ∉ hL S9 → ∀ S11 : HS, S11 = nW S9 a10 13 224 → (∀ S12 : HS, S12 = sR S11 v0 4 (some a10) → (∀ a13 : Nat, a13 ∉ hL S12 → ∀ S14 : HS, S14 = nW S12 a13 13 224 → (∀ S15 : HS, S15 = sR S14 v0 5 (some a13) → (∀ a16 : Nat, a16 ∉ hL S15 → ∀ S17 : HS, S17 = nW S15 a16 13 224 → (∀ S18 : HS, S18 = sR S17 v0 6 (some a16) → (∀ a19 : Nat, a19 ∉ hL S18 → ∀ S20 : HS, S20 = nW S18 a19 14 224 → (∀ S21 : HS, S21 = sR S20 v0 7 (some a19) → (∀ a22 : Nat, a22 ∉ hL S21 → ∀ S23 : HS, S23 = nW S21 a22 13 224 → (∀ S24 : HS, S24 = sR S23 v0 8 (some a22) → (Q S24)))))))))))))))))
set_option maxRecDepth 20000 in
set_option maxHeartbeats 4000000 in
theorem T_X7_makeRows_0 {X : CX} {Q : HS → Prop} (C : Cx X cX7_makeRows RX7 1 rm_X7_makeRows) (E : ReV X rm_X7_makeRows Q) (ht : (xh X).sig.returnType = none) (hn : (xh X).name = yX7_makeRows.name) {v0 : Nat} {S : HS} (h : P_X7_makeRows_0 Q v0 S) : WS X 1 0 0 0 [(0, .ref v0)] [] S := by
  refine r_aload_n (pc := 0) C dX7_makeRows_0 0 rfl ?_
  refine r_sipush (pc := 1) C (v := (401 : Int32)) dX7_makeRows_1 (by decide) ?_
  refine r_newa13 (pc := 4) C (N := 401) g_72 dX7_makeRows_4 (by decide) (by decide) (by decide) (by decide) (by decide) (fun a1 q39 => ?_)
  refine r_heap (fun S2 eS2 => ?_)
  have h := h a1 q39 S2 eS2
  have g40 := gr_of_new eS2 q39
  have o_a1 := ob_of_new eS2
  obtain ⟨o_v0, h⟩ := h
  refine r_putr (pc := 6) C pfL_X7_9 dX7_makeRows_6 o_v0 ?_
  refine r_heap (fun S3 eS3 => ?_)
  have h := h S3 eS3
  have o_a1 := ob_R eS3 o_a1
  have o_v0 := ob_R eS3 o_v0
  refine r_aload_n (pc := 9) C dX7_makeRows_9 0 rfl ?_
  refine r_sipush (pc := 10) C (v := (3208 : Int32)) dX7_makeRows_10 (by decide) ?_
  refine r_newa14 (pc := 13) C (N := 3208) g_266 dX7_makeRows_13 (by decide) (by decide) (by decide) (by decide) (by decide) (fun a4 q37 => ?_)
  refine r_heap (fun S5 eS5 => ?_)
  have h := h a4 q37 S5 eS5
  have g38 := gr_of_new eS5 q37
  have o_a4 := ob_of_new eS5
  have o_a1 := gr_ob g38 o_a1
  have o_v0 := gr_ob g38 o_v0
  refine r_putr (pc := 15) C pfL_X7_15 dX7_makeRows_15 o_v0 ?_
  refine r_heap (fun S6 eS6 => ?_)
  have h := h S6 eS6
  have o_a1 := ob_R eS6 o_a1
  have o_a4 := ob_R eS6 o_a4
  have o_v0 := ob_R eS6 o_v0
  refine r_aload_n (pc := 18) C dX7_makeRows_18 0 rfl ?_
  refine r_sipush (pc := 19) C (v := (3208 : Int32)) dX7_makeRows_19 (by decide) ?_
  refine r_newa13 (pc := 22) C (N := 3208) g_72 dX7_makeRows_22 (by decide) (by decide) (by decide) (by decide) (by decide) (fun a7 q35 => ?_)
  refine r_heap (fun S8 eS8 => ?_)
  have h := h a7 q35 S8 eS8
  have g36 := gr_of_new eS8 q35
  have o_a7 := ob_of_new eS8
  have o_a1 := gr_ob g36 o_a1
  have o_a4 := gr_ob g36 o_a4
  have o_v0 := gr_ob g36 o_v0
  refine r_putr (pc := 24) C pfL_X7_19 dX7_makeRows_24 o_v0 ?_
  refine r_heap (fun S9 eS9 => ?_)
  have h := h S9 eS9
  have o_a1 := ob_R eS9 o_a1
  have o_a4 := ob_R eS9 o_a4
  have o_a7 := ob_R eS9 o_a7
  have o_v0 := ob_R eS9 o_v0
  refine r_aload_n (pc := 27) C dX7_makeRows_27 0 rfl ?_
  refine r_sipush (pc := 28) C (v := (224 : Int32)) dX7_makeRows_28 (by decide) ?_
  refine r_newa13 (pc := 31) C (N := 224) g_72 dX7_makeRows_31 (by decide) (by decide) (by decide) (by decide) (by decide) (fun a10 q33 => ?_)
  refine r_heap (fun S11 eS11 => ?_)
  have h := h a10 q33 S11 eS11
  have g34 := gr_of_new eS11 q33
  have o_a10 := ob_of_new eS11
  have o_a1 := gr_ob g34 o_a1
  have o_a4 := gr_ob g34 o_a4
  have o_a7 := gr_ob g34 o_a7
  have o_v0 := gr_ob g34 o_v0
  refine r_putr (pc := 33) C pfL_X7_22 dX7_makeRows_33 o_v0 ?_
  refine r_heap (fun S12 eS12 => ?_)
  have h := h S12 eS12
  have o_a1 := ob_R eS12 o_a1
  have o_a10 := ob_R eS12 o_a10
  have o_a4 := ob_R eS12 o_a4
  have o_a7 := ob_R eS12 o_a7
  have o_v0 := ob_R eS12 o_v0
  refine r_aload_n (pc := 36) C dX7_makeRows_36 0 rfl ?_
  refine r_sipush (pc := 37) C (v := (224 : Int32)) dX7_makeRows_37 (by decide) ?_
  refine r_newa13 (pc := 40) C (N := 224) g_72 dX7_makeRows_40 (by decide) (by decide) (by decide) (by decide) (by decide) (fun a13 q31 => ?_)
  refine r_heap (fun S14 eS14 => ?_)
  have h := h a13 q31 S14 eS14
  have g32 := gr_of_new eS14 q31
  have o_a13 := ob_of_new eS14
  have o_a1 := gr_ob g32 o_a1
  have o_a10 := gr_ob g32 o_a10
  have o_a4 := gr_ob g32 o_a4
  have o_a7 := gr_ob g32 o_a7
  have o_v0 := gr_ob g32 o_v0
  refine r_putr (pc := 42) C pfL_X7_25 dX7_makeRows_42 o_v0 ?_
  refine r_heap (fun S15 eS15 => ?_)
  have h := h S15 eS15
  have o_a1 := ob_R eS15 o_a1
  have o_a10 := ob_R eS15 o_a10
  have o_a13 := ob_R eS15 o_a13
  have o_a4 := ob_R eS15 o_a4
  have o_a7 := ob_R eS15 o_a7
  have o_v0 := ob_R eS15 o_v0
  refine r_aload_n (pc := 45) C dX7_makeRows_45 0 rfl ?_
  refine r_sipush (pc := 46) C (v := (224 : Int32)) dX7_makeRows_46 (by decide) ?_
  refine r_newa13 (pc := 49) C (N := 224) g_72 dX7_makeRows_49 (by decide) (by decide) (by decide) (by decide) (by decide) (fun a16 q29 => ?_)
  refine r_heap (fun S17 eS17 => ?_)
  have h := h a16 q29 S17 eS17
  have g30 := gr_of_new eS17 q29
  have o_a16 := ob_of_new eS17
  have o_a1 := gr_ob g30 o_a1
  have o_a10 := gr_ob g30 o_a10
  have o_a13 := gr_ob g30 o_a13
  have o_a4 := gr_ob g30 o_a4
  have o_a7 := gr_ob g30 o_a7
  have o_v0 := gr_ob g30 o_v0
  refine r_putr (pc := 51) C pfL_X7_28 dX7_makeRows_51 o_v0 ?_
  refine r_heap (fun S18 eS18 => ?_)
  have h := h S18 eS18
  have o_a1 := ob_R eS18 o_a1
  have o_a10 := ob_R eS18 o_a10
  have o_a13 := ob_R eS18 o_a13
  have o_a16 := ob_R eS18 o_a16
  have o_a4 := ob_R eS18 o_a4
  have o_a7 := ob_R eS18 o_a7
  have o_v0 := ob_R eS18 o_v0
  refine r_aload_n (pc := 54) C dX7_makeRows_54 0 rfl ?_
  refine r_sipush (pc := 55) C (v := (224 : Int32)) dX7_makeRows_55 (by decide) ?_
  refine r_newa14 (pc := 58) C (N := 224) g_266 dX7_makeRows_58 (by decide) (by decide) (by decide) (by decide) (by decide) (fun a19 q27 => ?_)
  refine r_heap (fun S20 eS20 => ?_)
  have h := h a19 q27 S20 eS20
  have g28 := gr_of_new eS20 q27
  have o_a19 := ob_of_new eS20
  have o_a1 := gr_ob g28 o_a1
  have o_a10 := gr_ob g28 o_a10
  have o_a13 := gr_ob g28 o_a13
  have o_a16 := gr_ob g28 o_a16
  have o_a4 := gr_ob g28 o_a4
  have o_a7 := gr_ob g28 o_a7
  have o_v0 := gr_ob g28 o_v0
  refine r_putr (pc := 60) C pfL_X7_31 dX7_makeRows_60 o_v0 ?_
  refine r_heap (fun S21 eS21 => ?_)
  have h := h S21 eS21
  have o_a1 := ob_R eS21 o_a1
  have o_a10 := ob_R eS21 o_a10
  have o_a13 := ob_R eS21 o_a13
  have o_a16 := ob_R eS21 o_a16
  have o_a19 := ob_R eS21 o_a19
  have o_a4 := ob_R eS21 o_a4
  have o_a7 := ob_R eS21 o_a7
  have o_v0 := ob_R eS21 o_v0
  refine r_aload_n (pc := 63) C dX7_makeRows_63 0 rfl ?_
  refine r_sipush (pc := 64) C (v := (224 : Int32)) dX7_makeRows_64 (by decide) ?_
  refine r_newa13 (pc := 67) C (N := 224) g_72 dX7_makeRows_67 (by decide) (by decide) (by decide) (by decide) (by decide) (fun a22 q25 => ?_)
  refine r_heap (fun S23 eS23 => ?_)
  have h := h a22 q25 S23 eS23
  have g26 := gr_of_new eS23 q25
  have o_a22 := ob_of_new eS23
  have o_a1 := gr_ob g26 o_a1
  have o_a10 := gr_ob g26 o_a10
  have o_a13 := gr_ob g26 o_a13
  have o_a16 := gr_ob g26 o_a16
  have o_a19 := gr_ob g26 o_a19
  have o_a4 := gr_ob g26 o_a4
  have o_a7 := gr_ob g26 o_a7
  have o_v0 := gr_ob g26 o_v0
  refine r_putr (pc := 69) C pfL_X7_34 dX7_makeRows_69 o_v0 ?_
  refine r_heap (fun S24 eS24 => ?_)
  have h := h S24 eS24
  have o_a1 := ob_R eS24 o_a1
  have o_a10 := ob_R eS24 o_a10
  have o_a13 := ob_R eS24 o_a13
  have o_a16 := ob_R eS24 o_a16
  have o_a19 := ob_R eS24 o_a19
  have o_a22 := ob_R eS24 o_a22
  have o_a4 := ob_R eS24 o_a4
  have o_a7 := ob_R eS24 o_a7
  have o_v0 := ob_R eS24 o_v0
  exact r_vret (pc := 72) C E ht dX7_makeRows_72 (by decide) (by decide) h
def P_X7_makeRows (v0 : Nat) (Q : HS → Prop) (S : HS) : Prop := P_X7_makeRows_0 Q v0 S
theorem c_X7_makeRows {l : Launch} {Ee : EE} {S : HS} {v0 : Nat} {Q : HS → Prop} (h : P_X7_makeRows v0 Q S) : MV l yX7_makeRows cX7_makeRows 1 none rm_X7_makeRows Ee S [.ref v0] Q :=
  openV (by decide) (Nat.le_of_ble_eq_true rfl) (fun X C E ht hn hE hl => by subst hE; exact r_sub [0] rfl (T_X7_makeRows_0 C E ht hn h))
def rm_X7_meanFrom : Room := { frames := 1, cells := 0, slots := 0, locals := 23 }
def P_X7_meanFrom_0 (Q : Int64 → HS → Prop) (v0 : Nat) (v1 : Int32) (v2 : Int32) (S : HS) : Prop := ob S v0 7 ∧ (P_X7_keyOf v0 v1 v2 (fun x3 S1 => Gr S S1 → (∀ x4 : Int64, x4 = x3 / (512 : Int64) → (Q x4 S1))) S)
set_option maxRecDepth 20000 in
set_option maxHeartbeats 4000000 in
theorem T_X7_meanFrom_0 {X : CX} {Q : Int64 → HS → Prop} (C : Cx X cX7_meanFrom RX7 3 rm_X7_meanFrom) (E : ReJ X rm_X7_meanFrom Q) (ht : (xh X).sig.returnType = (some .long)) (hn : (xh X).name = yX7_meanFrom.name) {v0 : Nat} {v1 : Int32} {v2 : Int32} {S : HS} (h : P_X7_meanFrom_0 Q v0 v1 v2 S) : WS X 3 0 0 0 [(0, .ref v0), (1, .int v1), (2, .int v2)] [] S := by
  refine r_aload_n (pc := 0) C dX7_meanFrom_0 0 rfl ?_
  refine r_iload_n (pc := 1) C dX7_meanFrom_1 1 rfl ?_
  refine r_iload_n (pc := 2) C dX7_meanFrom_2 2 rfl ?_
  obtain ⟨o_v0, h⟩ := h
  refine r_callVl0 (pc := 3) C (rest := []) (a := v0) o_v0 [.int v1, .int v2] yV_X7_keyOf g_892 (c_X7_keyOf h) dX7_meanFrom_3 rfl rfl (Nat.le_of_ble_eq_true rfl) ⟨by decide, by decide⟩ ⟨by decide, by decide⟩ ⟨rfl, rfl⟩ (fun x3 S1 h g2 => ?_)
  have h := h g2
  have o_v0 := gr_ob g2 o_v0
  refine r_ldc2 (pc := 6) C (v := (512 : Int64)) dX7_meanFrom_6 g_857 ?_
  refine r_ldiv (pc := 9) C dX7_meanFrom_9 (by decide) ?_
  refine r_topl (fun x4 ex4 => ?_)
  have h := h x4 ex4
  exact r_lret (pc := 10) C E ht dX7_meanFrom_10 (by decide) (by decide) h
def P_X7_meanFrom (v0 : Nat) (v1 : Int32) (v2 : Int32) (Q : Int64 → HS → Prop) (S : HS) : Prop := P_X7_meanFrom_0 Q v0 v1 v2 S
theorem c_X7_meanFrom {l : Launch} {Ee : EE} {S : HS} {v0 : Nat} {v1 : Int32} {v2 : Int32} {Q : Int64 → HS → Prop} (h : P_X7_meanFrom v0 v1 v2 Q S) : MJ l yX7_meanFrom cX7_meanFrom 3 (some .long) rm_X7_meanFrom Ee S [.ref v0, .int v1, .int v2] Q :=
  openJ (by decide) (Nat.le_of_ble_eq_true rfl) (fun X C E ht hn hE hl => by subst hE; exact r_sub [0, 1, 2] rfl (T_X7_meanFrom_0 C E ht hn h))
def rm_X8_hasPlace : Room := { frames := 0, cells := 0, slots := 0, locals := 0 }
def P_X8_hasPlace_0 (Q : Int32 → HS → Prop) (v0 : Nat) (v1 : Int32) (S : HS) : Prop := ((v1 < 0) → (Q (0 : Int32) S)) ∧ ((¬ v1 < 0) → (ob S v0 8 ∧ (∀ x2 : Int32, x2 = fI S v0 2 → (((x2 ≤ v1) → (Q (0 : Int32) S)) ∧ ((¬ x2 ≤ v1) → (∃ a4 : Nat, fR S v0 7 = some a4 ∧ (ob S a4 13 ∧ ((((nI (hN S a4)) ≤ v1) → (Q (0 : Int32) S)) ∧ ((¬ (nI (hN S a4)) ≤ v1) → (Q (1 : Int32) S))))))))))
set_option maxRecDepth 20000 in
set_option maxHeartbeats 4000000 in
theorem T_X8_hasPlace_0 {X : CX} {Q : Int32 → HS → Prop} (C : Cx X cX8_hasPlace RX8 2 rm_X8_hasPlace) (E : ReI X rm_X8_hasPlace (fun r S => bl r ∧ Q r S)) (ht : (xh X).sig.returnType = (some .boolean)) (hn : (xh X).name = yX8_hasPlace.name) {v0 : Nat} {v1 : Int32} {S : HS} (h : P_X8_hasPlace_0 Q v0 v1 S) : WS X 2 0 0 0 [(0, .ref v0), (1, .int v1)] [] S := by
  refine r_iload_n (pc := 0) C dX8_hasPlace_0 1 rfl ?_
  refine r_if_lt (pc := 1) C (tgt := 25) dX8_hasPlace_1 (by decide) (fun c1 => ?_) (fun c1 => ?_)
  · have h := h.1 c1
    refine r_iconst (pc := 25) C (v := (0 : Int32)) dX8_hasPlace_25 (by decide) ?_
    exact r_zret (pc := 26) C E ht dX8_hasPlace_26 (by decide) (by decide) (Or.inl rfl) h
  · have h := h.2 c1
    refine r_iload_n (pc := 4) C dX8_hasPlace_4 1 rfl ?_
    refine r_aload_n (pc := 5) C dX8_hasPlace_5 0 rfl ?_
    obtain ⟨o_v0, h⟩ := h
    refine r_geti (pc := 6) C fL_X8_49 dX8_hasPlace_6 o_v0 ?_
    refine r_topi (fun x2 ex2 => ?_)
    have h := h x2 ex2
    refine r_icmp_ge (pc := 9) C (tgt := 25) dX8_hasPlace_9 (by decide) (fun c3 => ?_) (fun c3 => ?_)
    · have h := h.1 c3
      refine r_iconst (pc := 25) C (v := (0 : Int32)) dX8_hasPlace_25 (by decide) ?_
      exact r_zret (pc := 26) C E ht dX8_hasPlace_26 (by decide) (by decide) (Or.inl rfl) h
    · have h := h.2 c3
      refine r_iload_n (pc := 12) C dX8_hasPlace_12 1 rfl ?_
      refine r_aload_n (pc := 13) C dX8_hasPlace_13 0 rfl ?_
      obtain ⟨a4, ea4, h⟩ := h
      refine r_getr (pc := 14) C fL_X8_17 dX8_hasPlace_14 o_v0 ea4 ?_
      obtain ⟨o_a4, h⟩ := h
      refine r_alen13 (pc := 17) C dX8_hasPlace_17 o_a4 ?_
      refine r_icmp_ge (pc := 18) C (tgt := 25) dX8_hasPlace_18 (by decide) (fun c5 => ?_) (fun c5 => ?_)
      · have h := h.1 c5
        refine r_iconst (pc := 25) C (v := (0 : Int32)) dX8_hasPlace_25 (by decide) ?_
        exact r_zret (pc := 26) C E ht dX8_hasPlace_26 (by decide) (by decide) (Or.inl rfl) h
      · have h := h.2 c5
        refine r_iconst (pc := 21) C (v := (1 : Int32)) dX8_hasPlace_21 (by decide) ?_
        refine r_goto (pc := 22) C (tgt := 26) dX8_hasPlace_22 (by decide) ?_
        exact r_zret (pc := 26) C E ht dX8_hasPlace_26 (by decide) (by decide) (Or.inr rfl) h
def P_X8_hasPlace (v0 : Nat) (v1 : Int32) (Q : Int32 → HS → Prop) (S : HS) : Prop := P_X8_hasPlace_0 Q v0 v1 S
theorem c_X8_hasPlace {l : Launch} {Ee : EE} {S : HS} {v0 : Nat} {v1 : Int32} {Q : Int32 → HS → Prop} (h : P_X8_hasPlace v0 v1 Q S) : MI l yX8_hasPlace cX8_hasPlace 2 (some .boolean) rm_X8_hasPlace Ee S [.ref v0, .int v1] (fun r S => bl r ∧ Q r S) :=
  openI (by decide) (Nat.le_of_ble_eq_true rfl) (fun X C E ht hn hE hl => by subst hE; exact r_sub [0, 1] rfl (T_X8_hasPlace_0 C E ht hn h))
def rm_X8_canWait : Room := { frames := 1, cells := 0, slots := 0, locals := 21 }
def P_X8_canWait_0 (Q : Int32 → HS → Prop) (v0 : Nat) (v1 : Int32) (S : HS) : Prop := ob S v0 8 ∧ (P_X8_hasPlace v0 v1 (fun x3 S1 => Gr S S1 → bl x3 → (((x3 = 0) → (Q (0 : Int32) S1)) ∧ ((¬ x3 = 0) → (∃ a5 : Nat, fR S1 v0 7 = some a5 ∧ (ob S1 a5 13 ∧ (vp_in v1 (hN S1 a5) ∧ ∀ x7 : Int32, x7 = fI S1 a5 v1.toNatClampNeg → (((x7 = (-1 : Int32)) → (Q (0 : Int32) S1)) ∧ ((¬ x7 = (-1 : Int32)) → (Q (1 : Int32) S1))))))))) S)
set_option maxRecDepth 20000 in
set_option maxHeartbeats 4000000 in
theorem T_X8_canWait_0 {X : CX} {Q : Int32 → HS → Prop} (C : Cx X cX8_canWait RX8 2 rm_X8_canWait) (E : ReI X rm_X8_canWait (fun r S => bl r ∧ Q r S)) (ht : (xh X).sig.returnType = (some .boolean)) (hn : (xh X).name = yX8_canWait.name) {v0 : Nat} {v1 : Int32} {S : HS} (h : P_X8_canWait_0 Q v0 v1 S) : WS X 2 0 0 0 [(0, .ref v0), (1, .int v1)] [] S := by
  refine r_aload_n (pc := 0) C dX8_canWait_0 0 rfl ?_
  refine r_iload_n (pc := 1) C dX8_canWait_1 1 rfl ?_
  obtain ⟨o_v0, h⟩ := h
  refine r_callVi0 (pc := 2) C (rest := []) (a := v0) o_v0 [.int v1] yV_X8_hasPlace g_874 (c_X8_hasPlace h) dX8_canWait_2 rfl rfl (Nat.le_of_ble_eq_true rfl) ⟨by decide, by decide⟩ ⟨by decide, by decide⟩ ⟨rfl, rfl⟩ (fun x3 S1 h g2 => ?_)
  have bx3 := h.1
  have h := h.2 g2 bx3
  have o_v0 := gr_ob g2 o_v0
  refine r_if_eq (pc := 5) C (tgt := 22) dX8_canWait_5 (by decide) (fun c4 => ?_) (fun c4 => ?_)
  · have h := h.1 c4
    refine r_iconst (pc := 22) C (v := (0 : Int32)) dX8_canWait_22 (by decide) ?_
    exact r_zret (pc := 23) C E ht dX8_canWait_23 (by decide) (by decide) (Or.inl rfl) h
  · have h := h.2 c4
    refine r_aload_n (pc := 8) C dX8_canWait_8 0 rfl ?_
    obtain ⟨a5, ea5, h⟩ := h
    refine r_getr (pc := 9) C fL_X8_17 dX8_canWait_9 o_v0 ea5 ?_
    refine r_iload_n (pc := 12) C dX8_canWait_12 1 rfl ?_
    obtain ⟨o_a5, h⟩ := h
    obtain ⟨i6, h⟩ := h
    refine r_iald (pc := 13) C dX8_canWait_13 o_a5 i6 ?_
    refine r_topi (fun x7 ex7 => ?_)
    have h := h x7 ex7
    refine r_iconst (pc := 14) C (v := (-1 : Int32)) dX8_canWait_14 (by decide) ?_
    refine r_icmp_eq (pc := 15) C (tgt := 22) dX8_canWait_15 (by decide) (fun c8 => ?_) (fun c8 => ?_)
    · have h := h.1 c8
      refine r_iconst (pc := 22) C (v := (0 : Int32)) dX8_canWait_22 (by decide) ?_
      exact r_zret (pc := 23) C E ht dX8_canWait_23 (by decide) (by decide) (Or.inl rfl) h
    · have h := h.2 c8
      refine r_iconst (pc := 18) C (v := (1 : Int32)) dX8_canWait_18 (by decide) ?_
      refine r_goto (pc := 19) C (tgt := 23) dX8_canWait_19 (by decide) ?_
      exact r_zret (pc := 23) C E ht dX8_canWait_23 (by decide) (by decide) (Or.inr rfl) h
def P_X8_canWait (v0 : Nat) (v1 : Int32) (Q : Int32 → HS → Prop) (S : HS) : Prop := P_X8_canWait_0 Q v0 v1 S
theorem c_X8_canWait {l : Launch} {Ee : EE} {S : HS} {v0 : Nat} {v1 : Int32} {Q : Int32 → HS → Prop} (h : P_X8_canWait v0 v1 Q S) : MI l yX8_canWait cX8_canWait 2 (some .boolean) rm_X8_canWait Ee S [.ref v0, .int v1] (fun r S => bl r ∧ Q r S) :=
  openI (by decide) (Nat.le_of_ble_eq_true rfl) (fun X C E ht hn hE hl => by subst hE; exact r_sub [0, 1] rfl (T_X8_canWait_0 C E ht hn h))
def rm_X8_dripOn : Room := { frames := 2, cells := 0, slots := 0, locals := 42 }
def P_X8_dripOn_0 (Q : Int32 → HS → Prop) (v0 : Nat) (v1 : Nat) (v2 : Int32) (S : HS) : Prop := ob S v0 8 ∧ (P_X8_canWait v0 v2 (fun x3 S1 => Gr S S1 → bl x3 → (((x3 = 0) → (Q (0 : Int32) S1)) ∧ ((¬ x3 = 0) → (∃ a5 : Nat, fR S1 v0 7 = some a5 ∧ (ob S1 a5 13 ∧ (vp_in v2 (hN S1 a5) ∧ ∀ x7 : Int32, x7 = fI S1 a5 v2.toNatClampNeg → (ob S1 v1 6 ∧ (∀ x8 : Int32, x8 = fI S1 v1 2 → (P_X6_shield v1 (fun x11 S9 => Gr S1 S9 → (∀ x12 : Int32, x12 = (if x8 - x11 < (0 : Int32) then (0 : Int32) else x8 - x11) → (Q (x7 * x12) S9))) S1))))))))) S)
set_option maxRecDepth 20000 in
set_option maxHeartbeats 4000000 in
theorem T_X8_dripOn_0 {X : CX} {Q : Int32 → HS → Prop} (C : Cx X cX8_dripOn RX8 3 rm_X8_dripOn) (E : ReI X rm_X8_dripOn Q) (ht : (xh X).sig.returnType = (some .int)) (hn : (xh X).name = yX8_dripOn.name) {v0 : Nat} {v1 : Nat} {v2 : Int32} {S : HS} (h : P_X8_dripOn_0 Q v0 v1 v2 S) : WS X 3 0 0 0 [(0, .ref v0), (1, .ref v1), (2, .int v2)] [] S := by
  refine r_aload_n (pc := 0) C dX8_dripOn_0 0 rfl ?_
  refine r_iload_n (pc := 1) C dX8_dripOn_1 2 rfl ?_
  obtain ⟨o_v0, h⟩ := h
  refine r_callVi0 (pc := 2) C (rest := []) (a := v0) o_v0 [.int v2] yV_X8_canWait g_879 (c_X8_canWait h) dX8_dripOn_2 rfl rfl (Nat.le_of_ble_eq_true rfl) ⟨by decide, by decide⟩ ⟨by decide, by decide⟩ ⟨rfl, rfl⟩ (fun x3 S1 h g2 => ?_)
  have bx3 := h.1
  have h := h.2 g2 bx3
  have o_v0 := gr_ob g2 o_v0
  refine r_if_eq (pc := 5) C (tgt := 31) dX8_dripOn_5 (by decide) (fun c4 => ?_) (fun c4 => ?_)
  · have h := h.1 c4
    refine r_iconst (pc := 31) C (v := (0 : Int32)) dX8_dripOn_31 (by decide) ?_
    exact r_iret (pc := 32) C E ht dX8_dripOn_32 (by decide) (by decide) h
  · have h := h.2 c4
    refine r_aload_n (pc := 8) C dX8_dripOn_8 0 rfl ?_
    obtain ⟨a5, ea5, h⟩ := h
    refine r_getr (pc := 9) C fL_X8_17 dX8_dripOn_9 o_v0 ea5 ?_
    refine r_iload_n (pc := 12) C dX8_dripOn_12 2 rfl ?_
    obtain ⟨o_a5, h⟩ := h
    obtain ⟨i6, h⟩ := h
    refine r_iald (pc := 13) C dX8_dripOn_13 o_a5 i6 ?_
    refine r_topi (fun x7 ex7 => ?_)
    have h := h x7 ex7
    refine r_aload_n (pc := 14) C dX8_dripOn_14 1 rfl ?_
    obtain ⟨o_v1, h⟩ := h
    refine r_geti (pc := 15) C fL_X8_68 dX8_dripOn_15 o_v1 ?_
    refine r_topi (fun x8 ex8 => ?_)
    have h := h x8 ex8
    refine r_aload_n (pc := 18) C dX8_dripOn_18 1 rfl ?_
    refine r_callVi0 (pc := 19) C (rest := [.int x8, .int x7]) (a := v1) o_v1 [] yV_X6_shield g_880 (c_X6_shield h) dX8_dripOn_19 rfl rfl (Nat.le_of_ble_eq_true rfl) ⟨by decide, by decide⟩ ⟨by decide, by decide⟩ ⟨rfl, rfl⟩ (fun x11 S9 h g10 => ?_)
    have h := h g10
    have o_a5 := gr_ob g10 o_a5
    have o_v0 := gr_ob g10 o_v0
    have o_v1 := gr_ob g10 o_v1
    refine r_isub (pc := 22) C dX8_dripOn_22 ?_
    refine r_iconst (pc := 23) C (v := (0 : Int32)) dX8_dripOn_23 (by decide) ?_
    refine r_max (pc := 24) C g_881 dX8_dripOn_24 (by decide) (Nat.le_of_ble_eq_true rfl) (by decide) (by decide) ?_
    refine r_topi (fun x12 ex12 => ?_)
    have h := h x12 ex12
    refine r_imul (pc := 27) C dX8_dripOn_27 ?_
    refine r_goto (pc := 28) C (tgt := 32) dX8_dripOn_28 (by decide) ?_
    exact r_iret (pc := 32) C E ht dX8_dripOn_32 (by decide) (by decide) h
def P_X8_dripOn (v0 : Nat) (v1 : Nat) (v2 : Int32) (Q : Int32 → HS → Prop) (S : HS) : Prop := P_X8_dripOn_0 Q v0 v1 v2 S
theorem c_X8_dripOn {l : Launch} {Ee : EE} {S : HS} {v0 : Nat} {v1 : Nat} {v2 : Int32} {Q : Int32 → HS → Prop} (h : P_X8_dripOn v0 v1 v2 Q S) : MI l yX8_dripOn cX8_dripOn 3 (some .int) rm_X8_dripOn Ee S [.ref v0, .ref v1, .int v2] Q :=
  openI (by decide) (Nat.le_of_ble_eq_true rfl) (fun X C E ht hn hE hl => by subst hE; exact r_sub [0, 1, 2] rfl (T_X8_dripOn_0 C E ht hn h))
def rm_X8_hasHour : Room := { frames := 0, cells := 0, slots := 0, locals := 0 }
def P_X8_hasHour_0 (Q : Int32 → HS → Prop) (v0 : Nat) (v1 : Int32) (S : HS) : Prop := ((v1 < 0) → (Q (0 : Int32) S)) ∧ ((¬ v1 < 0) → (ob S v0 8 ∧ (∀ x2 : Int32, x2 = fI S v0 1 → (((x2 ≤ v1) → (Q (0 : Int32) S)) ∧ ((¬ x2 ≤ v1) → (∃ a4 : Nat, fR S v0 6 = some a4 ∧ (ob S a4 17 ∧ ((((nI (hN S a4)) ≤ v1) → (Q (0 : Int32) S)) ∧ ((¬ (nI (hN S a4)) ≤ v1) → (Q (1 : Int32) S))))))))))
set_option maxRecDepth 20000 in
set_option maxHeartbeats 4000000 in
theorem T_X8_hasHour_0 {X : CX} {Q : Int32 → HS → Prop} (C : Cx X cX8_hasHour RX8 2 rm_X8_hasHour) (E : ReI X rm_X8_hasHour (fun r S => bl r ∧ Q r S)) (ht : (xh X).sig.returnType = (some .boolean)) (hn : (xh X).name = yX8_hasHour.name) {v0 : Nat} {v1 : Int32} {S : HS} (h : P_X8_hasHour_0 Q v0 v1 S) : WS X 2 0 0 0 [(0, .ref v0), (1, .int v1)] [] S := by
  refine r_iload_n (pc := 0) C dX8_hasHour_0 1 rfl ?_
  refine r_if_lt (pc := 1) C (tgt := 25) dX8_hasHour_1 (by decide) (fun c1 => ?_) (fun c1 => ?_)
  · have h := h.1 c1
    refine r_iconst (pc := 25) C (v := (0 : Int32)) dX8_hasHour_25 (by decide) ?_
    exact r_zret (pc := 26) C E ht dX8_hasHour_26 (by decide) (by decide) (Or.inl rfl) h
  · have h := h.2 c1
    refine r_iload_n (pc := 4) C dX8_hasHour_4 1 rfl ?_
    refine r_aload_n (pc := 5) C dX8_hasHour_5 0 rfl ?_
    obtain ⟨o_v0, h⟩ := h
    refine r_geti (pc := 6) C fL_X8_46 dX8_hasHour_6 o_v0 ?_
    refine r_topi (fun x2 ex2 => ?_)
    have h := h x2 ex2
    refine r_icmp_ge (pc := 9) C (tgt := 25) dX8_hasHour_9 (by decide) (fun c3 => ?_) (fun c3 => ?_)
    · have h := h.1 c3
      refine r_iconst (pc := 25) C (v := (0 : Int32)) dX8_hasHour_25 (by decide) ?_
      exact r_zret (pc := 26) C E ht dX8_hasHour_26 (by decide) (by decide) (Or.inl rfl) h
    · have h := h.2 c3
      refine r_iload_n (pc := 12) C dX8_hasHour_12 1 rfl ?_
      refine r_aload_n (pc := 13) C dX8_hasHour_13 0 rfl ?_
      obtain ⟨a4, ea4, h⟩ := h
      refine r_getr (pc := 14) C fL_X8_11 dX8_hasHour_14 o_v0 ea4 ?_
      obtain ⟨o_a4, h⟩ := h
      refine r_alen17 (pc := 17) C dX8_hasHour_17 o_a4 ?_
      refine r_icmp_ge (pc := 18) C (tgt := 25) dX8_hasHour_18 (by decide) (fun c5 => ?_) (fun c5 => ?_)
      · have h := h.1 c5
        refine r_iconst (pc := 25) C (v := (0 : Int32)) dX8_hasHour_25 (by decide) ?_
        exact r_zret (pc := 26) C E ht dX8_hasHour_26 (by decide) (by decide) (Or.inl rfl) h
      · have h := h.2 c5
        refine r_iconst (pc := 21) C (v := (1 : Int32)) dX8_hasHour_21 (by decide) ?_
        refine r_goto (pc := 22) C (tgt := 26) dX8_hasHour_22 (by decide) ?_
        exact r_zret (pc := 26) C E ht dX8_hasHour_26 (by decide) (by decide) (Or.inr rfl) h
def P_X8_hasHour (v0 : Nat) (v1 : Int32) (Q : Int32 → HS → Prop) (S : HS) : Prop := P_X8_hasHour_0 Q v0 v1 S
theorem c_X8_hasHour {l : Launch} {Ee : EE} {S : HS} {v0 : Nat} {v1 : Int32} {Q : Int32 → HS → Prop} (h : P_X8_hasHour v0 v1 Q S) : MI l yX8_hasHour cX8_hasHour 2 (some .boolean) rm_X8_hasHour Ee S [.ref v0, .int v1] (fun r S => bl r ∧ Q r S) :=
  openI (by decide) (Nat.le_of_ble_eq_true rfl) (fun X C E ht hn hE hl => by subst hE; exact r_sub [0, 1] rfl (T_X8_hasHour_0 C E ht hn h))
def rm_X7_price : Room := { frames := 4, cells := 0, slots := 0, locals := 101 }
def P_X7_price_134 (Q : HS → Prop) (X51 : Nat → Nat → Nat → Int32 → Nat → Int32 → Int32 → HS → Prop) (X86 : Nat → Nat → Nat → Int32 → Nat → Int32 → Int32 → Nat → Int32 → Int32 → HS → Prop) (v0 : Nat) (v1 : Nat) (v2 : Nat) (v3 : Int32) (v4 : Nat) (v5 : Int32) (v6 : Int32) (v7 : Nat) (v8 : Int32) (v9 : Int32) (s0 : Int64) (S : HS) : Prop := ∀ x1 : Int32, x1 = v6 / (2 : Int32) → (ob S v0 7 ∧ (P_X7_addLeg v0 v7 v8 v9 s0 ((((100 : Int32) * x1) + ((10 : Int32) * v8)) + v9) (fun S2 => Gr S S2 → (∀ x5 : Int32, x5 = v9 + (1 : Int32) → (X86 v0 v1 v2 v3 v4 v5 v6 v7 v8 x5 S2))) S))
set_option maxRecDepth 20000 in
set_option maxHeartbeats 4000000 in
theorem T_X7_price_134 {X : CX} {Q : HS → Prop} (C : Cx X cX7_price RX7 12 rm_X7_price) (E : ReV X rm_X7_price Q) (ht : (xh X).sig.returnType = none) (hn : (xh X).name = yX7_price.name) {X51 : Nat → Nat → Nat → Int32 → Nat → Int32 → Int32 → HS → Prop} (hX51 : ∀ (v0 : Nat) (v1 : Nat) (v2 : Nat) (v3 : Int32) (v4 : Nat) (v5 : Int32) (v6 : Int32) (S : HS), X51 v0 v1 v2 v3 v4 v5 v6 S → WS X 12 0 0 51 [(0, .ref v0), (1, .ref v1), (2, .ref v2), (3, .int v3), (4, .ref v4), (5, .int v5), (6, .int v6)] [] S) {X86 : Nat → Nat → Nat → Int32 → Nat → Int32 → Int32 → Nat → Int32 → Int32 → HS → Prop} (hX86 : ∀ (v0 : Nat) (v1 : Nat) (v2 : Nat) (v3 : Int32) (v4 : Nat) (v5 : Int32) (v6 : Int32) (v7 : Nat) (v8 : Int32) (v9 : Int32) (S : HS), X86 v0 v1 v2 v3 v4 v5 v6 v7 v8 v9 S → WS X 12 0 0 86 [(0, .ref v0), (1, .ref v1), (2, .ref v2), (3, .int v3), (4, .ref v4), (5, .int v5), (6, .int v6), (7, .ref v7), (8, .int v8), (9, .int v9)] [] S) {v0 : Nat} {v1 : Nat} {v2 : Nat} {v3 : Int32} {v4 : Nat} {v5 : Int32} {v6 : Int32} {v7 : Nat} {v8 : Int32} {v9 : Int32} {s0 : Int64} {S : HS} (h : P_X7_price_134 Q X51 X86 v0 v1 v2 v3 v4 v5 v6 v7 v8 v9 s0 S) : WS X 12 0 0 134 [(0, .ref v0), (1, .ref v1), (2, .ref v2), (3, .int v3), (4, .ref v4), (5, .int v5), (6, .int v6), (7, .ref v7), (8, .int v8), (9, .int v9)] [.long s0] S := by
  refine r_lstore (pc := 134) C dX7_price_134 (by decide) (lv' := [(10, .long s0), (0, .ref v0), (1, .ref v1), (2, .ref v2), (3, .int v3), (4, .ref v4), (5, .int v5), (6, .int v6), (7, .ref v7), (8, .int v8), (9, .int v9)]) rfl ?_
  refine r_aload_n (pc := 136) C dX7_price_136 1 rfl ?_
  refine r_aload (pc := 137) C dX7_price_137 8 rfl ?_
  refine r_iload (pc := 139) C dX7_price_139 9 rfl ?_
  refine r_iload (pc := 141) C dX7_price_141 10 rfl ?_
  refine r_lload (pc := 143) C dX7_price_143 0 rfl ?_
  refine r_bipush (pc := 145) C (v := (100 : Int32)) dX7_price_145 (by decide) ?_
  refine r_iload (pc := 147) C dX7_price_147 7 rfl ?_
  refine r_iconst (pc := 149) C (v := (2 : Int32)) dX7_price_149 (by decide) ?_
  refine r_idiv (pc := 150) C dX7_price_150 (by decide) ?_
  refine r_topi (fun x1 ex1 => ?_)
  have h := h x1 ex1
  refine r_imul (pc := 151) C dX7_price_151 ?_
  refine r_bipush (pc := 152) C (v := (10 : Int32)) dX7_price_152 (by decide) ?_
  refine r_iload (pc := 154) C dX7_price_154 9 rfl ?_
  refine r_imul (pc := 156) C dX7_price_156 ?_
  refine r_iadd (pc := 157) C dX7_price_157 ?_
  refine r_iload (pc := 158) C dX7_price_158 10 rfl ?_
  refine r_iadd (pc := 160) C dX7_price_160 ?_
  obtain ⟨o_v0, h⟩ := h
  refine r_callVv0 (pc := 161) C (rest := []) (a := v0) o_v0 [.ref v7, .int v8, .int v9, .long s0, .int ((((100 : Int32) * x1) + ((10 : Int32) * v8)) + v9)] yV_X7_addLeg g_852 (c_X7_addLeg h) dX7_price_161 rfl rfl (Nat.le_of_ble_eq_true rfl) ⟨by decide, by decide⟩ ⟨by decide, by decide⟩ ⟨rfl, rfl⟩ (fun S2 h g3 => ?_)
  have h := h g3
  have o_v0 := gr_ob g3 o_v0
  obtain ⟨x5, ex5⟩ : ∃ z : Int32, z = v9 + (1 : Int32) := ⟨_, rfl⟩
  have h := h x5 ex5
  refine r_iinc (pc := 164) C (v := x5) (lv' := [(9, .int x5), (10, .long s0), (0, .ref v0), (1, .ref v1), (2, .ref v2), (3, .int v3), (4, .ref v4), (5, .int v5), (6, .int v6), (7, .ref v7), (8, .int v8)]) dX7_price_164 10 rfl ex5.symm (by decide) rfl ?_
  refine r_goto (pc := 167) C (tgt := 86) dX7_price_167 (by decide) ?_
  exact r_sub [2, 3, 4, 5, 6, 7, 8, 9, 10, 0] rfl (hX86 v0 v1 v2 v3 v4 v5 v6 v7 v8 x5 S2 h)
def B_X7_price_86 (Q : HS → Prop) (X51 : Nat → Nat → Nat → Int32 → Nat → Int32 → Int32 → HS → Prop) (X86 : Nat → Nat → Nat → Int32 → Nat → Int32 → Int32 → Nat → Int32 → Int32 → HS → Prop) (v0 : Nat) (v1 : Nat) (v2 : Nat) (v3 : Int32) (v4 : Nat) (v5 : Int32) (v6 : Int32) (v7 : Nat) (v8 : Int32) (v9 : Int32) (S : HS) : Prop := ob S v4 6 ∧ (∀ x1 : Int32, x1 = fI S v4 6 → (((x1 < v9) → (∀ x3 : Int32, x3 = v6 + (1 : Int32) → (X51 v0 v1 v2 v3 v4 v5 x3 S))) ∧ ((¬ x1 < v9) → (((v5 = 0) → (ob S v1 8 ∧ (∃ a5 : Nat, fR S v1 6 = some a5 ∧ (ob S a5 17 ∧ (vp_in v3 (hN S a5) ∧ ∃ a7 : Nat, fR S a5 v3.toNatClampNeg = some a7 ∧ (ob S v2 1 ∧ (P_X1_wetOf v2 v4 v7 v8 a7 v9 (fun x10 S8 => Gr S S8 → (∃ a11 : Nat, fR S8 v1 6 = some a11 ∧ (ob S8 a11 17 ∧ (vp_in v3 (hN S8 a11) ∧ ∃ a13 : Nat, fR S8 a11 v3.toNatClampNeg = some a13 ∧ (ob S8 a13 3 ∧ (∀ x14 : Int32, x14 = fI S8 a13 4 → (P_X7_price_134 Q X51 X86 v0 v1 v2 v3 v4 v5 v6 v7 v8 v9 (x10 * x14.toInt64) S8))))))) S))))))) ∧ ((¬ v5 = 0) → (P_X7_price_134 Q X51 X86 v0 v1 v2 v3 v4 v5 v6 v7 v8 v9 (0 : Int64) S))))))
def P_X7_price_86 (Q : HS → Prop) (X51 : Nat → Nat → Nat → Int32 → Nat → Int32 → Int32 → HS → Prop) (v0 : Nat) (v1 : Nat) (v2 : Nat) (v3 : Int32) (v4 : Nat) (v5 : Int32) (v6 : Int32) (v7 : Nat) (v8 : Int32) (v9 : Int32) (S : HS) : Prop := ∀ X86 : Nat → Nat → Nat → Int32 → Nat → Int32 → Int32 → Nat → Int32 → Int32 → HS → Prop, (∀ (v0 : Nat) (v1 : Nat) (v2 : Nat) (v3 : Int32) (v4 : Nat) (v5 : Int32) (v6 : Int32) (v7 : Nat) (v8 : Int32) (v9 : Int32) (S : HS), B_X7_price_86 Q X51 X86 v0 v1 v2 v3 v4 v5 v6 v7 v8 v9 S → X86 v0 v1 v2 v3 v4 v5 v6 v7 v8 v9 S) → X86 v0 v1 v2 v3 v4 v5 v6 v7 v8 v9 S
set_option maxRecDepth 20000 in
set_option maxHeartbeats 4000000 in
theorem TB_X7_price_86 {X : CX} {Q : HS → Prop} (C : Cx X cX7_price RX7 12 rm_X7_price) (E : ReV X rm_X7_price Q) (ht : (xh X).sig.returnType = none) (hn : (xh X).name = yX7_price.name) {X51 : Nat → Nat → Nat → Int32 → Nat → Int32 → Int32 → HS → Prop} (hX51 : ∀ (v0 : Nat) (v1 : Nat) (v2 : Nat) (v3 : Int32) (v4 : Nat) (v5 : Int32) (v6 : Int32) (S : HS), X51 v0 v1 v2 v3 v4 v5 v6 S → WS X 12 0 0 51 [(0, .ref v0), (1, .ref v1), (2, .ref v2), (3, .int v3), (4, .ref v4), (5, .int v5), (6, .int v6)] [] S) {X86 : Nat → Nat → Nat → Int32 → Nat → Int32 → Int32 → Nat → Int32 → Int32 → HS → Prop} (hX86 : ∀ (v0 : Nat) (v1 : Nat) (v2 : Nat) (v3 : Int32) (v4 : Nat) (v5 : Int32) (v6 : Int32) (v7 : Nat) (v8 : Int32) (v9 : Int32) (S : HS), X86 v0 v1 v2 v3 v4 v5 v6 v7 v8 v9 S → WS X 12 0 0 86 [(0, .ref v0), (1, .ref v1), (2, .ref v2), (3, .int v3), (4, .ref v4), (5, .int v5), (6, .int v6), (7, .ref v7), (8, .int v8), (9, .int v9)] [] S) {v0 : Nat} {v1 : Nat} {v2 : Nat} {v3 : Int32} {v4 : Nat} {v5 : Int32} {v6 : Int32} {v7 : Nat} {v8 : Int32} {v9 : Int32} {S : HS} (h : B_X7_price_86 Q X51 X86 v0 v1 v2 v3 v4 v5 v6 v7 v8 v9 S) : WS X 12 0 0 86 [(0, .ref v0), (1, .ref v1), (2, .ref v2), (3, .int v3), (4, .ref v4), (5, .int v5), (6, .int v6), (7, .ref v7), (8, .int v8), (9, .int v9)] [] S := by
  refine r_iload (pc := 86) C dX7_price_86 9 rfl ?_
  refine r_aload (pc := 88) C dX7_price_88 4 rfl ?_
  obtain ⟨o_v4, h⟩ := h
  refine r_geti (pc := 90) C fL_X7_107 dX7_price_90 o_v4 ?_
  refine r_topi (fun x1 ex1 => ?_)
  have h := h x1 ex1
  refine r_icmp_gt (pc := 93) C (tgt := 170) dX7_price_93 (by decide) (fun c2 => ?_) (fun c2 => ?_)
  · have h := h.1 c2
    obtain ⟨x3, ex3⟩ : ∃ z : Int32, z = v6 + (1 : Int32) := ⟨_, rfl⟩
    have h := h x3 ex3
    refine r_iinc (pc := 170) C (v := x3) (lv' := [(6, .int x3), (0, .ref v0), (1, .ref v1), (2, .ref v2), (3, .int v3), (4, .ref v4), (5, .int v5), (7, .ref v7), (8, .int v8), (9, .int v9)]) dX7_price_170 6 rfl ex3.symm (by decide) rfl ?_
    refine r_goto (pc := 173) C (tgt := 51) dX7_price_173 (by decide) ?_
    exact r_sub [1, 2, 3, 4, 5, 6, 0] rfl (hX51 v0 v1 v2 v3 v4 v5 x3 S h)
  · have h := h.2 c2
    refine r_iload (pc := 96) C dX7_price_96 5 rfl ?_
    refine r_if_eq (pc := 98) C (tgt := 105) dX7_price_98 (by decide) (fun c4 => ?_) (fun c4 => ?_)
    · have h := h.1 c4
      refine r_aload_n (pc := 105) C dX7_price_105 2 rfl ?_
      refine r_aload (pc := 106) C dX7_price_106 4 rfl ?_
      refine r_aload (pc := 108) C dX7_price_108 7 rfl ?_
      refine r_iload (pc := 110) C dX7_price_110 8 rfl ?_
      refine r_aload_n (pc := 112) C dX7_price_112 1 rfl ?_
      obtain ⟨o_v1, h⟩ := h
      obtain ⟨a5, ea5, h⟩ := h
      refine r_getr (pc := 113) C fL_X7_110 dX7_price_113 o_v1 ea5 ?_
      refine r_iload_n (pc := 116) C dX7_price_116 3 rfl ?_
      obtain ⟨o_a5, h⟩ := h
      obtain ⟨i6, a7, ea7, h⟩ := h
      refine r_aald17 (pc := 117) C dX7_price_117 o_a5 i6 ea7 ?_
      refine r_iload (pc := 118) C dX7_price_118 9 rfl ?_
      obtain ⟨o_v2, h⟩ := h
      refine r_callVl0 (pc := 120) C (rest := []) (a := v2) o_v2 [.ref v4, .ref v7, .int v8, .ref a7, .int v9] yV_X1_wetOf g_851 (c_X1_wetOf h) dX7_price_120 rfl rfl (Nat.le_of_ble_eq_true rfl) ⟨by decide, by decide⟩ ⟨by decide, by decide⟩ ⟨rfl, rfl⟩ (fun x10 S8 h g9 => ?_)
      have h := h g9
      have o_a5 := gr_ob g9 o_a5
      have o_v1 := gr_ob g9 o_v1
      have o_v2 := gr_ob g9 o_v2
      have o_v4 := gr_ob g9 o_v4
      refine r_aload_n (pc := 123) C dX7_price_123 1 rfl ?_
      obtain ⟨a11, ea11, h⟩ := h
      refine r_getr (pc := 124) C fL_X7_110 dX7_price_124 o_v1 ea11 ?_
      refine r_iload_n (pc := 127) C dX7_price_127 3 rfl ?_
      obtain ⟨o_a11, h⟩ := h
      obtain ⟨i12, a13, ea13, h⟩ := h
      refine r_aald17 (pc := 128) C dX7_price_128 o_a11 i12 ea13 ?_
      obtain ⟨o_a13, h⟩ := h
      refine r_geti (pc := 129) C fL_X7_120 dX7_price_129 o_a13 ?_
      refine r_topi (fun x14 ex14 => ?_)
      have h := h x14 ex14
      refine r_i2l (pc := 132) C dX7_price_132 ?_
      refine r_lmul (pc := 133) C dX7_price_133 ?_
      exact r_sub [0, 1, 2, 3, 4, 5, 6, 7, 8, 9] rfl (T_X7_price_134 C E ht hn hX51 hX86 h)
    · have h := h.2 c4
      refine r_lconst (pc := 101) C (v := (0 : Int64)) dX7_price_101 (by decide) ?_
      refine r_goto (pc := 102) C (tgt := 134) dX7_price_102 (by decide) ?_
      exact r_sub [0, 1, 2, 3, 4, 5, 6, 7, 8, 9] rfl (T_X7_price_134 C E ht hn hX51 hX86 h)
theorem T_X7_price_86 {X : CX} {Q : HS → Prop} (C : Cx X cX7_price RX7 12 rm_X7_price) (E : ReV X rm_X7_price Q) (ht : (xh X).sig.returnType = none) (hn : (xh X).name = yX7_price.name) {X51 : Nat → Nat → Nat → Int32 → Nat → Int32 → Int32 → HS → Prop} (hX51 : ∀ (v0 : Nat) (v1 : Nat) (v2 : Nat) (v3 : Int32) (v4 : Nat) (v5 : Int32) (v6 : Int32) (S : HS), X51 v0 v1 v2 v3 v4 v5 v6 S → WS X 12 0 0 51 [(0, .ref v0), (1, .ref v1), (2, .ref v2), (3, .int v3), (4, .ref v4), (5, .int v5), (6, .int v6)] [] S) {v0 : Nat} {v1 : Nat} {v2 : Nat} {v3 : Int32} {v4 : Nat} {v5 : Int32} {v6 : Int32} {v7 : Nat} {v8 : Int32} {v9 : Int32} {S : HS} (h : P_X7_price_86 Q X51 v0 v1 v2 v3 v4 v5 v6 v7 v8 v9 S) : WS X 12 0 0 86 [(0, .ref v0), (1, .ref v1), (2, .ref v2), (3, .int v3), (4, .ref v4), (5, .int v5), (6, .int v6), (7, .ref v7), (8, .int v8), (9, .int v9)] [] S :=
  h (fun v0 v1 v2 v3 v4 v5 v6 v7 v8 v9 S => WS X 12 0 0 86 [(0, .ref v0), (1, .ref v1), (2, .ref v2), (3, .int v3), (4, .ref v4), (5, .int v5), (6, .int v6), (7, .ref v7), (8, .int v8), (9, .int v9)] [] S) (fun v0 v1 v2 v3 v4 v5 v6 v7 v8 v9 S hh => TB_X7_price_86 C E ht hn hX51 (fun v0 v1 v2 v3 v4 v5 v6 v7 v8 v9 S z => z) hh)
def P_X7_price_245 (Q : HS → Prop) (X179 : Nat → Nat → Int32 → Nat → Int32 → Int32 → HS → Prop) (v0 : Nat) (v1 : Nat) (v3 : Int32) (v4 : Nat) (v5 : Int32) (v6 : Int32) (S : HS) : Prop := ∀ x1 : Int32, x1 = v6 + (1 : Int32) → (X179 v0 v1 v3 v4 v5 x1 S)
set_option maxRecDepth 20000 in
set_option maxHeartbeats 4000000 in
theorem T_X7_price_245 {X : CX} {Q : HS → Prop} (C : Cx X cX7_price RX7 12 rm_X7_price) (E : ReV X rm_X7_price Q) (ht : (xh X).sig.returnType = none) (hn : (xh X).name = yX7_price.name) {X179 : Nat → Nat → Int32 → Nat → Int32 → Int32 → HS → Prop} (hX179 : ∀ (v0 : Nat) (v1 : Nat) (v3 : Int32) (v4 : Nat) (v5 : Int32) (v6 : Int32) (S : HS), X179 v0 v1 v3 v4 v5 v6 S → WS X 12 0 0 179 [(0, .ref v0), (1, .ref v1), (3, .int v3), (4, .ref v4), (5, .int v5), (6, .int v6)] [] S) {v0 : Nat} {v1 : Nat} {v3 : Int32} {v4 : Nat} {v5 : Int32} {v6 : Int32} {S : HS} (h : P_X7_price_245 Q X179 v0 v1 v3 v4 v5 v6 S) : WS X 12 0 0 245 [(0, .ref v0), (1, .ref v1), (3, .int v3), (4, .ref v4), (5, .int v5), (6, .int v6)] [] S := by
  obtain ⟨x1, ex1⟩ : ∃ z : Int32, z = v6 + (1 : Int32) := ⟨_, rfl⟩
  have h := h x1 ex1
  refine r_iinc (pc := 245) C (v := x1) (lv' := [(6, .int x1), (0, .ref v0), (1, .ref v1), (3, .int v3), (4, .ref v4), (5, .int v5)]) dX7_price_245 5 rfl ex1.symm (by decide) rfl ?_
  refine r_goto (pc := 248) C (tgt := 179) dX7_price_248 (by decide) ?_
  exact r_sub [1, 2, 3, 4, 5, 0] rfl (hX179 v0 v1 v3 v4 v5 x1 S h)
def P_X7_price_230 (Q : HS → Prop) (X179 : Nat → Nat → Int32 → Nat → Int32 → Int32 → HS → Prop) (v0 : Nat) (v1 : Nat) (v3 : Int32) (v4 : Nat) (v5 : Int32) (v6 : Int32) (s0 : Int64) (S : HS) : Prop := ob S v0 7 ∧ (P_X7_addMove v0 v6 v6 (1 : Int32) s0 (-2 : Int32) (fun S1 => Gr S S1 → (P_X7_price_245 Q X179 v0 v1 v3 v4 v5 v6 S1)) S)
set_option maxRecDepth 20000 in
set_option maxHeartbeats 4000000 in
theorem T_X7_price_230 {X : CX} {Q : HS → Prop} (C : Cx X cX7_price RX7 12 rm_X7_price) (E : ReV X rm_X7_price Q) (ht : (xh X).sig.returnType = none) (hn : (xh X).name = yX7_price.name) {X179 : Nat → Nat → Int32 → Nat → Int32 → Int32 → HS → Prop} (hX179 : ∀ (v0 : Nat) (v1 : Nat) (v3 : Int32) (v4 : Nat) (v5 : Int32) (v6 : Int32) (S : HS), X179 v0 v1 v3 v4 v5 v6 S → WS X 12 0 0 179 [(0, .ref v0), (1, .ref v1), (3, .int v3), (4, .ref v4), (5, .int v5), (6, .int v6)] [] S) {v0 : Nat} {v1 : Nat} {v3 : Int32} {v4 : Nat} {v5 : Int32} {v6 : Int32} {s0 : Int64} {S : HS} (h : P_X7_price_230 Q X179 v0 v1 v3 v4 v5 v6 s0 S) : WS X 12 0 0 230 [(0, .ref v0), (1, .ref v1), (3, .int v3), (4, .ref v4), (5, .int v5), (6, .int v6)] [.long s0] S := by
  refine r_lstore (pc := 230) C dX7_price_230 (by decide) (lv' := [(7, .long s0), (0, .ref v0), (1, .ref v1), (3, .int v3), (4, .ref v4), (5, .int v5), (6, .int v6)]) rfl ?_
  refine r_aload_n (pc := 232) C dX7_price_232 1 rfl ?_
  refine r_iload (pc := 233) C dX7_price_233 6 rfl ?_
  refine r_iload (pc := 235) C dX7_price_235 6 rfl ?_
  refine r_iconst (pc := 237) C (v := (1 : Int32)) dX7_price_237 (by decide) ?_
  refine r_lload (pc := 238) C dX7_price_238 0 rfl ?_
  refine r_bipush (pc := 240) C (v := (-2 : Int32)) dX7_price_240 (by decide) ?_
  obtain ⟨o_v0, h⟩ := h
  refine r_callVv0 (pc := 242) C (rest := []) (a := v0) o_v0 [.int v6, .int v6, .int (1 : Int32), .long s0, .int (-2 : Int32)] yV_X7_addMove g_866 (c_X7_addMove h) dX7_price_242 rfl rfl (Nat.le_of_ble_eq_true rfl) ⟨by decide, by decide⟩ ⟨by decide, by decide⟩ ⟨rfl, rfl⟩ (fun S1 h g2 => ?_)
  have h := h g2
  have o_v0 := gr_ob g2 o_v0
  exact r_sub [1, 2, 3, 4, 5, 6] rfl (T_X7_price_245 C E ht hn hX179 h)
def B_X7_price_179 (Q : HS → Prop) (X179 : Nat → Nat → Int32 → Nat → Int32 → Int32 → HS → Prop) (v0 : Nat) (v1 : Nat) (v3 : Int32) (v4 : Nat) (v5 : Int32) (v6 : Int32) (S : HS) : Prop := ob S v1 8 ∧ (∀ x1 : Int32, x1 = fI S v1 2 → (((x1 ≤ v6) → (Q S)) ∧ ((¬ x1 ≤ v6) → (P_X8_canWait v1 v6 (fun x5 S3 => Gr S S3 → bl x5 → (((x5 = 0) → (P_X7_price_245 Q X179 v0 v1 v3 v4 v5 v6 S3)) ∧ ((¬ x5 = 0) → (((v5 = 0) → (P_X8_dripOn v1 v4 v6 (fun x10 S8 => Gr S3 S8 → (∃ a11 : Nat, fR S8 v1 6 = some a11 ∧ (ob S8 a11 17 ∧ (vp_in v3 (hN S8 a11) ∧ ∃ a13 : Nat, fR S8 a11 v3.toNatClampNeg = some a13 ∧ (ob S8 a13 3 ∧ (∀ x14 : Int32, x14 = fI S8 a13 4 → (P_X7_price_230 Q X179 v0 v1 v3 v4 v5 v6 ((x10.toInt64 * (2520 : Int64)) * x14.toInt64) S8))))))) S3)) ∧ ((¬ v5 = 0) → (P_X7_price_230 Q X179 v0 v1 v3 v4 v5 v6 (0 : Int64) S3)))))) S))))
def P_X7_price_179 (Q : HS → Prop) (v0 : Nat) (v1 : Nat) (v3 : Int32) (v4 : Nat) (v5 : Int32) (v6 : Int32) (S : HS) : Prop := ∀ X179 : Nat → Nat → Int32 → Nat → Int32 → Int32 → HS → Prop, (∀ (v0 : Nat) (v1 : Nat) (v3 : Int32) (v4 : Nat) (v5 : Int32) (v6 : Int32) (S : HS), B_X7_price_179 Q X179 v0 v1 v3 v4 v5 v6 S → X179 v0 v1 v3 v4 v5 v6 S) → X179 v0 v1 v3 v4 v5 v6 S
set_option maxRecDepth 20000 in
set_option maxHeartbeats 4000000 in
theorem TB_X7_price_179 {X : CX} {Q : HS → Prop} (C : Cx X cX7_price RX7 12 rm_X7_price) (E : ReV X rm_X7_price Q) (ht : (xh X).sig.returnType = none) (hn : (xh X).name = yX7_price.name) {X179 : Nat → Nat → Int32 → Nat → Int32 → Int32 → HS → Prop} (hX179 : ∀ (v0 : Nat) (v1 : Nat) (v3 : Int32) (v4 : Nat) (v5 : Int32) (v6 : Int32) (S : HS), X179 v0 v1 v3 v4 v5 v6 S → WS X 12 0 0 179 [(0, .ref v0), (1, .ref v1), (3, .int v3), (4, .ref v4), (5, .int v5), (6, .int v6)] [] S) {v0 : Nat} {v1 : Nat} {v3 : Int32} {v4 : Nat} {v5 : Int32} {v6 : Int32} {S : HS} (h : B_X7_price_179 Q X179 v0 v1 v3 v4 v5 v6 S) : WS X 12 0 0 179 [(0, .ref v0), (1, .ref v1), (3, .int v3), (4, .ref v4), (5, .int v5), (6, .int v6)] [] S := by
  refine r_iload (pc := 179) C dX7_price_179 5 rfl ?_
  refine r_aload_n (pc := 181) C dX7_price_181 1 rfl ?_
  obtain ⟨o_v1, h⟩ := h
  refine r_geti (pc := 182) C fL_X7_75 dX7_price_182 o_v1 ?_
  refine r_topi (fun x1 ex1 => ?_)
  have h := h x1 ex1
  refine r_icmp_ge (pc := 185) C (tgt := 251) dX7_price_185 (by decide) (fun c2 => ?_) (fun c2 => ?_)
  · have h := h.1 c2
    exact r_vret (pc := 251) C E ht dX7_price_251 (by decide) (by decide) h
  · have h := h.2 c2
    refine r_aload_n (pc := 188) C dX7_price_188 1 rfl ?_
    refine r_iload (pc := 189) C dX7_price_189 5 rfl ?_
    refine r_callVi0 (pc := 191) C (rest := []) (a := v1) o_v1 [.int v6] yV_X8_canWait g_870 (c_X8_canWait h) dX7_price_191 rfl rfl (Nat.le_of_ble_eq_true rfl) ⟨by decide, by decide⟩ ⟨by decide, by decide⟩ ⟨rfl, rfl⟩ (fun x5 S3 h g4 => ?_)
    have bx5 := h.1
    have h := h.2 g4 bx5
    have o_v1 := gr_ob g4 o_v1
    refine r_if_eq (pc := 194) C (tgt := 245) dX7_price_194 (by decide) (fun c6 => ?_) (fun c6 => ?_)
    · have h := h.1 c6
      exact r_sub [0, 1, 2, 3, 4, 5] rfl (T_X7_price_245 C E ht hn hX179 h)
    · have h := h.2 c6
      refine r_iload (pc := 197) C dX7_price_197 4 rfl ?_
      refine r_if_eq (pc := 199) C (tgt := 206) dX7_price_199 (by decide) (fun c7 => ?_) (fun c7 => ?_)
      · have h := h.1 c7
        refine r_aload_n (pc := 206) C dX7_price_206 1 rfl ?_
        refine r_aload (pc := 207) C dX7_price_207 3 rfl ?_
        refine r_iload (pc := 209) C dX7_price_209 5 rfl ?_
        refine r_callVi0 (pc := 211) C (rest := []) (a := v1) o_v1 [.ref v4, .int v6] yV_X8_dripOn g_875 (c_X8_dripOn h) dX7_price_211 rfl rfl (Nat.le_of_ble_eq_true rfl) ⟨by decide, by decide⟩ ⟨by decide, by decide⟩ ⟨rfl, rfl⟩ (fun x10 S8 h g9 => ?_)
        have h := h g9
        have o_v1 := gr_ob g9 o_v1
        refine r_i2l (pc := 214) C dX7_price_214 ?_
        refine r_ldc2 (pc := 215) C (v := (2520 : Int64)) dX7_price_215 g_882 ?_
        refine r_lmul (pc := 218) C dX7_price_218 ?_
        refine r_aload_n (pc := 219) C dX7_price_219 1 rfl ?_
        obtain ⟨a11, ea11, h⟩ := h
        refine r_getr (pc := 220) C fL_X7_110 dX7_price_220 o_v1 ea11 ?_
        refine r_iload_n (pc := 223) C dX7_price_223 2 rfl ?_
        obtain ⟨o_a11, h⟩ := h
        obtain ⟨i12, a13, ea13, h⟩ := h
        refine r_aald17 (pc := 224) C dX7_price_224 o_a11 i12 ea13 ?_
        obtain ⟨o_a13, h⟩ := h
        refine r_geti (pc := 225) C fL_X7_120 dX7_price_225 o_a13 ?_
        refine r_topi (fun x14 ex14 => ?_)
        have h := h x14 ex14
        refine r_i2l (pc := 228) C dX7_price_228 ?_
        refine r_lmul (pc := 229) C dX7_price_229 ?_
        exact r_sub [0, 1, 2, 3, 4, 5] rfl (T_X7_price_230 C E ht hn hX179 h)
      · have h := h.2 c7
        refine r_lconst (pc := 202) C (v := (0 : Int64)) dX7_price_202 (by decide) ?_
        refine r_goto (pc := 203) C (tgt := 230) dX7_price_203 (by decide) ?_
        exact r_sub [0, 1, 2, 3, 4, 5] rfl (T_X7_price_230 C E ht hn hX179 h)
theorem T_X7_price_179 {X : CX} {Q : HS → Prop} (C : Cx X cX7_price RX7 12 rm_X7_price) (E : ReV X rm_X7_price Q) (ht : (xh X).sig.returnType = none) (hn : (xh X).name = yX7_price.name) {v0 : Nat} {v1 : Nat} {v3 : Int32} {v4 : Nat} {v5 : Int32} {v6 : Int32} {S : HS} (h : P_X7_price_179 Q v0 v1 v3 v4 v5 v6 S) : WS X 12 0 0 179 [(0, .ref v0), (1, .ref v1), (3, .int v3), (4, .ref v4), (5, .int v5), (6, .int v6)] [] S :=
  h (fun v0 v1 v3 v4 v5 v6 S => WS X 12 0 0 179 [(0, .ref v0), (1, .ref v1), (3, .int v3), (4, .ref v4), (5, .int v5), (6, .int v6)] [] S) (fun v0 v1 v3 v4 v5 v6 S hh => TB_X7_price_179 C E ht hn (fun v0 v1 v3 v4 v5 v6 S z => z) hh)
def B_X7_price_51 (Q : HS → Prop) (X51 : Nat → Nat → Nat → Int32 → Nat → Int32 → Int32 → HS → Prop) (v0 : Nat) (v1 : Nat) (v2 : Nat) (v3 : Int32) (v4 : Nat) (v5 : Int32) (v6 : Int32) (S : HS) : Prop := ob S v1 8 ∧ (∀ x1 : Int32, x1 = fI S v1 3 → (((((2 : Int32) * x1) ≤ v6) → (P_X7_price_179 Q v0 v1 v3 v4 v5 (0 : Int32) S)) ∧ ((¬ ((2 : Int32) * x1) ≤ v6) → (∃ a3 : Nat, fR S v1 8 = some a3 ∧ (∀ x4 : Int32, x4 = v6 / (2 : Int32) → (ob S a3 18 ∧ (vp_in x4 (hN S a3) ∧ ∃ a6 : Nat, fR S a3 x4.toNatClampNeg = some a6 ∧ (∀ x7 : Int32, x7 = v6 - v6 / (2 : Int32) * (2 : Int32) → (ob S v4 6 ∧ (∀ x8 : Int32, x8 = fI S v4 5 → (P_X7_price_86 Q X51 v0 v1 v2 v3 v4 v5 v6 a6 x7 x8 S)))))))))))
def P_X7_price_51 (Q : HS → Prop) (v0 : Nat) (v1 : Nat) (v2 : Nat) (v3 : Int32) (v4 : Nat) (v5 : Int32) (v6 : Int32) (S : HS) : Prop := ∀ X51 : Nat → Nat → Nat → Int32 → Nat → Int32 → Int32 → HS → Prop, (∀ (v0 : Nat) (v1 : Nat) (v2 : Nat) (v3 : Int32) (v4 : Nat) (v5 : Int32) (v6 : Int32) (S : HS), B_X7_price_51 Q X51 v0 v1 v2 v3 v4 v5 v6 S → X51 v0 v1 v2 v3 v4 v5 v6 S) → X51 v0 v1 v2 v3 v4 v5 v6 S
set_option maxRecDepth 20000 in
set_option maxHeartbeats 4000000 in
theorem TB_X7_price_51 {X : CX} {Q : HS → Prop} (C : Cx X cX7_price RX7 12 rm_X7_price) (E : ReV X rm_X7_price Q) (ht : (xh X).sig.returnType = none) (hn : (xh X).name = yX7_price.name) {X51 : Nat → Nat → Nat → Int32 → Nat → Int32 → Int32 → HS → Prop} (hX51 : ∀ (v0 : Nat) (v1 : Nat) (v2 : Nat) (v3 : Int32) (v4 : Nat) (v5 : Int32) (v6 : Int32) (S : HS), X51 v0 v1 v2 v3 v4 v5 v6 S → WS X 12 0 0 51 [(0, .ref v0), (1, .ref v1), (2, .ref v2), (3, .int v3), (4, .ref v4), (5, .int v5), (6, .int v6)] [] S) {v0 : Nat} {v1 : Nat} {v2 : Nat} {v3 : Int32} {v4 : Nat} {v5 : Int32} {v6 : Int32} {S : HS} (h : B_X7_price_51 Q X51 v0 v1 v2 v3 v4 v5 v6 S) : WS X 12 0 0 51 [(0, .ref v0), (1, .ref v1), (2, .ref v2), (3, .int v3), (4, .ref v4), (5, .int v5), (6, .int v6)] [] S := by
  refine r_iload (pc := 51) C dX7_price_51 6 rfl ?_
  refine r_iconst (pc := 53) C (v := (2 : Int32)) dX7_price_53 (by decide) ?_
  refine r_aload_n (pc := 54) C dX7_price_54 1 rfl ?_
  obtain ⟨o_v1, h⟩ := h
  refine r_geti (pc := 55) C fL_X7_95 dX7_price_55 o_v1 ?_
  refine r_topi (fun x1 ex1 => ?_)
  have h := h x1 ex1
  refine r_imul (pc := 58) C dX7_price_58 ?_
  refine r_icmp_ge (pc := 59) C (tgt := 176) dX7_price_59 (by decide) (fun c2 => ?_) (fun c2 => ?_)
  · have h := h.1 c2
    refine r_iconst (pc := 176) C (v := (0 : Int32)) dX7_price_176 (by decide) ?_
    refine r_istore (pc := 177) C dX7_price_177 (by decide) (lv' := [(6, .int (0 : Int32)), (0, .ref v0), (1, .ref v1), (2, .ref v2), (3, .int v3), (4, .ref v4), (5, .int v5)]) rfl ?_
    exact r_sub [1, 2, 4, 5, 6, 0] rfl (T_X7_price_179 C E ht hn h)
  · have h := h.2 c2
    refine r_aload_n (pc := 62) C dX7_price_62 1 rfl ?_
    obtain ⟨a3, ea3, h⟩ := h
    refine r_getr (pc := 63) C fL_X7_98 dX7_price_63 o_v1 ea3 ?_
    refine r_iload (pc := 66) C dX7_price_66 6 rfl ?_
    refine r_iconst (pc := 68) C (v := (2 : Int32)) dX7_price_68 (by decide) ?_
    refine r_idiv (pc := 69) C dX7_price_69 (by decide) ?_
    refine r_topi (fun x4 ex4 => ?_)
    have h := h x4 ex4
    obtain ⟨o_a3, h⟩ := h
    obtain ⟨i5, a6, ea6, h⟩ := h
    refine r_aald18 (pc := 70) C dX7_price_70 o_a3 i5 ea6 ?_
    refine r_astore (pc := 71) C dX7_price_71 (by decide) (lv' := [(7, .ref a6), (0, .ref v0), (1, .ref v1), (2, .ref v2), (3, .int v3), (4, .ref v4), (5, .int v5), (6, .int v6)]) rfl ?_
    refine r_iload (pc := 73) C dX7_price_73 7 rfl ?_
    refine r_iconst (pc := 75) C (v := (2 : Int32)) dX7_price_75 (by decide) ?_
    refine r_irem (pc := 76) C dX7_price_76 (by decide) ?_
    refine r_topi (fun x7 ex7 => ?_)
    have h := h x7 ex7
    refine r_istore (pc := 77) C dX7_price_77 (by decide) (lv' := [(8, .int x7), (7, .ref a6), (0, .ref v0), (1, .ref v1), (2, .ref v2), (3, .int v3), (4, .ref v4), (5, .int v5), (6, .int v6)]) rfl ?_
    refine r_aload (pc := 79) C dX7_price_79 6 rfl ?_
    obtain ⟨o_v4, h⟩ := h
    refine r_geti (pc := 81) C fL_X7_102 dX7_price_81 o_v4 ?_
    refine r_topi (fun x8 ex8 => ?_)
    have h := h x8 ex8
    refine r_istore (pc := 84) C dX7_price_84 (by decide) (lv' := [(9, .int x8), (8, .int x7), (7, .ref a6), (0, .ref v0), (1, .ref v1), (2, .ref v2), (3, .int v3), (4, .ref v4), (5, .int v5), (6, .int v6)]) rfl ?_
    exact r_sub [3, 4, 5, 6, 7, 8, 9, 2, 1, 0] rfl (T_X7_price_86 C E ht hn hX51 h)
theorem T_X7_price_51 {X : CX} {Q : HS → Prop} (C : Cx X cX7_price RX7 12 rm_X7_price) (E : ReV X rm_X7_price Q) (ht : (xh X).sig.returnType = none) (hn : (xh X).name = yX7_price.name) {v0 : Nat} {v1 : Nat} {v2 : Nat} {v3 : Int32} {v4 : Nat} {v5 : Int32} {v6 : Int32} {S : HS} (h : P_X7_price_51 Q v0 v1 v2 v3 v4 v5 v6 S) : WS X 12 0 0 51 [(0, .ref v0), (1, .ref v1), (2, .ref v2), (3, .int v3), (4, .ref v4), (5, .int v5), (6, .int v6)] [] S :=
  h (fun v0 v1 v2 v3 v4 v5 v6 S => WS X 12 0 0 51 [(0, .ref v0), (1, .ref v1), (2, .ref v2), (3, .int v3), (4, .ref v4), (5, .int v5), (6, .int v6)] [] S) (fun v0 v1 v2 v3 v4 v5 v6 S hh => TB_X7_price_51 C E ht hn (fun v0 v1 v2 v3 v4 v5 v6 S z => z) hh)
def P_X7_price_46 (Q : HS → Prop) (v0 : Nat) (v1 : Nat) (v2 : Nat) (v3 : Int32) (v4 : Nat) (s0 : Int32) (S : HS) : Prop := P_X7_price_51 Q v0 v1 v2 v3 v4 s0 (0 : Int32) S
set_option maxRecDepth 20000 in
set_option maxHeartbeats 4000000 in
theorem T_X7_price_46 {X : CX} {Q : HS → Prop} (C : Cx X cX7_price RX7 12 rm_X7_price) (E : ReV X rm_X7_price Q) (ht : (xh X).sig.returnType = none) (hn : (xh X).name = yX7_price.name) {v0 : Nat} {v1 : Nat} {v2 : Nat} {v3 : Int32} {v4 : Nat} {s0 : Int32} {S : HS} (h : P_X7_price_46 Q v0 v1 v2 v3 v4 s0 S) : WS X 12 0 0 46 [(0, .ref v0), (1, .ref v1), (2, .ref v2), (3, .int v3), (4, .ref v4)] [.int s0] S := by
  refine r_istore (pc := 46) C dX7_price_46 (by decide) (lv' := [(5, .int s0), (0, .ref v0), (1, .ref v1), (2, .ref v2), (3, .int v3), (4, .ref v4)]) rfl ?_
  refine r_iconst (pc := 48) C (v := (0 : Int32)) dX7_price_48 (by decide) ?_
  refine r_istore (pc := 49) C dX7_price_49 (by decide) (lv' := [(6, .int (0 : Int32)), (5, .int s0), (0, .ref v0), (1, .ref v1), (2, .ref v2), (3, .int v3), (4, .ref v4)]) rfl ?_
  exact r_sub [2, 3, 4, 5, 6, 1, 0] rfl (T_X7_price_51 C E ht hn h)
def P_X7_price_0 (Q : HS → Prop) (v0 : Nat) (v1 : Nat) (v2 : Nat) (v3 : Int32) (S : HS) : Prop := ob S v0 7 ∧ (∀ S1 : HS, S1 = sI S v0 9 v3 → (∀ S2 : HS, S2 = sI S1 v0 3 (0 : Int32) → (∀ x3 : Int32, x3 = fI S2 v0 10 → (ob S2 v1 8 ∧ (P_X8_hasWalker v1 x3 (fun x6 S4 => Gr S2 S4 → bl x6 → (((¬ x6 = 0) → (∃ a8 : Nat, fR S4 v1 9 = some a8 ∧ (∀ x9 : Int32, x9 = fI S4 v0 10 → (ob S4 a8 19 ∧ (vp_in x9 (hN S4 a8) ∧ ∃ a11 : Nat, fR S4 a8 x9.toNatClampNeg = some a11 ∧ (P_X8_hasHour v1 v3 (fun x14 S12 => Gr S4 S12 → bl x14 → (((¬ x14 = 0) → (P_X7_price_46 Q v0 v1 v2 v3 a11 (0 : Int32) S12)) ∧ ((x14 = 0) → (P_X7_price_46 Q v0 v1 v2 v3 a11 (1 : Int32) S12)))) S4)))))) ∧ ((x6 = 0) → (Q S4)))) S2)))))
set_option maxRecDepth 20000 in
set_option maxHeartbeats 4000000 in
theorem T_X7_price_0 {X : CX} {Q : HS → Prop} (C : Cx X cX7_price RX7 12 rm_X7_price) (E : ReV X rm_X7_price Q) (ht : (xh X).sig.returnType = none) (hn : (xh X).name = yX7_price.name) {v0 : Nat} {v1 : Nat} {v2 : Nat} {v3 : Int32} {S : HS} (h : P_X7_price_0 Q v0 v1 v2 v3 S) : WS X 12 0 0 0 [(0, .ref v0), (1, .ref v1), (2, .ref v2), (3, .int v3)] [] S := by
  refine r_aload_n (pc := 0) C dX7_price_0 0 rfl ?_
  refine r_iload_n (pc := 1) C dX7_price_1 3 rfl ?_
  obtain ⟨o_v0, h⟩ := h
  refine r_puti (pc := 2) C pfL_X7_37 dX7_price_2 o_v0 ?_
  refine r_heap (fun S1 eS1 => ?_)
  have h := h S1 eS1
  have o_v0 := ob_I eS1 o_v0
  refine r_aload_n (pc := 5) C dX7_price_5 0 rfl ?_
  refine r_iconst (pc := 6) C (v := (0 : Int32)) dX7_price_6 (by decide) ?_
  refine r_puti (pc := 7) C pfL_X7_82 dX7_price_7 o_v0 ?_
  refine r_heap (fun S2 eS2 => ?_)
  have h := h S2 eS2
  have o_v0 := ob_I eS2 o_v0
  refine r_aload_n (pc := 10) C dX7_price_10 1 rfl ?_
  refine r_aload_n (pc := 11) C dX7_price_11 0 rfl ?_
  refine r_geti (pc := 12) C fL_X7_41 dX7_price_12 o_v0 ?_
  refine r_topi (fun x3 ex3 => ?_)
  have h := h x3 ex3
  obtain ⟨o_v1, h⟩ := h
  refine r_callVi0 (pc := 15) C (rest := []) (a := v1) o_v1 [.int x3] yV_X8_hasWalker g_849 (c_X8_hasWalker h) dX7_price_15 rfl rfl (Nat.le_of_ble_eq_true rfl) ⟨by decide, by decide⟩ ⟨by decide, by decide⟩ ⟨rfl, rfl⟩ (fun x6 S4 h g5 => ?_)
  have bx6 := h.1
  have h := h.2 g5 bx6
  have o_v0 := gr_ob g5 o_v0
  have o_v1 := gr_ob g5 o_v1
  refine r_if_ne (pc := 18) C (tgt := 22) dX7_price_18 (by decide) (fun c7 => ?_) (fun c7 => ?_)
  · have h := h.1 c7
    refine r_aload_n (pc := 22) C dX7_price_22 1 rfl ?_
    obtain ⟨a8, ea8, h⟩ := h
    refine r_getr (pc := 23) C fL_X7_89 dX7_price_23 o_v1 ea8 ?_
    refine r_aload_n (pc := 26) C dX7_price_26 0 rfl ?_
    refine r_geti (pc := 27) C fL_X7_41 dX7_price_27 o_v0 ?_
    refine r_topi (fun x9 ex9 => ?_)
    have h := h x9 ex9
    obtain ⟨o_a8, h⟩ := h
    obtain ⟨i10, a11, ea11, h⟩ := h
    refine r_aald19 (pc := 30) C dX7_price_30 o_a8 i10 ea11 ?_
    refine r_astore (pc := 31) C dX7_price_31 (by decide) (lv' := [(4, .ref a11), (0, .ref v0), (1, .ref v1), (2, .ref v2), (3, .int v3)]) rfl ?_
    refine r_aload_n (pc := 33) C dX7_price_33 2 rfl ?_
    refine r_iload_n (pc := 34) C dX7_price_34 4 rfl ?_
    refine r_callVi0 (pc := 35) C (rest := []) (a := v1) o_v1 [.int v3] yV_X8_hasHour g_850 (c_X8_hasHour h) dX7_price_35 rfl rfl (Nat.le_of_ble_eq_true rfl) ⟨by decide, by decide⟩ ⟨by decide, by decide⟩ ⟨rfl, rfl⟩ (fun x14 S12 h g13 => ?_)
    have bx14 := h.1
    have h := h.2 g13 bx14
    have o_a8 := gr_ob g13 o_a8
    have o_v0 := gr_ob g13 o_v0
    have o_v1 := gr_ob g13 o_v1
    refine r_if_ne (pc := 38) C (tgt := 45) dX7_price_38 (by decide) (fun c15 => ?_) (fun c15 => ?_)
    · have h := h.1 c15
      refine r_iconst (pc := 45) C (v := (0 : Int32)) dX7_price_45 (by decide) ?_
      exact r_sub [1, 2, 3, 4, 0] rfl (T_X7_price_46 C E ht hn h)
    · have h := h.2 c15
      refine r_iconst (pc := 41) C (v := (1 : Int32)) dX7_price_41 (by decide) ?_
      refine r_goto (pc := 42) C (tgt := 46) dX7_price_42 (by decide) ?_
      exact r_sub [1, 2, 3, 4, 0] rfl (T_X7_price_46 C E ht hn h)
  · have h := h.2 c7
    exact r_vret (pc := 21) C E ht dX7_price_21 (by decide) (by decide) h
def P_X7_price (v0 : Nat) (v1 : Nat) (v2 : Nat) (v3 : Int32) (Q : HS → Prop) (S : HS) : Prop := P_X7_price_0 Q v0 v1 v2 v3 S
theorem c_X7_price {l : Launch} {Ee : EE} {S : HS} {v0 : Nat} {v1 : Nat} {v2 : Nat} {v3 : Int32} {Q : HS → Prop} (h : P_X7_price v0 v1 v2 v3 Q S) : MV l yX7_price cX7_price 12 none rm_X7_price Ee S [.ref v0, .ref v1, .ref v2, .int v3] Q :=
  openV (by decide) (Nat.le_of_ble_eq_true rfl) (fun X C E ht hn hE hl => by subst hE; exact r_sub [0, 1, 2, 3] rfl (T_X7_price_0 C E ht hn h))
def rm_X7_reckonMinute : Room := { frames := 0, cells := 0, slots := 0, locals := 0 }
def P_X7_reckonMinute_40 (Q : HS → Prop) (X2 : Nat → Int32 → Int32 → Int32 → HS → Prop) (v0 : Nat) (v1 : Int32) (v2 : Int32) (v3 : Int32) (s0 : Nat) (s1 : Int32) (s2 : Int64) (S : HS) : Prop := ob S s0 14 ∧ (vp_in s1 (hN S s0) ∧ (∀ S2 : HS, S2 = sJ S s0 s1.toNatClampNeg s2 → (ob S2 v0 7 ∧ (∃ a3 : Nat, fR S2 v0 2 = some a3 ∧ (ob S2 a3 13 ∧ (vp_in ((v3 * (401 : Int32)) + v2) (hN S2 a3) ∧ (∀ S5 : HS, S5 = sI S2 a3 ((v3 * (401 : Int32)) + v2).toNatClampNeg (-1 : Int32) → (∀ x6 : Int32, x6 = v3 + (1 : Int32) → (X2 v0 v1 v2 x6 S5)))))))))
set_option maxRecDepth 20000 in
set_option maxHeartbeats 4000000 in
theorem T_X7_reckonMinute_40 {X : CX} {Q : HS → Prop} (C : Cx X cX7_reckonMinute RX7 9 rm_X7_reckonMinute) (E : ReV X rm_X7_reckonMinute Q) (ht : (xh X).sig.returnType = none) (hn : (xh X).name = yX7_reckonMinute.name) {X2 : Nat → Int32 → Int32 → Int32 → HS → Prop} (hX2 : ∀ (v0 : Nat) (v1 : Int32) (v2 : Int32) (v3 : Int32) (S : HS), X2 v0 v1 v2 v3 S → WS X 9 0 0 2 [(0, .ref v0), (1, .int v1), (2, .int v2), (3, .int v3)] [] S) {v0 : Nat} {v1 : Int32} {v2 : Int32} {v3 : Int32} {s0 : Nat} {s1 : Int32} {s2 : Int64} {S : HS} (h : P_X7_reckonMinute_40 Q X2 v0 v1 v2 v3 s0 s1 s2 S) : WS X 9 0 0 40 [(0, .ref v0), (1, .int v1), (2, .int v2), (3, .int v3)] [.long s2, .int s1, .ref s0] S := by
  obtain ⟨o_s0, h⟩ := h
  obtain ⟨i1, h⟩ := h
  refine r_last (pc := 40) C dX7_reckonMinute_40 o_s0 i1 ?_
  refine r_heap (fun S2 eS2 => ?_)
  have h := h S2 eS2
  have o_s0 := ob_J eS2 o_s0
  refine r_aload_n (pc := 41) C dX7_reckonMinute_41 0 rfl ?_
  obtain ⟨o_v0, h⟩ := h
  obtain ⟨a3, ea3, h⟩ := h
  refine r_getr (pc := 42) C fL_X7_19 dX7_reckonMinute_42 o_v0 ea3 ?_
  refine r_iload_n (pc := 45) C dX7_reckonMinute_45 3 rfl ?_
  refine r_sipush (pc := 46) C (v := (401 : Int32)) dX7_reckonMinute_46 (by decide) ?_
  refine r_imul (pc := 49) C dX7_reckonMinute_49 ?_
  refine r_iload_n (pc := 50) C dX7_reckonMinute_50 2 rfl ?_
  refine r_iadd (pc := 51) C dX7_reckonMinute_51 ?_
  refine r_iconst (pc := 52) C (v := (-1 : Int32)) dX7_reckonMinute_52 (by decide) ?_
  obtain ⟨o_a3, h⟩ := h
  obtain ⟨i4, h⟩ := h
  refine r_iast (pc := 53) C dX7_reckonMinute_53 o_a3 i4 ?_
  refine r_heap (fun S5 eS5 => ?_)
  have h := h S5 eS5
  have o_a3 := ob_I eS5 o_a3
  have o_s0 := ob_I eS5 o_s0
  have o_v0 := ob_I eS5 o_v0
  obtain ⟨x6, ex6⟩ : ∃ z : Int32, z = v3 + (1 : Int32) := ⟨_, rfl⟩
  have h := h x6 ex6
  refine r_iinc (pc := 54) C (v := x6) (lv' := [(3, .int x6), (0, .ref v0), (1, .int v1), (2, .int v2)]) dX7_reckonMinute_54 3 rfl ex6.symm (by decide) rfl ?_
  refine r_goto (pc := 57) C (tgt := 2) dX7_reckonMinute_57 (by decide) ?_
  exact r_sub [1, 2, 3, 0] rfl (hX2 v0 v1 v2 x6 S5 h)
def P_X7_reckonMinute_219 (Q : HS → Prop) (X62 : Nat → Int32 → Int32 → HS → Prop) (v0 : Nat) (v2 : Int32) (v3 : Int32) (S : HS) : Prop := ∀ x1 : Int32, x1 = v3 + (1 : Int32) → (X62 v0 v2 x1 S)
set_option maxRecDepth 20000 in
set_option maxHeartbeats 4000000 in
theorem T_X7_reckonMinute_219 {X : CX} {Q : HS → Prop} (C : Cx X cX7_reckonMinute RX7 9 rm_X7_reckonMinute) (E : ReV X rm_X7_reckonMinute Q) (ht : (xh X).sig.returnType = none) (hn : (xh X).name = yX7_reckonMinute.name) {X62 : Nat → Int32 → Int32 → HS → Prop} (hX62 : ∀ (v0 : Nat) (v2 : Int32) (v3 : Int32) (S : HS), X62 v0 v2 v3 S → WS X 9 0 0 62 [(0, .ref v0), (2, .int v2), (3, .int v3)] [] S) {v0 : Nat} {v2 : Int32} {v3 : Int32} {S : HS} (h : P_X7_reckonMinute_219 Q X62 v0 v2 v3 S) : WS X 9 0 0 219 [(0, .ref v0), (2, .int v2), (3, .int v3)] [] S := by
  obtain ⟨x1, ex1⟩ : ∃ z : Int32, z = v3 + (1 : Int32) := ⟨_, rfl⟩
  have h := h x1 ex1
  refine r_iinc (pc := 219) C (v := x1) (lv' := [(3, .int x1), (0, .ref v0), (2, .int v2)]) dX7_reckonMinute_219 2 rfl ex1.symm (by decide) rfl ?_
  refine r_goto (pc := 222) C (tgt := 62) dX7_reckonMinute_222 (by decide) ?_
  exact r_sub [1, 2, 0] rfl (hX62 v0 v2 x1 S h)
def P_X7_reckonMinute_117 (Q : HS → Prop) (X62 : Nat → Int32 → Int32 → HS → Prop) (v0 : Nat) (v2 : Int32) (v3 : Int32) (v4 : Int32) (v5 : Int32) (s0 : Int32) (S : HS) : Prop := ((s0 = 0) → (P_X7_reckonMinute_219 Q X62 v0 v2 v3 S)) ∧ ((¬ s0 = 0) → (((v4 < 0) → (P_X7_reckonMinute_219 Q X62 v0 v2 v3 S)) ∧ ((¬ v4 < 0) → (ob S v0 7 ∧ (∃ a3 : Nat, fR S v0 1 = some a3 ∧ (ob S a3 14 ∧ ((((nI (hN S a3)) ≤ v4) → (P_X7_reckonMinute_219 Q X62 v0 v2 v3 S)) ∧ ((¬ (nI (hN S a3)) ≤ v4) → (((v5 < 0) → (P_X7_reckonMinute_219 Q X62 v0 v2 v3 S)) ∧ ((¬ v5 < 0) → (∃ a6 : Nat, fR S v0 1 = some a6 ∧ (ob S a6 14 ∧ ((((nI (hN S a6)) ≤ v5) → (P_X7_reckonMinute_219 Q X62 v0 v2 v3 S)) ∧ ((¬ (nI (hN S a6)) ≤ v5) → (∃ a8 : Nat, fR S v0 1 = some a8 ∧ (ob S a8 14 ∧ (vp_in v5 (hN S a8) ∧ ∀ x10 : Int64, x10 = fJ S a8 v5.toNatClampNeg → ((((lg_cmp x10 (4611686018427387904 : Int64)) = 0) → (P_X7_reckonMinute_219 Q X62 v0 v2 v3 S)) ∧ ((¬ (lg_cmp x10 (4611686018427387904 : Int64)) = 0) → (∃ a12 : Nat, fR S v0 7 = some a12 ∧ (ob S a12 14 ∧ (vp_in v3 (hN S a12) ∧ ∀ x14 : Int64, x14 = fJ S a12 v3.toNatClampNeg → (∃ a15 : Nat, fR S v0 1 = some a15 ∧ (ob S a15 14 ∧ (vp_in v5 (hN S a15) ∧ ∀ x17 : Int64, x17 = fJ S a15 v5.toNatClampNeg → (∀ x18 : Int64, x18 = x14 + x17 → (∃ a19 : Nat, fR S v0 1 = some a19 ∧ (ob S a19 14 ∧ (vp_in v4 (hN S a19) ∧ ∀ x21 : Int64, x21 = fJ S a19 v4.toNatClampNeg → (((0 ≤ (lg_cmp x18 x21)) → (P_X7_reckonMinute_219 Q X62 v0 v2 v3 S)) ∧ ((¬ 0 ≤ (lg_cmp x18 x21)) → (∃ a23 : Nat, fR S v0 1 = some a23 ∧ (ob S a23 14 ∧ (vp_in v4 (hN S a23) ∧ (∀ S25 : HS, S25 = sJ S a23 v4.toNatClampNeg x18 → (∃ a26 : Nat, fR S25 v0 2 = some a26 ∧ (∃ a27 : Nat, fR S25 v0 8 = some a27 ∧ (ob S25 a27 13 ∧ (vp_in v3 (hN S25 a27) ∧ ∀ x29 : Int32, x29 = fI S25 a27 v3.toNatClampNeg → (ob S25 a26 13 ∧ (vp_in v4 (hN S25 a26) ∧ (∀ S31 : HS, S31 = sI S25 a26 v4.toNatClampNeg x29 → (P_X7_reckonMinute_219 Q X62 v0 v2 v3 S31)))))))))))))))))))))))))))))))))))))))))))
set_option maxRecDepth 20000 in
set_option maxHeartbeats 4000000 in
theorem T_X7_reckonMinute_117 {X : CX} {Q : HS → Prop} (C : Cx X cX7_reckonMinute RX7 9 rm_X7_reckonMinute) (E : ReV X rm_X7_reckonMinute Q) (ht : (xh X).sig.returnType = none) (hn : (xh X).name = yX7_reckonMinute.name) {X62 : Nat → Int32 → Int32 → HS → Prop} (hX62 : ∀ (v0 : Nat) (v2 : Int32) (v3 : Int32) (S : HS), X62 v0 v2 v3 S → WS X 9 0 0 62 [(0, .ref v0), (2, .int v2), (3, .int v3)] [] S) {v0 : Nat} {v2 : Int32} {v3 : Int32} {v4 : Int32} {v5 : Int32} {s0 : Int32} {S : HS} (h : P_X7_reckonMinute_117 Q X62 v0 v2 v3 v4 v5 s0 S) : WS X 9 0 0 117 [(0, .ref v0), (2, .int v2), (3, .int v3), (4, .int v4), (5, .int v5)] [.int s0] S := by
  refine r_istore (pc := 117) C dX7_reckonMinute_117 (by decide) (lv' := [(6, .int s0), (0, .ref v0), (2, .int v2), (3, .int v3), (4, .int v4), (5, .int v5)]) rfl ?_
  refine r_iload (pc := 119) C dX7_reckonMinute_119 0 rfl ?_
  refine r_if_eq (pc := 121) C (tgt := 219) dX7_reckonMinute_121 (by decide) (fun c1 => ?_) (fun c1 => ?_)
  · have h := h.1 c1
    exact r_sub [1, 2, 3] rfl (T_X7_reckonMinute_219 C E ht hn hX62 h)
  · have h := h.2 c1
    refine r_iload (pc := 124) C dX7_reckonMinute_124 4 rfl ?_
    refine r_if_lt (pc := 126) C (tgt := 219) dX7_reckonMinute_126 (by decide) (fun c2 => ?_) (fun c2 => ?_)
    · have h := h.1 c2
      exact r_sub [1, 2, 3] rfl (T_X7_reckonMinute_219 C E ht hn hX62 h)
    · have h := h.2 c2
      refine r_iload (pc := 129) C dX7_reckonMinute_129 4 rfl ?_
      refine r_aload_n (pc := 131) C dX7_reckonMinute_131 1 rfl ?_
      obtain ⟨o_v0, h⟩ := h
      obtain ⟨a3, ea3, h⟩ := h
      refine r_getr (pc := 132) C fL_X7_15 dX7_reckonMinute_132 o_v0 ea3 ?_
      obtain ⟨o_a3, h⟩ := h
      refine r_alen14 (pc := 135) C dX7_reckonMinute_135 o_a3 ?_
      refine r_icmp_ge (pc := 136) C (tgt := 219) dX7_reckonMinute_136 (by decide) (fun c4 => ?_) (fun c4 => ?_)
      · have h := h.1 c4
        exact r_sub [1, 2, 3] rfl (T_X7_reckonMinute_219 C E ht hn hX62 h)
      · have h := h.2 c4
        refine r_iload (pc := 139) C dX7_reckonMinute_139 5 rfl ?_
        refine r_if_lt (pc := 141) C (tgt := 219) dX7_reckonMinute_141 (by decide) (fun c5 => ?_) (fun c5 => ?_)
        · have h := h.1 c5
          exact r_sub [1, 2, 3] rfl (T_X7_reckonMinute_219 C E ht hn hX62 h)
        · have h := h.2 c5
          refine r_iload (pc := 144) C dX7_reckonMinute_144 5 rfl ?_
          refine r_aload_n (pc := 146) C dX7_reckonMinute_146 1 rfl ?_
          obtain ⟨a6, ea6, h⟩ := h
          refine r_getr (pc := 147) C fL_X7_15 dX7_reckonMinute_147 o_v0 ea6 ?_
          obtain ⟨o_a6, h⟩ := h
          refine r_alen14 (pc := 150) C dX7_reckonMinute_150 o_a6 ?_
          refine r_icmp_ge (pc := 151) C (tgt := 219) dX7_reckonMinute_151 (by decide) (fun c7 => ?_) (fun c7 => ?_)
          · have h := h.1 c7
            exact r_sub [1, 2, 3] rfl (T_X7_reckonMinute_219 C E ht hn hX62 h)
          · have h := h.2 c7
            refine r_aload_n (pc := 154) C dX7_reckonMinute_154 1 rfl ?_
            obtain ⟨a8, ea8, h⟩ := h
            refine r_getr (pc := 155) C fL_X7_15 dX7_reckonMinute_155 o_v0 ea8 ?_
            refine r_iload (pc := 158) C dX7_reckonMinute_158 5 rfl ?_
            obtain ⟨o_a8, h⟩ := h
            obtain ⟨i9, h⟩ := h
            refine r_lald (pc := 160) C dX7_reckonMinute_160 o_a8 i9 ?_
            refine r_topl (fun x10 ex10 => ?_)
            have h := h x10 ex10
            refine r_ldc2 (pc := 161) C (v := (4611686018427387904 : Int64)) dX7_reckonMinute_161 g_887 ?_
            refine r_lcmp (pc := 164) C dX7_reckonMinute_164 ?_
            refine r_if_eq (pc := 165) C (tgt := 219) dX7_reckonMinute_165 (by decide) (fun c11 => ?_) (fun c11 => ?_)
            · have h := h.1 c11
              exact r_sub [1, 2, 3] rfl (T_X7_reckonMinute_219 C E ht hn hX62 h)
            · have h := h.2 c11
              refine r_aload_n (pc := 168) C dX7_reckonMinute_168 1 rfl ?_
              obtain ⟨a12, ea12, h⟩ := h
              refine r_getr (pc := 169) C fL_X7_31 dX7_reckonMinute_169 o_v0 ea12 ?_
              refine r_iload_n (pc := 172) C dX7_reckonMinute_172 3 rfl ?_
              obtain ⟨o_a12, h⟩ := h
              obtain ⟨i13, h⟩ := h
              refine r_lald (pc := 173) C dX7_reckonMinute_173 o_a12 i13 ?_
              refine r_topl (fun x14 ex14 => ?_)
              have h := h x14 ex14
              refine r_aload_n (pc := 174) C dX7_reckonMinute_174 1 rfl ?_
              obtain ⟨a15, ea15, h⟩ := h
              refine r_getr (pc := 175) C fL_X7_15 dX7_reckonMinute_175 o_v0 ea15 ?_
              refine r_iload (pc := 178) C dX7_reckonMinute_178 5 rfl ?_
              obtain ⟨o_a15, h⟩ := h
              obtain ⟨i16, h⟩ := h
              refine r_lald (pc := 180) C dX7_reckonMinute_180 o_a15 i16 ?_
              refine r_topl (fun x17 ex17 => ?_)
              have h := h x17 ex17
              refine r_ladd (pc := 181) C dX7_reckonMinute_181 ?_
              refine r_topl (fun x18 ex18 => ?_)
              have h := h x18 ex18
              refine r_lstore (pc := 182) C dX7_reckonMinute_182 (by decide) (lv' := [(7, .long x18), (6, .int s0), (0, .ref v0), (2, .int v2), (3, .int v3), (4, .int v4), (5, .int v5)]) rfl ?_
              refine r_lload (pc := 184) C dX7_reckonMinute_184 0 rfl ?_
              refine r_aload_n (pc := 186) C dX7_reckonMinute_186 2 rfl ?_
              obtain ⟨a19, ea19, h⟩ := h
              refine r_getr (pc := 187) C fL_X7_15 dX7_reckonMinute_187 o_v0 ea19 ?_
              refine r_iload (pc := 190) C dX7_reckonMinute_190 5 rfl ?_
              obtain ⟨o_a19, h⟩ := h
              obtain ⟨i20, h⟩ := h
              refine r_lald (pc := 192) C dX7_reckonMinute_192 o_a19 i20 ?_
              refine r_topl (fun x21 ex21 => ?_)
              have h := h x21 ex21
              refine r_lcmp (pc := 193) C dX7_reckonMinute_193 ?_
              refine r_if_ge (pc := 194) C (tgt := 219) dX7_reckonMinute_194 (by decide) (fun c22 => ?_) (fun c22 => ?_)
              · have h := h.1 c22
                exact r_sub [2, 3, 4] rfl (T_X7_reckonMinute_219 C E ht hn hX62 h)
              · have h := h.2 c22
                refine r_aload_n (pc := 197) C dX7_reckonMinute_197 2 rfl ?_
                obtain ⟨a23, ea23, h⟩ := h
                refine r_getr (pc := 198) C fL_X7_15 dX7_reckonMinute_198 o_v0 ea23 ?_
                refine r_iload (pc := 201) C dX7_reckonMinute_201 5 rfl ?_
                refine r_lload (pc := 203) C dX7_reckonMinute_203 0 rfl ?_
                obtain ⟨o_a23, h⟩ := h
                obtain ⟨i24, h⟩ := h
                refine r_last (pc := 205) C dX7_reckonMinute_205 o_a23 i24 ?_
                refine r_heap (fun S25 eS25 => ?_)
                have h := h S25 eS25
                have o_a12 := ob_J eS25 o_a12
                have o_a15 := ob_J eS25 o_a15
                have o_a19 := ob_J eS25 o_a19
                have o_a23 := ob_J eS25 o_a23
                have o_a3 := ob_J eS25 o_a3
                have o_a6 := ob_J eS25 o_a6
                have o_a8 := ob_J eS25 o_a8
                have o_v0 := ob_J eS25 o_v0
                refine r_aload_n (pc := 206) C dX7_reckonMinute_206 2 rfl ?_
                obtain ⟨a26, ea26, h⟩ := h
                refine r_getr (pc := 207) C fL_X7_19 dX7_reckonMinute_207 o_v0 ea26 ?_
                refine r_iload (pc := 210) C dX7_reckonMinute_210 5 rfl ?_
                refine r_aload_n (pc := 212) C dX7_reckonMinute_212 2 rfl ?_
                obtain ⟨a27, ea27, h⟩ := h
                refine r_getr (pc := 213) C fL_X7_34 dX7_reckonMinute_213 o_v0 ea27 ?_
                refine r_iload_n (pc := 216) C dX7_reckonMinute_216 4 rfl ?_
                obtain ⟨o_a27, h⟩ := h
                obtain ⟨i28, h⟩ := h
                refine r_iald (pc := 217) C dX7_reckonMinute_217 o_a27 i28 ?_
                refine r_topi (fun x29 ex29 => ?_)
                have h := h x29 ex29
                obtain ⟨o_a26, h⟩ := h
                obtain ⟨i30, h⟩ := h
                refine r_iast (pc := 218) C dX7_reckonMinute_218 o_a26 i30 ?_
                refine r_heap (fun S31 eS31 => ?_)
                have h := h S31 eS31
                have o_a12 := ob_I eS31 o_a12
                have o_a15 := ob_I eS31 o_a15
                have o_a19 := ob_I eS31 o_a19
                have o_a23 := ob_I eS31 o_a23
                have o_a26 := ob_I eS31 o_a26
                have o_a27 := ob_I eS31 o_a27
                have o_a3 := ob_I eS31 o_a3
                have o_a6 := ob_I eS31 o_a6
                have o_a8 := ob_I eS31 o_a8
                have o_v0 := ob_I eS31 o_v0
                exact r_sub [2, 3, 4] rfl (T_X7_reckonMinute_219 C E ht hn hX62 h)
def B_X7_reckonMinute_62 (Q : HS → Prop) (X62 : Nat → Int32 → Int32 → HS → Prop) (v0 : Nat) (v2 : Int32) (v3 : Int32) (S : HS) : Prop := ob S v0 7 ∧ (∀ x1 : Int32, x1 = fI S v0 3 → (((x1 ≤ v3) → (Q S)) ∧ ((¬ x1 ≤ v3) → ((((224 : Int32) ≤ v3) → (Q S)) ∧ ((¬ (224 : Int32) ≤ v3) → (∃ a4 : Nat, fR S v0 4 = some a4 ∧ (ob S a4 13 ∧ (vp_in v3 (hN S a4) ∧ ∀ x6 : Int32, x6 = fI S a4 v3.toNatClampNeg → (∀ x7 : Int32, x7 = x6 + v2 → (∃ a8 : Nat, fR S v0 5 = some a8 ∧ (ob S a8 13 ∧ (vp_in v3 (hN S a8) ∧ ∀ x10 : Int32, x10 = fI S a8 v3.toNatClampNeg → (∀ x11 : Int32, x11 = x10 + v2 → (∃ a12 : Nat, fR S v0 6 = some a12 ∧ (ob S a12 13 ∧ (vp_in v3 (hN S a12) ∧ ∀ x14 : Int32, x14 = fI S a12 v3.toNatClampNeg → (∀ x15 : Int32, x15 = fI S v0 12 → ((((x15 - v2) < x14) → (P_X7_reckonMinute_117 Q X62 v0 v2 v3 x7 x11 (0 : Int32) S)) ∧ ((¬ (x15 - v2) < x14) → (P_X7_reckonMinute_117 Q X62 v0 v2 v3 x7 x11 (1 : Int32) S))))))))))))))))))))
def P_X7_reckonMinute_62 (Q : HS → Prop) (v0 : Nat) (v2 : Int32) (v3 : Int32) (S : HS) : Prop := ∀ X62 : Nat → Int32 → Int32 → HS → Prop, (∀ (v0 : Nat) (v2 : Int32) (v3 : Int32) (S : HS), B_X7_reckonMinute_62 Q X62 v0 v2 v3 S → X62 v0 v2 v3 S) → X62 v0 v2 v3 S
set_option maxRecDepth 20000 in
set_option maxHeartbeats 4000000 in
theorem TB_X7_reckonMinute_62 {X : CX} {Q : HS → Prop} (C : Cx X cX7_reckonMinute RX7 9 rm_X7_reckonMinute) (E : ReV X rm_X7_reckonMinute Q) (ht : (xh X).sig.returnType = none) (hn : (xh X).name = yX7_reckonMinute.name) {X62 : Nat → Int32 → Int32 → HS → Prop} (hX62 : ∀ (v0 : Nat) (v2 : Int32) (v3 : Int32) (S : HS), X62 v0 v2 v3 S → WS X 9 0 0 62 [(0, .ref v0), (2, .int v2), (3, .int v3)] [] S) {v0 : Nat} {v2 : Int32} {v3 : Int32} {S : HS} (h : B_X7_reckonMinute_62 Q X62 v0 v2 v3 S) : WS X 9 0 0 62 [(0, .ref v0), (2, .int v2), (3, .int v3)] [] S := by
  refine r_iload_n (pc := 62) C dX7_reckonMinute_62 2 rfl ?_
  refine r_aload_n (pc := 63) C dX7_reckonMinute_63 0 rfl ?_
  obtain ⟨o_v0, h⟩ := h
  refine r_geti (pc := 64) C fL_X7_82 dX7_reckonMinute_64 o_v0 ?_
  refine r_topi (fun x1 ex1 => ?_)
  have h := h x1 ex1
  refine r_icmp_ge (pc := 67) C (tgt := 225) dX7_reckonMinute_67 (by decide) (fun c2 => ?_) (fun c2 => ?_)
  · have h := h.1 c2
    exact r_vret (pc := 225) C E ht dX7_reckonMinute_225 (by decide) (by decide) h
  · have h := h.2 c2
    refine r_iload_n (pc := 70) C dX7_reckonMinute_70 2 rfl ?_
    refine r_sipush (pc := 71) C (v := (224 : Int32)) dX7_reckonMinute_71 (by decide) ?_
    refine r_icmp_ge (pc := 74) C (tgt := 225) dX7_reckonMinute_74 (by decide) (fun c3 => ?_) (fun c3 => ?_)
    · have h := h.1 c3
      exact r_vret (pc := 225) C E ht dX7_reckonMinute_225 (by decide) (by decide) h
    · have h := h.2 c3
      refine r_aload_n (pc := 77) C dX7_reckonMinute_77 0 rfl ?_
      obtain ⟨a4, ea4, h⟩ := h
      refine r_getr (pc := 78) C fL_X7_22 dX7_reckonMinute_78 o_v0 ea4 ?_
      refine r_iload_n (pc := 81) C dX7_reckonMinute_81 2 rfl ?_
      obtain ⟨o_a4, h⟩ := h
      obtain ⟨i5, h⟩ := h
      refine r_iald (pc := 82) C dX7_reckonMinute_82 o_a4 i5 ?_
      refine r_topi (fun x6 ex6 => ?_)
      have h := h x6 ex6
      refine r_iload_n (pc := 83) C dX7_reckonMinute_83 1 rfl ?_
      refine r_iadd (pc := 84) C dX7_reckonMinute_84 ?_
      refine r_topi (fun x7 ex7 => ?_)
      have h := h x7 ex7
      refine r_istore (pc := 85) C dX7_reckonMinute_85 (by decide) (lv' := [(4, .int x7), (0, .ref v0), (2, .int v2), (3, .int v3)]) rfl ?_
      refine r_aload_n (pc := 87) C dX7_reckonMinute_87 1 rfl ?_
      obtain ⟨a8, ea8, h⟩ := h
      refine r_getr (pc := 88) C fL_X7_25 dX7_reckonMinute_88 o_v0 ea8 ?_
      refine r_iload_n (pc := 91) C dX7_reckonMinute_91 3 rfl ?_
      obtain ⟨o_a8, h⟩ := h
      obtain ⟨i9, h⟩ := h
      refine r_iald (pc := 92) C dX7_reckonMinute_92 o_a8 i9 ?_
      refine r_topi (fun x10 ex10 => ?_)
      have h := h x10 ex10
      refine r_iload_n (pc := 93) C dX7_reckonMinute_93 2 rfl ?_
      refine r_iadd (pc := 94) C dX7_reckonMinute_94 ?_
      refine r_topi (fun x11 ex11 => ?_)
      have h := h x11 ex11
      refine r_istore (pc := 95) C dX7_reckonMinute_95 (by decide) (lv' := [(5, .int x11), (4, .int x7), (0, .ref v0), (2, .int v2), (3, .int v3)]) rfl ?_
      refine r_aload_n (pc := 97) C dX7_reckonMinute_97 2 rfl ?_
      obtain ⟨a12, ea12, h⟩ := h
      refine r_getr (pc := 98) C fL_X7_28 dX7_reckonMinute_98 o_v0 ea12 ?_
      refine r_iload_n (pc := 101) C dX7_reckonMinute_101 4 rfl ?_
      obtain ⟨o_a12, h⟩ := h
      obtain ⟨i13, h⟩ := h
      refine r_iald (pc := 102) C dX7_reckonMinute_102 o_a12 i13 ?_
      refine r_topi (fun x14 ex14 => ?_)
      have h := h x14 ex14
      refine r_aload_n (pc := 103) C dX7_reckonMinute_103 2 rfl ?_
      refine r_geti (pc := 104) C fL_X7_47 dX7_reckonMinute_104 o_v0 ?_
      refine r_topi (fun x15 ex15 => ?_)
      have h := h x15 ex15
      refine r_iload_n (pc := 107) C dX7_reckonMinute_107 3 rfl ?_
      refine r_isub (pc := 108) C dX7_reckonMinute_108 ?_
      refine r_icmp_gt (pc := 109) C (tgt := 116) dX7_reckonMinute_109 (by decide) (fun c16 => ?_) (fun c16 => ?_)
      · have h := h.1 c16
        refine r_iconst (pc := 116) C (v := (0 : Int32)) dX7_reckonMinute_116 (by decide) ?_
        exact r_sub [2, 3, 4, 1, 0] rfl (T_X7_reckonMinute_117 C E ht hn hX62 h)
      · have h := h.2 c16
        refine r_iconst (pc := 112) C (v := (1 : Int32)) dX7_reckonMinute_112 (by decide) ?_
        refine r_goto (pc := 113) C (tgt := 117) dX7_reckonMinute_113 (by decide) ?_
        exact r_sub [2, 3, 4, 1, 0] rfl (T_X7_reckonMinute_117 C E ht hn hX62 h)
theorem T_X7_reckonMinute_62 {X : CX} {Q : HS → Prop} (C : Cx X cX7_reckonMinute RX7 9 rm_X7_reckonMinute) (E : ReV X rm_X7_reckonMinute Q) (ht : (xh X).sig.returnType = none) (hn : (xh X).name = yX7_reckonMinute.name) {v0 : Nat} {v2 : Int32} {v3 : Int32} {S : HS} (h : P_X7_reckonMinute_62 Q v0 v2 v3 S) : WS X 9 0 0 62 [(0, .ref v0), (2, .int v2), (3, .int v3)] [] S :=
  h (fun v0 v2 v3 S => WS X 9 0 0 62 [(0, .ref v0), (2, .int v2), (3, .int v3)] [] S) (fun v0 v2 v3 S hh => TB_X7_reckonMinute_62 C E ht hn (fun v0 v2 v3 S z => z) hh)
def P_X7_reckonMinute_60 (Q : HS → Prop) (v0 : Nat) (v2 : Int32) (S : HS) : Prop := P_X7_reckonMinute_62 Q v0 v2 (0 : Int32) S
set_option maxRecDepth 20000 in
set_option maxHeartbeats 4000000 in
theorem T_X7_reckonMinute_60 {X : CX} {Q : HS → Prop} (C : Cx X cX7_reckonMinute RX7 9 rm_X7_reckonMinute) (E : ReV X rm_X7_reckonMinute Q) (ht : (xh X).sig.returnType = none) (hn : (xh X).name = yX7_reckonMinute.name) {v0 : Nat} {v2 : Int32} {S : HS} (h : P_X7_reckonMinute_60 Q v0 v2 S) : WS X 9 0 0 60 [(0, .ref v0), (2, .int v2)] [] S := by
  refine r_iconst (pc := 60) C (v := (0 : Int32)) dX7_reckonMinute_60 (by decide) ?_
  refine r_istore_n (pc := 61) C dX7_reckonMinute_61 rfl (by decide) (lv' := [(3, .int (0 : Int32)), (0, .ref v0), (2, .int v2)]) rfl ?_
  exact r_sub [1, 2, 0] rfl (T_X7_reckonMinute_62 C E ht hn h)
def B_X7_reckonMinute_2 (Q : HS → Prop) (X2 : Nat → Int32 → Int32 → Int32 → HS → Prop) (v0 : Nat) (v1 : Int32) (v2 : Int32) (v3 : Int32) (S : HS) : Prop := ((v1 ≤ v3) → (P_X7_reckonMinute_60 Q v0 v2 S)) ∧ ((¬ v1 ≤ v3) → ((((8 : Int32) ≤ v3) → (P_X7_reckonMinute_60 Q v0 v2 S)) ∧ ((¬ (8 : Int32) ≤ v3) → (ob S v0 7 ∧ (∃ a3 : Nat, fR S v0 1 = some a3 ∧ (∀ x4 : Int32, x4 = fI S v0 11 → (((¬ v3 = x4) → (P_X7_reckonMinute_40 Q X2 v0 v1 v2 v3 a3 ((v3 * (401 : Int32)) + v2) (4611686018427387904 : Int64) S)) ∧ ((v3 = x4) → (P_X7_reckonMinute_40 Q X2 v0 v1 v2 v3 a3 ((v3 * (401 : Int32)) + v2) v2.toInt64 S)))))))))
def P_X7_reckonMinute_2 (Q : HS → Prop) (v0 : Nat) (v1 : Int32) (v2 : Int32) (v3 : Int32) (S : HS) : Prop := ∀ X2 : Nat → Int32 → Int32 → Int32 → HS → Prop, (∀ (v0 : Nat) (v1 : Int32) (v2 : Int32) (v3 : Int32) (S : HS), B_X7_reckonMinute_2 Q X2 v0 v1 v2 v3 S → X2 v0 v1 v2 v3 S) → X2 v0 v1 v2 v3 S
set_option maxRecDepth 20000 in
set_option maxHeartbeats 4000000 in
theorem TB_X7_reckonMinute_2 {X : CX} {Q : HS → Prop} (C : Cx X cX7_reckonMinute RX7 9 rm_X7_reckonMinute) (E : ReV X rm_X7_reckonMinute Q) (ht : (xh X).sig.returnType = none) (hn : (xh X).name = yX7_reckonMinute.name) {X2 : Nat → Int32 → Int32 → Int32 → HS → Prop} (hX2 : ∀ (v0 : Nat) (v1 : Int32) (v2 : Int32) (v3 : Int32) (S : HS), X2 v0 v1 v2 v3 S → WS X 9 0 0 2 [(0, .ref v0), (1, .int v1), (2, .int v2), (3, .int v3)] [] S) {v0 : Nat} {v1 : Int32} {v2 : Int32} {v3 : Int32} {S : HS} (h : B_X7_reckonMinute_2 Q X2 v0 v1 v2 v3 S) : WS X 9 0 0 2 [(0, .ref v0), (1, .int v1), (2, .int v2), (3, .int v3)] [] S := by
  refine r_iload_n (pc := 2) C dX7_reckonMinute_2 3 rfl ?_
  refine r_iload_n (pc := 3) C dX7_reckonMinute_3 1 rfl ?_
  refine r_icmp_ge (pc := 4) C (tgt := 60) dX7_reckonMinute_4 (by decide) (fun c1 => ?_) (fun c1 => ?_)
  · have h := h.1 c1
    exact r_sub [0, 2] rfl (T_X7_reckonMinute_60 C E ht hn h)
  · have h := h.2 c1
    refine r_iload_n (pc := 7) C dX7_reckonMinute_7 3 rfl ?_
    refine r_bipush (pc := 8) C (v := (8 : Int32)) dX7_reckonMinute_8 (by decide) ?_
    refine r_icmp_ge (pc := 10) C (tgt := 60) dX7_reckonMinute_10 (by decide) (fun c2 => ?_) (fun c2 => ?_)
    · have h := h.1 c2
      exact r_sub [0, 2] rfl (T_X7_reckonMinute_60 C E ht hn h)
    · have h := h.2 c2
      refine r_aload_n (pc := 13) C dX7_reckonMinute_13 0 rfl ?_
      obtain ⟨o_v0, h⟩ := h
      obtain ⟨a3, ea3, h⟩ := h
      refine r_getr (pc := 14) C fL_X7_15 dX7_reckonMinute_14 o_v0 ea3 ?_
      refine r_iload_n (pc := 17) C dX7_reckonMinute_17 3 rfl ?_
      refine r_sipush (pc := 18) C (v := (401 : Int32)) dX7_reckonMinute_18 (by decide) ?_
      refine r_imul (pc := 21) C dX7_reckonMinute_21 ?_
      refine r_iload_n (pc := 22) C dX7_reckonMinute_22 2 rfl ?_
      refine r_iadd (pc := 23) C dX7_reckonMinute_23 ?_
      refine r_iload_n (pc := 24) C dX7_reckonMinute_24 3 rfl ?_
      refine r_aload_n (pc := 25) C dX7_reckonMinute_25 0 rfl ?_
      refine r_geti (pc := 26) C fL_X7_44 dX7_reckonMinute_26 o_v0 ?_
      refine r_topi (fun x4 ex4 => ?_)
      have h := h x4 ex4
      refine r_icmp_ne (pc := 29) C (tgt := 37) dX7_reckonMinute_29 (by decide) (fun c5 => ?_) (fun c5 => ?_)
      · have h := h.1 c5
        refine r_ldc2 (pc := 37) C (v := (4611686018427387904 : Int64)) dX7_reckonMinute_37 g_887 ?_
        exact r_sub [0, 1, 2, 3] rfl (T_X7_reckonMinute_40 C E ht hn hX2 h)
      · have h := h.2 c5
        refine r_iload_n (pc := 32) C dX7_reckonMinute_32 2 rfl ?_
        refine r_i2l (pc := 33) C dX7_reckonMinute_33 ?_
        refine r_goto (pc := 34) C (tgt := 40) dX7_reckonMinute_34 (by decide) ?_
        exact r_sub [0, 1, 2, 3] rfl (T_X7_reckonMinute_40 C E ht hn hX2 h)
theorem T_X7_reckonMinute_2 {X : CX} {Q : HS → Prop} (C : Cx X cX7_reckonMinute RX7 9 rm_X7_reckonMinute) (E : ReV X rm_X7_reckonMinute Q) (ht : (xh X).sig.returnType = none) (hn : (xh X).name = yX7_reckonMinute.name) {v0 : Nat} {v1 : Int32} {v2 : Int32} {v3 : Int32} {S : HS} (h : P_X7_reckonMinute_2 Q v0 v1 v2 v3 S) : WS X 9 0 0 2 [(0, .ref v0), (1, .int v1), (2, .int v2), (3, .int v3)] [] S :=
  h (fun v0 v1 v2 v3 S => WS X 9 0 0 2 [(0, .ref v0), (1, .int v1), (2, .int v2), (3, .int v3)] [] S) (fun v0 v1 v2 v3 S hh => TB_X7_reckonMinute_2 C E ht hn (fun v0 v1 v2 v3 S z => z) hh)
def P_X7_reckonMinute_0 (Q : HS → Prop) (v0 : Nat) (v1 : Int32) (v2 : Int32) (S : HS) : Prop := P_X7_reckonMinute_2 Q v0 v1 v2 (0 : Int32) S
set_option maxRecDepth 20000 in
set_option maxHeartbeats 4000000 in
theorem T_X7_reckonMinute_0 {X : CX} {Q : HS → Prop} (C : Cx X cX7_reckonMinute RX7 9 rm_X7_reckonMinute) (E : ReV X rm_X7_reckonMinute Q) (ht : (xh X).sig.returnType = none) (hn : (xh X).name = yX7_reckonMinute.name) {v0 : Nat} {v1 : Int32} {v2 : Int32} {S : HS} (h : P_X7_reckonMinute_0 Q v0 v1 v2 S) : WS X 9 0 0 0 [(0, .ref v0), (1, .int v1), (2, .int v2)] [] S := by
  refine r_iconst (pc := 0) C (v := (0 : Int32)) dX7_reckonMinute_0 (by decide) ?_
  refine r_istore_n (pc := 1) C dX7_reckonMinute_1 rfl (by decide) (lv' := [(3, .int (0 : Int32)), (0, .ref v0), (1, .int v1), (2, .int v2)]) rfl ?_
  exact r_sub [1, 2, 3, 0] rfl (T_X7_reckonMinute_2 C E ht hn h)
def P_X7_reckonMinute (v0 : Nat) (v1 : Int32) (v2 : Int32) (Q : HS → Prop) (S : HS) : Prop := P_X7_reckonMinute_0 Q v0 v1 v2 S
theorem c_X7_reckonMinute {l : Launch} {Ee : EE} {S : HS} {v0 : Nat} {v1 : Int32} {v2 : Int32} {Q : HS → Prop} (h : P_X7_reckonMinute v0 v1 v2 Q S) : MV l yX7_reckonMinute cX7_reckonMinute 9 none rm_X7_reckonMinute Ee S [.ref v0, .int v1, .int v2] Q :=
  openV (by decide) (Nat.le_of_ble_eq_true rfl) (fun X C E ht hn hE hl => by subst hE; exact r_sub [0, 1, 2] rfl (T_X7_reckonMinute_0 C E ht hn h))
def rm_X8_hourOf : Room := { frames := 0, cells := 0, slots := 0, locals := 0 }
def P_X8_hourOf_0 (Q : Int32 → HS → Prop) (v0 : Nat) (v1 : Int32) (S : HS) : Prop := ob S v0 8 ∧ (∀ x1 : Int32, x1 = fI S v0 0 → (((x1 ≤ 0) → (Q (0 : Int32) S)) ∧ ((¬ x1 ≤ 0) → (∀ x3 : Int32, x3 = fI S v0 0 → (¬ x3 = 0 ∧ ∀ x5 : Int32, x5 = v1 / x3 → (Q x5 S))))))
set_option maxRecDepth 20000 in
set_option maxHeartbeats 4000000 in
theorem T_X8_hourOf_0 {X : CX} {Q : Int32 → HS → Prop} (C : Cx X cX8_hourOf RX8 2 rm_X8_hourOf) (E : ReI X rm_X8_hourOf Q) (ht : (xh X).sig.returnType = (some .int)) (hn : (xh X).name = yX8_hourOf.name) {v0 : Nat} {v1 : Int32} {S : HS} (h : P_X8_hourOf_0 Q v0 v1 S) : WS X 2 0 0 0 [(0, .ref v0), (1, .int v1)] [] S := by
  refine r_aload_n (pc := 0) C dX8_hourOf_0 0 rfl ?_
  obtain ⟨o_v0, h⟩ := h
  refine r_geti (pc := 1) C fL_X8_42 dX8_hourOf_1 o_v0 ?_
  refine r_topi (fun x1 ex1 => ?_)
  have h := h x1 ex1
  refine r_if_le (pc := 4) C (tgt := 16) dX8_hourOf_4 (by decide) (fun c2 => ?_) (fun c2 => ?_)
  · have h := h.1 c2
    refine r_iconst (pc := 16) C (v := (0 : Int32)) dX8_hourOf_16 (by decide) ?_
    exact r_iret (pc := 17) C E ht dX8_hourOf_17 (by decide) (by decide) h
  · have h := h.2 c2
    refine r_iload_n (pc := 7) C dX8_hourOf_7 1 rfl ?_
    refine r_aload_n (pc := 8) C dX8_hourOf_8 0 rfl ?_
    refine r_geti (pc := 9) C fL_X8_42 dX8_hourOf_9 o_v0 ?_
    refine r_topi (fun x3 ex3 => ?_)
    have h := h x3 ex3
    obtain ⟨q4, h⟩ := h
    refine r_idiv (pc := 12) C dX8_hourOf_12 q4 ?_
    refine r_topi (fun x5 ex5 => ?_)
    have h := h x5 ex5
    refine r_goto (pc := 13) C (tgt := 17) dX8_hourOf_13 (by decide) ?_
    exact r_iret (pc := 17) C E ht dX8_hourOf_17 (by decide) (by decide) h
def P_X8_hourOf (v0 : Nat) (v1 : Int32) (Q : Int32 → HS → Prop) (S : HS) : Prop := P_X8_hourOf_0 Q v0 v1 S
theorem c_X8_hourOf {l : Launch} {Ee : EE} {S : HS} {v0 : Nat} {v1 : Int32} {Q : Int32 → HS → Prop} (h : P_X8_hourOf v0 v1 Q S) : MI l yX8_hourOf cX8_hourOf 2 (some .int) rm_X8_hourOf Ee S [.ref v0, .int v1] Q :=
  openI (by decide) (Nat.le_of_ble_eq_true rfl) (fun X C E ht hn hE hl => by subst hE; exact r_sub [0, 1] rfl (T_X8_hourOf_0 C E ht hn h))
def rm_X7_reckon : Room := { frames := 5, cells := 8, slots := 7937, locals := 132 }
def P_X7_reckon_120 (Q : HS → Prop) (X76 : Nat → Nat → Nat → Int32 → Int32 → HS → Prop) (v0 : Nat) (v1 : Nat) (v2 : Nat) (v6 : Int32) (v7 : Int32) (S : HS) : Prop := ob S v1 8 ∧ (∀ x1 : Int32, x1 = fI S v1 2 → (ob S v0 7 ∧ (P_X7_reckonMinute v0 x1 v7 (fun S2 => Gr S S2 → (∀ S5 : HS, S5 = sI S2 v0 13 v7 → (∀ x6 : Int32, x6 = v7 + (-1 : Int32) → (X76 v0 v1 v2 v6 x6 S5)))) S)))
set_option maxRecDepth 20000 in
set_option maxHeartbeats 4000000 in
theorem T_X7_reckon_120 {X : CX} {Q : HS → Prop} (C : Cx X cX7_reckon RX7 9 rm_X7_reckon) (E : ReV X rm_X7_reckon Q) (ht : (xh X).sig.returnType = none) (hn : (xh X).name = yX7_reckon.name) {X76 : Nat → Nat → Nat → Int32 → Int32 → HS → Prop} (hX76 : ∀ (v0 : Nat) (v1 : Nat) (v2 : Nat) (v6 : Int32) (v7 : Int32) (S : HS), X76 v0 v1 v2 v6 v7 S → WS X 9 8 7937 76 [(0, .ref v0), (1, .ref v1), (2, .ref v2), (6, .int v6), (7, .int v7)] [] S) {v0 : Nat} {v1 : Nat} {v2 : Nat} {v6 : Int32} {v7 : Int32} {S : HS} (h : P_X7_reckon_120 Q X76 v0 v1 v2 v6 v7 S) : WS X 9 8 7937 120 [(0, .ref v0), (1, .ref v1), (2, .ref v2), (6, .int v6), (7, .int v7)] [] S := by
  refine r_aload_n (pc := 120) C dX7_reckon_120 0 rfl ?_
  refine r_aload_n (pc := 121) C dX7_reckon_121 1 rfl ?_
  obtain ⟨o_v1, h⟩ := h
  refine r_geti (pc := 122) C fL_X7_75 dX7_reckon_122 o_v1 ?_
  refine r_topi (fun x1 ex1 => ?_)
  have h := h x1 ex1
  refine r_iload (pc := 125) C dX7_reckon_125 4 rfl ?_
  obtain ⟨o_v0, h⟩ := h
  refine r_callVv0 (pc := 127) C (rest := []) (a := v0) o_v0 [.int x1, .int v7] yV_X7_reckonMinute g_883 (c_X7_reckonMinute h) dX7_reckon_127 rfl rfl (Nat.le_of_ble_eq_true rfl) ⟨by decide, by decide⟩ ⟨by decide, by decide⟩ ⟨rfl, rfl⟩ (fun S2 h g3 => ?_)
  have h := h g3
  have o_v0 := gr_ob g3 o_v0
  have o_v1 := gr_ob g3 o_v1
  refine r_aload_n (pc := 130) C dX7_reckon_130 0 rfl ?_
  refine r_iload (pc := 131) C dX7_reckon_131 4 rfl ?_
  refine r_puti (pc := 133) C pfL_X7_53 dX7_reckon_133 o_v0 ?_
  refine r_heap (fun S5 eS5 => ?_)
  have h := h S5 eS5
  have o_v0 := ob_I eS5 o_v0
  have o_v1 := ob_I eS5 o_v1
  obtain ⟨x6, ex6⟩ : ∃ z : Int32, z = v7 + (-1 : Int32) := ⟨_, rfl⟩
  have h := h x6 ex6
  refine r_iinc (pc := 136) C (v := x6) (lv' := [(7, .int x6), (0, .ref v0), (1, .ref v1), (2, .ref v2), (6, .int v6)]) dX7_reckon_136 4 rfl ex6.symm (by decide) rfl ?_
  refine r_goto (pc := 139) C (tgt := 76) dX7_reckon_139 (by decide) ?_
  exact r_sub [1, 2, 3, 4, 0] rfl (hX76 v0 v1 v2 v6 x6 S5 h)
def B_X7_reckon_76 (Q : HS → Prop) (X76 : Nat → Nat → Nat → Int32 → Int32 → HS → Prop) (v0 : Nat) (v1 : Nat) (v2 : Nat) (v6 : Int32) (v7 : Int32) (S : HS) : Prop := ((v7 < v6) → (Q S)) ∧ ((¬ v7 < v6) → (((v7 < 0) → (Q S)) ∧ ((¬ v7 < 0) → (ob S v1 8 ∧ (P_X8_hourOf v1 v7 (fun x5 S3 => Gr S S3 → (∀ x6 : Int32, x6 = fI S3 v1 1 → (∀ x7 : Int32, x7 = (if x6 < x5 then x6 else x5) → (ob S3 v0 7 ∧ (∀ x8 : Int32, x8 = fI S3 v0 9 → (((x7 = x8) → (P_X7_reckon_120 Q X76 v0 v1 v2 v6 v7 S3)) ∧ ((¬ x7 = x8) → (P_X7_price v0 v1 v2 x7 (fun S10 => Gr S3 S10 → (P_X7_reckon_120 Q X76 v0 v1 v2 v6 v7 S10)) S3)))))))) S)))))
def P_X7_reckon_76 (Q : HS → Prop) (v0 : Nat) (v1 : Nat) (v2 : Nat) (v6 : Int32) (v7 : Int32) (S : HS) : Prop := ∀ X76 : Nat → Nat → Nat → Int32 → Int32 → HS → Prop, (∀ (v0 : Nat) (v1 : Nat) (v2 : Nat) (v6 : Int32) (v7 : Int32) (S : HS), B_X7_reckon_76 Q X76 v0 v1 v2 v6 v7 S → X76 v0 v1 v2 v6 v7 S) → X76 v0 v1 v2 v6 v7 S
set_option maxRecDepth 20000 in
set_option maxHeartbeats 4000000 in
theorem TB_X7_reckon_76 {X : CX} {Q : HS → Prop} (C : Cx X cX7_reckon RX7 9 rm_X7_reckon) (E : ReV X rm_X7_reckon Q) (ht : (xh X).sig.returnType = none) (hn : (xh X).name = yX7_reckon.name) {X76 : Nat → Nat → Nat → Int32 → Int32 → HS → Prop} (hX76 : ∀ (v0 : Nat) (v1 : Nat) (v2 : Nat) (v6 : Int32) (v7 : Int32) (S : HS), X76 v0 v1 v2 v6 v7 S → WS X 9 8 7937 76 [(0, .ref v0), (1, .ref v1), (2, .ref v2), (6, .int v6), (7, .int v7)] [] S) {v0 : Nat} {v1 : Nat} {v2 : Nat} {v6 : Int32} {v7 : Int32} {S : HS} (h : B_X7_reckon_76 Q X76 v0 v1 v2 v6 v7 S) : WS X 9 8 7937 76 [(0, .ref v0), (1, .ref v1), (2, .ref v2), (6, .int v6), (7, .int v7)] [] S := by
  refine r_iload (pc := 76) C dX7_reckon_76 4 rfl ?_
  refine r_iload (pc := 78) C dX7_reckon_78 3 rfl ?_
  refine r_icmp_lt (pc := 80) C (tgt := 142) dX7_reckon_80 (by decide) (fun c1 => ?_) (fun c1 => ?_)
  · have h := h.1 c1
    exact r_vret (pc := 142) C E ht dX7_reckon_142 (by decide) (by decide) h
  · have h := h.2 c1
    refine r_iload (pc := 83) C dX7_reckon_83 4 rfl ?_
    refine r_if_lt (pc := 85) C (tgt := 142) dX7_reckon_85 (by decide) (fun c2 => ?_) (fun c2 => ?_)
    · have h := h.1 c2
      exact r_vret (pc := 142) C E ht dX7_reckon_142 (by decide) (by decide) h
    · have h := h.2 c2
      refine r_aload_n (pc := 88) C dX7_reckon_88 1 rfl ?_
      refine r_iload (pc := 89) C dX7_reckon_89 4 rfl ?_
      obtain ⟨o_v1, h⟩ := h
      refine r_callVi0 (pc := 91) C (rest := []) (a := v1) o_v1 [.int v7] yV_X8_hourOf g_840 (c_X8_hourOf h) dX7_reckon_91 rfl rfl (Nat.le_of_ble_eq_true rfl) ⟨by decide, by decide⟩ ⟨by decide, by decide⟩ ⟨rfl, rfl⟩ (fun x5 S3 h g4 => ?_)
      have h := h g4
      have o_v1 := gr_ob g4 o_v1
      refine r_aload_n (pc := 94) C dX7_reckon_94 1 rfl ?_
      refine r_geti (pc := 95) C fL_X7_62 dX7_reckon_95 o_v1 ?_
      refine r_topi (fun x6 ex6 => ?_)
      have h := h x6 ex6
      refine r_min (pc := 98) C g_844 dX7_reckon_98 (by decide) (Nat.le_of_ble_eq_true rfl) (by decide) (by decide) ?_
      refine r_topi (fun x7 ex7 => ?_)
      have h := h x7 ex7
      refine r_istore (pc := 101) C dX7_reckon_101 (by decide) (lv' := [(8, .int x7), (0, .ref v0), (1, .ref v1), (2, .ref v2), (6, .int v6), (7, .int v7)]) rfl ?_
      refine r_iload (pc := 103) C dX7_reckon_103 0 rfl ?_
      refine r_aload_n (pc := 105) C dX7_reckon_105 1 rfl ?_
      obtain ⟨o_v0, h⟩ := h
      refine r_geti (pc := 106) C fL_X7_37 dX7_reckon_106 o_v0 ?_
      refine r_topi (fun x8 ex8 => ?_)
      have h := h x8 ex8
      refine r_icmp_eq (pc := 109) C (tgt := 120) dX7_reckon_109 (by decide) (fun c9 => ?_) (fun c9 => ?_)
      · have h := h.1 c9
        exact r_sub [1, 2, 3, 4, 5] rfl (T_X7_reckon_120 C E ht hn hX76 h)
      · have h := h.2 c9
        refine r_aload_n (pc := 112) C dX7_reckon_112 1 rfl ?_
        refine r_aload_n (pc := 113) C dX7_reckon_113 2 rfl ?_
        refine r_aload_n (pc := 114) C dX7_reckon_114 3 rfl ?_
        refine r_iload (pc := 115) C dX7_reckon_115 0 rfl ?_
        refine r_callVv0 (pc := 117) C (rest := []) (a := v0) o_v0 [.ref v1, .ref v2, .int x7] yV_X7_price g_845 (c_X7_price h) dX7_reckon_117 rfl rfl (Nat.le_of_ble_eq_true rfl) ⟨by decide, by decide⟩ ⟨by decide, by decide⟩ ⟨rfl, rfl⟩ (fun S10 h g11 => ?_)
        have h := h g11
        have o_v0 := gr_ob g11 o_v0
        have o_v1 := gr_ob g11 o_v1
        exact r_sub [1, 2, 3, 4, 5] rfl (T_X7_reckon_120 C E ht hn hX76 h)
theorem T_X7_reckon_76 {X : CX} {Q : HS → Prop} (C : Cx X cX7_reckon RX7 9 rm_X7_reckon) (E : ReV X rm_X7_reckon Q) (ht : (xh X).sig.returnType = none) (hn : (xh X).name = yX7_reckon.name) {v0 : Nat} {v1 : Nat} {v2 : Nat} {v6 : Int32} {v7 : Int32} {S : HS} (h : P_X7_reckon_76 Q v0 v1 v2 v6 v7 S) : WS X 9 8 7937 76 [(0, .ref v0), (1, .ref v1), (2, .ref v2), (6, .int v6), (7, .int v7)] [] S :=
  h (fun v0 v1 v2 v6 v7 S => WS X 9 8 7937 76 [(0, .ref v0), (1, .ref v1), (2, .ref v2), (6, .int v6), (7, .int v7)] [] S) (fun v0 v1 v2 v6 v7 S hh => TB_X7_reckon_76 C E ht hn (fun v0 v1 v2 v6 v7 S z => z) hh)
def P_X7_reckon_68 (Q : HS → Prop) (v0 : Nat) (v1 : Nat) (v2 : Nat) (v6 : Int32) (S : HS) : Prop := ob S v0 7 ∧ (∀ x1 : Int32, x1 = fI S v0 13 → (∀ x2 : Int32, x2 = x1 - (1 : Int32) → (P_X7_reckon_76 Q v0 v1 v2 v6 x2 S)))
set_option maxRecDepth 20000 in
set_option maxHeartbeats 4000000 in
theorem T_X7_reckon_68 {X : CX} {Q : HS → Prop} (C : Cx X cX7_reckon RX7 9 rm_X7_reckon) (E : ReV X rm_X7_reckon Q) (ht : (xh X).sig.returnType = none) (hn : (xh X).name = yX7_reckon.name) {v0 : Nat} {v1 : Nat} {v2 : Nat} {v6 : Int32} {S : HS} (h : P_X7_reckon_68 Q v0 v1 v2 v6 S) : WS X 9 8 7937 68 [(0, .ref v0), (1, .ref v1), (2, .ref v2), (6, .int v6)] [] S := by
  refine r_aload_n (pc := 68) C dX7_reckon_68 0 rfl ?_
  obtain ⟨o_v0, h⟩ := h
  refine r_geti (pc := 69) C fL_X7_53 dX7_reckon_69 o_v0 ?_
  refine r_topi (fun x1 ex1 => ?_)
  have h := h x1 ex1
  refine r_iconst (pc := 72) C (v := (1 : Int32)) dX7_reckon_72 (by decide) ?_
  refine r_isub (pc := 73) C dX7_reckon_73 ?_
  refine r_topi (fun x2 ex2 => ?_)
  have h := h x2 ex2
  refine r_istore (pc := 74) C dX7_reckon_74 (by decide) (lv' := [(7, .int x2), (0, .ref v0), (1, .ref v1), (2, .ref v2), (6, .int v6)]) rfl ?_
  exact r_sub [1, 2, 3, 4, 0] rfl (T_X7_reckon_76 C E ht hn h)
def P_X7_reckon_38 (Q : HS → Prop) (v0 : Nat) (v1 : Nat) (v2 : Nat) (v3 : Int32) (v4 : Int32) (v5 : Int32) (v6 : Int32) (S : HS) : Prop := ob S v0 7 ∧ (∀ S1 : HS, S1 = sI S v0 10 v3 → (∀ S2 : HS, S2 = sI S1 v0 11 v4 → (∀ S3 : HS, S3 = sI S2 v0 12 v5 → (∀ x4 : Int32, x4 = v5 + (1 : Int32) → (∀ S5 : HS, S5 = sI S3 v0 13 x4 → (∀ S6 : HS, S6 = sI S5 v0 9 (-1 : Int32) → (P_X7_reckon_68 Q v0 v1 v2 v6 S6)))))))
set_option maxRecDepth 20000 in
set_option maxHeartbeats 4000000 in
theorem T_X7_reckon_38 {X : CX} {Q : HS → Prop} (C : Cx X cX7_reckon RX7 9 rm_X7_reckon) (E : ReV X rm_X7_reckon Q) (ht : (xh X).sig.returnType = none) (hn : (xh X).name = yX7_reckon.name) {v0 : Nat} {v1 : Nat} {v2 : Nat} {v3 : Int32} {v4 : Int32} {v5 : Int32} {v6 : Int32} {S : HS} (h : P_X7_reckon_38 Q v0 v1 v2 v3 v4 v5 v6 S) : WS X 9 8 7937 38 [(0, .ref v0), (1, .ref v1), (2, .ref v2), (3, .int v3), (4, .int v4), (5, .int v5), (6, .int v6)] [] S := by
  refine r_aload_n (pc := 38) C dX7_reckon_38 0 rfl ?_
  refine r_iload_n (pc := 39) C dX7_reckon_39 3 rfl ?_
  obtain ⟨o_v0, h⟩ := h
  refine r_puti (pc := 40) C pfL_X7_41 dX7_reckon_40 o_v0 ?_
  refine r_heap (fun S1 eS1 => ?_)
  have h := h S1 eS1
  have o_v0 := ob_I eS1 o_v0
  refine r_aload_n (pc := 43) C dX7_reckon_43 0 rfl ?_
  refine r_iload (pc := 44) C dX7_reckon_44 4 rfl ?_
  refine r_puti (pc := 46) C pfL_X7_44 dX7_reckon_46 o_v0 ?_
  refine r_heap (fun S2 eS2 => ?_)
  have h := h S2 eS2
  have o_v0 := ob_I eS2 o_v0
  refine r_aload_n (pc := 49) C dX7_reckon_49 0 rfl ?_
  refine r_iload (pc := 50) C dX7_reckon_50 5 rfl ?_
  refine r_puti (pc := 52) C pfL_X7_47 dX7_reckon_52 o_v0 ?_
  refine r_heap (fun S3 eS3 => ?_)
  have h := h S3 eS3
  have o_v0 := ob_I eS3 o_v0
  refine r_aload_n (pc := 55) C dX7_reckon_55 0 rfl ?_
  refine r_iload (pc := 56) C dX7_reckon_56 5 rfl ?_
  refine r_iconst (pc := 58) C (v := (1 : Int32)) dX7_reckon_58 (by decide) ?_
  refine r_iadd (pc := 59) C dX7_reckon_59 ?_
  refine r_topi (fun x4 ex4 => ?_)
  have h := h x4 ex4
  refine r_puti (pc := 60) C pfL_X7_53 dX7_reckon_60 o_v0 ?_
  refine r_heap (fun S5 eS5 => ?_)
  have h := h S5 eS5
  have o_v0 := ob_I eS5 o_v0
  refine r_aload_n (pc := 63) C dX7_reckon_63 0 rfl ?_
  refine r_iconst (pc := 64) C (v := (-1 : Int32)) dX7_reckon_64 (by decide) ?_
  refine r_puti (pc := 65) C pfL_X7_37 dX7_reckon_65 o_v0 ?_
  refine r_heap (fun S6 eS6 => ?_)
  have h := h S6 eS6
  have o_v0 := ob_I eS6 o_v0
  exact r_sub [0, 1, 2, 6] rfl (T_X7_reckon_68 C E ht hn h)
def P_X7_reckon_12 (Q : HS → Prop) (v0 : Nat) (v1 : Nat) (v2 : Nat) (v3 : Int32) (v4 : Int32) (v5 : Int32) (v6 : Int32) (S : HS) : Prop := ob S v0 7 ∧ (∀ x1 : Int32, x1 = fI S v0 10 → (((¬ v3 = x1) → (P_X7_reckon_38 Q v0 v1 v2 v3 v4 v5 v6 S)) ∧ ((v3 = x1) → (∀ x3 : Int32, x3 = fI S v0 11 → (((¬ v4 = x3) → (P_X7_reckon_38 Q v0 v1 v2 v3 v4 v5 v6 S)) ∧ ((v4 = x3) → (∀ x5 : Int32, x5 = fI S v0 12 → (((v5 = x5) → (P_X7_reckon_68 Q v0 v1 v2 v6 S)) ∧ ((¬ v5 = x5) → (P_X7_reckon_38 Q v0 v1 v2 v3 v4 v5 v6 S))))))))))
set_option maxRecDepth 20000 in
set_option maxHeartbeats 4000000 in
theorem T_X7_reckon_12 {X : CX} {Q : HS → Prop} (C : Cx X cX7_reckon RX7 9 rm_X7_reckon) (E : ReV X rm_X7_reckon Q) (ht : (xh X).sig.returnType = none) (hn : (xh X).name = yX7_reckon.name) {v0 : Nat} {v1 : Nat} {v2 : Nat} {v3 : Int32} {v4 : Int32} {v5 : Int32} {v6 : Int32} {S : HS} (h : P_X7_reckon_12 Q v0 v1 v2 v3 v4 v5 v6 S) : WS X 9 8 7937 12 [(0, .ref v0), (1, .ref v1), (2, .ref v2), (3, .int v3), (4, .int v4), (5, .int v5), (6, .int v6)] [] S := by
  refine r_iload_n (pc := 12) C dX7_reckon_12 3 rfl ?_
  refine r_aload_n (pc := 13) C dX7_reckon_13 0 rfl ?_
  obtain ⟨o_v0, h⟩ := h
  refine r_geti (pc := 14) C fL_X7_41 dX7_reckon_14 o_v0 ?_
  refine r_topi (fun x1 ex1 => ?_)
  have h := h x1 ex1
  refine r_icmp_ne (pc := 17) C (tgt := 38) dX7_reckon_17 (by decide) (fun c2 => ?_) (fun c2 => ?_)
  · have h := h.1 c2
    exact r_sub [0, 1, 2, 3, 4, 5, 6] rfl (T_X7_reckon_38 C E ht hn h)
  · have h := h.2 c2
    refine r_iload (pc := 20) C dX7_reckon_20 4 rfl ?_
    refine r_aload_n (pc := 22) C dX7_reckon_22 0 rfl ?_
    refine r_geti (pc := 23) C fL_X7_44 dX7_reckon_23 o_v0 ?_
    refine r_topi (fun x3 ex3 => ?_)
    have h := h x3 ex3
    refine r_icmp_ne (pc := 26) C (tgt := 38) dX7_reckon_26 (by decide) (fun c4 => ?_) (fun c4 => ?_)
    · have h := h.1 c4
      exact r_sub [0, 1, 2, 3, 4, 5, 6] rfl (T_X7_reckon_38 C E ht hn h)
    · have h := h.2 c4
      refine r_iload (pc := 29) C dX7_reckon_29 5 rfl ?_
      refine r_aload_n (pc := 31) C dX7_reckon_31 0 rfl ?_
      refine r_geti (pc := 32) C fL_X7_47 dX7_reckon_32 o_v0 ?_
      refine r_topi (fun x5 ex5 => ?_)
      have h := h x5 ex5
      refine r_icmp_eq (pc := 35) C (tgt := 68) dX7_reckon_35 (by decide) (fun c6 => ?_) (fun c6 => ?_)
      · have h := h.1 c6
        exact r_sub [0, 1, 2, 6] rfl (T_X7_reckon_68 C E ht hn h)
      · have h := h.2 c6
        exact r_sub [0, 1, 2, 3, 4, 5, 6] rfl (T_X7_reckon_38 C E ht hn h)
def P_X7_reckon_0 (Q : HS → Prop) (v0 : Nat) (v1 : Nat) (v2 : Nat) (v3 : Int32) (v4 : Int32) (v5 : Int32) (v6 : Int32) (S : HS) : Prop := ob S v0 7 ∧ (∃ a1 : Nat, fR S v0 1 = some a1 ∧ (ob S a1 14 ∧ (((¬ (nI (hN S a1)) = 0) → (P_X7_reckon_12 Q v0 v1 v2 v3 v4 v5 v6 S)) ∧ (((nI (hN S a1)) = 0) → (P_X7_makeRows v0 (fun S3 => Gr S S3 → (P_X7_reckon_12 Q v0 v1 v2 v3 v4 v5 v6 S3)) S)))))
set_option maxRecDepth 20000 in
set_option maxHeartbeats 4000000 in
theorem T_X7_reckon_0 {X : CX} {Q : HS → Prop} (C : Cx X cX7_reckon RX7 9 rm_X7_reckon) (E : ReV X rm_X7_reckon Q) (ht : (xh X).sig.returnType = none) (hn : (xh X).name = yX7_reckon.name) {v0 : Nat} {v1 : Nat} {v2 : Nat} {v3 : Int32} {v4 : Int32} {v5 : Int32} {v6 : Int32} {S : HS} (h : P_X7_reckon_0 Q v0 v1 v2 v3 v4 v5 v6 S) : WS X 9 0 0 0 [(0, .ref v0), (1, .ref v1), (2, .ref v2), (3, .int v3), (4, .int v4), (5, .int v5), (6, .int v6)] [] S := by
  refine r_aload_n (pc := 0) C dX7_reckon_0 0 rfl ?_
  obtain ⟨o_v0, h⟩ := h
  obtain ⟨a1, ea1, h⟩ := h
  refine r_getr (pc := 1) C fL_X7_15 dX7_reckon_1 o_v0 ea1 ?_
  obtain ⟨o_a1, h⟩ := h
  refine r_alen14 (pc := 4) C dX7_reckon_4 o_a1 ?_
  refine r_if_ne (pc := 5) C (tgt := 12) dX7_reckon_5 (by decide) (fun c2 => ?_) (fun c2 => ?_)
  · have h := h.1 c2
    refine r_wide (k' := 8) (n' := 7937) (by decide) (by decide) ?_
    exact r_sub [0, 1, 2, 3, 4, 5, 6] rfl (T_X7_reckon_12 C E ht hn h)
  · have h := h.2 c2
    refine r_aload_n (pc := 8) C dX7_reckon_8 0 rfl ?_
    refine r_callVv (pc := 9) C (rest := []) (a := v0) o_v0 [] yV_X7_makeRows g_836 (c_X7_makeRows h) dX7_reckon_9 rfl rfl (Nat.le_of_ble_eq_true rfl) ⟨by decide, by decide⟩ ⟨by decide, by decide⟩ (fun S3 h g4 => ?_)
    have h := h g4
    have o_a1 := gr_ob g4 o_a1
    have o_v0 := gr_ob g4 o_v0
    exact r_sub [0, 1, 2, 3, 4, 5, 6] rfl (T_X7_reckon_12 C E ht hn h)
def P_X7_reckon (v0 : Nat) (v1 : Nat) (v2 : Nat) (v3 : Int32) (v4 : Int32) (v5 : Int32) (v6 : Int32) (Q : HS → Prop) (S : HS) : Prop := P_X7_reckon_0 Q v0 v1 v2 v3 v4 v5 v6 S
theorem c_X7_reckon {l : Launch} {Ee : EE} {S : HS} {v0 : Nat} {v1 : Nat} {v2 : Nat} {v3 : Int32} {v4 : Int32} {v5 : Int32} {v6 : Int32} {Q : HS → Prop} (h : P_X7_reckon v0 v1 v2 v3 v4 v5 v6 Q S) : MV l yX7_reckon cX7_reckon 9 none rm_X7_reckon Ee S [.ref v0, .ref v1, .ref v2, .int v3, .int v4, .int v5, .int v6] Q :=
  openV (by decide) (Nat.le_of_ble_eq_true rfl) (fun X C E ht hn hE hl => by subst hE; exact r_sub [0, 1, 2, 3, 4, 5, 6] rfl (T_X7_reckon_0 C E ht hn h))
def rm_X7_trace : Room := { frames := 1, cells := 0, slots := 0, locals := 21 }
def P_X7_trace_143 (Q : Int32 → HS → Prop) (X9 : Nat → Nat → Int32 → Int32 → Int32 → HS → Prop) (v0 : Nat) (v1 : Nat) (v4 : Int32) (v5 : Int32) (v6 : Int32) (S : HS) : Prop := ∀ x1 : Int32, x1 = v6 + (1 : Int32) → (X9 v0 v1 v4 v5 x1 S)
set_option maxRecDepth 20000 in
set_option maxHeartbeats 4000000 in
theorem T_X7_trace_143 {X : CX} {Q : Int32 → HS → Prop} (C : Cx X cX7_trace RX7 10 rm_X7_trace) (E : ReI X rm_X7_trace Q) (ht : (xh X).sig.returnType = (some .int)) (hn : (xh X).name = yX7_trace.name) {X9 : Nat → Nat → Int32 → Int32 → Int32 → HS → Prop} (hX9 : ∀ (v0 : Nat) (v1 : Nat) (v4 : Int32) (v5 : Int32) (v6 : Int32) (S : HS), X9 v0 v1 v4 v5 v6 S → WS X 10 0 0 9 [(0, .ref v0), (1, .ref v1), (4, .int v4), (5, .int v5), (6, .int v6)] [] S) {v0 : Nat} {v1 : Nat} {v4 : Int32} {v5 : Int32} {v6 : Int32} {S : HS} (h : P_X7_trace_143 Q X9 v0 v1 v4 v5 v6 S) : WS X 10 0 0 143 [(0, .ref v0), (1, .ref v1), (4, .int v4), (5, .int v5), (6, .int v6)] [] S := by
  obtain ⟨x1, ex1⟩ : ∃ z : Int32, z = v6 + (1 : Int32) := ⟨_, rfl⟩
  have h := h x1 ex1
  refine r_iinc (pc := 143) C (v := x1) (lv' := [(6, .int x1), (0, .ref v0), (1, .ref v1), (4, .int v4), (5, .int v5)]) dX7_trace_143 4 rfl ex1.symm (by decide) rfl ?_
  refine r_goto (pc := 146) C (tgt := 9) dX7_trace_146 (by decide) ?_
  exact r_sub [1, 2, 3, 4, 0] rfl (hX9 v0 v1 v4 v5 x1 S h)
def P_X7_trace_56 (Q : Int32 → HS → Prop) (X9 : Nat → Nat → Int32 → Int32 → Int32 → HS → Prop) (v0 : Nat) (v1 : Nat) (v4 : Int32) (v5 : Int32) (v6 : Int32) (s0 : Int32) (S : HS) : Prop := ((¬ s0 = (-1 : Int32)) → (ob S v0 7 ∧ (∃ a2 : Nat, fR S v0 0 = some a2 ∧ (ob S a2 13 ∧ (vp_in v6 (hN S a2) ∧ (∀ S4 : HS, S4 = sI S a2 v6.toNatClampNeg s0 → (((¬ s0 = (-2 : Int32)) → (∀ x6 : Int32, x6 = s0 / (100 : Int32) → (ob S4 v1 8 ∧ (P_X8_hasRoad v1 x6 (fun x9 S7 => Gr S4 S7 → bl x9 → (((x9 = 0) → (P_X7_trace_143 Q X9 v0 v1 v4 v5 v6 S7)) ∧ ((¬ x9 = 0) → (∃ a11 : Nat, fR S7 v1 8 = some a11 ∧ (∀ x12 : Int32, x12 = s0 / (100 : Int32) → (ob S7 a11 18 ∧ (vp_in x12 (hN S7 a11) ∧ ∃ a14 : Nat, fR S7 a11 x12.toNatClampNeg = some a14 ∧ (∀ x15 : Int32, x15 = s0 / (10 : Int32) → (∀ x16 : Int32, x16 = x15 - x15 / (10 : Int32) * (10 : Int32) → (ob S7 a14 5 ∧ (P_X5_endOf a14 x16 (fun x19 S17 => Gr S7 S17 → (∀ x20 : Int32, x20 = s0 - s0 / (10 : Int32) * (10 : Int32) → (P_X5_minutesAt a14 x20 (fun x23 S21 => Gr S17 S21 → (∀ x24 : Int32, x24 = v5 + x23 → (P_X7_trace_143 Q X9 v0 v1 x19 x24 v6 S21))) S17))) S7))))))))))) S4)))) ∧ ((s0 = (-2 : Int32)) → (∀ x25 : Int32, x25 = v5 + (1 : Int32) → (P_X7_trace_143 Q X9 v0 v1 v4 x25 v6 S4)))))))))) ∧ ((s0 = (-1 : Int32)) → (Q v6 S))
set_option maxRecDepth 20000 in
set_option maxHeartbeats 4000000 in
theorem T_X7_trace_56 {X : CX} {Q : Int32 → HS → Prop} (C : Cx X cX7_trace RX7 10 rm_X7_trace) (E : ReI X rm_X7_trace Q) (ht : (xh X).sig.returnType = (some .int)) (hn : (xh X).name = yX7_trace.name) {X9 : Nat → Nat → Int32 → Int32 → Int32 → HS → Prop} (hX9 : ∀ (v0 : Nat) (v1 : Nat) (v4 : Int32) (v5 : Int32) (v6 : Int32) (S : HS), X9 v0 v1 v4 v5 v6 S → WS X 10 0 0 9 [(0, .ref v0), (1, .ref v1), (4, .int v4), (5, .int v5), (6, .int v6)] [] S) {v0 : Nat} {v1 : Nat} {v4 : Int32} {v5 : Int32} {v6 : Int32} {s0 : Int32} {S : HS} (h : P_X7_trace_56 Q X9 v0 v1 v4 v5 v6 s0 S) : WS X 10 0 0 56 [(0, .ref v0), (1, .ref v1), (4, .int v4), (5, .int v5), (6, .int v6)] [.int s0] S := by
  refine r_istore (pc := 56) C dX7_trace_56 (by decide) (lv' := [(8, .int s0), (0, .ref v0), (1, .ref v1), (4, .int v4), (5, .int v5), (6, .int v6)]) rfl ?_
  refine r_iload (pc := 58) C dX7_trace_58 0 rfl ?_
  refine r_iconst (pc := 60) C (v := (-1 : Int32)) dX7_trace_60 (by decide) ?_
  refine r_icmp_ne (pc := 61) C (tgt := 67) dX7_trace_61 (by decide) (fun c1 => ?_) (fun c1 => ?_)
  · have h := h.1 c1
    refine r_aload_n (pc := 67) C dX7_trace_67 1 rfl ?_
    obtain ⟨o_v0, h⟩ := h
    obtain ⟨a2, ea2, h⟩ := h
    refine r_getr (pc := 68) C fL_X7_9 dX7_trace_68 o_v0 ea2 ?_
    refine r_iload (pc := 71) C dX7_trace_71 5 rfl ?_
    refine r_iload (pc := 73) C dX7_trace_73 0 rfl ?_
    obtain ⟨o_a2, h⟩ := h
    obtain ⟨i3, h⟩ := h
    refine r_iast (pc := 75) C dX7_trace_75 o_a2 i3 ?_
    refine r_heap (fun S4 eS4 => ?_)
    have h := h S4 eS4
    have o_a2 := ob_I eS4 o_a2
    have o_v0 := ob_I eS4 o_v0
    refine r_iload (pc := 76) C dX7_trace_76 0 rfl ?_
    refine r_bipush (pc := 78) C (v := (-2 : Int32)) dX7_trace_78 (by decide) ?_
    refine r_icmp_ne (pc := 80) C (tgt := 89) dX7_trace_80 (by decide) (fun c5 => ?_) (fun c5 => ?_)
    · have h := h.1 c5
      refine r_aload_n (pc := 89) C dX7_trace_89 2 rfl ?_
      refine r_iload (pc := 90) C dX7_trace_90 0 rfl ?_
      refine r_bipush (pc := 92) C (v := (100 : Int32)) dX7_trace_92 (by decide) ?_
      refine r_idiv (pc := 94) C dX7_trace_94 (by decide) ?_
      refine r_topi (fun x6 ex6 => ?_)
      have h := h x6 ex6
      obtain ⟨o_v1, h⟩ := h
      refine r_callVi0 (pc := 95) C (rest := []) (a := v1) o_v1 [.int x6] yV_X8_hasRoad g_916 (c_X8_hasRoad h) dX7_trace_95 rfl rfl (Nat.le_of_ble_eq_true rfl) ⟨by decide, by decide⟩ ⟨by decide, by decide⟩ ⟨rfl, rfl⟩ (fun x9 S7 h g8 => ?_)
      have bx9 := h.1
      have h := h.2 g8 bx9
      have o_a2 := gr_ob g8 o_a2
      have o_v0 := gr_ob g8 o_v0
      have o_v1 := gr_ob g8 o_v1
      refine r_if_eq (pc := 98) C (tgt := 143) dX7_trace_98 (by decide) (fun c10 => ?_) (fun c10 => ?_)
      · have h := h.1 c10
        exact r_sub [1, 2, 3, 4, 5] rfl (T_X7_trace_143 C E ht hn hX9 h)
      · have h := h.2 c10
        refine r_aload_n (pc := 101) C dX7_trace_101 2 rfl ?_
        obtain ⟨a11, ea11, h⟩ := h
        refine r_getr (pc := 102) C fL_X7_98 dX7_trace_102 o_v1 ea11 ?_
        refine r_iload (pc := 105) C dX7_trace_105 0 rfl ?_
        refine r_bipush (pc := 107) C (v := (100 : Int32)) dX7_trace_107 (by decide) ?_
        refine r_idiv (pc := 109) C dX7_trace_109 (by decide) ?_
        refine r_topi (fun x12 ex12 => ?_)
        have h := h x12 ex12
        obtain ⟨o_a11, h⟩ := h
        obtain ⟨i13, a14, ea14, h⟩ := h
        refine r_aald18 (pc := 110) C dX7_trace_110 o_a11 i13 ea14 ?_
        refine r_astore (pc := 111) C dX7_trace_111 (by decide) (lv' := [(9, .ref a14), (8, .int s0), (0, .ref v0), (1, .ref v1), (4, .int v4), (5, .int v5), (6, .int v6)]) rfl ?_
        refine r_aload (pc := 113) C dX7_trace_113 0 rfl ?_
        refine r_iload (pc := 115) C dX7_trace_115 1 rfl ?_
        refine r_bipush (pc := 117) C (v := (10 : Int32)) dX7_trace_117 (by decide) ?_
        refine r_idiv (pc := 119) C dX7_trace_119 (by decide) ?_
        refine r_topi (fun x15 ex15 => ?_)
        have h := h x15 ex15
        refine r_bipush (pc := 120) C (v := (10 : Int32)) dX7_trace_120 (by decide) ?_
        refine r_irem (pc := 122) C dX7_trace_122 (by decide) ?_
        refine r_topi (fun x16 ex16 => ?_)
        have h := h x16 ex16
        obtain ⟨o_a14, h⟩ := h
        refine r_callVi0 (pc := 123) C (rest := []) (a := a14) o_a14 [.int x16] yV_X5_endOf g_862 (c_X5_endOf h) dX7_trace_123 rfl rfl (Nat.le_of_ble_eq_true rfl) ⟨by decide, by decide⟩ ⟨by decide, by decide⟩ ⟨rfl, rfl⟩ (fun x19 S17 h g18 => ?_)
        have h := h g18
        have o_a11 := gr_ob g18 o_a11
        have o_a14 := gr_ob g18 o_a14
        have o_a2 := gr_ob g18 o_a2
        have o_v0 := gr_ob g18 o_v0
        have o_v1 := gr_ob g18 o_v1
        refine r_istore (pc := 126) C dX7_trace_126 (by decide) (lv' := [(4, .int x19), (9, .ref a14), (8, .int s0), (0, .ref v0), (1, .ref v1), (5, .int v5), (6, .int v6)]) rfl ?_
        refine r_iload (pc := 128) C dX7_trace_128 5 rfl ?_
        refine r_aload (pc := 130) C dX7_trace_130 1 rfl ?_
        refine r_iload (pc := 132) C dX7_trace_132 2 rfl ?_
        refine r_bipush (pc := 134) C (v := (10 : Int32)) dX7_trace_134 (by decide) ?_
        refine r_irem (pc := 136) C dX7_trace_136 (by decide) ?_
        refine r_topi (fun x20 ex20 => ?_)
        have h := h x20 ex20
        refine r_callVi0 (pc := 137) C (rest := [.int v5]) (a := a14) o_a14 [.int x20] yV_X5_minutesAt g_856 (c_X5_minutesAt h) dX7_trace_137 rfl rfl (Nat.le_of_ble_eq_true rfl) ⟨by decide, by decide⟩ ⟨by decide, by decide⟩ ⟨rfl, rfl⟩ (fun x23 S21 h g22 => ?_)
        have h := h g22
        have o_a11 := gr_ob g22 o_a11
        have o_a14 := gr_ob g22 o_a14
        have o_a2 := gr_ob g22 o_a2
        have o_v0 := gr_ob g22 o_v0
        have o_v1 := gr_ob g22 o_v1
        refine r_iadd (pc := 140) C dX7_trace_140 ?_
        refine r_topi (fun x24 ex24 => ?_)
        have h := h x24 ex24
        refine r_istore (pc := 141) C dX7_trace_141 (by decide) (lv' := [(5, .int x24), (4, .int x19), (9, .ref a14), (8, .int s0), (0, .ref v0), (1, .ref v1), (6, .int v6)]) rfl ?_
        exact r_sub [4, 5, 1, 0, 6] rfl (T_X7_trace_143 C E ht hn hX9 h)
    · have h := h.2 c5
      obtain ⟨x25, ex25⟩ : ∃ z : Int32, z = v5 + (1 : Int32) := ⟨_, rfl⟩
      have h := h x25 ex25
      refine r_iinc (pc := 83) C (v := x25) (lv' := [(5, .int x25), (8, .int s0), (0, .ref v0), (1, .ref v1), (4, .int v4), (6, .int v6)]) dX7_trace_83 4 rfl ex25.symm (by decide) rfl ?_
      refine r_goto (pc := 86) C (tgt := 143) dX7_trace_86 (by decide) ?_
      exact r_sub [2, 3, 4, 0, 5] rfl (T_X7_trace_143 C E ht hn hX9 h)
  · have h := h.2 c1
    refine r_iload (pc := 64) C dX7_trace_64 5 rfl ?_
    exact r_iret (pc := 66) C E ht dX7_trace_66 (by decide) (by decide) h
def P_X7_trace_55 (Q : Int32 → HS → Prop) (X9 : Nat → Nat → Int32 → Int32 → Int32 → HS → Prop) (v0 : Nat) (v1 : Nat) (v4 : Int32) (v5 : Int32) (v6 : Int32) (S : HS) : Prop := P_X7_trace_56 Q X9 v0 v1 v4 v5 v6 (-1 : Int32) S
set_option maxRecDepth 20000 in
set_option maxHeartbeats 4000000 in
theorem T_X7_trace_55 {X : CX} {Q : Int32 → HS → Prop} (C : Cx X cX7_trace RX7 10 rm_X7_trace) (E : ReI X rm_X7_trace Q) (ht : (xh X).sig.returnType = (some .int)) (hn : (xh X).name = yX7_trace.name) {X9 : Nat → Nat → Int32 → Int32 → Int32 → HS → Prop} (hX9 : ∀ (v0 : Nat) (v1 : Nat) (v4 : Int32) (v5 : Int32) (v6 : Int32) (S : HS), X9 v0 v1 v4 v5 v6 S → WS X 10 0 0 9 [(0, .ref v0), (1, .ref v1), (4, .int v4), (5, .int v5), (6, .int v6)] [] S) {v0 : Nat} {v1 : Nat} {v4 : Int32} {v5 : Int32} {v6 : Int32} {S : HS} (h : P_X7_trace_55 Q X9 v0 v1 v4 v5 v6 S) : WS X 10 0 0 55 [(0, .ref v0), (1, .ref v1), (4, .int v4), (5, .int v5), (6, .int v6)] [] S := by
  refine r_iconst (pc := 55) C (v := (-1 : Int32)) dX7_trace_55 (by decide) ?_
  exact r_sub [0, 1, 2, 3, 4] rfl (T_X7_trace_56 C E ht hn hX9 h)
def B_X7_trace_9 (Q : Int32 → HS → Prop) (X9 : Nat → Nat → Int32 → Int32 → Int32 → HS → Prop) (v0 : Nat) (v1 : Nat) (v4 : Int32) (v5 : Int32) (v6 : Int32) (S : HS) : Prop := ob S v0 7 ∧ (∃ a1 : Nat, fR S v0 0 = some a1 ∧ (ob S a1 13 ∧ ((((nI (hN S a1)) ≤ v6) → (∃ a3 : Nat, fR S v0 0 = some a3 ∧ (ob S a3 13 ∧ (Q (nI (hN S a3)) S)))) ∧ ((¬ (nI (hN S a1)) ≤ v6) → (∀ x4 : Int32, x4 = (v4 * (401 : Int32)) + v5 → (((x4 < 0) → (P_X7_trace_55 Q X9 v0 v1 v4 v5 v6 S)) ∧ ((¬ x4 < 0) → (∃ a6 : Nat, fR S v0 2 = some a6 ∧ (ob S a6 13 ∧ ((((nI (hN S a6)) ≤ x4) → (P_X7_trace_55 Q X9 v0 v1 v4 v5 v6 S)) ∧ ((¬ (nI (hN S a6)) ≤ x4) → (∃ a8 : Nat, fR S v0 2 = some a8 ∧ (ob S a8 13 ∧ (vp_in x4 (hN S a8) ∧ ∀ x10 : Int32, x10 = fI S a8 x4.toNatClampNeg → (P_X7_trace_56 Q X9 v0 v1 v4 v5 v6 x10 S)))))))))))))))
def P_X7_trace_9 (Q : Int32 → HS → Prop) (v0 : Nat) (v1 : Nat) (v4 : Int32) (v5 : Int32) (v6 : Int32) (S : HS) : Prop := ∀ X9 : Nat → Nat → Int32 → Int32 → Int32 → HS → Prop, (∀ (v0 : Nat) (v1 : Nat) (v4 : Int32) (v5 : Int32) (v6 : Int32) (S : HS), B_X7_trace_9 Q X9 v0 v1 v4 v5 v6 S → X9 v0 v1 v4 v5 v6 S) → X9 v0 v1 v4 v5 v6 S
set_option maxRecDepth 20000 in
set_option maxHeartbeats 4000000 in
theorem TB_X7_trace_9 {X : CX} {Q : Int32 → HS → Prop} (C : Cx X cX7_trace RX7 10 rm_X7_trace) (E : ReI X rm_X7_trace Q) (ht : (xh X).sig.returnType = (some .int)) (hn : (xh X).name = yX7_trace.name) {X9 : Nat → Nat → Int32 → Int32 → Int32 → HS → Prop} (hX9 : ∀ (v0 : Nat) (v1 : Nat) (v4 : Int32) (v5 : Int32) (v6 : Int32) (S : HS), X9 v0 v1 v4 v5 v6 S → WS X 10 0 0 9 [(0, .ref v0), (1, .ref v1), (4, .int v4), (5, .int v5), (6, .int v6)] [] S) {v0 : Nat} {v1 : Nat} {v4 : Int32} {v5 : Int32} {v6 : Int32} {S : HS} (h : B_X7_trace_9 Q X9 v0 v1 v4 v5 v6 S) : WS X 10 0 0 9 [(0, .ref v0), (1, .ref v1), (4, .int v4), (5, .int v5), (6, .int v6)] [] S := by
  refine r_iload (pc := 9) C dX7_trace_9 4 rfl ?_
  refine r_aload_n (pc := 11) C dX7_trace_11 0 rfl ?_
  obtain ⟨o_v0, h⟩ := h
  obtain ⟨a1, ea1, h⟩ := h
  refine r_getr (pc := 12) C fL_X7_9 dX7_trace_12 o_v0 ea1 ?_
  obtain ⟨o_a1, h⟩ := h
  refine r_alen13 (pc := 15) C dX7_trace_15 o_a1 ?_
  refine r_icmp_ge (pc := 16) C (tgt := 149) dX7_trace_16 (by decide) (fun c2 => ?_) (fun c2 => ?_)
  · have h := h.1 c2
    refine r_aload_n (pc := 149) C dX7_trace_149 0 rfl ?_
    obtain ⟨a3, ea3, h⟩ := h
    refine r_getr (pc := 150) C fL_X7_9 dX7_trace_150 o_v0 ea3 ?_
    obtain ⟨o_a3, h⟩ := h
    refine r_alen13 (pc := 153) C dX7_trace_153 o_a3 ?_
    exact r_iret (pc := 154) C E ht dX7_trace_154 (by decide) (by decide) h
  · have h := h.2 c2
    refine r_iload (pc := 19) C dX7_trace_19 2 rfl ?_
    refine r_sipush (pc := 21) C (v := (401 : Int32)) dX7_trace_21 (by decide) ?_
    refine r_imul (pc := 24) C dX7_trace_24 ?_
    refine r_iload (pc := 25) C dX7_trace_25 3 rfl ?_
    refine r_iadd (pc := 27) C dX7_trace_27 ?_
    refine r_topi (fun x4 ex4 => ?_)
    have h := h x4 ex4
    refine r_istore (pc := 28) C dX7_trace_28 (by decide) (lv' := [(7, .int x4), (0, .ref v0), (1, .ref v1), (4, .int v4), (5, .int v5), (6, .int v6)]) rfl ?_
    refine r_iload (pc := 30) C dX7_trace_30 0 rfl ?_
    refine r_if_lt (pc := 32) C (tgt := 55) dX7_trace_32 (by decide) (fun c5 => ?_) (fun c5 => ?_)
    · have h := h.1 c5
      exact r_sub [1, 2, 3, 4, 5] rfl (T_X7_trace_55 C E ht hn hX9 h)
    · have h := h.2 c5
      refine r_iload (pc := 35) C dX7_trace_35 0 rfl ?_
      refine r_aload_n (pc := 37) C dX7_trace_37 1 rfl ?_
      obtain ⟨a6, ea6, h⟩ := h
      refine r_getr (pc := 38) C fL_X7_19 dX7_trace_38 o_v0 ea6 ?_
      obtain ⟨o_a6, h⟩ := h
      refine r_alen13 (pc := 41) C dX7_trace_41 o_a6 ?_
      refine r_icmp_ge (pc := 42) C (tgt := 55) dX7_trace_42 (by decide) (fun c7 => ?_) (fun c7 => ?_)
      · have h := h.1 c7
        exact r_sub [1, 2, 3, 4, 5] rfl (T_X7_trace_55 C E ht hn hX9 h)
      · have h := h.2 c7
        refine r_aload_n (pc := 45) C dX7_trace_45 1 rfl ?_
        obtain ⟨a8, ea8, h⟩ := h
        refine r_getr (pc := 46) C fL_X7_19 dX7_trace_46 o_v0 ea8 ?_
        refine r_iload (pc := 49) C dX7_trace_49 0 rfl ?_
        obtain ⟨o_a8, h⟩ := h
        obtain ⟨i9, h⟩ := h
        refine r_iald (pc := 51) C dX7_trace_51 o_a8 i9 ?_
        refine r_topi (fun x10 ex10 => ?_)
        have h := h x10 ex10
        refine r_goto (pc := 52) C (tgt := 56) dX7_trace_52 (by decide) ?_
        exact r_sub [1, 2, 3, 4, 5] rfl (T_X7_trace_56 C E ht hn hX9 h)
theorem T_X7_trace_9 {X : CX} {Q : Int32 → HS → Prop} (C : Cx X cX7_trace RX7 10 rm_X7_trace) (E : ReI X rm_X7_trace Q) (ht : (xh X).sig.returnType = (some .int)) (hn : (xh X).name = yX7_trace.name) {v0 : Nat} {v1 : Nat} {v4 : Int32} {v5 : Int32} {v6 : Int32} {S : HS} (h : P_X7_trace_9 Q v0 v1 v4 v5 v6 S) : WS X 10 0 0 9 [(0, .ref v0), (1, .ref v1), (4, .int v4), (5, .int v5), (6, .int v6)] [] S :=
  h (fun v0 v1 v4 v5 v6 S => WS X 10 0 0 9 [(0, .ref v0), (1, .ref v1), (4, .int v4), (5, .int v5), (6, .int v6)] [] S) (fun v0 v1 v4 v5 v6 S hh => TB_X7_trace_9 C E ht hn (fun v0 v1 v4 v5 v6 S z => z) hh)
def P_X7_trace_0 (Q : Int32 → HS → Prop) (v0 : Nat) (v1 : Nat) (v2 : Int32) (v3 : Int32) (S : HS) : Prop := P_X7_trace_9 Q v0 v1 v2 v3 (0 : Int32) S
set_option maxRecDepth 20000 in
set_option maxHeartbeats 4000000 in
theorem T_X7_trace_0 {X : CX} {Q : Int32 → HS → Prop} (C : Cx X cX7_trace RX7 10 rm_X7_trace) (E : ReI X rm_X7_trace Q) (ht : (xh X).sig.returnType = (some .int)) (hn : (xh X).name = yX7_trace.name) {v0 : Nat} {v1 : Nat} {v2 : Int32} {v3 : Int32} {S : HS} (h : P_X7_trace_0 Q v0 v1 v2 v3 S) : WS X 10 0 0 0 [(0, .ref v0), (1, .ref v1), (2, .int v2), (3, .int v3)] [] S := by
  refine r_iload_n (pc := 0) C dX7_trace_0 2 rfl ?_
  refine r_istore (pc := 1) C dX7_trace_1 (by decide) (lv' := [(4, .int v2), (0, .ref v0), (1, .ref v1), (2, .int v2), (3, .int v3)]) rfl ?_
  refine r_iload_n (pc := 3) C dX7_trace_3 4 rfl ?_
  refine r_istore (pc := 4) C dX7_trace_4 (by decide) (lv' := [(5, .int v3), (4, .int v2), (0, .ref v0), (1, .ref v1), (2, .int v2), (3, .int v3)]) rfl ?_
  refine r_iconst (pc := 6) C (v := (0 : Int32)) dX7_trace_6 (by decide) ?_
  refine r_istore (pc := 7) C dX7_trace_7 (by decide) (lv' := [(6, .int (0 : Int32)), (5, .int v3), (4, .int v2), (0, .ref v0), (1, .ref v1), (2, .int v2), (3, .int v3)]) rfl ?_
  exact r_sub [3, 4, 2, 1, 0] rfl (T_X7_trace_9 C E ht hn h)
def P_X7_trace (v0 : Nat) (v1 : Nat) (v2 : Int32) (v3 : Int32) (Q : Int32 → HS → Prop) (S : HS) : Prop := P_X7_trace_0 Q v0 v1 v2 v3 S
theorem c_X7_trace {l : Launch} {Ee : EE} {S : HS} {v0 : Nat} {v1 : Nat} {v2 : Int32} {v3 : Int32} {Q : Int32 → HS → Prop} (h : P_X7_trace v0 v1 v2 v3 Q S) : MI l yX7_trace cX7_trace 10 (some .int) rm_X7_trace Ee S [.ref v0, .ref v1, .int v2, .int v3] Q :=
  openI (by decide) (Nat.le_of_ble_eq_true rfl) (fun X C E ht hn hE hl => by subst hE; exact r_sub [0, 1, 2, 3] rfl (T_X7_trace_0 C E ht hn h))
