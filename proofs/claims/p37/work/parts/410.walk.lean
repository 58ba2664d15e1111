def rm_X4_exchange : Room := { frames := 0, cells := 0, slots := 0, locals := 0 }
def P_X4_exchange_0 (Q : Nat → HS → Prop) (v0 : Nat) (v1 : Nat) (S : HS) : Prop := ob S v0 4 ∧ (∃ a1 : Nat, fR S v0 5 = some a1 ∧ (∀ S2 : HS, S2 = sR S v0 5 (some v1) → (Q a1 S2)))
set_option maxRecDepth 20000 in
set_option maxHeartbeats 4000000 in
theorem T_X4_exchange_0 {X : CX} {Q : Nat → HS → Prop} (C : Cx X cX4_exchange RX4 3 rm_X4_exchange) (E : ReR X rm_X4_exchange (fun r S => ∃ a, r = some a ∧ Q a S)) (ht : (xh X).sig.returnType = (some (.object "RainWalk$World"))) (hn : (xh X).name = yX4_exchange.name) {v0 : Nat} {v1 : Nat} {S : HS} (h : P_X4_exchange_0 Q v0 v1 S) : WS X 3 0 0 0 [(0, .ref v0), (1, .ref v1)] [] S := by
  refine r_aload_n (pc := 0) C dX4_exchange_0 0 rfl ?_
  obtain ⟨o_v0, h⟩ := h
  obtain ⟨a1, ea1, h⟩ := h
  refine r_getr (pc := 1) C fL_X4_18 dX4_exchange_1 o_v0 ea1 ?_
  refine r_astore_n (pc := 4) C dX4_exchange_4 rfl (by decide) (lv' := [(2, .ref a1), (0, .ref v0), (1, .ref v1)]) rfl ?_
  refine r_aload_n (pc := 5) C dX4_exchange_5 1 rfl ?_
  refine r_aload_n (pc := 6) C dX4_exchange_6 2 rfl ?_
  refine r_putr (pc := 7) C pfL_X4_18 dX4_exchange_7 o_v0 ?_
  refine r_heap (fun S2 eS2 => ?_)
  have h := h S2 eS2
  have o_v0 := ob_R eS2 o_v0
  refine r_aload_n (pc := 10) C dX4_exchange_10 0 rfl ?_
  exact r_aret (pc := 11) C E ht (Or.inl ⟨_, rfl⟩) dX4_exchange_11 (by decide) (by decide) ⟨_, rfl, h⟩
def P_X4_exchange (v0 : Nat) (v1 : Nat) (Q : Nat → HS → Prop) (S : HS) : Prop := P_X4_exchange_0 Q v0 v1 S
theorem c_X4_exchange {l : Launch} {Ee : EE} {S : HS} {v0 : Nat} {v1 : Nat} {Q : Nat → HS → Prop} (h : P_X4_exchange v0 v1 Q S) : MR l yX4_exchange cX4_exchange 3 (some (.object "RainWalk$World")) rm_X4_exchange Ee S [.ref v0, .ref v1] (fun r S => ∃ a, r = some a ∧ Q a S) :=
  openR (by decide) (Nat.le_of_ble_eq_true rfl) (fun X C E ht hn hE hl => by subst hE; exact r_sub [0, 1] rfl (T_X4_exchange_0 C E ht hn h))
def rm_X4_findName : Room := { frames := 0, cells := 0, slots := 0, locals := 0 }
def B_X4_findName_2 (Q : Int32 → HS → Prop) (X2 : Nat → Int32 → HS → Prop) (v0 : Nat) (v1 : Int32) (S : HS) : Prop := ob S v0 4 ∧ (∀ x1 : Int32, x1 = fI S v0 10 → (((x1 ≤ v1) → (Q (-1 : Int32) S)) ∧ ((¬ x1 ≤ v1) → ((((12 : Int32) ≤ v1) → (Q (-1 : Int32) S)) ∧ ((¬ (12 : Int32) ≤ v1) → (∃ a4 : Nat, fR S v0 11 = some a4 ∧ (ob S a4 14 ∧ (vp_in v1 (hN S a4) ∧ ∀ x6 : Int64, x6 = fJ S a4 v1.toNatClampNeg → (∀ x7 : Int64, x7 = fJ S v0 8 → (((¬ (lg_cmp x6 x7) = 0) → (∀ x9 : Int32, x9 = v1 + (1 : Int32) → (X2 v0 x9 S))) ∧ (((lg_cmp x6 x7) = 0) → (∃ a10 : Nat, fR S v0 12 = some a10 ∧ (ob S a10 13 ∧ (vp_in v1 (hN S a10) ∧ ∀ x12 : Int32, x12 = fI S a10 v1.toNatClampNeg → (Q x12 S)))))))))))))))
def P_X4_findName_2 (Q : Int32 → HS → Prop) (v0 : Nat) (v1 : Int32) (S : HS) : Prop := ∀ X2 : Nat → Int32 → HS → Prop, (∀ (v0 : Nat) (v1 : Int32) (S : HS), B_X4_findName_2 Q X2 v0 v1 S → X2 v0 v1 S) → X2 v0 v1 S
set_option maxRecDepth 20000 in
set_option maxHeartbeats 4000000 in
theorem TB_X4_findName_2 {X : CX} {Q : Int32 → HS → Prop} (C : Cx X cX4_findName RX4 2 rm_X4_findName) (E : ReI X rm_X4_findName Q) (ht : (xh X).sig.returnType = (some .int)) (hn : (xh X).name = yX4_findName.name) {X2 : Nat → Int32 → HS → Prop} (hX2 : ∀ (v0 : Nat) (v1 : Int32) (S : HS), X2 v0 v1 S → WS X 2 0 0 2 [(0, .ref v0), (1, .int v1)] [] S) {v0 : Nat} {v1 : Int32} {S : HS} (h : B_X4_findName_2 Q X2 v0 v1 S) : WS X 2 0 0 2 [(0, .ref v0), (1, .int v1)] [] S := by
  refine r_iload_n (pc := 2) C dX4_findName_2 1 rfl ?_
  refine r_aload_n (pc := 3) C dX4_findName_3 0 rfl ?_
  obtain ⟨o_v0, h⟩ := h
  refine r_geti (pc := 4) C fL_X4_116 dX4_findName_4 o_v0 ?_
  refine r_topi (fun x1 ex1 => ?_)
  have h := h x1 ex1
  refine r_icmp_ge (pc := 7) C (tgt := 43) dX4_findName_7 (by decide) (fun c2 => ?_) (fun c2 => ?_)
  · have h := h.1 c2
    refine r_iconst (pc := 43) C (v := (-1 : Int32)) dX4_findName_43 (by decide) ?_
    exact r_iret (pc := 44) C E ht dX4_findName_44 (by decide) (by decide) h
  · have h := h.2 c2
    refine r_iload_n (pc := 10) C dX4_findName_10 1 rfl ?_
    refine r_bipush (pc := 11) C (v := (12 : Int32)) dX4_findName_11 (by decide) ?_
    refine r_icmp_ge (pc := 13) C (tgt := 43) dX4_findName_13 (by decide) (fun c3 => ?_) (fun c3 => ?_)
    · have h := h.1 c3
      refine r_iconst (pc := 43) C (v := (-1 : Int32)) dX4_findName_43 (by decide) ?_
      exact r_iret (pc := 44) C E ht dX4_findName_44 (by decide) (by decide) h
    · have h := h.2 c3
      refine r_aload_n (pc := 16) C dX4_findName_16 0 rfl ?_
      obtain ⟨a4, ea4, h⟩ := h
      refine r_getr (pc := 17) C fL_X4_22 dX4_findName_17 o_v0 ea4 ?_
      refine r_iload_n (pc := 20) C dX4_findName_20 1 rfl ?_
      obtain ⟨o_a4, h⟩ := h
      obtain ⟨i5, h⟩ := h
      refine r_lald (pc := 21) C dX4_findName_21 o_a4 i5 ?_
      refine r_topl (fun x6 ex6 => ?_)
      have h := h x6 ex6
      refine r_aload_n (pc := 22) C dX4_findName_22 0 rfl ?_
      refine r_getl (pc := 23) C fL_X4_132 dX4_findName_23 o_v0 ?_
      refine r_topl (fun x7 ex7 => ?_)
      have h := h x7 ex7
      refine r_lcmp (pc := 26) C dX4_findName_26 ?_
      refine r_if_ne (pc := 27) C (tgt := 37) dX4_findName_27 (by decide) (fun c8 => ?_) (fun c8 => ?_)
      · have h := h.1 c8
        obtain ⟨x9, ex9⟩ : ∃ z : Int32, z = v1 + (1 : Int32) := ⟨_, rfl⟩
        have h := h x9 ex9
        refine r_iinc (pc := 37) C (v := x9) (lv' := [(1, .int x9), (0, .ref v0)]) dX4_findName_37 1 rfl ex9.symm (by decide) rfl ?_
        refine r_goto (pc := 40) C (tgt := 2) dX4_findName_40 (by decide) ?_
        exact r_sub [1, 0] rfl (hX2 v0 x9 S h)
      · have h := h.2 c8
        refine r_aload_n (pc := 30) C dX4_findName_30 0 rfl ?_
        obtain ⟨a10, ea10, h⟩ := h
        refine r_getr (pc := 31) C fL_X4_26 dX4_findName_31 o_v0 ea10 ?_
        refine r_iload_n (pc := 34) C dX4_findName_34 1 rfl ?_
        obtain ⟨o_a10, h⟩ := h
        obtain ⟨i11, h⟩ := h
        refine r_iald (pc := 35) C dX4_findName_35 o_a10 i11 ?_
        refine r_topi (fun x12 ex12 => ?_)
        have h := h x12 ex12
        exact r_iret (pc := 36) C E ht dX4_findName_36 (by decide) (by decide) h
theorem T_X4_findName_2 {X : CX} {Q : Int32 → HS → Prop} (C : Cx X cX4_findName RX4 2 rm_X4_findName) (E : ReI X rm_X4_findName Q) (ht : (xh X).sig.returnType = (some .int)) (hn : (xh X).name = yX4_findName.name) {v0 : Nat} {v1 : Int32} {S : HS} (h : P_X4_findName_2 Q v0 v1 S) : WS X 2 0 0 2 [(0, .ref v0), (1, .int v1)] [] S :=
  h (fun v0 v1 S => WS X 2 0 0 2 [(0, .ref v0), (1, .int v1)] [] S) (fun v0 v1 S hh => TB_X4_findName_2 C E ht hn (fun v0 v1 S z => z) hh)
def P_X4_findName_0 (Q : Int32 → HS → Prop) (v0 : Nat) (S : HS) : Prop := P_X4_findName_2 Q v0 (0 : Int32) S
set_option maxRecDepth 20000 in
set_option maxHeartbeats 4000000 in
theorem T_X4_findName_0 {X : CX} {Q : Int32 → HS → Prop} (C : Cx X cX4_findName RX4 2 rm_X4_findName) (E : ReI X rm_X4_findName Q) (ht : (xh X).sig.returnType = (some .int)) (hn : (xh X).name = yX4_findName.name) {v0 : Nat} {S : HS} (h : P_X4_findName_0 Q v0 S) : WS X 2 0 0 0 [(0, .ref v0)] [] S := by
  refine r_iconst (pc := 0) C (v := (0 : Int32)) dX4_findName_0 (by decide) ?_
  refine r_istore_n (pc := 1) C dX4_findName_1 rfl (by decide) (lv' := [(1, .int (0 : Int32)), (0, .ref v0)]) rfl ?_
  exact r_sub [1, 0] rfl (T_X4_findName_2 C E ht hn h)
def P_X4_findName (v0 : Nat) (Q : Int32 → HS → Prop) (S : HS) : Prop := P_X4_findName_0 Q v0 S
theorem c_X4_findName {l : Launch} {Ee : EE} {S : HS} {v0 : Nat} {Q : Int32 → HS → Prop} (h : P_X4_findName v0 Q S) : MI l yX4_findName cX4_findName 2 (some .int) rm_X4_findName Ee S [.ref v0] Q :=
  openI (by decide) (Nat.le_of_ble_eq_true rfl) (fun X C E ht hn hE hl => by subst hE; exact r_sub [0] rfl (T_X4_findName_0 C E ht hn h))
def rm_X8_isTold : Room := { frames := 0, cells := 0, slots := 0, locals := 0 }
def P_X8_isTold_0 (Q : Int32 → HS → Prop) (v0 : Nat) (S : HS) : Prop := ob S v0 8 ∧ (∀ x1 : Int32, x1 = fI S v0 0 → (((x1 ≤ 0) → (Q (0 : Int32) S)) ∧ ((¬ x1 ≤ 0) → (Q (1 : Int32) S))))
set_option maxRecDepth 20000 in
set_option maxHeartbeats 4000000 in
theorem T_X8_isTold_0 {X : CX} {Q : Int32 → HS → Prop} (C : Cx X cX8_isTold RX8 1 rm_X8_isTold) (E : ReI X rm_X8_isTold (fun r S => bl r ∧ Q r S)) (ht : (xh X).sig.returnType = (some .boolean)) (hn : (xh X).name = yX8_isTold.name) {v0 : Nat} {S : HS} (h : P_X8_isTold_0 Q v0 S) : WS X 1 0 0 0 [(0, .ref v0)] [] S := by
  refine r_aload_n (pc := 0) C dX8_isTold_0 0 rfl ?_
  obtain ⟨o_v0, h⟩ := h
  refine r_geti (pc := 1) C fL_X8_42 dX8_isTold_1 o_v0 ?_
  refine r_topi (fun x1 ex1 => ?_)
  have h := h x1 ex1
  refine r_if_le (pc := 4) C (tgt := 11) dX8_isTold_4 (by decide) (fun c2 => ?_) (fun c2 => ?_)
  · have h := h.1 c2
    refine r_iconst (pc := 11) C (v := (0 : Int32)) dX8_isTold_11 (by decide) ?_
    exact r_zret (pc := 12) C E ht dX8_isTold_12 (by decide) (by decide) (Or.inl rfl) h
  · have h := h.2 c2
    refine r_iconst (pc := 7) C (v := (1 : Int32)) dX8_isTold_7 (by decide) ?_
    refine r_goto (pc := 8) C (tgt := 12) dX8_isTold_8 (by decide) ?_
    exact r_zret (pc := 12) C E ht dX8_isTold_12 (by decide) (by decide) (Or.inr rfl) h
def P_X8_isTold (v0 : Nat) (Q : Int32 → HS → Prop) (S : HS) : Prop := P_X8_isTold_0 Q v0 S
theorem c_X8_isTold {l : Launch} {Ee : EE} {S : HS} {v0 : Nat} {Q : Int32 → HS → Prop} (h : P_X8_isTold v0 Q S) : MI l yX8_isTold cX8_isTold 1 (some .boolean) rm_X8_isTold Ee S [.ref v0] (fun r S => bl r ∧ Q r S) :=
  openI (by decide) (Nat.le_of_ble_eq_true rfl) (fun X C E ht hn hE hl => by subst hE; exact r_sub [0] rfl (T_X8_isTold_0 C E ht hn h))
def rm_X4_hasRoom : Room := { frames := 2, cells := 0, slots := 0, locals := 46 }
def P_X4_hasRoom_0 (Q : Int32 → HS → Prop) (v0 : Nat) (v1 : Int32) (v2 : Int32) (S : HS) : Prop := ob S v0 4 ∧ (∃ a1 : Nat, fR S v0 5 = some a1 ∧ (ob S a1 8 ∧ (P_X8_isTold a1 (fun x4 S2 => Gr S S2 → bl x4 → (((¬ x4 = 0) → (((v1 < v2) → (P_X4_next v0 (fun S7 => Gr S2 S7 → (Q (1 : Int32) S7)) S2)) ∧ ((¬ v1 < v2) → (P_X4_fail v0 (5 : Int32) (fun x12 S10 => Gr S2 S10 → bl x12 → (bl x12 ∧ Q x12 S10)) S2)))) ∧ ((x4 = 0) → (P_X4_fail v0 (6 : Int32) (fun x15 S13 => Gr S2 S13 → bl x15 → (bl x15 ∧ Q x15 S13)) S2)))) S)))
set_option maxRecDepth 20000 in
set_option maxHeartbeats 4000000 in
theorem T_X4_hasRoom_0 {X : CX} {Q : Int32 → HS → Prop} (C : Cx X cX4_hasRoom RX4 3 rm_X4_hasRoom) (E : ReI X rm_X4_hasRoom (fun r S => bl r ∧ Q r S)) (ht : (xh X).sig.returnType = (some .boolean)) (hn : (xh X).name = yX4_hasRoom.name) {v0 : Nat} {v1 : Int32} {v2 : Int32} {S : HS} (h : P_X4_hasRoom_0 Q v0 v1 v2 S) : WS X 3 0 0 0 [(0, .ref v0), (1, .int v1), (2, .int v2)] [] S := by
  refine r_aload_n (pc := 0) C dX4_hasRoom_0 0 rfl ?_
  obtain ⟨o_v0, h⟩ := h
  obtain ⟨a1, ea1, h⟩ := h
  refine r_getr (pc := 1) C fL_X4_18 dX4_hasRoom_1 o_v0 ea1 ?_
  obtain ⟨o_a1, h⟩ := h
  refine r_callVi0 (pc := 4) C (rest := []) (a := a1) o_a1 [] yV_X8_isTold g_515 (c_X8_isTold h) dX4_hasRoom_4 rfl rfl (Nat.le_of_ble_eq_true rfl) ⟨by decide, by decide⟩ ⟨by decide, by decide⟩ ⟨rfl, rfl⟩ (fun x4 S2 h g3 => ?_)
  have bx4 := h.1
  have h := h.2 g3 bx4
  have o_a1 := gr_ob g3 o_a1
  have o_v0 := gr_ob g3 o_v0
  refine r_if_ne (pc := 7) C (tgt := 17) dX4_hasRoom_7 (by decide) (fun c5 => ?_) (fun c5 => ?_)
  · have h := h.1 c5
    refine r_iload_n (pc := 17) C dX4_hasRoom_17 1 rfl ?_
    refine r_iload_n (pc := 18) C dX4_hasRoom_18 2 rfl ?_
    refine r_icmp_lt (pc := 19) C (tgt := 28) dX4_hasRoom_19 (by decide) (fun c6 => ?_) (fun c6 => ?_)
    · have h := h.1 c6
      refine r_aload_n (pc := 28) C dX4_hasRoom_28 0 rfl ?_
      refine r_callVv0 (pc := 29) C (rest := []) (a := v0) o_v0 [] yV_X4_next g_449 (c_X4_next h) dX4_hasRoom_29 rfl rfl (Nat.le_of_ble_eq_true rfl) ⟨by decide, by decide⟩ ⟨by decide, by decide⟩ ⟨rfl, rfl⟩ (fun S7 h g8 => ?_)
      have h := h g8
      have o_a1 := gr_ob g8 o_a1
      have o_v0 := gr_ob g8 o_v0
      refine r_iconst (pc := 32) C (v := (1 : Int32)) dX4_hasRoom_32 (by decide) ?_
      exact r_zret (pc := 33) C E ht dX4_hasRoom_33 (by decide) (by decide) (Or.inr rfl) h
    · have h := h.2 c6
      refine r_aload_n (pc := 22) C dX4_hasRoom_22 0 rfl ?_
      refine r_iconst (pc := 23) C (v := (5 : Int32)) dX4_hasRoom_23 (by decide) ?_
      refine r_callVi0 (pc := 24) C (rest := []) (a := v0) o_v0 [.int (5 : Int32)] yV_X4_fail g_519 (c_X4_fail h) dX4_hasRoom_24 rfl rfl (Nat.le_of_ble_eq_true rfl) ⟨by decide, by decide⟩ ⟨by decide, by decide⟩ ⟨rfl, rfl⟩ (fun x12 S10 h g11 => ?_)
      have bx12 := h.1
      have h := h.2 g11 bx12
      have o_a1 := gr_ob g11 o_a1
      have o_v0 := gr_ob g11 o_v0
      exact r_zret (pc := 27) C E ht dX4_hasRoom_27 (by decide) (by decide) h.1 h.2
  · have h := h.2 c5
    refine r_aload_n (pc := 10) C dX4_hasRoom_10 0 rfl ?_
    refine r_bipush (pc := 11) C (v := (6 : Int32)) dX4_hasRoom_11 (by decide) ?_
    refine r_callVi0 (pc := 13) C (rest := []) (a := v0) o_v0 [.int (6 : Int32)] yV_X4_fail g_519 (c_X4_fail h) dX4_hasRoom_13 rfl rfl (Nat.le_of_ble_eq_true rfl) ⟨by decide, by decide⟩ ⟨by decide, by decide⟩ ⟨rfl, rfl⟩ (fun x15 S13 h g14 => ?_)
    have bx15 := h.1
    have h := h.2 g14 bx15
    have o_a1 := gr_ob g14 o_a1
    have o_v0 := gr_ob g14 o_v0
    exact r_zret (pc := 16) C E ht dX4_hasRoom_16 (by decide) (by decide) h.1 h.2
def P_X4_hasRoom (v0 : Nat) (v1 : Int32) (v2 : Int32) (Q : Int32 → HS → Prop) (S : HS) : Prop := P_X4_hasRoom_0 Q v0 v1 v2 S
theorem c_X4_hasRoom {l : Launch} {Ee : EE} {S : HS} {v0 : Nat} {v1 : Int32} {v2 : Int32} {Q : Int32 → HS → Prop} (h : P_X4_hasRoom v0 v1 v2 Q S) : MI l yX4_hasRoom cX4_hasRoom 3 (some .boolean) rm_X4_hasRoom Ee S [.ref v0, .int v1, .int v2] (fun r S => bl r ∧ Q r S) :=
  openI (by decide) (Nat.le_of_ble_eq_true rfl) (fun X C E ht hn hE hl => by subst hE; exact r_sub [0, 1, 2] rfl (T_X4_hasRoom_0 C E ht hn h))
def rm_X5_init : Room := { frames := 1, cells := 0, slots := 0, locals := 20 }
def P_X5_init_0 (Q : HS → Prop) (v0 : Nat) (S : HS) : Prop := Q S
set_option maxRecDepth 20000 in
set_option maxHeartbeats 4000000 in
theorem T_X5_init_0 {X : CX} {Q : HS → Prop} (C : Cx X cX5_init RX5 1 rm_X5_init) (E : ReV X rm_X5_init Q) (ht : (xh X).sig.returnType = none) (hn : (xh X).name = yX5_init.name) {v0 : Nat} {S : HS} (h : P_X5_init_0 Q v0 S) : WS X 1 0 0 0 [(0, .ref v0)] [] S := by
  refine r_aload_n (pc := 0) C dX5_init_0 0 rfl ?_
  refine r_objinit (pc := 1) C g_77 dX5_init_1 (by decide) (Nat.le_of_ble_eq_true rfl) ?_
  exact r_vret (pc := 4) C E ht dX5_init_4 (by decide) (by decide) h
def P_X5_init (v0 : Nat) (Q : HS → Prop) (S : HS) : Prop := P_X5_init_0 Q v0 S
theorem c_X5_init {l : Launch} {Ee : EE} {S : HS} {v0 : Nat} {Q : HS → Prop} (h : P_X5_init v0 Q S) : MV l yX5_init cX5_init 1 none rm_X5_init Ee S [.ref v0] Q :=
  openV (by decide) (Nat.le_of_ble_eq_true rfl) (fun X C E ht hn hE hl => by subst hE; exact r_sub [0] rfl (T_X5_init_0 C E ht hn h))
def rm_X6_init : Room := { frames := 1, cells := 0, slots := 0, locals := 20 }
def P_X6_init_0 (Q : HS → Prop) (v0 : Nat) (S : HS) : Prop := Q S
set_option maxRecDepth 20000 in
set_option maxHeartbeats 4000000 in
theorem T_X6_init_0 {X : CX} {Q : HS → Prop} (C : Cx X cX6_init RX6 1 rm_X6_init) (E : ReV X rm_X6_init Q) (ht : (xh X).sig.returnType = none) (hn : (xh X).name = yX6_init.name) {v0 : Nat} {S : HS} (h : P_X6_init_0 Q v0 S) : WS X 1 0 0 0 [(0, .ref v0)] [] S := by
  refine r_aload_n (pc := 0) C dX6_init_0 0 rfl ?_
  refine r_objinit (pc := 1) C g_105 dX6_init_1 (by decide) (Nat.le_of_ble_eq_true rfl) ?_
  exact r_vret (pc := 4) C E ht dX6_init_4 (by decide) (by decide) h
def P_X6_init (v0 : Nat) (Q : HS → Prop) (S : HS) : Prop := P_X6_init_0 Q v0 S
theorem c_X6_init {l : Launch} {Ee : EE} {S : HS} {v0 : Nat} {Q : HS → Prop} (h : P_X6_init v0 Q S) : MV l yX6_init cX6_init 1 none rm_X6_init Ee S [.ref v0] Q :=
  openV (by decide) (Nat.le_of_ble_eq_true rfl) (fun X C E ht hn hE hl => by subst hE; exact r_sub [0] rfl (T_X6_init_0 C E ht hn h))
def rm_X8_init : Room := { frames := 2, cells := 28, slots := 172, locals := 40 }
def B_X8_init_115 (Q : HS → Prop) (X115 : Nat → Int32 → Nat → Nat → HS → Prop) (v0 : Nat) (v1 : Int32) (kk : Nat) (nn : Nat) (S : HS) : Prop := ob S v0 8 ∧ (∃ a1 : Nat, fR S v0 9 = some a1 ∧ (ob S a1 19 ∧ ((((nI (hN S a1)) ≤ v1) → (kk ≤ rm_X8_init.cells ∧ nn ≤ rm_X8_init.slots ∧ Q S)) ∧ ((¬ (nI (hN S a1)) ≤ v1) → (∃ a3 : Nat, fR S v0 9 = some a3 ∧ (kk + 1 ≤ rm_X8_init.cells ∧ nn + 7 ≤ rm_X8_init.slots ∧ ∀ a4 : Nat, a4 ∉ hL S → ∀ S5 : HS, S5 = nW S a4 6 0 → (kk + 1 ≤ rm_X8_init.cells ∧ nn + 7 ≤ rm_X8_init.slots ∧ (P_X6_init a4 (fun S6 => Gr S5 S6 → (ob S6 a3 19 ∧ (vp_in v1 (hN S6 a3) ∧ (∀ S10 : HS, S10 = sR S6 a3 v1.toNatClampNeg (some a4) → (∀ x11 : Int32, x11 = v1 + (1 : Int32) → (X115 v0 x11 (kk + 1) (nn + 7) S10)))))) S5))))))))
def P_X8_init_115 (Q : HS → Prop) (v0 : Nat) (v1 : Int32) (kk : Nat) (nn : Nat) (S : HS) : Prop := ∀ X115 : Nat → Int32 → Nat → Nat → HS → Prop, (∀ (v0 : Nat) (v1 : Int32) (kk : Nat) (nn : Nat) (S : HS), B_X8_init_115 Q X115 v0 v1 kk nn S → X115 v0 v1 kk nn S) → X115 v0 v1 kk nn S
set_option maxRecDepth 20000 in
set_option maxHeartbeats 4000000 in
theorem TB_X8_init_115 {X : CX} {Q : HS → Prop} (C : Cx X cX8_init RX8 2 rm_X8_init) (E : ReV X rm_X8_init Q) (ht : (xh X).sig.returnType = none) (hn : (xh X).name = yX8_init.name) {X115 : Nat → Int32 → Nat → Nat → HS → Prop} (hX115 : ∀ (v0 : Nat) (v1 : Int32) (kk : Nat) (nn : Nat) (S : HS), X115 v0 v1 kk nn S → WS X 2 kk nn 115 [(0, .ref v0), (1, .int v1)] [] S) {v0 : Nat} {v1 : Int32} {kk : Nat} {nn : Nat} {S : HS} (h : B_X8_init_115 Q X115 v0 v1 kk nn S) : WS X 2 kk nn 115 [(0, .ref v0), (1, .int v1)] [] S := by
  refine r_iload_n (pc := 115) C dX8_init_115 1 rfl ?_
  refine r_aload_n (pc := 116) C dX8_init_116 0 rfl ?_
  obtain ⟨o_v0, h⟩ := h
  obtain ⟨a1, ea1, h⟩ := h
  refine r_getr (pc := 117) C fL_X8_29 dX8_init_117 o_v0 ea1 ?_
  obtain ⟨o_a1, h⟩ := h
  refine r_alen19 (pc := 120) C dX8_init_120 o_a1 ?_
  refine r_icmp_ge (pc := 121) C (tgt := 143) dX8_init_121 (by decide) (fun c2 => ?_) (fun c2 => ?_)
  · have h := h.1 c2
    obtain ⟨hk, hk2, h⟩ := h
    exact r_vret (pc := 143) C E ht dX8_init_143 hk hk2 h
  · have h := h.2 c2
    refine r_aload_n (pc := 124) C dX8_init_124 0 rfl ?_
    obtain ⟨a3, ea3, h⟩ := h
    refine r_getr (pc := 125) C fL_X8_29 dX8_init_125 o_v0 ea3 ?_
    refine r_iload_n (pc := 128) C dX8_init_128 1 rfl ?_
    obtain ⟨hk, hk2, h⟩ := h
    refine r_new (pc := 129) C nc_X8_27 dX8_init_129 hk hk2 (fun a4 q12 => ?_)
    refine r_heap (fun S5 eS5 => ?_)
    have h := h a4 q12 S5 eS5
    have g13 := gr_of_new eS5 q12
    have o_a4 := ob_of_new eS5
    have o_a1 := gr_ob g13 o_a1
    have o_v0 := gr_ob g13 o_v0
    refine r_dup (pc := 132) C dX8_init_132 rfl ?_
    obtain ⟨hk, hk2, h⟩ := h
    refine r_callNv0 (pc := 133) C (rest := [.ref a4, .int v1, .ref a3]) (a := a4) [] yI_X6_init (List.mem_of_getElem? (i := 2) rfl) (c_X6_init h) dX8_init_133 rfl rfl (Nat.le_of_ble_eq_true rfl) ⟨by decide, by decide⟩ ⟨hk, hk2⟩ ⟨rfl, rfl⟩ (fun S6 h g7 => ?_)
    have h := h g7
    have o_a1 := gr_ob g7 o_a1
    have o_a4 := gr_ob g7 o_a4
    have o_v0 := gr_ob g7 o_v0
    obtain ⟨o_a3, h⟩ := h
    obtain ⟨i9, h⟩ := h
    refine r_aast19 (pc := 136) C dX8_init_136 o_a3 i9 o_a4 ?_
    refine r_heap (fun S10 eS10 => ?_)
    have h := h S10 eS10
    have o_a1 := ob_R eS10 o_a1
    have o_a3 := ob_R eS10 o_a3
    have o_a4 := ob_R eS10 o_a4
    have o_v0 := ob_R eS10 o_v0
    obtain ⟨x11, ex11⟩ : ∃ z : Int32, z = v1 + (1 : Int32) := ⟨_, rfl⟩
    have h := h x11 ex11
    refine r_iinc (pc := 137) C (v := x11) (lv' := [(1, .int x11), (0, .ref v0)]) dX8_init_137 1 rfl ex11.symm (by decide) rfl ?_
    refine r_goto (pc := 140) C (tgt := 115) dX8_init_140 (by decide) ?_
    exact r_sub [1, 0] rfl (hX115 v0 x11 (kk + 1) (nn + 7) S10 h)
theorem T_X8_init_115 {X : CX} {Q : HS → Prop} (C : Cx X cX8_init RX8 2 rm_X8_init) (E : ReV X rm_X8_init Q) (ht : (xh X).sig.returnType = none) (hn : (xh X).name = yX8_init.name) {v0 : Nat} {v1 : Int32} {kk : Nat} {nn : Nat} {S : HS} (h : P_X8_init_115 Q v0 v1 kk nn S) : WS X 2 kk nn 115 [(0, .ref v0), (1, .int v1)] [] S :=
  h (fun v0 v1 kk nn S => WS X 2 kk nn 115 [(0, .ref v0), (1, .int v1)] [] S) (fun v0 v1 kk nn S hh => TB_X8_init_115 C E ht hn (fun v0 v1 kk nn S z => z) hh)
def B_X8_init_85 (Q : HS → Prop) (X85 : Nat → Int32 → Nat → Nat → HS → Prop) (v0 : Nat) (v1 : Int32) (kk : Nat) (nn : Nat) (S : HS) : Prop := ob S v0 8 ∧ (∃ a1 : Nat, fR S v0 8 = some a1 ∧ (ob S a1 18 ∧ ((((nI (hN S a1)) ≤ v1) → (P_X8_init_115 Q v0 (0 : Int32) kk nn S)) ∧ ((¬ (nI (hN S a1)) ≤ v1) → (∃ a3 : Nat, fR S v0 8 = some a3 ∧ (kk + 1 ≤ rm_X8_init.cells ∧ nn + 5 ≤ rm_X8_init.slots ∧ ∀ a4 : Nat, a4 ∉ hL S → ∀ S5 : HS, S5 = nW S a4 5 0 → (kk + 1 ≤ rm_X8_init.cells ∧ nn + 5 ≤ rm_X8_init.slots ∧ (P_X5_init a4 (fun S6 => Gr S5 S6 → (ob S6 a3 18 ∧ (vp_in v1 (hN S6 a3) ∧ (∀ S10 : HS, S10 = sR S6 a3 v1.toNatClampNeg (some a4) → (∀ x11 : Int32, x11 = v1 + (1 : Int32) → (X85 v0 x11 (kk + 1) (nn + 5) S10)))))) S5))))))))
def P_X8_init_85 (Q : HS → Prop) (v0 : Nat) (v1 : Int32) (kk : Nat) (nn : Nat) (S : HS) : Prop := ∀ X85 : Nat → Int32 → Nat → Nat → HS → Prop, (∀ (v0 : Nat) (v1 : Int32) (kk : Nat) (nn : Nat) (S : HS), B_X8_init_85 Q X85 v0 v1 kk nn S → X85 v0 v1 kk nn S) → X85 v0 v1 kk nn S
set_option maxRecDepth 20000 in
set_option maxHeartbeats 4000000 in
theorem TB_X8_init_85 {X : CX} {Q : HS → Prop} (C : Cx X cX8_init RX8 2 rm_X8_init) (E : ReV X rm_X8_init Q) (ht : (xh X).sig.returnType = none) (hn : (xh X).name = yX8_init.name) {X85 : Nat → Int32 → Nat → Nat → HS → Prop} (hX85 : ∀ (v0 : Nat) (v1 : Int32) (kk : Nat) (nn : Nat) (S : HS), X85 v0 v1 kk nn S → WS X 2 kk nn 85 [(0, .ref v0), (1, .int v1)] [] S) {v0 : Nat} {v1 : Int32} {kk : Nat} {nn : Nat} {S : HS} (h : B_X8_init_85 Q X85 v0 v1 kk nn S) : WS X 2 kk nn 85 [(0, .ref v0), (1, .int v1)] [] S := by
  refine r_iload_n (pc := 85) C dX8_init_85 1 rfl ?_
  refine r_aload_n (pc := 86) C dX8_init_86 0 rfl ?_
  obtain ⟨o_v0, h⟩ := h
  obtain ⟨a1, ea1, h⟩ := h
  refine r_getr (pc := 87) C fL_X8_23 dX8_init_87 o_v0 ea1 ?_
  obtain ⟨o_a1, h⟩ := h
  refine r_alen18 (pc := 90) C dX8_init_90 o_a1 ?_
  refine r_icmp_ge (pc := 91) C (tgt := 113) dX8_init_91 (by decide) (fun c2 => ?_) (fun c2 => ?_)
  · have h := h.1 c2
    refine r_iconst (pc := 113) C (v := (0 : Int32)) dX8_init_113 (by decide) ?_
    refine r_istore_n (pc := 114) C dX8_init_114 rfl (by decide) (lv' := [(1, .int (0 : Int32)), (0, .ref v0)]) rfl ?_
    exact r_sub [1, 0] rfl (T_X8_init_115 C E ht hn h)
  · have h := h.2 c2
    refine r_aload_n (pc := 94) C dX8_init_94 0 rfl ?_
    obtain ⟨a3, ea3, h⟩ := h
    refine r_getr (pc := 95) C fL_X8_23 dX8_init_95 o_v0 ea3 ?_
    refine r_iload_n (pc := 98) C dX8_init_98 1 rfl ?_
    obtain ⟨hk, hk2, h⟩ := h
    refine r_new (pc := 99) C nc_X8_21 dX8_init_99 hk hk2 (fun a4 q12 => ?_)
    refine r_heap (fun S5 eS5 => ?_)
    have h := h a4 q12 S5 eS5
    have g13 := gr_of_new eS5 q12
    have o_a4 := ob_of_new eS5
    have o_a1 := gr_ob g13 o_a1
    have o_v0 := gr_ob g13 o_v0
    refine r_dup (pc := 102) C dX8_init_102 rfl ?_
    obtain ⟨hk, hk2, h⟩ := h
    refine r_callNv0 (pc := 103) C (rest := [.ref a4, .int v1, .ref a3]) (a := a4) [] yI_X5_init (List.mem_of_getElem? (i := 1) rfl) (c_X5_init h) dX8_init_103 rfl rfl (Nat.le_of_ble_eq_true rfl) ⟨by decide, by decide⟩ ⟨hk, hk2⟩ ⟨rfl, rfl⟩ (fun S6 h g7 => ?_)
    have h := h g7
    have o_a1 := gr_ob g7 o_a1
    have o_a4 := gr_ob g7 o_a4
    have o_v0 := gr_ob g7 o_v0
    obtain ⟨o_a3, h⟩ := h
    obtain ⟨i9, h⟩ := h
    refine r_aast18 (pc := 106) C dX8_init_106 o_a3 i9 o_a4 ?_
    refine r_heap (fun S10 eS10 => ?_)
    have h := h S10 eS10
    have o_a1 := ob_R eS10 o_a1
    have o_a3 := ob_R eS10 o_a3
    have o_a4 := ob_R eS10 o_a4
    have o_v0 := ob_R eS10 o_v0
    obtain ⟨x11, ex11⟩ : ∃ z : Int32, z = v1 + (1 : Int32) := ⟨_, rfl⟩
    have h := h x11 ex11
    refine r_iinc (pc := 107) C (v := x11) (lv' := [(1, .int x11), (0, .ref v0)]) dX8_init_107 1 rfl ex11.symm (by decide) rfl ?_
    refine r_goto (pc := 110) C (tgt := 85) dX8_init_110 (by decide) ?_
    exact r_sub [1, 0] rfl (hX85 v0 x11 (kk + 1) (nn + 5) S10 h)
theorem T_X8_init_85 {X : CX} {Q : HS → Prop} (C : Cx X cX8_init RX8 2 rm_X8_init) (E : ReV X rm_X8_init Q) (ht : (xh X).sig.returnType = none) (hn : (xh X).name = yX8_init.name) {v0 : Nat} {v1 : Int32} {kk : Nat} {nn : Nat} {S : HS} (h : P_X8_init_85 Q v0 v1 kk nn S) : WS X 2 kk nn 85 [(0, .ref v0), (1, .int v1)] [] S :=
  h (fun v0 v1 kk nn S => WS X 2 kk nn 85 [(0, .ref v0), (1, .int v1)] [] S) (fun v0 v1 kk nn S hh => TB_X8_init_85 C E ht hn (fun v0 v1 kk nn S z => z) hh)
def B_X8_init_55 (Q : HS → Prop) (X55 : Nat → Int32 → Nat → Nat → HS → Prop) (v0 : Nat) (v1 : Int32) (kk : Nat) (nn : Nat) (S : HS) : Prop := ob S v0 8 ∧ (∃ a1 : Nat, fR S v0 6 = some a1 ∧ (ob S a1 17 ∧ ((((nI (hN S a1)) ≤ v1) → (P_X8_init_85 Q v0 (0 : Int32) kk nn S)) ∧ ((¬ (nI (hN S a1)) ≤ v1) → (∃ a3 : Nat, fR S v0 6 = some a3 ∧ (kk + 1 ≤ rm_X8_init.cells ∧ nn + 5 ≤ rm_X8_init.slots ∧ ∀ a4 : Nat, a4 ∉ hL S → ∀ S5 : HS, S5 = nW S a4 3 0 → (kk + 1 ≤ rm_X8_init.cells ∧ nn + 5 ≤ rm_X8_init.slots ∧ (P_X3_init a4 (fun S6 => Gr S5 S6 → (ob S6 a3 17 ∧ (vp_in v1 (hN S6 a3) ∧ (∀ S10 : HS, S10 = sR S6 a3 v1.toNatClampNeg (some a4) → (∀ x11 : Int32, x11 = v1 + (1 : Int32) → (X55 v0 x11 (kk + 1) (nn + 5) S10)))))) S5))))))))
def P_X8_init_55 (Q : HS → Prop) (v0 : Nat) (v1 : Int32) (kk : Nat) (nn : Nat) (S : HS) : Prop := ∀ X55 : Nat → Int32 → Nat → Nat → HS → Prop, (∀ (v0 : Nat) (v1 : Int32) (kk : Nat) (nn : Nat) (S : HS), B_X8_init_55 Q X55 v0 v1 kk nn S → X55 v0 v1 kk nn S) → X55 v0 v1 kk nn S
set_option maxRecDepth 20000 in
set_option maxHeartbeats 4000000 in
theorem TB_X8_init_55 {X : CX} {Q : HS → Prop} (C : Cx X cX8_init RX8 2 rm_X8_init) (E : ReV X rm_X8_init Q) (ht : (xh X).sig.returnType = none) (hn : (xh X).name = yX8_init.name) {X55 : Nat → Int32 → Nat → Nat → HS → Prop} (hX55 : ∀ (v0 : Nat) (v1 : Int32) (kk : Nat) (nn : Nat) (S : HS), X55 v0 v1 kk nn S → WS X 2 kk nn 55 [(0, .ref v0), (1, .int v1)] [] S) {v0 : Nat} {v1 : Int32} {kk : Nat} {nn : Nat} {S : HS} (h : B_X8_init_55 Q X55 v0 v1 kk nn S) : WS X 2 kk nn 55 [(0, .ref v0), (1, .int v1)] [] S := by
  refine r_iload_n (pc := 55) C dX8_init_55 1 rfl ?_
  refine r_aload_n (pc := 56) C dX8_init_56 0 rfl ?_
  obtain ⟨o_v0, h⟩ := h
  obtain ⟨a1, ea1, h⟩ := h
  refine r_getr (pc := 57) C fL_X8_11 dX8_init_57 o_v0 ea1 ?_
  obtain ⟨o_a1, h⟩ := h
  refine r_alen17 (pc := 60) C dX8_init_60 o_a1 ?_
  refine r_icmp_ge (pc := 61) C (tgt := 83) dX8_init_61 (by decide) (fun c2 => ?_) (fun c2 => ?_)
  · have h := h.1 c2
    refine r_iconst (pc := 83) C (v := (0 : Int32)) dX8_init_83 (by decide) ?_
    refine r_istore_n (pc := 84) C dX8_init_84 rfl (by decide) (lv' := [(1, .int (0 : Int32)), (0, .ref v0)]) rfl ?_
    exact r_sub [1, 0] rfl (T_X8_init_85 C E ht hn h)
  · have h := h.2 c2
    refine r_aload_n (pc := 64) C dX8_init_64 0 rfl ?_
    obtain ⟨a3, ea3, h⟩ := h
    refine r_getr (pc := 65) C fL_X8_11 dX8_init_65 o_v0 ea3 ?_
    refine r_iload_n (pc := 68) C dX8_init_68 1 rfl ?_
    obtain ⟨hk, hk2, h⟩ := h
    refine r_new (pc := 69) C nc_X8_9 dX8_init_69 hk hk2 (fun a4 q12 => ?_)
    refine r_heap (fun S5 eS5 => ?_)
    have h := h a4 q12 S5 eS5
    have g13 := gr_of_new eS5 q12
    have o_a4 := ob_of_new eS5
    have o_a1 := gr_ob g13 o_a1
    have o_v0 := gr_ob g13 o_v0
    refine r_dup (pc := 72) C dX8_init_72 rfl ?_
    obtain ⟨hk, hk2, h⟩ := h
    refine r_callNv0 (pc := 73) C (rest := [.ref a4, .int v1, .ref a3]) (a := a4) [] yI_X3_init (List.mem_of_getElem? (i := 0) rfl) (c_X3_init h) dX8_init_73 rfl rfl (Nat.le_of_ble_eq_true rfl) ⟨by decide, by decide⟩ ⟨hk, hk2⟩ ⟨rfl, rfl⟩ (fun S6 h g7 => ?_)
    have h := h g7
    have o_a1 := gr_ob g7 o_a1
    have o_a4 := gr_ob g7 o_a4
    have o_v0 := gr_ob g7 o_v0
    obtain ⟨o_a3, h⟩ := h
    obtain ⟨i9, h⟩ := h
    refine r_aast17 (pc := 76) C dX8_init_76 o_a3 i9 o_a4 ?_
    refine r_heap (fun S10 eS10 => ?_)
    have h := h S10 eS10
    have o_a1 := ob_R eS10 o_a1
    have o_a3 := ob_R eS10 o_a3
    have o_a4 := ob_R eS10 o_a4
    have o_v0 := ob_R eS10 o_v0
    obtain ⟨x11, ex11⟩ : ∃ z : Int32, z = v1 + (1 : Int32) := ⟨_, rfl⟩
    have h := h x11 ex11
    refine r_iinc (pc := 77) C (v := x11) (lv' := [(1, .int x11), (0, .ref v0)]) dX8_init_77 1 rfl ex11.symm (by decide) rfl ?_
    refine r_goto (pc := 80) C (tgt := 55) dX8_init_80 (by decide) ?_
    exact r_sub [1, 0] rfl (hX55 v0 x11 (kk + 1) (nn + 5) S10 h)
theorem T_X8_init_55 {X : CX} {Q : HS → Prop} (C : Cx X cX8_init RX8 2 rm_X8_init) (E : ReV X rm_X8_init Q) (ht : (xh X).sig.returnType = none) (hn : (xh X).name = yX8_init.name) {v0 : Nat} {v1 : Int32} {kk : Nat} {nn : Nat} {S : HS} (h : P_X8_init_55 Q v0 v1 kk nn S) : WS X 2 kk nn 55 [(0, .ref v0), (1, .int v1)] [] S :=
  h (fun v0 v1 kk nn S => WS X 2 kk nn 55 [(0, .ref v0), (1, .int v1)] [] S) (fun v0 v1 kk nn S hh => TB_X8_init_55 C E ht hn (fun v0 v1 kk nn S z => z) hh)
def P_X8_init_0 (Q : HS → Prop) (v0 : Nat) (kk : Nat) (nn : Nat) (S : HS) : Prop := kk + 1 ≤ rm_X8_init.cells ∧ nn + 6 ≤ rm_X8_init.slots ∧ ∀ a1 : Nat, a1 ∉ hL S → ∀ S2 : HS, S2 = nW S a1 17 6 → (ob S2 v0 8 ∧ (∀ S3 : HS, S3 = sR S2 v0 6 (some a1) → (kk + 1 + 1 ≤ rm_X8_init.cells ∧ nn + 6 + 8 ≤ rm_X8_init.slots ∧ ∀ a4 : Nat, a4 ∉ hL S3 → ∀ S5 : HS, S5 = nW S3 a4 13 8 → (∀ S6 : HS, S6 = sR S5 v0 7 (some a4) → (kk + 1 + 1 + 1 ≤ rm_X8_init.cells ∧ nn + 6 + 8 + 12 ≤ rm_X8_init.slots ∧ ∀ a7 : Nat, a7 ∉ hL S6 → ∀ S8 : HS, S8 = nW S6 a7 18 12 → (∀ S9 : HS, S9 = sR S8 v0 8 (some a7) → (kk + 1 + 1 + 1 + 1 ≤ rm_X8_init.cells ∧ nn + 6 + 8 + 12 + 4 ≤ rm_X8_init.slots ∧ ∀ a10 : Nat, a10 ∉ hL S9 → ∀ S11 : HS, S11 = nW S9 a10 19 4 → (∀ S12 : HS, S12 = sR S11 v0 9 (some a10) → (kk + 1 + 1 + 1 + 1 + 1 ≤ rm_X8_init.cells ∧ nn + 6 + 8 + 12 + 4 + 4 ≤ rm_X8_init.slots ∧ ∀ a13 : Nat, a13 ∉ hL S12 → ∀ S14 : HS, S14 = nW S12 a13 13 4 → (∀ S15 : HS, S15 = sR S14 v0 10 (some a13) → (kk + 1 + 1 + 1 + 1 + 1 + 1 ≤ rm_X8_init.cells ∧ nn + 6 + 8 + 12 + 4 + 4 + 20 ≤ rm_X8_init.slots ∧ ∀ a16 : Nat, a16 ∉ hL S15 → ∀ S17 : HS, S17 = nW S15 a16 13 20 → (∀ S18 : HS, S18 = sR S17 v0 11 (some a16) → (P_X8_init_55 Q v0 (0 : Int32) (kk + 1 + 1 + 1 + 1 + 1 + 1) (nn + 6 + 8 + 12 + 4 + 4 + 20) S18)))))))))))))
set_option maxRecDepth 20000 in
set_option maxHeartbeats 4000000 in
theorem T_X8_init_0 {X : CX} {Q : HS → Prop} (C : Cx X cX8_init RX8 2 rm_X8_init) (E : ReV X rm_X8_init Q) (ht : (xh X).sig.returnType = none) (hn : (xh X).name = yX8_init.name) {v0 : Nat} {kk : Nat} {nn : Nat} {S : HS} (h : P_X8_init_0 Q v0 kk nn S) : WS X 2 kk nn 0 [(0, .ref v0)] [] S := by
  refine r_aload_n (pc := 0) C dX8_init_0 0 rfl ?_
  refine r_objinit (pc := 1) C g_35 dX8_init_1 (by decide) (Nat.le_of_ble_eq_true rfl) ?_
  refine r_aload_n (pc := 4) C dX8_init_4 0 rfl ?_
  refine r_bipush (pc := 5) C (v := (6 : Int32)) dX8_init_5 (by decide) ?_
  obtain ⟨hk, hk2, h⟩ := h
  refine r_newa17 (pc := 7) C (N := 6) g_36 dX8_init_7 (by decide) (by decide) (by decide) hk hk2 (fun a1 q29 => ?_)
  refine r_heap (fun S2 eS2 => ?_)
  have h := h a1 q29 S2 eS2
  have g30 := gr_of_new eS2 q29
  have o_a1 := ob_of_new eS2
  obtain ⟨o_v0, h⟩ := h
  refine r_putFr (pc := 10) C pfL_X8_11 hn dX8_init_10 o_v0 ?_
  refine r_heap (fun S3 eS3 => ?_)
  have h := h S3 eS3
  have o_a1 := ob_R eS3 o_a1
  have o_v0 := ob_R eS3 o_v0
  refine r_aload_n (pc := 13) C dX8_init_13 0 rfl ?_
  refine r_bipush (pc := 14) C (v := (8 : Int32)) dX8_init_14 (by decide) ?_
  obtain ⟨hk, hk2, h⟩ := h
  refine r_newa13 (pc := 16) C (N := 8) g_72 dX8_init_16 (by decide) (by decide) (by decide) hk hk2 (fun a4 q27 => ?_)
  refine r_heap (fun S5 eS5 => ?_)
  have h := h a4 q27 S5 eS5
  have g28 := gr_of_new eS5 q27
  have o_a4 := ob_of_new eS5
  have o_a1 := gr_ob g28 o_a1
  have o_v0 := gr_ob g28 o_v0
  refine r_putFr (pc := 18) C pfL_X8_17 hn dX8_init_18 o_v0 ?_
  refine r_heap (fun S6 eS6 => ?_)
  have h := h S6 eS6
  have o_a1 := ob_R eS6 o_a1
  have o_a4 := ob_R eS6 o_a4
  have o_v0 := ob_R eS6 o_v0
  refine r_aload_n (pc := 21) C dX8_init_21 0 rfl ?_
  refine r_bipush (pc := 22) C (v := (12 : Int32)) dX8_init_22 (by decide) ?_
  obtain ⟨hk, hk2, h⟩ := h
  refine r_newa18 (pc := 24) C (N := 12) g_38 dX8_init_24 (by decide) (by decide) (by decide) hk hk2 (fun a7 q25 => ?_)
  refine r_heap (fun S8 eS8 => ?_)
  have h := h a7 q25 S8 eS8
  have g26 := gr_of_new eS8 q25
  have o_a7 := ob_of_new eS8
  have o_a1 := gr_ob g26 o_a1
  have o_a4 := gr_ob g26 o_a4
  have o_v0 := gr_ob g26 o_v0
  refine r_putFr (pc := 27) C pfL_X8_23 hn dX8_init_27 o_v0 ?_
  refine r_heap (fun S9 eS9 => ?_)
  have h := h S9 eS9
  have o_a1 := ob_R eS9 o_a1
  have o_a4 := ob_R eS9 o_a4
  have o_a7 := ob_R eS9 o_a7
  have o_v0 := ob_R eS9 o_v0
  refine r_aload_n (pc := 30) C dX8_init_30 0 rfl ?_
  refine r_iconst (pc := 31) C (v := (4 : Int32)) dX8_init_31 (by decide) ?_
  obtain ⟨hk, hk2, h⟩ := h
  refine r_newa19 (pc := 32) C (N := 4) g_40 dX8_init_32 (by decide) (by decide) (by decide) hk hk2 (fun a10 q23 => ?_)
  refine r_heap (fun S11 eS11 => ?_)
  have h := h a10 q23 S11 eS11
  have g24 := gr_of_new eS11 q23
  have o_a10 := ob_of_new eS11
  have o_a1 := gr_ob g24 o_a1
  have o_a4 := gr_ob g24 o_a4
  have o_a7 := gr_ob g24 o_a7
  have o_v0 := gr_ob g24 o_v0
  refine r_putFr (pc := 35) C pfL_X8_29 hn dX8_init_35 o_v0 ?_
  refine r_heap (fun S12 eS12 => ?_)
  have h := h S12 eS12
  have o_a1 := ob_R eS12 o_a1
  have o_a10 := ob_R eS12 o_a10
  have o_a4 := ob_R eS12 o_a4
  have o_a7 := ob_R eS12 o_a7
  have o_v0 := ob_R eS12 o_v0
  refine r_aload_n (pc := 38) C dX8_init_38 0 rfl ?_
  refine r_iconst (pc := 39) C (v := (4 : Int32)) dX8_init_39 (by decide) ?_
  obtain ⟨hk, hk2, h⟩ := h
  refine r_newa13 (pc := 40) C (N := 4) g_72 dX8_init_40 (by decide) (by decide) (by decide) hk hk2 (fun a13 q21 => ?_)
  refine r_heap (fun S14 eS14 => ?_)
  have h := h a13 q21 S14 eS14
  have g22 := gr_of_new eS14 q21
  have o_a13 := ob_of_new eS14
  have o_a1 := gr_ob g22 o_a1
  have o_a10 := gr_ob g22 o_a10
  have o_a4 := gr_ob g22 o_a4
  have o_a7 := gr_ob g22 o_a7
  have o_v0 := gr_ob g22 o_v0
  refine r_putFr (pc := 42) C pfL_X8_33 hn dX8_init_42 o_v0 ?_
  refine r_heap (fun S15 eS15 => ?_)
  have h := h S15 eS15
  have o_a1 := ob_R eS15 o_a1
  have o_a10 := ob_R eS15 o_a10
  have o_a13 := ob_R eS15 o_a13
  have o_a4 := ob_R eS15 o_a4
  have o_a7 := ob_R eS15 o_a7
  have o_v0 := ob_R eS15 o_v0
  refine r_aload_n (pc := 45) C dX8_init_45 0 rfl ?_
  refine r_bipush (pc := 46) C (v := (20 : Int32)) dX8_init_46 (by decide) ?_
  obtain ⟨hk, hk2, h⟩ := h
  refine r_newa13 (pc := 48) C (N := 20) g_72 dX8_init_48 (by decide) (by decide) (by decide) hk hk2 (fun a16 q19 => ?_)
  refine r_heap (fun S17 eS17 => ?_)
  have h := h a16 q19 S17 eS17
  have g20 := gr_of_new eS17 q19
  have o_a16 := ob_of_new eS17
  have o_a1 := gr_ob g20 o_a1
  have o_a10 := gr_ob g20 o_a10
  have o_a13 := gr_ob g20 o_a13
  have o_a4 := gr_ob g20 o_a4
  have o_a7 := gr_ob g20 o_a7
  have o_v0 := gr_ob g20 o_v0
  refine r_putFr (pc := 50) C pfL_X8_36 hn dX8_init_50 o_v0 ?_
  refine r_heap (fun S18 eS18 => ?_)
  have h := h S18 eS18
  have o_a1 := ob_R eS18 o_a1
  have o_a10 := ob_R eS18 o_a10
  have o_a13 := ob_R eS18 o_a13
  have o_a16 := ob_R eS18 o_a16
  have o_a4 := ob_R eS18 o_a4
  have o_a7 := ob_R eS18 o_a7
  have o_v0 := ob_R eS18 o_v0
  refine r_iconst (pc := 53) C (v := (0 : Int32)) dX8_init_53 (by decide) ?_
  refine r_istore_n (pc := 54) C dX8_init_54 rfl (by decide) (lv' := [(1, .int (0 : Int32)), (0, .ref v0)]) rfl ?_
  exact r_sub [1, 0] rfl (T_X8_init_55 C E ht hn h)
def P_X8_init (v0 : Nat) (Q : HS → Prop) (S : HS) : Prop := P_X8_init_0 Q v0 0 0 S
theorem c_X8_init {l : Launch} {Ee : EE} {S : HS} {v0 : Nat} {Q : HS → Prop} (h : P_X8_init v0 Q S) : MV l yX8_init cX8_init 2 none rm_X8_init Ee S [.ref v0] Q :=
  openV (by decide) (Nat.le_of_ble_eq_true rfl) (fun X C E ht hn hE hl => by subst hE; exact r_sub [0] rfl (T_X8_init_0 C E ht hn h))
def rm_X4_init : Room := { frames := 3, cells := 32, slots := 208, locals := 61 }
def P_X4_init_0 (Q : HS → Prop) (v0 : Nat) (S : HS) : Prop := ∀ a1 : Nat, a1 ∉ hL S → ∀ S2 : HS, S2 = nW S a1 12 0 → (ob S2 v0 4 ∧ (∀ S3 : HS, S3 = sR S2 v0 2 (some a1) → (∀ a4 : Nat, a4 ∉ hL S3 → ∀ S5 : HS, S5 = nW S3 a4 8 0 → (P_X8_init a4 (fun S6 => Gr S5 S6 → (∀ S9 : HS, S9 = sR S6 v0 5 (some a4) → (∀ a10 : Nat, a10 ∉ hL S9 → ∀ S11 : HS, S11 = nW S9 a10 14 12 → (∀ S12 : HS, S12 = sR S11 v0 11 (some a10) → (∀ a13 : Nat, a13 ∉ hL S12 → ∀ S14 : HS, S14 = nW S12 a13 13 12 → (∀ S15 : HS, S15 = sR S14 v0 12 (some a13) → (Q S15))))))) S5))))
set_option maxRecDepth 20000 in
set_option maxHeartbeats 4000000 in
theorem T_X4_init_0 {X : CX} {Q : HS → Prop} (C : Cx X cX4_init RX4 1 rm_X4_init) (E : ReV X rm_X4_init Q) (ht : (xh X).sig.returnType = none) (hn : (xh X).name = yX4_init.name) {v0 : Nat} {S : HS} (h : P_X4_init_0 Q v0 S) : WS X 1 0 0 0 [(0, .ref v0)] [] S := by
  refine r_aload_n (pc := 0) C dX4_init_0 0 rfl ?_
  refine r_objinit (pc := 1) C g_221 dX4_init_1 (by decide) (Nat.le_of_ble_eq_true rfl) ?_
  refine r_aload_n (pc := 4) C dX4_init_4 0 rfl ?_
  refine r_iconst (pc := 5) C (v := (0 : Int32)) dX4_init_5 (by decide) ?_
  refine r_newa12 (pc := 6) C (N := 0) g_71 dX4_init_6 (by decide) (by decide) (by decide) (by decide) (by decide) (fun a1 q22 => ?_)
  refine r_heap (fun S2 eS2 => ?_)
  have h := h a1 q22 S2 eS2
  have g23 := gr_of_new eS2 q22
  have o_a1 := ob_of_new eS2
  obtain ⟨o_v0, h⟩ := h
  refine r_putr (pc := 8) C pfL_X4_9 dX4_init_8 o_v0 ?_
  refine r_heap (fun S3 eS3 => ?_)
  have h := h S3 eS3
  have o_a1 := ob_R eS3 o_a1
  have o_v0 := ob_R eS3 o_v0
  refine r_aload_n (pc := 11) C dX4_init_11 0 rfl ?_
  refine r_new (pc := 12) C nc_X4_15 dX4_init_12 (by decide) (by decide) (fun a4 q20 => ?_)
  refine r_heap (fun S5 eS5 => ?_)
  have h := h a4 q20 S5 eS5
  have g21 := gr_of_new eS5 q20
  have o_a4 := ob_of_new eS5
  have o_a1 := gr_ob g21 o_a1
  have o_v0 := gr_ob g21 o_v0
  refine r_dup (pc := 15) C dX4_init_15 rfl ?_
  refine r_callIv (pc := 16) C (rest := [.ref a4, .ref v0]) (a := a4) [] yI_X8_init g_223 (c_X8_init h) dX4_init_16 rfl rfl (Nat.le_of_ble_eq_true rfl) ⟨by decide, by decide⟩ ⟨by decide, by decide⟩ (fun S6 h g7 => ?_)
  have h := h g7
  have o_a1 := gr_ob g7 o_a1
  have o_a4 := gr_ob g7 o_a4
  have o_v0 := gr_ob g7 o_v0
  refine r_putr (pc := 19) C pfL_X4_18 dX4_init_19 o_v0 ?_
  refine r_heap (fun S9 eS9 => ?_)
  have h := h S9 eS9
  have o_a1 := ob_R eS9 o_a1
  have o_a4 := ob_R eS9 o_a4
  have o_v0 := ob_R eS9 o_v0
  refine r_aload_n (pc := 22) C dX4_init_22 0 rfl ?_
  refine r_bipush (pc := 23) C (v := (12 : Int32)) dX4_init_23 (by decide) ?_
  refine r_newa14 (pc := 25) C (N := 12) g_266 dX4_init_25 (by decide) (by decide) (by decide) (by decide) (by decide) (fun a10 q18 => ?_)
  refine r_heap (fun S11 eS11 => ?_)
  have h := h a10 q18 S11 eS11
  have g19 := gr_of_new eS11 q18
  have o_a10 := ob_of_new eS11
  have o_a1 := gr_ob g19 o_a1
  have o_a4 := gr_ob g19 o_a4
  have o_v0 := gr_ob g19 o_v0
  refine r_putFr (pc := 27) C pfL_X4_22 hn dX4_init_27 o_v0 ?_
  refine r_heap (fun S12 eS12 => ?_)
  have h := h S12 eS12
  have o_a1 := ob_R eS12 o_a1
  have o_a10 := ob_R eS12 o_a10
  have o_a4 := ob_R eS12 o_a4
  have o_v0 := ob_R eS12 o_v0
  refine r_aload_n (pc := 30) C dX4_init_30 0 rfl ?_
  refine r_bipush (pc := 31) C (v := (12 : Int32)) dX4_init_31 (by decide) ?_
  refine r_newa13 (pc := 33) C (N := 12) g_72 dX4_init_33 (by decide) (by decide) (by decide) (by decide) (by decide) (fun a13 q16 => ?_)
  refine r_heap (fun S14 eS14 => ?_)
  have h := h a13 q16 S14 eS14
  have g17 := gr_of_new eS14 q16
  have o_a13 := ob_of_new eS14
  have o_a1 := gr_ob g17 o_a1
  have o_a10 := gr_ob g17 o_a10
  have o_a4 := gr_ob g17 o_a4
  have o_v0 := gr_ob g17 o_v0
  refine r_putFr (pc := 35) C pfL_X4_26 hn dX4_init_35 o_v0 ?_
  refine r_heap (fun S15 eS15 => ?_)
  have h := h S15 eS15
  have o_a1 := ob_R eS15 o_a1
  have o_a10 := ob_R eS15 o_a10
  have o_a13 := ob_R eS15 o_a13
  have o_a4 := ob_R eS15 o_a4
  have o_v0 := ob_R eS15 o_v0
  exact r_vret (pc := 38) C E ht dX4_init_38 (by decide) (by decide) h
def P_X4_init (v0 : Nat) (Q : HS → Prop) (S : HS) : Prop := P_X4_init_0 Q v0 S
theorem c_X4_init {l : Launch} {Ee : EE} {S : HS} {v0 : Nat} {Q : HS → Prop} (h : P_X4_init v0 Q S) : MV l yX4_init cX4_init 1 none rm_X4_init Ee S [.ref v0] Q :=
  openV (by decide) (Nat.le_of_ble_eq_true rfl) (fun X C E ht hn hE hl => by subst hE; exact r_sub [0] rfl (T_X4_init_0 C E ht hn h))
def rm_X4_kindOf : Room := { frames := 8, cells := 0, slots := 0, locals := 188 }
def P_X4_kindOf_0 (Q : Int32 → HS → Prop) (v0 : Nat) (v1 : Nat) (S : HS) : Prop := ob S v0 4 ∧ (∀ S1 : HS, S1 = sI S v0 9 (0 : Int32) → (P_X4_is v0 18 (fun x4 S2 => Gr S1 S2 → bl x4 → (((x4 = 0) → (P_X4_is v0 19 (fun x8 S6 => Gr S2 S6 → bl x8 → (((x8 = 0) → (P_X4_is v0 20 (fun x12 S10 => Gr S6 S10 → bl x12 → (((x12 = 0) → (ob S10 v1 6 ∧ (∀ S14 : HS, S14 = sI S10 v1 0 (0 : Int32) → (P_X4_word v0 21 (fun x17 S15 => Gr S14 S15 → bl x17 → (∀ x18 : Int32, x18 = fI S15 v0 9 → (∀ S19 : HS, S19 = sI S15 v1 1 x18 → (bl x17 ∧ Q x17 S19)))) S14)))) ∧ ((¬ x12 = 0) → (ob S10 v1 6 ∧ (∀ S20 : HS, S20 = sI S10 v1 0 (3 : Int32) → (P_X4_wordAndWhole v0 20 (1 : Int32) (99 : Int32) (fun x23 S21 => Gr S20 S21 → bl x23 → (∀ x24 : Int32, x24 = fI S21 v0 9 → (∀ S25 : HS, S25 = sI S21 v1 1 x24 → (bl x23 ∧ Q x23 S25)))) S20)))))) S6)) ∧ ((¬ x8 = 0) → (ob S6 v1 6 ∧ (∀ S26 : HS, S26 = sI S6 v1 0 (2 : Int32) → (P_X4_wordAndWhole v0 19 (0 : Int32) (999 : Int32) (fun x29 S27 => Gr S26 S27 → bl x29 → (∀ x30 : Int32, x30 = fI S27 v0 9 → (∀ S31 : HS, S31 = sI S27 v1 1 x30 → (bl x29 ∧ Q x29 S31)))) S26)))))) S2)) ∧ ((¬ x4 = 0) → (ob S2 v1 6 ∧ (∀ S32 : HS, S32 = sI S2 v1 0 (1 : Int32) → (P_X4_wordAndWhole v0 18 (1 : Int32) (8 : Int32) (fun x35 S33 => Gr S32 S33 → bl x35 → (∀ x36 : Int32, x36 = fI S33 v0 9 → (∀ S37 : HS, S37 = sI S33 v1 1 x36 → (bl x35 ∧ Q x35 S37)))) S32)))))) S1))
set_option maxRecDepth 20000 in
set_option maxHeartbeats 4000000 in
theorem T_X4_kindOf_0 {X : CX} {Q : Int32 → HS → Prop} (C : Cx X cX4_kindOf RX4 3 rm_X4_kindOf) (E : ReI X rm_X4_kindOf (fun r S => bl r ∧ Q r S)) (ht : (xh X).sig.returnType = (some .boolean)) (hn : (xh X).name = yX4_kindOf.name) {v0 : Nat} {v1 : Nat} {S : HS} (h : P_X4_kindOf_0 Q v0 v1 S) : WS X 3 0 0 0 [(0, .ref v0), (1, .ref v1)] [] S := by
  refine r_aload_n (pc := 0) C dX4_kindOf_0 0 rfl ?_
  refine r_iconst (pc := 1) C (v := (0 : Int32)) dX4_kindOf_1 (by decide) ?_
  obtain ⟨o_v0, h⟩ := h
  refine r_puti (pc := 2) C pfL_X4_147 dX4_kindOf_2 o_v0 ?_
  refine r_heap (fun S1 eS1 => ?_)
  have h := h S1 eS1
  have o_v0 := ob_I eS1 o_v0
  refine r_aload_n (pc := 5) C dX4_kindOf_5 0 rfl ?_
  refine r_ldsw (pc := 6) C 18 rfl dX4_kindOf_6 ?_
  refine r_callVi0 (pc := 9) C (rest := []) (a := v0) o_v0 [.ref (eK (xE X) 18)] yV_X4_is g_458 (c_X4_is h) dX4_kindOf_9 rfl rfl (Nat.le_of_ble_eq_true rfl) ⟨by decide, by decide⟩ ⟨by decide, by decide⟩ ⟨rfl, rfl⟩ (fun x4 S2 h g3 => ?_)
  have bx4 := h.1
  have h := h.2 g3 bx4
  have o_v0 := gr_ob g3 o_v0
  refine r_if_eq (pc := 12) C (tgt := 34) dX4_kindOf_12 (by decide) (fun c5 => ?_) (fun c5 => ?_)
  · have h := h.1 c5
    refine r_aload_n (pc := 34) C dX4_kindOf_34 0 rfl ?_
    refine r_ldsw (pc := 35) C 19 rfl dX4_kindOf_35 ?_
    refine r_callVi0 (pc := 38) C (rest := []) (a := v0) o_v0 [.ref (eK (xE X) 19)] yV_X4_is g_458 (c_X4_is h) dX4_kindOf_38 rfl rfl (Nat.le_of_ble_eq_true rfl) ⟨by decide, by decide⟩ ⟨by decide, by decide⟩ ⟨rfl, rfl⟩ (fun x8 S6 h g7 => ?_)
    have bx8 := h.1
    have h := h.2 g7 bx8
    have o_v0 := gr_ob g7 o_v0
    refine r_if_eq (pc := 41) C (tgt := 64) dX4_kindOf_41 (by decide) (fun c9 => ?_) (fun c9 => ?_)
    · have h := h.1 c9
      refine r_aload_n (pc := 64) C dX4_kindOf_64 0 rfl ?_
      refine r_ldsw (pc := 65) C 20 rfl dX4_kindOf_65 ?_
      refine r_callVi0 (pc := 68) C (rest := []) (a := v0) o_v0 [.ref (eK (xE X) 20)] yV_X4_is g_458 (c_X4_is h) dX4_kindOf_68 rfl rfl (Nat.le_of_ble_eq_true rfl) ⟨by decide, by decide⟩ ⟨by decide, by decide⟩ ⟨rfl, rfl⟩ (fun x12 S10 h g11 => ?_)
      have bx12 := h.1
      have h := h.2 g11 bx12
      have o_v0 := gr_ob g11 o_v0
      refine r_if_eq (pc := 71) C (tgt := 93) dX4_kindOf_71 (by decide) (fun c13 => ?_) (fun c13 => ?_)
      · have h := h.1 c13
        refine r_aload_n (pc := 93) C dX4_kindOf_93 1 rfl ?_
        refine r_iconst (pc := 94) C (v := (0 : Int32)) dX4_kindOf_94 (by decide) ?_
        obtain ⟨o_v1, h⟩ := h
        refine r_puti (pc := 95) C pfL_X4_264 dX4_kindOf_95 o_v1 ?_
        refine r_heap (fun S14 eS14 => ?_)
        have h := h S14 eS14
        have o_v0 := ob_I eS14 o_v0
        have o_v1 := ob_I eS14 o_v1
        refine r_aload_n (pc := 98) C dX4_kindOf_98 0 rfl ?_
        refine r_ldsw (pc := 99) C 21 rfl dX4_kindOf_99 ?_
        refine r_callVi0 (pc := 102) C (rest := []) (a := v0) o_v0 [.ref (eK (xE X) 21)] yV_X4_word g_528 (c_X4_word h) dX4_kindOf_102 rfl rfl (Nat.le_of_ble_eq_true rfl) ⟨by decide, by decide⟩ ⟨by decide, by decide⟩ ⟨rfl, rfl⟩ (fun x17 S15 h g16 => ?_)
        have bx17 := h.1
        have h := h.2 g16 bx17
        have o_v0 := gr_ob g16 o_v0
        have o_v1 := gr_ob g16 o_v1
        refine r_istore_n (pc := 105) C dX4_kindOf_105 rfl (by decide) (lv' := [(2, .int x17), (0, .ref v0), (1, .ref v1)]) rfl ?_
        refine r_aload_n (pc := 106) C dX4_kindOf_106 2 rfl ?_
        refine r_aload_n (pc := 107) C dX4_kindOf_107 1 rfl ?_
        refine r_geti (pc := 108) C fL_X4_147 dX4_kindOf_108 o_v0 ?_
        refine r_topi (fun x18 ex18 => ?_)
        have h := h x18 ex18
        refine r_puti (pc := 111) C pfL_X4_273 dX4_kindOf_111 o_v1 ?_
        refine r_heap (fun S19 eS19 => ?_)
        have h := h S19 eS19
        have o_v0 := ob_I eS19 o_v0
        have o_v1 := ob_I eS19 o_v1
        refine r_iload_n (pc := 114) C dX4_kindOf_114 0 rfl ?_
        exact r_zret (pc := 115) C E ht dX4_kindOf_115 (by decide) (by decide) h.1 h.2
      · have h := h.2 c13
        refine r_aload_n (pc := 74) C dX4_kindOf_74 1 rfl ?_
        refine r_iconst (pc := 75) C (v := (3 : Int32)) dX4_kindOf_75 (by decide) ?_
        obtain ⟨o_v1, h⟩ := h
        refine r_puti (pc := 76) C pfL_X4_264 dX4_kindOf_76 o_v1 ?_
        refine r_heap (fun S20 eS20 => ?_)
        have h := h S20 eS20
        have o_v0 := ob_I eS20 o_v0
        have o_v1 := ob_I eS20 o_v1
        refine r_aload_n (pc := 79) C dX4_kindOf_79 0 rfl ?_
        refine r_ldsw (pc := 80) C 20 rfl dX4_kindOf_80 ?_
        refine r_iconst (pc := 83) C (v := (1 : Int32)) dX4_kindOf_83 (by decide) ?_
        refine r_bipush (pc := 84) C (v := (99 : Int32)) dX4_kindOf_84 (by decide) ?_
        refine r_callVi0 (pc := 86) C (rest := []) (a := v0) o_v0 [.ref (eK (xE X) 20), .int (1 : Int32), .int (99 : Int32)] yV_X4_wordAndWhole g_524 (c_X4_wordAndWhole h) dX4_kindOf_86 rfl rfl (Nat.le_of_ble_eq_true rfl) ⟨by decide, by decide⟩ ⟨by decide, by decide⟩ ⟨rfl, rfl⟩ (fun x23 S21 h g22 => ?_)
        have bx23 := h.1
        have h := h.2 g22 bx23
        have o_v0 := gr_ob g22 o_v0
        have o_v1 := gr_ob g22 o_v1
        refine r_istore_n (pc := 89) C dX4_kindOf_89 rfl (by decide) (lv' := [(2, .int x23), (0, .ref v0), (1, .ref v1)]) rfl ?_
        refine r_goto (pc := 90) C (tgt := 106) dX4_kindOf_90 (by decide) ?_
        refine r_aload_n (pc := 106) C dX4_kindOf_106 2 rfl ?_
        refine r_aload_n (pc := 107) C dX4_kindOf_107 1 rfl ?_
        refine r_geti (pc := 108) C fL_X4_147 dX4_kindOf_108 o_v0 ?_
        refine r_topi (fun x24 ex24 => ?_)
        have h := h x24 ex24
        refine r_puti (pc := 111) C pfL_X4_273 dX4_kindOf_111 o_v1 ?_
        refine r_heap (fun S25 eS25 => ?_)
        have h := h S25 eS25
        have o_v0 := ob_I eS25 o_v0
        have o_v1 := ob_I eS25 o_v1
        refine r_iload_n (pc := 114) C dX4_kindOf_114 0 rfl ?_
        exact r_zret (pc := 115) C E ht dX4_kindOf_115 (by decide) (by decide) h.1 h.2
    · have h := h.2 c9
      refine r_aload_n (pc := 44) C dX4_kindOf_44 1 rfl ?_
      refine r_iconst (pc := 45) C (v := (2 : Int32)) dX4_kindOf_45 (by decide) ?_
      obtain ⟨o_v1, h⟩ := h
      refine r_puti (pc := 46) C pfL_X4_264 dX4_kindOf_46 o_v1 ?_
      refine r_heap (fun S26 eS26 => ?_)
      have h := h S26 eS26
      have o_v0 := ob_I eS26 o_v0
      have o_v1 := ob_I eS26 o_v1
      refine r_aload_n (pc := 49) C dX4_kindOf_49 0 rfl ?_
      refine r_ldsw (pc := 50) C 19 rfl dX4_kindOf_50 ?_
      refine r_iconst (pc := 53) C (v := (0 : Int32)) dX4_kindOf_53 (by decide) ?_
      refine r_sipush (pc := 54) C (v := (999 : Int32)) dX4_kindOf_54 (by decide) ?_
      refine r_callVi0 (pc := 57) C (rest := []) (a := v0) o_v0 [.ref (eK (xE X) 19), .int (0 : Int32), .int (999 : Int32)] yV_X4_wordAndWhole g_524 (c_X4_wordAndWhole h) dX4_kindOf_57 rfl rfl (Nat.le_of_ble_eq_true rfl) ⟨by decide, by decide⟩ ⟨by decide, by decide⟩ ⟨rfl, rfl⟩ (fun x29 S27 h g28 => ?_)
      have bx29 := h.1
      have h := h.2 g28 bx29
      have o_v0 := gr_ob g28 o_v0
      have o_v1 := gr_ob g28 o_v1
      refine r_istore_n (pc := 60) C dX4_kindOf_60 rfl (by decide) (lv' := [(2, .int x29), (0, .ref v0), (1, .ref v1)]) rfl ?_
      refine r_goto (pc := 61) C (tgt := 106) dX4_kindOf_61 (by decide) ?_
      refine r_aload_n (pc := 106) C dX4_kindOf_106 2 rfl ?_
      refine r_aload_n (pc := 107) C dX4_kindOf_107 1 rfl ?_
      refine r_geti (pc := 108) C fL_X4_147 dX4_kindOf_108 o_v0 ?_
      refine r_topi (fun x30 ex30 => ?_)
      have h := h x30 ex30
      refine r_puti (pc := 111) C pfL_X4_273 dX4_kindOf_111 o_v1 ?_
      refine r_heap (fun S31 eS31 => ?_)
      have h := h S31 eS31
      have o_v0 := ob_I eS31 o_v0
      have o_v1 := ob_I eS31 o_v1
      refine r_iload_n (pc := 114) C dX4_kindOf_114 0 rfl ?_
      exact r_zret (pc := 115) C E ht dX4_kindOf_115 (by decide) (by decide) h.1 h.2
  · have h := h.2 c5
    refine r_aload_n (pc := 15) C dX4_kindOf_15 1 rfl ?_
    refine r_iconst (pc := 16) C (v := (1 : Int32)) dX4_kindOf_16 (by decide) ?_
    obtain ⟨o_v1, h⟩ := h
    refine r_puti (pc := 17) C pfL_X4_264 dX4_kindOf_17 o_v1 ?_
    refine r_heap (fun S32 eS32 => ?_)
    have h := h S32 eS32
    have o_v0 := ob_I eS32 o_v0
    have o_v1 := ob_I eS32 o_v1
    refine r_aload_n (pc := 20) C dX4_kindOf_20 0 rfl ?_
    refine r_ldsw (pc := 21) C 18 rfl dX4_kindOf_21 ?_
    refine r_iconst (pc := 24) C (v := (1 : Int32)) dX4_kindOf_24 (by decide) ?_
    refine r_bipush (pc := 25) C (v := (8 : Int32)) dX4_kindOf_25 (by decide) ?_
    refine r_callVi0 (pc := 27) C (rest := []) (a := v0) o_v0 [.ref (eK (xE X) 18), .int (1 : Int32), .int (8 : Int32)] yV_X4_wordAndWhole g_524 (c_X4_wordAndWhole h) dX4_kindOf_27 rfl rfl (Nat.le_of_ble_eq_true rfl) ⟨by decide, by decide⟩ ⟨by decide, by decide⟩ ⟨rfl, rfl⟩ (fun x35 S33 h g34 => ?_)
    have bx35 := h.1
    have h := h.2 g34 bx35
    have o_v0 := gr_ob g34 o_v0
    have o_v1 := gr_ob g34 o_v1
    refine r_istore_n (pc := 30) C dX4_kindOf_30 rfl (by decide) (lv' := [(2, .int x35), (0, .ref v0), (1, .ref v1)]) rfl ?_
    refine r_goto (pc := 31) C (tgt := 106) dX4_kindOf_31 (by decide) ?_
    refine r_aload_n (pc := 106) C dX4_kindOf_106 2 rfl ?_
    refine r_aload_n (pc := 107) C dX4_kindOf_107 1 rfl ?_
    refine r_geti (pc := 108) C fL_X4_147 dX4_kindOf_108 o_v0 ?_
    refine r_topi (fun x36 ex36 => ?_)
    have h := h x36 ex36
    refine r_puti (pc := 111) C pfL_X4_273 dX4_kindOf_111 o_v1 ?_
    refine r_heap (fun S37 eS37 => ?_)
    have h := h S37 eS37
    have o_v0 := ob_I eS37 o_v0
    have o_v1 := ob_I eS37 o_v1
    refine r_iload_n (pc := 114) C dX4_kindOf_114 0 rfl ?_
    exact r_zret (pc := 115) C E ht dX4_kindOf_115 (by decide) (by decide) h.1 h.2
def P_X4_kindOf (v0 : Nat) (v1 : Nat) (Q : Int32 → HS → Prop) (S : HS) : Prop := P_X4_kindOf_0 Q v0 v1 S
theorem c_X4_kindOf {l : Launch} {Ee : EE} {S : HS} {v0 : Nat} {v1 : Nat} {Q : Int32 → HS → Prop} (h : P_X4_kindOf v0 v1 Q S) : MI l yX4_kindOf cX4_kindOf 3 (some .boolean) rm_X4_kindOf Ee S [.ref v0, .ref v1] (fun r S => bl r ∧ Q r S) :=
  openI (by decide) (Nat.le_of_ble_eq_true rfl) (fun X C E ht hn hE hl => by subst hE; exact r_sub [0, 1] rfl (T_X4_kindOf_0 C E ht hn h))
def rm_X4_newName : Room := { frames := 7, cells := 0, slots := 0, locals := 165 }
def P_X4_newName_69 (Q : Int32 → HS → Prop) (v0 : Nat) (S : HS) : Prop := ob S v0 4 ∧ (P_X4_next v0 (fun S1 => Gr S S1 → (Q (1 : Int32) S1)) S)
set_option maxRecDepth 20000 in
set_option maxHeartbeats 4000000 in
theorem T_X4_newName_69 {X : CX} {Q : Int32 → HS → Prop} (C : Cx X cX4_newName RX4 2 rm_X4_newName) (E : ReI X rm_X4_newName (fun r S => bl r ∧ Q r S)) (ht : (xh X).sig.returnType = (some .boolean)) (hn : (xh X).name = yX4_newName.name) {v0 : Nat} {S : HS} (h : P_X4_newName_69 Q v0 S) : WS X 2 0 0 69 [(0, .ref v0)] [] S := by
  refine r_aload_n (pc := 69) C dX4_newName_69 0 rfl ?_
  obtain ⟨o_v0, h⟩ := h
  refine r_callVv0 (pc := 70) C (rest := []) (a := v0) o_v0 [] yV_X4_next g_449 (c_X4_next h) dX4_newName_70 rfl rfl (Nat.le_of_ble_eq_true rfl) ⟨by decide, by decide⟩ ⟨by decide, by decide⟩ ⟨rfl, rfl⟩ (fun S1 h g2 => ?_)
  have h := h g2
  have o_v0 := gr_ob g2 o_v0
  refine r_iconst (pc := 73) C (v := (1 : Int32)) dX4_newName_73 (by decide) ?_
  exact r_zret (pc := 74) C E ht dX4_newName_74 (by decide) (by decide) (Or.inr rfl) h
def P_X4_newName_0 (Q : Int32 → HS → Prop) (v0 : Nat) (v1 : Int32) (S : HS) : Prop := ob S v0 4 ∧ (P_X4_canBeName v0 (fun x3 S1 => Gr S S1 → bl x3 → (((¬ x3 = 0) → (P_X4_findName v0 (fun x7 S5 => Gr S1 S5 → (((x7 = (-1 : Int32)) → (∀ x9 : Int32, x9 = fI S5 v0 10 → ((((12 : Int32) ≤ x9) → (P_X4_newName_69 Q v0 S5)) ∧ ((¬ (12 : Int32) ≤ x9) → (∃ a11 : Nat, fR S5 v0 11 = some a11 ∧ (∀ x12 : Int32, x12 = fI S5 v0 10 → (∀ x13 : Int64, x13 = fJ S5 v0 8 → (ob S5 a11 14 ∧ (vp_in x12 (hN S5 a11) ∧ (∀ S15 : HS, S15 = sJ S5 a11 x12.toNatClampNeg x13 → (∃ a16 : Nat, fR S15 v0 12 = some a16 ∧ (∀ x17 : Int32, x17 = fI S15 v0 10 → (ob S15 a16 13 ∧ (vp_in x17 (hN S15 a16) ∧ (∀ S19 : HS, S19 = sI S15 a16 x17.toNatClampNeg v1 → (∀ x20 : Int32, x20 = fI S19 v0 10 → (∀ x21 : Int32, x21 = x20 + (1 : Int32) → (∀ S22 : HS, S22 = sI S19 v0 10 x21 → (P_X4_newName_69 Q v0 S22))))))))))))))))))) ∧ ((¬ x7 = (-1 : Int32)) → (P_X4_fail v0 (3 : Int32) (fun x25 S23 => Gr S5 S23 → bl x25 → (bl x25 ∧ Q x25 S23)) S5)))) S1)) ∧ ((x3 = 0) → (P_X4_fail v0 (1 : Int32) (fun x28 S26 => Gr S1 S26 → bl x28 → (bl x28 ∧ Q x28 S26)) S1)))) S)
set_option maxRecDepth 20000 in
set_option maxHeartbeats 4000000 in
theorem T_X4_newName_0 {X : CX} {Q : Int32 → HS → Prop} (C : Cx X cX4_newName RX4 2 rm_X4_newName) (E : ReI X rm_X4_newName (fun r S => bl r ∧ Q r S)) (ht : (xh X).sig.returnType = (some .boolean)) (hn : (xh X).name = yX4_newName.name) {v0 : Nat} {v1 : Int32} {S : HS} (h : P_X4_newName_0 Q v0 v1 S) : WS X 2 0 0 0 [(0, .ref v0), (1, .int v1)] [] S := by
  refine r_aload_n (pc := 0) C dX4_newName_0 0 rfl ?_
  obtain ⟨o_v0, h⟩ := h
  refine r_callVi0 (pc := 1) C (rest := []) (a := v0) o_v0 [] yV_X4_canBeName g_566 (c_X4_canBeName h) dX4_newName_1 rfl rfl (Nat.le_of_ble_eq_true rfl) ⟨by decide, by decide⟩ ⟨by decide, by decide⟩ ⟨rfl, rfl⟩ (fun x3 S1 h g2 => ?_)
  have bx3 := h.1
  have h := h.2 g2 bx3
  have o_v0 := gr_ob g2 o_v0
  refine r_if_ne (pc := 4) C (tgt := 13) dX4_newName_4 (by decide) (fun c4 => ?_) (fun c4 => ?_)
  · have h := h.1 c4
    refine r_aload_n (pc := 13) C dX4_newName_13 0 rfl ?_
    refine r_callVi0 (pc := 14) C (rest := []) (a := v0) o_v0 [] yV_X4_findName g_576 (c_X4_findName h) dX4_newName_14 rfl rfl (Nat.le_of_ble_eq_true rfl) ⟨by decide, by decide⟩ ⟨by decide, by decide⟩ ⟨rfl, rfl⟩ (fun x7 S5 h g6 => ?_)
    have h := h g6
    have o_v0 := gr_ob g6 o_v0
    refine r_iconst (pc := 17) C (v := (-1 : Int32)) dX4_newName_17 (by decide) ?_
    refine r_icmp_eq (pc := 18) C (tgt := 27) dX4_newName_18 (by decide) (fun c8 => ?_) (fun c8 => ?_)
    · have h := h.1 c8
      refine r_aload_n (pc := 27) C dX4_newName_27 0 rfl ?_
      refine r_geti (pc := 28) C fL_X4_116 dX4_newName_28 o_v0 ?_
      refine r_topi (fun x9 ex9 => ?_)
      have h := h x9 ex9
      refine r_bipush (pc := 31) C (v := (12 : Int32)) dX4_newName_31 (by decide) ?_
      refine r_icmp_ge (pc := 33) C (tgt := 69) dX4_newName_33 (by decide) (fun c10 => ?_) (fun c10 => ?_)
      · have h := h.1 c10
        exact r_sub [0] rfl (T_X4_newName_69 C E ht hn h)
      · have h := h.2 c10
        refine r_aload_n (pc := 36) C dX4_newName_36 0 rfl ?_
        obtain ⟨a11, ea11, h⟩ := h
        refine r_getr (pc := 37) C fL_X4_22 dX4_newName_37 o_v0 ea11 ?_
        refine r_aload_n (pc := 40) C dX4_newName_40 0 rfl ?_
        refine r_geti (pc := 41) C fL_X4_116 dX4_newName_41 o_v0 ?_
        refine r_topi (fun x12 ex12 => ?_)
        have h := h x12 ex12
        refine r_aload_n (pc := 44) C dX4_newName_44 0 rfl ?_
        refine r_getl (pc := 45) C fL_X4_132 dX4_newName_45 o_v0 ?_
        refine r_topl (fun x13 ex13 => ?_)
        have h := h x13 ex13
        obtain ⟨o_a11, h⟩ := h
        obtain ⟨i14, h⟩ := h
        refine r_last (pc := 48) C dX4_newName_48 o_a11 i14 ?_
        refine r_heap (fun S15 eS15 => ?_)
        have h := h S15 eS15
        have o_a11 := ob_J eS15 o_a11
        have o_v0 := ob_J eS15 o_v0
        refine r_aload_n (pc := 49) C dX4_newName_49 0 rfl ?_
        obtain ⟨a16, ea16, h⟩ := h
        refine r_getr (pc := 50) C fL_X4_26 dX4_newName_50 o_v0 ea16 ?_
        refine r_aload_n (pc := 53) C dX4_newName_53 0 rfl ?_
        refine r_geti (pc := 54) C fL_X4_116 dX4_newName_54 o_v0 ?_
        refine r_topi (fun x17 ex17 => ?_)
        have h := h x17 ex17
        refine r_iload_n (pc := 57) C dX4_newName_57 1 rfl ?_
        obtain ⟨o_a16, h⟩ := h
        obtain ⟨i18, h⟩ := h
        refine r_iast (pc := 58) C dX4_newName_58 o_a16 i18 ?_
        refine r_heap (fun S19 eS19 => ?_)
        have h := h S19 eS19
        have o_a11 := ob_I eS19 o_a11
        have o_a16 := ob_I eS19 o_a16
        have o_v0 := ob_I eS19 o_v0
        refine r_aload_n (pc := 59) C dX4_newName_59 0 rfl ?_
        refine r_dup (pc := 60) C dX4_newName_60 rfl ?_
        refine r_geti (pc := 61) C fL_X4_116 dX4_newName_61 o_v0 ?_
        refine r_topi (fun x20 ex20 => ?_)
        have h := h x20 ex20
        refine r_iconst (pc := 64) C (v := (1 : Int32)) dX4_newName_64 (by decide) ?_
        refine r_iadd (pc := 65) C dX4_newName_65 ?_
        refine r_topi (fun x21 ex21 => ?_)
        have h := h x21 ex21
        refine r_puti (pc := 66) C pfL_X4_116 dX4_newName_66 o_v0 ?_
        refine r_heap (fun S22 eS22 => ?_)
        have h := h S22 eS22
        have o_a11 := ob_I eS22 o_a11
        have o_a16 := ob_I eS22 o_a16
        have o_v0 := ob_I eS22 o_v0
        exact r_sub [0] rfl (T_X4_newName_69 C E ht hn h)
    · have h := h.2 c8
      refine r_aload_n (pc := 21) C dX4_newName_21 0 rfl ?_
      refine r_iconst (pc := 22) C (v := (3 : Int32)) dX4_newName_22 (by decide) ?_
      refine r_callVi0 (pc := 23) C (rest := []) (a := v0) o_v0 [.int (3 : Int32)] yV_X4_fail g_519 (c_X4_fail h) dX4_newName_23 rfl rfl (Nat.le_of_ble_eq_true rfl) ⟨by decide, by decide⟩ ⟨by decide, by decide⟩ ⟨rfl, rfl⟩ (fun x25 S23 h g24 => ?_)
      have bx25 := h.1
      have h := h.2 g24 bx25
      have o_v0 := gr_ob g24 o_v0
      exact r_zret (pc := 26) C E ht dX4_newName_26 (by decide) (by decide) h.1 h.2
  · have h := h.2 c4
    refine r_aload_n (pc := 7) C dX4_newName_7 0 rfl ?_
    refine r_iconst (pc := 8) C (v := (1 : Int32)) dX4_newName_8 (by decide) ?_
    refine r_callVi0 (pc := 9) C (rest := []) (a := v0) o_v0 [.int (1 : Int32)] yV_X4_fail g_519 (c_X4_fail h) dX4_newName_9 rfl rfl (Nat.le_of_ble_eq_true rfl) ⟨by decide, by decide⟩ ⟨by decide, by decide⟩ ⟨rfl, rfl⟩ (fun x28 S26 h g27 => ?_)
    have bx28 := h.1
    have h := h.2 g27 bx28
    have o_v0 := gr_ob g27 o_v0
    exact r_zret (pc := 12) C E ht dX4_newName_12 (by decide) (by decide) h.1 h.2
def P_X4_newName (v0 : Nat) (v1 : Int32) (Q : Int32 → HS → Prop) (S : HS) : Prop := P_X4_newName_0 Q v0 v1 S
theorem c_X4_newName {l : Launch} {Ee : EE} {S : HS} {v0 : Nat} {v1 : Int32} {Q : Int32 → HS → Prop} (h : P_X4_newName v0 v1 Q S) : MI l yX4_newName cX4_newName 2 (some .boolean) rm_X4_newName Ee S [.ref v0, .int v1] (fun r S => bl r ∧ Q r S) :=
  openI (by decide) (Nat.le_of_ble_eq_true rfl) (fun X C E ht hn hE hl => by subst hE; exact r_sub [0, 1] rfl (T_X4_newName_0 C E ht hn h))
def rm_X8_clear : Room := { frames := 0, cells := 0, slots := 0, locals := 0 }
def P_X8_clear_0 (Q : HS → Prop) (v0 : Nat) (S : HS) : Prop := ob S v0 8 ∧ (∀ S1 : HS, S1 = sI S v0 0 (0 : Int32) → (∀ S2 : HS, S2 = sI S1 v0 1 (0 : Int32) → (∀ S3 : HS, S3 = sI S2 v0 2 (0 : Int32) → (∀ S4 : HS, S4 = sI S3 v0 3 (0 : Int32) → (∀ S5 : HS, S5 = sI S4 v0 4 (0 : Int32) → (∀ S6 : HS, S6 = sI S5 v0 5 (0 : Int32) → (Q S6)))))))
set_option maxRecDepth 20000 in
set_option maxHeartbeats 4000000 in
theorem T_X8_clear_0 {X : CX} {Q : HS → Prop} (C : Cx X cX8_clear RX8 1 rm_X8_clear) (E : ReV X rm_X8_clear Q) (ht : (xh X).sig.returnType = none) (hn : (xh X).name = yX8_clear.name) {v0 : Nat} {S : HS} (h : P_X8_clear_0 Q v0 S) : WS X 1 0 0 0 [(0, .ref v0)] [] S := by
  refine r_aload_n (pc := 0) C dX8_clear_0 0 rfl ?_
  refine r_iconst (pc := 1) C (v := (0 : Int32)) dX8_clear_1 (by decide) ?_
  obtain ⟨o_v0, h⟩ := h
  refine r_puti (pc := 2) C pfL_X8_42 dX8_clear_2 o_v0 ?_
  refine r_heap (fun S1 eS1 => ?_)
  have h := h S1 eS1
  have o_v0 := ob_I eS1 o_v0
  refine r_aload_n (pc := 5) C dX8_clear_5 0 rfl ?_
  refine r_iconst (pc := 6) C (v := (0 : Int32)) dX8_clear_6 (by decide) ?_
  refine r_puti (pc := 7) C pfL_X8_46 dX8_clear_7 o_v0 ?_
  refine r_heap (fun S2 eS2 => ?_)
  have h := h S2 eS2
  have o_v0 := ob_I eS2 o_v0
  refine r_aload_n (pc := 10) C dX8_clear_10 0 rfl ?_
  refine r_iconst (pc := 11) C (v := (0 : Int32)) dX8_clear_11 (by decide) ?_
  refine r_puti (pc := 12) C pfL_X8_49 dX8_clear_12 o_v0 ?_
  refine r_heap (fun S3 eS3 => ?_)
  have h := h S3 eS3
  have o_v0 := ob_I eS3 o_v0
  refine r_aload_n (pc := 15) C dX8_clear_15 0 rfl ?_
  refine r_iconst (pc := 16) C (v := (0 : Int32)) dX8_clear_16 (by decide) ?_
  refine r_puti (pc := 17) C pfL_X8_52 dX8_clear_17 o_v0 ?_
  refine r_heap (fun S4 eS4 => ?_)
  have h := h S4 eS4
  have o_v0 := ob_I eS4 o_v0
  refine r_aload_n (pc := 20) C dX8_clear_20 0 rfl ?_
  refine r_iconst (pc := 21) C (v := (0 : Int32)) dX8_clear_21 (by decide) ?_
  refine r_puti (pc := 22) C pfL_X8_55 dX8_clear_22 o_v0 ?_
  refine r_heap (fun S5 eS5 => ?_)
  have h := h S5 eS5
  have o_v0 := ob_I eS5 o_v0
  refine r_aload_n (pc := 25) C dX8_clear_25 0 rfl ?_
  refine r_iconst (pc := 26) C (v := (0 : Int32)) dX8_clear_26 (by decide) ?_
  refine r_puti (pc := 27) C pfL_X8_58 dX8_clear_27 o_v0 ?_
  refine r_heap (fun S6 eS6 => ?_)
  have h := h S6 eS6
  have o_v0 := ob_I eS6 o_v0
  exact r_vret (pc := 30) C E ht dX8_clear_30 (by decide) (by decide) h
def P_X8_clear (v0 : Nat) (Q : HS → Prop) (S : HS) : Prop := P_X8_clear_0 Q v0 S
theorem c_X8_clear {l : Launch} {Ee : EE} {S : HS} {v0 : Nat} {Q : HS → Prop} (h : P_X8_clear v0 Q S) : MV l yX8_clear cX8_clear 1 none rm_X8_clear Ee S [.ref v0] Q :=
  openV (by decide) (Nat.le_of_ble_eq_true rfl) (fun X C E ht hn hE hl => by subst hE; exact r_sub [0] rfl (T_X8_clear_0 C E ht hn h))
def rm_X4_open : Room := { frames := 2, cells := 0, slots := 0, locals := 46 }
def P_X4_open_0 (Q : HS → Prop) (v0 : Nat) (v1 : Nat) (v2 : Int32) (S : HS) : Prop := ob S v0 4 ∧ (∀ S1 : HS, S1 = sR S v0 2 (some v1) → (ob S1 v1 12 ∧ (∀ x2 : Int32, x2 = (if nI (hN S1 v1) < v2 then nI (hN S1 v1) else v2) → (∀ S3 : HS, S3 = sI S1 v0 3 x2 → (∀ S4 : HS, S4 = sI S3 v0 4 (0 : Int32) → (∀ S5 : HS, S5 = sI S4 v0 0 (0 : Int32) → (∀ S6 : HS, S6 = sI S5 v0 1 (0 : Int32) → (∀ S7 : HS, S7 = sI S6 v0 10 (0 : Int32) → (∃ a8 : Nat, fR S7 v0 5 = some a8 ∧ (ob S7 a8 8 ∧ (P_X8_clear a8 (fun S9 => Gr S7 S9 → (P_X4_next v0 (fun S12 => Gr S9 S12 → (Q S12)) S9)) S7)))))))))))
set_option maxRecDepth 20000 in
set_option maxHeartbeats 4000000 in
theorem T_X4_open_0 {X : CX} {Q : HS → Prop} (C : Cx X cX4_open RX4 3 rm_X4_open) (E : ReV X rm_X4_open Q) (ht : (xh X).sig.returnType = none) (hn : (xh X).name = yX4_open.name) {v0 : Nat} {v1 : Nat} {v2 : Int32} {S : HS} (h : P_X4_open_0 Q v0 v1 v2 S) : WS X 3 0 0 0 [(0, .ref v0), (1, .ref v1), (2, .int v2)] [] S := by
  refine r_aload_n (pc := 0) C dX4_open_0 0 rfl ?_
  refine r_aload_n (pc := 1) C dX4_open_1 1 rfl ?_
  obtain ⟨o_v0, h⟩ := h
  refine r_putr (pc := 2) C pfL_X4_9 dX4_open_2 o_v0 ?_
  refine r_heap (fun S1 eS1 => ?_)
  have h := h S1 eS1
  have o_v0 := ob_R eS1 o_v0
  refine r_aload_n (pc := 5) C dX4_open_5 0 rfl ?_
  refine r_iload_n (pc := 6) C dX4_open_6 2 rfl ?_
  refine r_aload_n (pc := 7) C dX4_open_7 1 rfl ?_
  obtain ⟨o_v1, h⟩ := h
  refine r_alen12 (pc := 8) C dX4_open_8 o_v1 ?_
  refine r_min (pc := 9) C g_442 dX4_open_9 (by decide) (Nat.le_of_ble_eq_true rfl) (by decide) (by decide) ?_
  refine r_topi (fun x2 ex2 => ?_)
  have h := h x2 ex2
  refine r_puti (pc := 12) C pfL_X4_104 dX4_open_12 o_v0 ?_
  refine r_heap (fun S3 eS3 => ?_)
  have h := h S3 eS3
  have o_v0 := ob_I eS3 o_v0
  have o_v1 := ob_I eS3 o_v1
  refine r_aload_n (pc := 15) C dX4_open_15 0 rfl ?_
  refine r_iconst (pc := 16) C (v := (0 : Int32)) dX4_open_16 (by decide) ?_
  refine r_puti (pc := 17) C pfL_X4_107 dX4_open_17 o_v0 ?_
  refine r_heap (fun S4 eS4 => ?_)
  have h := h S4 eS4
  have o_v0 := ob_I eS4 o_v0
  have o_v1 := ob_I eS4 o_v1
  refine r_aload_n (pc := 20) C dX4_open_20 0 rfl ?_
  refine r_iconst (pc := 21) C (v := (0 : Int32)) dX4_open_21 (by decide) ?_
  refine r_puti (pc := 22) C pfL_X4_110 dX4_open_22 o_v0 ?_
  refine r_heap (fun S5 eS5 => ?_)
  have h := h S5 eS5
  have o_v0 := ob_I eS5 o_v0
  have o_v1 := ob_I eS5 o_v1
  refine r_aload_n (pc := 25) C dX4_open_25 0 rfl ?_
  refine r_iconst (pc := 26) C (v := (0 : Int32)) dX4_open_26 (by decide) ?_
  refine r_puti (pc := 27) C pfL_X4_113 dX4_open_27 o_v0 ?_
  refine r_heap (fun S6 eS6 => ?_)
  have h := h S6 eS6
  have o_v0 := ob_I eS6 o_v0
  have o_v1 := ob_I eS6 o_v1
  refine r_aload_n (pc := 30) C dX4_open_30 0 rfl ?_
  refine r_iconst (pc := 31) C (v := (0 : Int32)) dX4_open_31 (by decide) ?_
  refine r_puti (pc := 32) C pfL_X4_116 dX4_open_32 o_v0 ?_
  refine r_heap (fun S7 eS7 => ?_)
  have h := h S7 eS7
  have o_v0 := ob_I eS7 o_v0
  have o_v1 := ob_I eS7 o_v1
  refine r_aload_n (pc := 35) C dX4_open_35 0 rfl ?_
  obtain ⟨a8, ea8, h⟩ := h
  refine r_getr (pc := 36) C fL_X4_18 dX4_open_36 o_v0 ea8 ?_
  obtain ⟨o_a8, h⟩ := h
  refine r_callVv0 (pc := 39) C (rest := []) (a := a8) o_a8 [] yV_X8_clear g_445 (c_X8_clear h) dX4_open_39 rfl rfl (Nat.le_of_ble_eq_true rfl) ⟨by decide, by decide⟩ ⟨by decide, by decide⟩ ⟨rfl, rfl⟩ (fun S9 h g10 => ?_)
  have h := h g10
  have o_a8 := gr_ob g10 o_a8
  have o_v0 := gr_ob g10 o_v0
  have o_v1 := gr_ob g10 o_v1
  refine r_aload_n (pc := 42) C dX4_open_42 0 rfl ?_
  refine r_callVv0 (pc := 43) C (rest := []) (a := v0) o_v0 [] yV_X4_next g_449 (c_X4_next h) dX4_open_43 rfl rfl (Nat.le_of_ble_eq_true rfl) ⟨by decide, by decide⟩ ⟨by decide, by decide⟩ ⟨rfl, rfl⟩ (fun S12 h g13 => ?_)
  have h := h g13
  have o_a8 := gr_ob g13 o_a8
  have o_v0 := gr_ob g13 o_v0
  have o_v1 := gr_ob g13 o_v1
  exact r_vret (pc := 46) C E ht dX4_open_46 (by decide) (by decide) h
def P_X4_open (v0 : Nat) (v1 : Nat) (v2 : Int32) (Q : HS → Prop) (S : HS) : Prop := P_X4_open_0 Q v0 v1 v2 S
theorem c_X4_open {l : Launch} {Ee : EE} {S : HS} {v0 : Nat} {v1 : Nat} {v2 : Int32} {Q : HS → Prop} (h : P_X4_open v0 v1 v2 Q S) : MV l yX4_open cX4_open 3 none rm_X4_open Ee S [.ref v0, .ref v1, .int v2] Q :=
  openV (by decide) (Nat.le_of_ble_eq_true rfl) (fun X C E ht hn hE hl => by subst hE; exact r_sub [0, 1, 2] rfl (T_X4_open_0 C E ht hn h))
def rm_X4_placeBut : Room := { frames := 7, cells := 0, slots := 0, locals := 165 }
def P_X4_placeBut_29 (Q : Int32 → HS → Prop) (v0 : Nat) (S : HS) : Prop := ob S v0 4 ∧ (P_X4_fail v0 (2 : Int32) (fun x3 S1 => Gr S S1 → bl x3 → (bl x3 ∧ Q x3 S1)) S)
set_option maxRecDepth 20000 in
set_option maxHeartbeats 4000000 in
theorem T_X4_placeBut_29 {X : CX} {Q : Int32 → HS → Prop} (C : Cx X cX4_placeBut RX4 3 rm_X4_placeBut) (E : ReI X rm_X4_placeBut (fun r S => bl r ∧ Q r S)) (ht : (xh X).sig.returnType = (some .boolean)) (hn : (xh X).name = yX4_placeBut.name) {v0 : Nat} {S : HS} (h : P_X4_placeBut_29 Q v0 S) : WS X 3 0 0 29 [(0, .ref v0)] [] S := by
  refine r_aload_n (pc := 29) C dX4_placeBut_29 0 rfl ?_
  refine r_iconst (pc := 30) C (v := (2 : Int32)) dX4_placeBut_30 (by decide) ?_
  obtain ⟨o_v0, h⟩ := h
  refine r_callVi0 (pc := 31) C (rest := []) (a := v0) o_v0 [.int (2 : Int32)] yV_X4_fail g_519 (c_X4_fail h) dX4_placeBut_31 rfl rfl (Nat.le_of_ble_eq_true rfl) ⟨by decide, by decide⟩ ⟨by decide, by decide⟩ ⟨rfl, rfl⟩ (fun x3 S1 h g2 => ?_)
  have bx3 := h.1
  have h := h.2 g2 bx3
  have o_v0 := gr_ob g2 o_v0
  exact r_zret (pc := 34) C E ht dX4_placeBut_34 (by decide) (by decide) h.1 h.2
def P_X4_placeBut_0 (Q : Int32 → HS → Prop) (v0 : Nat) (v1 : Int32) (S : HS) : Prop := ob S v0 4 ∧ (P_X4_canBeName v0 (fun x3 S1 => Gr S S1 → bl x3 → (((¬ x3 = 0) → (P_X4_findName v0 (fun x7 S5 => Gr S1 S5 → (((x7 = (-1 : Int32)) → (P_X4_placeBut_29 Q v0 S5)) ∧ ((¬ x7 = (-1 : Int32)) → (((x7 < (8 : Int32)) → (((¬ x7 = v1) → (∀ S11 : HS, S11 = sI S5 v0 9 x7 → (P_X4_next v0 (fun S12 => Gr S11 S12 → (Q (1 : Int32) S12)) S11))) ∧ ((x7 = v1) → (P_X4_fail v0 (3 : Int32) (fun x17 S15 => Gr S5 S15 → bl x17 → (bl x17 ∧ Q x17 S15)) S5)))) ∧ ((¬ x7 < (8 : Int32)) → (P_X4_placeBut_29 Q v0 S5)))))) S1)) ∧ ((x3 = 0) → (P_X4_fail v0 (1 : Int32) (fun x20 S18 => Gr S1 S18 → bl x20 → (bl x20 ∧ Q x20 S18)) S1)))) S)
set_option maxRecDepth 20000 in
set_option maxHeartbeats 4000000 in
theorem T_X4_placeBut_0 {X : CX} {Q : Int32 → HS → Prop} (C : Cx X cX4_placeBut RX4 3 rm_X4_placeBut) (E : ReI X rm_X4_placeBut (fun r S => bl r ∧ Q r S)) (ht : (xh X).sig.returnType = (some .boolean)) (hn : (xh X).name = yX4_placeBut.name) {v0 : Nat} {v1 : Int32} {S : HS} (h : P_X4_placeBut_0 Q v0 v1 S) : WS X 3 0 0 0 [(0, .ref v0), (1, .int v1)] [] S := by
  refine r_aload_n (pc := 0) C dX4_placeBut_0 0 rfl ?_
  obtain ⟨o_v0, h⟩ := h
  refine r_callVi0 (pc := 1) C (rest := []) (a := v0) o_v0 [] yV_X4_canBeName g_566 (c_X4_canBeName h) dX4_placeBut_1 rfl rfl (Nat.le_of_ble_eq_true rfl) ⟨by decide, by decide⟩ ⟨by decide, by decide⟩ ⟨rfl, rfl⟩ (fun x3 S1 h g2 => ?_)
  have bx3 := h.1
  have h := h.2 g2 bx3
  have o_v0 := gr_ob g2 o_v0
  refine r_if_ne (pc := 4) C (tgt := 13) dX4_placeBut_4 (by decide) (fun c4 => ?_) (fun c4 => ?_)
  · have h := h.1 c4
    refine r_aload_n (pc := 13) C dX4_placeBut_13 0 rfl ?_
    refine r_callVi0 (pc := 14) C (rest := []) (a := v0) o_v0 [] yV_X4_findName g_576 (c_X4_findName h) dX4_placeBut_14 rfl rfl (Nat.le_of_ble_eq_true rfl) ⟨by decide, by decide⟩ ⟨by decide, by decide⟩ ⟨rfl, rfl⟩ (fun x7 S5 h g6 => ?_)
    have h := h g6
    have o_v0 := gr_ob g6 o_v0
    refine r_istore_n (pc := 17) C dX4_placeBut_17 rfl (by decide) (lv' := [(2, .int x7), (0, .ref v0), (1, .int v1)]) rfl ?_
    refine r_iload_n (pc := 18) C dX4_placeBut_18 0 rfl ?_
    refine r_iconst (pc := 19) C (v := (-1 : Int32)) dX4_placeBut_19 (by decide) ?_
    refine r_icmp_eq (pc := 20) C (tgt := 29) dX4_placeBut_20 (by decide) (fun c8 => ?_) (fun c8 => ?_)
    · have h := h.1 c8
      exact r_sub [1] rfl (T_X4_placeBut_29 C E ht hn h)
    · have h := h.2 c8
      refine r_iload_n (pc := 23) C dX4_placeBut_23 0 rfl ?_
      refine r_bipush (pc := 24) C (v := (8 : Int32)) dX4_placeBut_24 (by decide) ?_
      refine r_icmp_lt (pc := 26) C (tgt := 35) dX4_placeBut_26 (by decide) (fun c9 => ?_) (fun c9 => ?_)
      · have h := h.1 c9
        refine r_iload_n (pc := 35) C dX4_placeBut_35 0 rfl ?_
        refine r_iload_n (pc := 36) C dX4_placeBut_36 2 rfl ?_
        refine r_icmp_ne (pc := 37) C (tgt := 46) dX4_placeBut_37 (by decide) (fun c10 => ?_) (fun c10 => ?_)
        · have h := h.1 c10
          refine r_aload_n (pc := 46) C dX4_placeBut_46 1 rfl ?_
          refine r_iload_n (pc := 47) C dX4_placeBut_47 0 rfl ?_
          refine r_puti (pc := 48) C pfL_X4_147 dX4_placeBut_48 o_v0 ?_
          refine r_heap (fun S11 eS11 => ?_)
          have h := h S11 eS11
          have o_v0 := ob_I eS11 o_v0
          refine r_aload_n (pc := 51) C dX4_placeBut_51 1 rfl ?_
          refine r_callVv0 (pc := 52) C (rest := []) (a := v0) o_v0 [] yV_X4_next g_449 (c_X4_next h) dX4_placeBut_52 rfl rfl (Nat.le_of_ble_eq_true rfl) ⟨by decide, by decide⟩ ⟨by decide, by decide⟩ ⟨rfl, rfl⟩ (fun S12 h g13 => ?_)
          have h := h g13
          have o_v0 := gr_ob g13 o_v0
          refine r_iconst (pc := 55) C (v := (1 : Int32)) dX4_placeBut_55 (by decide) ?_
          exact r_zret (pc := 56) C E ht dX4_placeBut_56 (by decide) (by decide) (Or.inr rfl) h
        · have h := h.2 c10
          refine r_aload_n (pc := 40) C dX4_placeBut_40 1 rfl ?_
          refine r_iconst (pc := 41) C (v := (3 : Int32)) dX4_placeBut_41 (by decide) ?_
          refine r_callVi0 (pc := 42) C (rest := []) (a := v0) o_v0 [.int (3 : Int32)] yV_X4_fail g_519 (c_X4_fail h) dX4_placeBut_42 rfl rfl (Nat.le_of_ble_eq_true rfl) ⟨by decide, by decide⟩ ⟨by decide, by decide⟩ ⟨rfl, rfl⟩ (fun x17 S15 h g16 => ?_)
          have bx17 := h.1
          have h := h.2 g16 bx17
          have o_v0 := gr_ob g16 o_v0
          exact r_zret (pc := 45) C E ht dX4_placeBut_45 (by decide) (by decide) h.1 h.2
      · have h := h.2 c9
        exact r_sub [1] rfl (T_X4_placeBut_29 C E ht hn h)
  · have h := h.2 c4
    refine r_aload_n (pc := 7) C dX4_placeBut_7 0 rfl ?_
    refine r_iconst (pc := 8) C (v := (1 : Int32)) dX4_placeBut_8 (by decide) ?_
    refine r_callVi0 (pc := 9) C (rest := []) (a := v0) o_v0 [.int (1 : Int32)] yV_X4_fail g_519 (c_X4_fail h) dX4_placeBut_9 rfl rfl (Nat.le_of_ble_eq_true rfl) ⟨by decide, by decide⟩ ⟨by decide, by decide⟩ ⟨rfl, rfl⟩ (fun x20 S18 h g19 => ?_)
    have bx20 := h.1
    have h := h.2 g19 bx20
    have o_v0 := gr_ob g19 o_v0
    exact r_zret (pc := 12) C E ht dX4_placeBut_12 (by decide) (by decide) h.1 h.2
def P_X4_placeBut (v0 : Nat) (v1 : Int32) (Q : Int32 → HS → Prop) (S : HS) : Prop := P_X4_placeBut_0 Q v0 v1 S
theorem c_X4_placeBut {l : Launch} {Ee : EE} {S : HS} {v0 : Nat} {v1 : Int32} {Q : Int32 → HS → Prop} (h : P_X4_placeBut v0 v1 Q S) : MI l yX4_placeBut cX4_placeBut 3 (some .boolean) rm_X4_placeBut Ee S [.ref v0, .int v1] (fun r S => bl r ∧ Q r S) :=
  openI (by decide) (Nat.le_of_ble_eq_true rfl) (fun X C E ht hn hE hl => by subst hE; exact r_sub [0, 1] rfl (T_X4_placeBut_0 C E ht hn h))
def rm_X4_placeLine : Room := { frames := 8, cells := 0, slots := 0, locals := 188 }
def P_X4_placeLine_64 (Q : Int32 → HS → Prop) (v0 : Nat) (v1 : Int32) (S : HS) : Prop := ob S v0 4 ∧ (∃ a1 : Nat, fR S v0 5 = some a1 ∧ (ob S a1 8 ∧ (∃ a2 : Nat, fR S a1 7 = some a2 ∧ (∃ a3 : Nat, fR S v0 5 = some a3 ∧ (ob S a3 8 ∧ (∀ x4 : Int32, x4 = fI S a3 2 → (ob S a2 13 ∧ (vp_in x4 (hN S a2) ∧ (∀ S6 : HS, S6 = sI S a2 x4.toNatClampNeg v1 → (∃ a7 : Nat, fR S6 v0 5 = some a7 ∧ (ob S6 a7 8 ∧ (∀ x8 : Int32, x8 = fI S6 a7 2 → (∀ x9 : Int32, x9 = x8 + (1 : Int32) → (∀ S10 : HS, S10 = sI S6 a7 2 x9 → (Q (1 : Int32) S10)))))))))))))))
set_option maxRecDepth 20000 in
set_option maxHeartbeats 4000000 in
theorem T_X4_placeLine_64 {X : CX} {Q : Int32 → HS → Prop} (C : Cx X cX4_placeLine RX4 2 rm_X4_placeLine) (E : ReI X rm_X4_placeLine (fun r S => bl r ∧ Q r S)) (ht : (xh X).sig.returnType = (some .boolean)) (hn : (xh X).name = yX4_placeLine.name) {v0 : Nat} {v1 : Int32} {S : HS} (h : P_X4_placeLine_64 Q v0 v1 S) : WS X 2 0 0 64 [(0, .ref v0), (1, .int v1)] [] S := by
  refine r_aload_n (pc := 64) C dX4_placeLine_64 0 rfl ?_
  obtain ⟨o_v0, h⟩ := h
  obtain ⟨a1, ea1, h⟩ := h
  refine r_getr (pc := 65) C fL_X4_18 dX4_placeLine_65 o_v0 ea1 ?_
  obtain ⟨o_a1, h⟩ := h
  obtain ⟨a2, ea2, h⟩ := h
  refine r_getr (pc := 68) C fL_X4_218 dX4_placeLine_68 o_a1 ea2 ?_
  refine r_aload_n (pc := 71) C dX4_placeLine_71 0 rfl ?_
  obtain ⟨a3, ea3, h⟩ := h
  refine r_getr (pc := 72) C fL_X4_18 dX4_placeLine_72 o_v0 ea3 ?_
  obtain ⟨o_a3, h⟩ := h
  refine r_geti (pc := 75) C fL_X4_58 dX4_placeLine_75 o_a3 ?_
  refine r_topi (fun x4 ex4 => ?_)
  have h := h x4 ex4
  refine r_iload_n (pc := 78) C dX4_placeLine_78 1 rfl ?_
  obtain ⟨o_a2, h⟩ := h
  obtain ⟨i5, h⟩ := h
  refine r_iast (pc := 79) C dX4_placeLine_79 o_a2 i5 ?_
  refine r_heap (fun S6 eS6 => ?_)
  have h := h S6 eS6
  have o_a1 := ob_I eS6 o_a1
  have o_a2 := ob_I eS6 o_a2
  have o_a3 := ob_I eS6 o_a3
  have o_v0 := ob_I eS6 o_v0
  refine r_aload_n (pc := 80) C dX4_placeLine_80 0 rfl ?_
  obtain ⟨a7, ea7, h⟩ := h
  refine r_getr (pc := 81) C fL_X4_18 dX4_placeLine_81 o_v0 ea7 ?_
  refine r_dup (pc := 84) C dX4_placeLine_84 rfl ?_
  obtain ⟨o_a7, h⟩ := h
  refine r_geti (pc := 85) C fL_X4_58 dX4_placeLine_85 o_a7 ?_
  refine r_topi (fun x8 ex8 => ?_)
  have h := h x8 ex8
  refine r_iconst (pc := 88) C (v := (1 : Int32)) dX4_placeLine_88 (by decide) ?_
  refine r_iadd (pc := 89) C dX4_placeLine_89 ?_
  refine r_topi (fun x9 ex9 => ?_)
  have h := h x9 ex9
  refine r_puti (pc := 90) C pfL_X4_58 dX4_placeLine_90 o_a7 ?_
  refine r_heap (fun S10 eS10 => ?_)
  have h := h S10 eS10
  have o_a1 := ob_I eS10 o_a1
  have o_a2 := ob_I eS10 o_a2
  have o_a3 := ob_I eS10 o_a3
  have o_a7 := ob_I eS10 o_a7
  have o_v0 := ob_I eS10 o_v0
  refine r_iconst (pc := 93) C (v := (1 : Int32)) dX4_placeLine_93 (by decide) ?_
  exact r_zret (pc := 94) C E ht dX4_placeLine_94 (by decide) (by decide) (Or.inr rfl) h
def P_X4_placeLine_0 (Q : Int32 → HS → Prop) (v0 : Nat) (S : HS) : Prop := ob S v0 4 ∧ (∃ a1 : Nat, fR S v0 5 = some a1 ∧ (ob S a1 8 ∧ (∀ x2 : Int32, x2 = fI S a1 2 → (P_X4_newName v0 x2 (fun x5 S3 => Gr S S3 → bl x5 → (((¬ x5 = 0) → (P_X4_is v0 15 (fun x9 S7 => Gr S3 S7 → bl x9 → (((x9 = 0) → (P_X4_is v0 16 (fun x13 S11 => Gr S7 S11 → bl x13 → (((x13 = 0) → (P_X4_placeLine_64 Q v0 (-1 : Int32) S11)) ∧ ((¬ x13 = 0) → (P_X4_wordAndWhole v0 16 (0 : Int32) (9 : Int32) (fun x17 S15 => Gr S11 S15 → bl x17 → (((¬ x17 = 0) → (∀ x19 : Int32, x19 = fI S15 v0 9 → (P_X4_placeLine_64 Q v0 x19 S15))) ∧ ((x17 = 0) → (Q (0 : Int32) S15)))) S11)))) S7)) ∧ ((¬ x9 = 0) → (P_X4_next v0 (fun S20 => Gr S7 S20 → (P_X4_placeLine_64 Q v0 (0 : Int32) S20)) S7)))) S3)) ∧ ((x5 = 0) → (Q (0 : Int32) S3)))) S))))
set_option maxRecDepth 20000 in
set_option maxHeartbeats 4000000 in
theorem T_X4_placeLine_0 {X : CX} {Q : Int32 → HS → Prop} (C : Cx X cX4_placeLine RX4 2 rm_X4_placeLine) (E : ReI X rm_X4_placeLine (fun r S => bl r ∧ Q r S)) (ht : (xh X).sig.returnType = (some .boolean)) (hn : (xh X).name = yX4_placeLine.name) {v0 : Nat} {S : HS} (h : P_X4_placeLine_0 Q v0 S) : WS X 2 0 0 0 [(0, .ref v0)] [] S := by
  refine r_aload_n (pc := 0) C dX4_placeLine_0 0 rfl ?_
  refine r_aload_n (pc := 1) C dX4_placeLine_1 0 rfl ?_
  obtain ⟨o_v0, h⟩ := h
  obtain ⟨a1, ea1, h⟩ := h
  refine r_getr (pc := 2) C fL_X4_18 dX4_placeLine_2 o_v0 ea1 ?_
  obtain ⟨o_a1, h⟩ := h
  refine r_geti (pc := 5) C fL_X4_58 dX4_placeLine_5 o_a1 ?_
  refine r_topi (fun x2 ex2 => ?_)
  have h := h x2 ex2
  refine r_callVi0 (pc := 8) C (rest := []) (a := v0) o_v0 [.int x2] yV_X4_newName g_562 (c_X4_newName h) dX4_placeLine_8 rfl rfl (Nat.le_of_ble_eq_true rfl) ⟨by decide, by decide⟩ ⟨by decide, by decide⟩ ⟨rfl, rfl⟩ (fun x5 S3 h g4 => ?_)
  have bx5 := h.1
  have h := h.2 g4 bx5
  have o_a1 := gr_ob g4 o_a1
  have o_v0 := gr_ob g4 o_v0
  refine r_if_ne (pc := 11) C (tgt := 16) dX4_placeLine_11 (by decide) (fun c6 => ?_) (fun c6 => ?_)
  · have h := h.1 c6
    refine r_iconst (pc := 16) C (v := (-1 : Int32)) dX4_placeLine_16 (by decide) ?_
    refine r_istore_n (pc := 17) C dX4_placeLine_17 rfl (by decide) (lv' := [(1, .int (-1 : Int32)), (0, .ref v0)]) rfl ?_
    refine r_aload_n (pc := 18) C dX4_placeLine_18 1 rfl ?_
    refine r_lds (pc := 19) C 15 rfl dX4_placeLine_19 ?_
    refine r_callVi0 (pc := 21) C (rest := []) (a := v0) o_v0 [.ref (eK (xE X) 15)] yV_X4_is g_458 (c_X4_is h) dX4_placeLine_21 rfl rfl (Nat.le_of_ble_eq_true rfl) ⟨by decide, by decide⟩ ⟨by decide, by decide⟩ ⟨rfl, rfl⟩ (fun x9 S7 h g8 => ?_)
    have bx9 := h.1
    have h := h.2 g8 bx9
    have o_a1 := gr_ob g8 o_a1
    have o_v0 := gr_ob g8 o_v0
    refine r_if_eq (pc := 24) C (tgt := 36) dX4_placeLine_24 (by decide) (fun c10 => ?_) (fun c10 => ?_)
    · have h := h.1 c10
      refine r_aload_n (pc := 36) C dX4_placeLine_36 1 rfl ?_
      refine r_lds (pc := 37) C 16 rfl dX4_placeLine_37 ?_
      refine r_callVi0 (pc := 39) C (rest := []) (a := v0) o_v0 [.ref (eK (xE X) 16)] yV_X4_is g_458 (c_X4_is h) dX4_placeLine_39 rfl rfl (Nat.le_of_ble_eq_true rfl) ⟨by decide, by decide⟩ ⟨by decide, by decide⟩ ⟨rfl, rfl⟩ (fun x13 S11 h g12 => ?_)
      have bx13 := h.1
      have h := h.2 g12 bx13
      have o_a1 := gr_ob g12 o_a1
      have o_v0 := gr_ob g12 o_v0
      refine r_if_eq (pc := 42) C (tgt := 64) dX4_placeLine_42 (by decide) (fun c14 => ?_) (fun c14 => ?_)
      · have h := h.1 c14
        exact r_sub [1, 0] rfl (T_X4_placeLine_64 C E ht hn h)
      · have h := h.2 c14
        refine r_aload_n (pc := 45) C dX4_placeLine_45 1 rfl ?_
        refine r_lds (pc := 46) C 16 rfl dX4_placeLine_46 ?_
        refine r_iconst (pc := 48) C (v := (0 : Int32)) dX4_placeLine_48 (by decide) ?_
        refine r_bipush (pc := 49) C (v := (9 : Int32)) dX4_placeLine_49 (by decide) ?_
        refine r_callVi0 (pc := 51) C (rest := []) (a := v0) o_v0 [.ref (eK (xE X) 16), .int (0 : Int32), .int (9 : Int32)] yV_X4_wordAndWhole g_524 (c_X4_wordAndWhole h) dX4_placeLine_51 rfl rfl (Nat.le_of_ble_eq_true rfl) ⟨by decide, by decide⟩ ⟨by decide, by decide⟩ ⟨rfl, rfl⟩ (fun x17 S15 h g16 => ?_)
        have bx17 := h.1
        have h := h.2 g16 bx17
        have o_a1 := gr_ob g16 o_a1
        have o_v0 := gr_ob g16 o_v0
        refine r_if_ne (pc := 54) C (tgt := 59) dX4_placeLine_54 (by decide) (fun c18 => ?_) (fun c18 => ?_)
        · have h := h.1 c18
          refine r_aload_n (pc := 59) C dX4_placeLine_59 1 rfl ?_
          refine r_geti (pc := 60) C fL_X4_147 dX4_placeLine_60 o_v0 ?_
          refine r_topi (fun x19 ex19 => ?_)
          have h := h x19 ex19
          refine r_istore_n (pc := 63) C dX4_placeLine_63 rfl (by decide) (lv' := [(1, .int x19), (0, .ref v0)]) rfl ?_
          exact r_sub [1, 0] rfl (T_X4_placeLine_64 C E ht hn h)
        · have h := h.2 c18
          refine r_iconst (pc := 57) C (v := (0 : Int32)) dX4_placeLine_57 (by decide) ?_
          exact r_zret (pc := 58) C E ht dX4_placeLine_58 (by decide) (by decide) (Or.inl rfl) h
    · have h := h.2 c10
      refine r_iconst (pc := 27) C (v := (0 : Int32)) dX4_placeLine_27 (by decide) ?_
      refine r_istore_n (pc := 28) C dX4_placeLine_28 rfl (by decide) (lv' := [(1, .int (0 : Int32)), (0, .ref v0)]) rfl ?_
      refine r_aload_n (pc := 29) C dX4_placeLine_29 1 rfl ?_
      refine r_callVv0 (pc := 30) C (rest := []) (a := v0) o_v0 [] yV_X4_next g_449 (c_X4_next h) dX4_placeLine_30 rfl rfl (Nat.le_of_ble_eq_true rfl) ⟨by decide, by decide⟩ ⟨by decide, by decide⟩ ⟨rfl, rfl⟩ (fun S20 h g21 => ?_)
      have h := h g21
      have o_a1 := gr_ob g21 o_a1
      have o_v0 := gr_ob g21 o_v0
      refine r_goto (pc := 33) C (tgt := 64) dX4_placeLine_33 (by decide) ?_
      exact r_sub [1, 0] rfl (T_X4_placeLine_64 C E ht hn h)
  · have h := h.2 c6
    refine r_iconst (pc := 14) C (v := (0 : Int32)) dX4_placeLine_14 (by decide) ?_
    exact r_zret (pc := 15) C E ht dX4_placeLine_15 (by decide) (by decide) (Or.inl rfl) h
def P_X4_placeLine (v0 : Nat) (Q : Int32 → HS → Prop) (S : HS) : Prop := P_X4_placeLine_0 Q v0 S
theorem c_X4_placeLine {l : Launch} {Ee : EE} {S : HS} {v0 : Nat} {Q : Int32 → HS → Prop} (h : P_X4_placeLine v0 Q S) : MI l yX4_placeLine cX4_placeLine 2 (some .boolean) rm_X4_placeLine Ee S [.ref v0] (fun r S => bl r ∧ Q r S) :=
  openI (by decide) (Nat.le_of_ble_eq_true rfl) (fun X C E ht hn hE hl => by subst hE; exact r_sub [0] rfl (T_X4_placeLine_0 C E ht hn h))
def rm_X4_side : Room := { frames := 6, cells := 0, slots := 0, locals := 144 }
def P_X4_side_74 (Q : Int32 → HS → Prop) (v0 : Nat) (S : HS) : Prop := ob S v0 4 ∧ (P_X4_next v0 (fun S1 => Gr S S1 → (Q (1 : Int32) S1)) S)
set_option maxRecDepth 20000 in
set_option maxHeartbeats 4000000 in
theorem T_X4_side_74 {X : CX} {Q : Int32 → HS → Prop} (C : Cx X cX4_side RX4 1 rm_X4_side) (E : ReI X rm_X4_side (fun r S => bl r ∧ Q r S)) (ht : (xh X).sig.returnType = (some .boolean)) (hn : (xh X).name = yX4_side.name) {v0 : Nat} {S : HS} (h : P_X4_side_74 Q v0 S) : WS X 1 0 0 74 [(0, .ref v0)] [] S := by
  refine r_aload_n (pc := 74) C dX4_side_74 0 rfl ?_
  obtain ⟨o_v0, h⟩ := h
  refine r_callVv0 (pc := 75) C (rest := []) (a := v0) o_v0 [] yV_X4_next g_449 (c_X4_next h) dX4_side_75 rfl rfl (Nat.le_of_ble_eq_true rfl) ⟨by decide, by decide⟩ ⟨by decide, by decide⟩ ⟨rfl, rfl⟩ (fun S1 h g2 => ?_)
  have h := h g2
  have o_v0 := gr_ob g2 o_v0
  refine r_iconst (pc := 78) C (v := (1 : Int32)) dX4_side_78 (by decide) ?_
  exact r_zret (pc := 79) C E ht dX4_side_79 (by decide) (by decide) (Or.inr rfl) h
def P_X4_side_0 (Q : Int32 → HS → Prop) (v0 : Nat) (S : HS) : Prop := ob S v0 4 ∧ (P_X4_is v0 6 (fun x3 S1 => Gr S S1 → bl x3 → (((x3 = 0) → (P_X4_is v0 7 (fun x7 S5 => Gr S1 S5 → bl x7 → (((x7 = 0) → (P_X4_is v0 8 (fun x11 S9 => Gr S5 S9 → bl x11 → (((x11 = 0) → (P_X4_is v0 9 (fun x15 S13 => Gr S9 S13 → bl x15 → (((x15 = 0) → (P_X4_fail v0 (1 : Int32) (fun x19 S17 => Gr S13 S17 → bl x19 → (bl x19 ∧ Q x19 S17)) S13)) ∧ ((¬ x15 = 0) → (∀ S20 : HS, S20 = sI S13 v0 9 (3 : Int32) → (P_X4_side_74 Q v0 S20))))) S9)) ∧ ((¬ x11 = 0) → (∀ S21 : HS, S21 = sI S9 v0 9 (2 : Int32) → (P_X4_side_74 Q v0 S21))))) S5)) ∧ ((¬ x7 = 0) → (∀ S22 : HS, S22 = sI S5 v0 9 (1 : Int32) → (P_X4_side_74 Q v0 S22))))) S1)) ∧ ((¬ x3 = 0) → (∀ S23 : HS, S23 = sI S1 v0 9 (0 : Int32) → (P_X4_side_74 Q v0 S23))))) S)
set_option maxRecDepth 20000 in
set_option maxHeartbeats 4000000 in
theorem T_X4_side_0 {X : CX} {Q : Int32 → HS → Prop} (C : Cx X cX4_side RX4 1 rm_X4_side) (E : ReI X rm_X4_side (fun r S => bl r ∧ Q r S)) (ht : (xh X).sig.returnType = (some .boolean)) (hn : (xh X).name = yX4_side.name) {v0 : Nat} {S : HS} (h : P_X4_side_0 Q v0 S) : WS X 1 0 0 0 [(0, .ref v0)] [] S := by
  refine r_aload_n (pc := 0) C dX4_side_0 0 rfl ?_
  refine r_lds (pc := 1) C 6 rfl dX4_side_1 ?_
  obtain ⟨o_v0, h⟩ := h
  refine r_callVi0 (pc := 3) C (rest := []) (a := v0) o_v0 [.ref (eK (xE X) 6)] yV_X4_is g_458 (c_X4_is h) dX4_side_3 rfl rfl (Nat.le_of_ble_eq_true rfl) ⟨by decide, by decide⟩ ⟨by decide, by decide⟩ ⟨rfl, rfl⟩ (fun x3 S1 h g2 => ?_)
  have bx3 := h.1
  have h := h.2 g2 bx3
  have o_v0 := gr_ob g2 o_v0
  refine r_if_eq (pc := 6) C (tgt := 17) dX4_side_6 (by decide) (fun c4 => ?_) (fun c4 => ?_)
  · have h := h.1 c4
    refine r_aload_n (pc := 17) C dX4_side_17 0 rfl ?_
    refine r_lds (pc := 18) C 7 rfl dX4_side_18 ?_
    refine r_callVi0 (pc := 20) C (rest := []) (a := v0) o_v0 [.ref (eK (xE X) 7)] yV_X4_is g_458 (c_X4_is h) dX4_side_20 rfl rfl (Nat.le_of_ble_eq_true rfl) ⟨by decide, by decide⟩ ⟨by decide, by decide⟩ ⟨rfl, rfl⟩ (fun x7 S5 h g6 => ?_)
    have bx7 := h.1
    have h := h.2 g6 bx7
    have o_v0 := gr_ob g6 o_v0
    refine r_if_eq (pc := 23) C (tgt := 34) dX4_side_23 (by decide) (fun c8 => ?_) (fun c8 => ?_)
    · have h := h.1 c8
      refine r_aload_n (pc := 34) C dX4_side_34 0 rfl ?_
      refine r_lds (pc := 35) C 8 rfl dX4_side_35 ?_
      refine r_callVi0 (pc := 37) C (rest := []) (a := v0) o_v0 [.ref (eK (xE X) 8)] yV_X4_is g_458 (c_X4_is h) dX4_side_37 rfl rfl (Nat.le_of_ble_eq_true rfl) ⟨by decide, by decide⟩ ⟨by decide, by decide⟩ ⟨rfl, rfl⟩ (fun x11 S9 h g10 => ?_)
      have bx11 := h.1
      have h := h.2 g10 bx11
      have o_v0 := gr_ob g10 o_v0
      refine r_if_eq (pc := 40) C (tgt := 51) dX4_side_40 (by decide) (fun c12 => ?_) (fun c12 => ?_)
      · have h := h.1 c12
        refine r_aload_n (pc := 51) C dX4_side_51 0 rfl ?_
        refine r_lds (pc := 52) C 9 rfl dX4_side_52 ?_
        refine r_callVi0 (pc := 54) C (rest := []) (a := v0) o_v0 [.ref (eK (xE X) 9)] yV_X4_is g_458 (c_X4_is h) dX4_side_54 rfl rfl (Nat.le_of_ble_eq_true rfl) ⟨by decide, by decide⟩ ⟨by decide, by decide⟩ ⟨rfl, rfl⟩ (fun x15 S13 h g14 => ?_)
        have bx15 := h.1
        have h := h.2 g14 bx15
        have o_v0 := gr_ob g14 o_v0
        refine r_if_eq (pc := 57) C (tgt := 68) dX4_side_57 (by decide) (fun c16 => ?_) (fun c16 => ?_)
        · have h := h.1 c16
          refine r_aload_n (pc := 68) C dX4_side_68 0 rfl ?_
          refine r_iconst (pc := 69) C (v := (1 : Int32)) dX4_side_69 (by decide) ?_
          refine r_callVi0 (pc := 70) C (rest := []) (a := v0) o_v0 [.int (1 : Int32)] yV_X4_fail g_519 (c_X4_fail h) dX4_side_70 rfl rfl (Nat.le_of_ble_eq_true rfl) ⟨by decide, by decide⟩ ⟨by decide, by decide⟩ ⟨rfl, rfl⟩ (fun x19 S17 h g18 => ?_)
          have bx19 := h.1
          have h := h.2 g18 bx19
          have o_v0 := gr_ob g18 o_v0
          exact r_zret (pc := 73) C E ht dX4_side_73 (by decide) (by decide) h.1 h.2
        · have h := h.2 c16
          refine r_aload_n (pc := 60) C dX4_side_60 0 rfl ?_
          refine r_iconst (pc := 61) C (v := (3 : Int32)) dX4_side_61 (by decide) ?_
          refine r_puti (pc := 62) C pfL_X4_147 dX4_side_62 o_v0 ?_
          refine r_heap (fun S20 eS20 => ?_)
          have h := h S20 eS20
          have o_v0 := ob_I eS20 o_v0
          refine r_goto (pc := 65) C (tgt := 74) dX4_side_65 (by decide) ?_
          exact r_sub [0] rfl (T_X4_side_74 C E ht hn h)
      · have h := h.2 c12
        refine r_aload_n (pc := 43) C dX4_side_43 0 rfl ?_
        refine r_iconst (pc := 44) C (v := (2 : Int32)) dX4_side_44 (by decide) ?_
        refine r_puti (pc := 45) C pfL_X4_147 dX4_side_45 o_v0 ?_
        refine r_heap (fun S21 eS21 => ?_)
        have h := h S21 eS21
        have o_v0 := ob_I eS21 o_v0
        refine r_goto (pc := 48) C (tgt := 74) dX4_side_48 (by decide) ?_
        exact r_sub [0] rfl (T_X4_side_74 C E ht hn h)
    · have h := h.2 c8
      refine r_aload_n (pc := 26) C dX4_side_26 0 rfl ?_
      refine r_iconst (pc := 27) C (v := (1 : Int32)) dX4_side_27 (by decide) ?_
      refine r_puti (pc := 28) C pfL_X4_147 dX4_side_28 o_v0 ?_
      refine r_heap (fun S22 eS22 => ?_)
      have h := h S22 eS22
      have o_v0 := ob_I eS22 o_v0
      refine r_goto (pc := 31) C (tgt := 74) dX4_side_31 (by decide) ?_
      exact r_sub [0] rfl (T_X4_side_74 C E ht hn h)
  · have h := h.2 c4
    refine r_aload_n (pc := 9) C dX4_side_9 0 rfl ?_
    refine r_iconst (pc := 10) C (v := (0 : Int32)) dX4_side_10 (by decide) ?_
    refine r_puti (pc := 11) C pfL_X4_147 dX4_side_11 o_v0 ?_
    refine r_heap (fun S23 eS23 => ?_)
    have h := h S23 eS23
    have o_v0 := ob_I eS23 o_v0
    refine r_goto (pc := 14) C (tgt := 74) dX4_side_14 (by decide) ?_
    exact r_sub [0] rfl (T_X4_side_74 C E ht hn h)
def P_X4_side (v0 : Nat) (Q : Int32 → HS → Prop) (S : HS) : Prop := P_X4_side_0 Q v0 S
theorem c_X4_side {l : Launch} {Ee : EE} {S : HS} {v0 : Nat} {Q : Int32 → HS → Prop} (h : P_X4_side v0 Q S) : MI l yX4_side cX4_side 1 (some .boolean) rm_X4_side Ee S [.ref v0] (fun r S => bl r ∧ Q r S) :=
  openI (by decide) (Nat.le_of_ble_eq_true rfl) (fun X C E ht hn hE hl => by subst hE; exact r_sub [0] rfl (T_X4_side_0 C E ht hn h))
def rm_X4_rainLine : Room := { frames := 8, cells := 0, slots := 0, locals := 188 }
def P_X4_rainLine_0 (Q : Int32 → HS → Prop) (v0 : Nat) (S : HS) : Prop := ob S v0 4 ∧ (∃ a1 : Nat, fR S v0 5 = some a1 ∧ (ob S a1 8 ∧ (∃ a2 : Nat, fR S a1 6 = some a2 ∧ (∃ a3 : Nat, fR S v0 5 = some a3 ∧ (ob S a3 8 ∧ (∀ x4 : Int32, x4 = fI S a3 1 → (ob S a2 17 ∧ (vp_in x4 (hN S a2) ∧ ∃ a6 : Nat, fR S a2 x4.toNatClampNeg = some a6 ∧ (P_X4_wordAndWhole v0 3 (0 : Int32) (9 : Int32) (fun x9 S7 => Gr S S7 → bl x9 → (((¬ x9 = 0) → (∀ x11 : Int32, x11 = fI S7 v0 9 → (ob S7 a6 3 ∧ (∀ S12 : HS, S12 = sI S7 a6 0 x11 → (P_X4_wordAndWhole v0 4 (1 : Int32) (9 : Int32) (fun x15 S13 => Gr S12 S13 → bl x15 → (((¬ x15 = 0) → (∀ x17 : Int32, x17 = fI S13 v0 9 → (∀ S18 : HS, S18 = sI S13 a6 1 x17 → (P_X4_word v0 5 (fun x21 S19 => Gr S18 S19 → bl x21 → (((x21 = 0) → (Q (0 : Int32) S19)) ∧ ((¬ x21 = 0) → (P_X4_side v0 (fun x25 S23 => Gr S19 S23 → bl x25 → (((¬ x25 = 0) → (∀ x27 : Int32, x27 = fI S23 v0 9 → (∀ S28 : HS, S28 = sI S23 a6 2 x27 → (P_X4_whole v0 (0 : Int32) (9 : Int32) (fun x31 S29 => Gr S28 S29 → bl x31 → (((¬ x31 = 0) → (∀ x33 : Int32, x33 = fI S29 v0 9 → (∀ S34 : HS, S34 = sI S29 a6 3 x33 → (P_X4_wordAndWhole v0 10 (0 : Int32) (100 : Int32) (fun x37 S35 => Gr S34 S35 → bl x37 → (((¬ x37 = 0) → (∀ x39 : Int32, x39 = fI S35 v0 9 → (∀ S40 : HS, S40 = sI S35 a6 4 x39 → (∃ a41 : Nat, fR S40 v0 5 = some a41 ∧ (ob S40 a41 8 ∧ (∀ x42 : Int32, x42 = fI S40 a41 1 → (∀ x43 : Int32, x43 = x42 + (1 : Int32) → (∀ S44 : HS, S44 = sI S40 a41 1 x43 → (Q (1 : Int32) S44))))))))) ∧ ((x37 = 0) → (Q (0 : Int32) S35)))) S34)))) ∧ ((x31 = 0) → (Q (0 : Int32) S29)))) S28)))) ∧ ((x25 = 0) → (Q (0 : Int32) S23)))) S19)))) S18)))) ∧ ((x15 = 0) → (Q (0 : Int32) S13)))) S12))))) ∧ ((x9 = 0) → (Q (0 : Int32) S7)))) S)))))))))
set_option maxRecDepth 20000 in
set_option maxHeartbeats 4000000 in
theorem T_X4_rainLine_0 {X : CX} {Q : Int32 → HS → Prop} (C : Cx X cX4_rainLine RX4 2 rm_X4_rainLine) (E : ReI X rm_X4_rainLine (fun r S => bl r ∧ Q r S)) (ht : (xh X).sig.returnType = (some .boolean)) (hn : (xh X).name = yX4_rainLine.name) {v0 : Nat} {S : HS} (h : P_X4_rainLine_0 Q v0 S) : WS X 2 0 0 0 [(0, .ref v0)] [] S := by
  refine r_aload_n (pc := 0) C dX4_rainLine_0 0 rfl ?_
  obtain ⟨o_v0, h⟩ := h
  obtain ⟨a1, ea1, h⟩ := h
  refine r_getr (pc := 1) C fL_X4_18 dX4_rainLine_1 o_v0 ea1 ?_
  obtain ⟨o_a1, h⟩ := h
  obtain ⟨a2, ea2, h⟩ := h
  refine r_getr (pc := 4) C fL_X4_188 dX4_rainLine_4 o_a1 ea2 ?_
  refine r_aload_n (pc := 7) C dX4_rainLine_7 0 rfl ?_
  obtain ⟨a3, ea3, h⟩ := h
  refine r_getr (pc := 8) C fL_X4_18 dX4_rainLine_8 o_v0 ea3 ?_
  obtain ⟨o_a3, h⟩ := h
  refine r_geti (pc := 11) C fL_X4_45 dX4_rainLine_11 o_a3 ?_
  refine r_topi (fun x4 ex4 => ?_)
  have h := h x4 ex4
  obtain ⟨o_a2, h⟩ := h
  obtain ⟨i5, a6, ea6, h⟩ := h
  refine r_aald17 (pc := 14) C dX4_rainLine_14 o_a2 i5 ea6 ?_
  refine r_astore_n (pc := 15) C dX4_rainLine_15 rfl (by decide) (lv' := [(1, .ref a6), (0, .ref v0)]) rfl ?_
  refine r_aload_n (pc := 16) C dX4_rainLine_16 1 rfl ?_
  refine r_lds (pc := 17) C 3 rfl dX4_rainLine_17 ?_
  refine r_iconst (pc := 19) C (v := (0 : Int32)) dX4_rainLine_19 (by decide) ?_
  refine r_bipush (pc := 20) C (v := (9 : Int32)) dX4_rainLine_20 (by decide) ?_
  refine r_callVi0 (pc := 22) C (rest := []) (a := v0) o_v0 [.ref (eK (xE X) 3), .int (0 : Int32), .int (9 : Int32)] yV_X4_wordAndWhole g_524 (c_X4_wordAndWhole h) dX4_rainLine_22 rfl rfl (Nat.le_of_ble_eq_true rfl) ⟨by decide, by decide⟩ ⟨by decide, by decide⟩ ⟨rfl, rfl⟩ (fun x9 S7 h g8 => ?_)
  have bx9 := h.1
  have h := h.2 g8 bx9
  have o_a1 := gr_ob g8 o_a1
  have o_a2 := gr_ob g8 o_a2
  have o_a3 := gr_ob g8 o_a3
  have o_v0 := gr_ob g8 o_v0
  refine r_if_ne (pc := 25) C (tgt := 30) dX4_rainLine_25 (by decide) (fun c10 => ?_) (fun c10 => ?_)
  · have h := h.1 c10
    refine r_aload_n (pc := 30) C dX4_rainLine_30 0 rfl ?_
    refine r_aload_n (pc := 31) C dX4_rainLine_31 1 rfl ?_
    refine r_geti (pc := 32) C fL_X4_147 dX4_rainLine_32 o_v0 ?_
    refine r_topi (fun x11 ex11 => ?_)
    have h := h x11 ex11
    obtain ⟨o_a6, h⟩ := h
    refine r_puti (pc := 35) C pfL_X4_193 dX4_rainLine_35 o_a6 ?_
    refine r_heap (fun S12 eS12 => ?_)
    have h := h S12 eS12
    have o_a1 := ob_I eS12 o_a1
    have o_a2 := ob_I eS12 o_a2
    have o_a3 := ob_I eS12 o_a3
    have o_a6 := ob_I eS12 o_a6
    have o_v0 := ob_I eS12 o_v0
    refine r_aload_n (pc := 38) C dX4_rainLine_38 1 rfl ?_
    refine r_lds (pc := 39) C 4 rfl dX4_rainLine_39 ?_
    refine r_iconst (pc := 41) C (v := (1 : Int32)) dX4_rainLine_41 (by decide) ?_
    refine r_bipush (pc := 42) C (v := (9 : Int32)) dX4_rainLine_42 (by decide) ?_
    refine r_callVi0 (pc := 44) C (rest := []) (a := v0) o_v0 [.ref (eK (xE X) 4), .int (1 : Int32), .int (9 : Int32)] yV_X4_wordAndWhole g_524 (c_X4_wordAndWhole h) dX4_rainLine_44 rfl rfl (Nat.le_of_ble_eq_true rfl) ⟨by decide, by decide⟩ ⟨by decide, by decide⟩ ⟨rfl, rfl⟩ (fun x15 S13 h g14 => ?_)
    have bx15 := h.1
    have h := h.2 g14 bx15
    have o_a1 := gr_ob g14 o_a1
    have o_a2 := gr_ob g14 o_a2
    have o_a3 := gr_ob g14 o_a3
    have o_a6 := gr_ob g14 o_a6
    have o_v0 := gr_ob g14 o_v0
    refine r_if_ne (pc := 47) C (tgt := 52) dX4_rainLine_47 (by decide) (fun c16 => ?_) (fun c16 => ?_)
    · have h := h.1 c16
      refine r_aload_n (pc := 52) C dX4_rainLine_52 0 rfl ?_
      refine r_aload_n (pc := 53) C dX4_rainLine_53 1 rfl ?_
      refine r_geti (pc := 54) C fL_X4_147 dX4_rainLine_54 o_v0 ?_
      refine r_topi (fun x17 ex17 => ?_)
      have h := h x17 ex17
      refine r_puti (pc := 57) C pfL_X4_199 dX4_rainLine_57 o_a6 ?_
      refine r_heap (fun S18 eS18 => ?_)
      have h := h S18 eS18
      have o_a1 := ob_I eS18 o_a1
      have o_a2 := ob_I eS18 o_a2
      have o_a3 := ob_I eS18 o_a3
      have o_a6 := ob_I eS18 o_a6
      have o_v0 := ob_I eS18 o_v0
      refine r_aload_n (pc := 60) C dX4_rainLine_60 1 rfl ?_
      refine r_lds (pc := 61) C 5 rfl dX4_rainLine_61 ?_
      refine r_callVi0 (pc := 63) C (rest := []) (a := v0) o_v0 [.ref (eK (xE X) 5)] yV_X4_word g_528 (c_X4_word h) dX4_rainLine_63 rfl rfl (Nat.le_of_ble_eq_true rfl) ⟨by decide, by decide⟩ ⟨by decide, by decide⟩ ⟨rfl, rfl⟩ (fun x21 S19 h g20 => ?_)
      have bx21 := h.1
      have h := h.2 g20 bx21
      have o_a1 := gr_ob g20 o_a1
      have o_a2 := gr_ob g20 o_a2
      have o_a3 := gr_ob g20 o_a3
      have o_a6 := gr_ob g20 o_a6
      have o_v0 := gr_ob g20 o_v0
      refine r_if_eq (pc := 66) C (tgt := 76) dX4_rainLine_66 (by decide) (fun c22 => ?_) (fun c22 => ?_)
      · have h := h.1 c22
        refine r_iconst (pc := 76) C (v := (0 : Int32)) dX4_rainLine_76 (by decide) ?_
        exact r_zret (pc := 77) C E ht dX4_rainLine_77 (by decide) (by decide) (Or.inl rfl) h
      · have h := h.2 c22
        refine r_aload_n (pc := 69) C dX4_rainLine_69 1 rfl ?_
        refine r_callVi0 (pc := 70) C (rest := []) (a := v0) o_v0 [] yV_X4_side g_548 (c_X4_side h) dX4_rainLine_70 rfl rfl (Nat.le_of_ble_eq_true rfl) ⟨by decide, by decide⟩ ⟨by decide, by decide⟩ ⟨rfl, rfl⟩ (fun x25 S23 h g24 => ?_)
        have bx25 := h.1
        have h := h.2 g24 bx25
        have o_a1 := gr_ob g24 o_a1
        have o_a2 := gr_ob g24 o_a2
        have o_a3 := gr_ob g24 o_a3
        have o_a6 := gr_ob g24 o_a6
        have o_v0 := gr_ob g24 o_v0
        refine r_if_ne (pc := 73) C (tgt := 78) dX4_rainLine_73 (by decide) (fun c26 => ?_) (fun c26 => ?_)
        · have h := h.1 c26
          refine r_aload_n (pc := 78) C dX4_rainLine_78 0 rfl ?_
          refine r_aload_n (pc := 79) C dX4_rainLine_79 1 rfl ?_
          refine r_geti (pc := 80) C fL_X4_147 dX4_rainLine_80 o_v0 ?_
          refine r_topi (fun x27 ex27 => ?_)
          have h := h x27 ex27
          refine r_puti (pc := 83) C pfL_X4_206 dX4_rainLine_83 o_a6 ?_
          refine r_heap (fun S28 eS28 => ?_)
          have h := h S28 eS28
          have o_a1 := ob_I eS28 o_a1
          have o_a2 := ob_I eS28 o_a2
          have o_a3 := ob_I eS28 o_a3
          have o_a6 := ob_I eS28 o_a6
          have o_v0 := ob_I eS28 o_v0
          refine r_aload_n (pc := 86) C dX4_rainLine_86 1 rfl ?_
          refine r_iconst (pc := 87) C (v := (0 : Int32)) dX4_rainLine_87 (by decide) ?_
          refine r_bipush (pc := 88) C (v := (9 : Int32)) dX4_rainLine_88 (by decide) ?_
          refine r_callVi0 (pc := 90) C (rest := []) (a := v0) o_v0 [.int (0 : Int32), .int (9 : Int32)] yV_X4_whole g_532 (c_X4_whole h) dX4_rainLine_90 rfl rfl (Nat.le_of_ble_eq_true rfl) ⟨by decide, by decide⟩ ⟨by decide, by decide⟩ ⟨rfl, rfl⟩ (fun x31 S29 h g30 => ?_)
          have bx31 := h.1
          have h := h.2 g30 bx31
          have o_a1 := gr_ob g30 o_a1
          have o_a2 := gr_ob g30 o_a2
          have o_a3 := gr_ob g30 o_a3
          have o_a6 := gr_ob g30 o_a6
          have o_v0 := gr_ob g30 o_v0
          refine r_if_ne (pc := 93) C (tgt := 98) dX4_rainLine_93 (by decide) (fun c32 => ?_) (fun c32 => ?_)
          · have h := h.1 c32
            refine r_aload_n (pc := 98) C dX4_rainLine_98 0 rfl ?_
            refine r_aload_n (pc := 99) C dX4_rainLine_99 1 rfl ?_
            refine r_geti (pc := 100) C fL_X4_147 dX4_rainLine_100 o_v0 ?_
            refine r_topi (fun x33 ex33 => ?_)
            have h := h x33 ex33
            refine r_puti (pc := 103) C pfL_X4_209 dX4_rainLine_103 o_a6 ?_
            refine r_heap (fun S34 eS34 => ?_)
            have h := h S34 eS34
            have o_a1 := ob_I eS34 o_a1
            have o_a2 := ob_I eS34 o_a2
            have o_a3 := ob_I eS34 o_a3
            have o_a6 := ob_I eS34 o_a6
            have o_v0 := ob_I eS34 o_v0
            refine r_aload_n (pc := 106) C dX4_rainLine_106 1 rfl ?_
            refine r_lds (pc := 107) C 10 rfl dX4_rainLine_107 ?_
            refine r_iconst (pc := 109) C (v := (0 : Int32)) dX4_rainLine_109 (by decide) ?_
            refine r_bipush (pc := 110) C (v := (100 : Int32)) dX4_rainLine_110 (by decide) ?_
            refine r_callVi0 (pc := 112) C (rest := []) (a := v0) o_v0 [.ref (eK (xE X) 10), .int (0 : Int32), .int (100 : Int32)] yV_X4_wordAndWhole g_524 (c_X4_wordAndWhole h) dX4_rainLine_112 rfl rfl (Nat.le_of_ble_eq_true rfl) ⟨by decide, by decide⟩ ⟨by decide, by decide⟩ ⟨rfl, rfl⟩ (fun x37 S35 h g36 => ?_)
            have bx37 := h.1
            have h := h.2 g36 bx37
            have o_a1 := gr_ob g36 o_a1
            have o_a2 := gr_ob g36 o_a2
            have o_a3 := gr_ob g36 o_a3
            have o_a6 := gr_ob g36 o_a6
            have o_v0 := gr_ob g36 o_v0
            refine r_if_ne (pc := 115) C (tgt := 120) dX4_rainLine_115 (by decide) (fun c38 => ?_) (fun c38 => ?_)
            · have h := h.1 c38
              refine r_aload_n (pc := 120) C dX4_rainLine_120 0 rfl ?_
              refine r_aload_n (pc := 121) C dX4_rainLine_121 1 rfl ?_
              refine r_geti (pc := 122) C fL_X4_147 dX4_rainLine_122 o_v0 ?_
              refine r_topi (fun x39 ex39 => ?_)
              have h := h x39 ex39
              refine r_puti (pc := 125) C pfL_X4_213 dX4_rainLine_125 o_a6 ?_
              refine r_heap (fun S40 eS40 => ?_)
              have h := h S40 eS40
              have o_a1 := ob_I eS40 o_a1
              have o_a2 := ob_I eS40 o_a2
              have o_a3 := ob_I eS40 o_a3
              have o_a6 := ob_I eS40 o_a6
              have o_v0 := ob_I eS40 o_v0
              refine r_aload_n (pc := 128) C dX4_rainLine_128 1 rfl ?_
              obtain ⟨a41, ea41, h⟩ := h
              refine r_getr (pc := 129) C fL_X4_18 dX4_rainLine_129 o_v0 ea41 ?_
              refine r_dup (pc := 132) C dX4_rainLine_132 rfl ?_
              obtain ⟨o_a41, h⟩ := h
              refine r_geti (pc := 133) C fL_X4_45 dX4_rainLine_133 o_a41 ?_
              refine r_topi (fun x42 ex42 => ?_)
              have h := h x42 ex42
              refine r_iconst (pc := 136) C (v := (1 : Int32)) dX4_rainLine_136 (by decide) ?_
              refine r_iadd (pc := 137) C dX4_rainLine_137 ?_
              refine r_topi (fun x43 ex43 => ?_)
              have h := h x43 ex43
              refine r_puti (pc := 138) C pfL_X4_45 dX4_rainLine_138 o_a41 ?_
              refine r_heap (fun S44 eS44 => ?_)
              have h := h S44 eS44
              have o_a1 := ob_I eS44 o_a1
              have o_a2 := ob_I eS44 o_a2
              have o_a3 := ob_I eS44 o_a3
              have o_a41 := ob_I eS44 o_a41
              have o_a6 := ob_I eS44 o_a6
              have o_v0 := ob_I eS44 o_v0
              refine r_iconst (pc := 141) C (v := (1 : Int32)) dX4_rainLine_141 (by decide) ?_
              exact r_zret (pc := 142) C E ht dX4_rainLine_142 (by decide) (by decide) (Or.inr rfl) h
            · have h := h.2 c38
              refine r_iconst (pc := 118) C (v := (0 : Int32)) dX4_rainLine_118 (by decide) ?_
              exact r_zret (pc := 119) C E ht dX4_rainLine_119 (by decide) (by decide) (Or.inl rfl) h
          · have h := h.2 c32
            refine r_iconst (pc := 96) C (v := (0 : Int32)) dX4_rainLine_96 (by decide) ?_
            exact r_zret (pc := 97) C E ht dX4_rainLine_97 (by decide) (by decide) (Or.inl rfl) h
        · have h := h.2 c26
          refine r_iconst (pc := 76) C (v := (0 : Int32)) dX4_rainLine_76 (by decide) ?_
          exact r_zret (pc := 77) C E ht dX4_rainLine_77 (by decide) (by decide) (Or.inl rfl) h
    · have h := h.2 c16
      refine r_iconst (pc := 50) C (v := (0 : Int32)) dX4_rainLine_50 (by decide) ?_
      exact r_zret (pc := 51) C E ht dX4_rainLine_51 (by decide) (by decide) (Or.inl rfl) h
  · have h := h.2 c10
    refine r_iconst (pc := 28) C (v := (0 : Int32)) dX4_rainLine_28 (by decide) ?_
    exact r_zret (pc := 29) C E ht dX4_rainLine_29 (by decide) (by decide) (Or.inl rfl) h
def P_X4_rainLine (v0 : Nat) (Q : Int32 → HS → Prop) (S : HS) : Prop := P_X4_rainLine_0 Q v0 S
theorem c_X4_rainLine {l : Launch} {Ee : EE} {S : HS} {v0 : Nat} {Q : Int32 → HS → Prop} (h : P_X4_rainLine v0 Q S) : MI l yX4_rainLine cX4_rainLine 2 (some .boolean) rm_X4_rainLine Ee S [.ref v0] (fun r S => bl r ∧ Q r S) :=
  openI (by decide) (Nat.le_of_ble_eq_true rfl) (fun X C E ht hn hE hl => by subst hE; exact r_sub [0] rfl (T_X4_rainLine_0 C E ht hn h))
def rm_X4_roadLine : Room := { frames := 8, cells := 0, slots := 0, locals := 188 }
def P_X4_roadLine_130 (Q : Int32 → HS → Prop) (v0 : Nat) (S : HS) : Prop := ob S v0 4 ∧ (∃ a1 : Nat, fR S v0 5 = some a1 ∧ (ob S a1 8 ∧ (∀ x2 : Int32, x2 = fI S a1 3 → (∀ x3 : Int32, x3 = x2 + (1 : Int32) → (∀ S4 : HS, S4 = sI S a1 3 x3 → (Q (1 : Int32) S4))))))
set_option maxRecDepth 20000 in
set_option maxHeartbeats 4000000 in
theorem T_X4_roadLine_130 {X : CX} {Q : Int32 → HS → Prop} (C : Cx X cX4_roadLine RX4 2 rm_X4_roadLine) (E : ReI X rm_X4_roadLine (fun r S => bl r ∧ Q r S)) (ht : (xh X).sig.returnType = (some .boolean)) (hn : (xh X).name = yX4_roadLine.name) {v0 : Nat} {S : HS} (h : P_X4_roadLine_130 Q v0 S) : WS X 2 0 0 130 [(0, .ref v0)] [] S := by
  refine r_aload_n (pc := 130) C dX4_roadLine_130 0 rfl ?_
  obtain ⟨o_v0, h⟩ := h
  obtain ⟨a1, ea1, h⟩ := h
  refine r_getr (pc := 131) C fL_X4_18 dX4_roadLine_131 o_v0 ea1 ?_
  refine r_dup (pc := 134) C dX4_roadLine_134 rfl ?_
  obtain ⟨o_a1, h⟩ := h
  refine r_geti (pc := 135) C fL_X4_66 dX4_roadLine_135 o_a1 ?_
  refine r_topi (fun x2 ex2 => ?_)
  have h := h x2 ex2
  refine r_iconst (pc := 138) C (v := (1 : Int32)) dX4_roadLine_138 (by decide) ?_
  refine r_iadd (pc := 139) C dX4_roadLine_139 ?_
  refine r_topi (fun x3 ex3 => ?_)
  have h := h x3 ex3
  refine r_puti (pc := 140) C pfL_X4_66 dX4_roadLine_140 o_a1 ?_
  refine r_heap (fun S4 eS4 => ?_)
  have h := h S4 eS4
  have o_a1 := ob_I eS4 o_a1
  have o_v0 := ob_I eS4 o_v0
  refine r_iconst (pc := 143) C (v := (1 : Int32)) dX4_roadLine_143 (by decide) ?_
  exact r_zret (pc := 144) C E ht dX4_roadLine_144 (by decide) (by decide) (Or.inr rfl) h
def P_X4_roadLine_0 (Q : Int32 → HS → Prop) (v0 : Nat) (S : HS) : Prop := ob S v0 4 ∧ (∃ a1 : Nat, fR S v0 5 = some a1 ∧ (ob S a1 8 ∧ (∃ a2 : Nat, fR S a1 8 = some a2 ∧ (∃ a3 : Nat, fR S v0 5 = some a3 ∧ (ob S a3 8 ∧ (∀ x4 : Int32, x4 = fI S a3 3 → (ob S a2 18 ∧ (vp_in x4 (hN S a2) ∧ ∃ a6 : Nat, fR S a2 x4.toNatClampNeg = some a6 ∧ (P_X4_placeBut v0 (-1 : Int32) (fun x9 S7 => Gr S S7 → bl x9 → (((¬ x9 = 0) → (∀ x11 : Int32, x11 = fI S7 v0 9 → (ob S7 a6 5 ∧ (∀ S12 : HS, S12 = sI S7 a6 0 x11 → (P_X4_side v0 (fun x15 S13 => Gr S12 S13 → bl x15 → (((¬ x15 = 0) → (∀ x17 : Int32, x17 = fI S13 v0 9 → (∀ S18 : HS, S18 = sI S13 a6 2 x17 → (P_X4_whole v0 (1 : Int32) (60 : Int32) (fun x21 S19 => Gr S18 S19 → bl x21 → (((¬ x21 = 0) → (∀ x23 : Int32, x23 = fI S19 v0 9 → (∀ S24 : HS, S24 = sI S19 a6 3 x23 → (∀ x25 : Int32, x25 = fI S24 a6 0 → (P_X4_placeBut v0 x25 (fun x28 S26 => Gr S24 S26 → bl x28 → (((¬ x28 = 0) → (∀ x30 : Int32, x30 = fI S26 v0 9 → (∀ S31 : HS, S31 = sI S26 a6 1 x30 → (∀ S32 : HS, S32 = sI S31 a6 4 (0 : Int32) → (P_X4_is v0 17 (fun x35 S33 => Gr S32 S33 → bl x35 → (((x35 = 0) → (P_X4_roadLine_130 Q v0 S33)) ∧ ((¬ x35 = 0) → (∀ x37 : Int32, x37 = fI S33 a6 3 → (P_X4_wordAndWhole v0 17 (0 : Int32) x37 (fun x40 S38 => Gr S33 S38 → bl x40 → (((¬ x40 = 0) → (∀ x42 : Int32, x42 = fI S38 v0 9 → (∀ S43 : HS, S43 = sI S38 a6 4 x42 → (P_X4_roadLine_130 Q v0 S43)))) ∧ ((x40 = 0) → (Q (0 : Int32) S38)))) S33))))) S32))))) ∧ ((x28 = 0) → (Q (0 : Int32) S26)))) S24))))) ∧ ((x21 = 0) → (Q (0 : Int32) S19)))) S18)))) ∧ ((x15 = 0) → (Q (0 : Int32) S13)))) S12))))) ∧ ((x9 = 0) → (Q (0 : Int32) S7)))) S)))))))))
set_option maxRecDepth 20000 in
set_option maxHeartbeats 4000000 in
theorem T_X4_roadLine_0 {X : CX} {Q : Int32 → HS → Prop} (C : Cx X cX4_roadLine RX4 2 rm_X4_roadLine) (E : ReI X rm_X4_roadLine (fun r S => bl r ∧ Q r S)) (ht : (xh X).sig.returnType = (some .boolean)) (hn : (xh X).name = yX4_roadLine.name) {v0 : Nat} {S : HS} (h : P_X4_roadLine_0 Q v0 S) : WS X 2 0 0 0 [(0, .ref v0)] [] S := by
  refine r_aload_n (pc := 0) C dX4_roadLine_0 0 rfl ?_
  obtain ⟨o_v0, h⟩ := h
  obtain ⟨a1, ea1, h⟩ := h
  refine r_getr (pc := 1) C fL_X4_18 dX4_roadLine_1 o_v0 ea1 ?_
  obtain ⟨o_a1, h⟩ := h
  obtain ⟨a2, ea2, h⟩ := h
  refine r_getr (pc := 4) C fL_X4_221 dX4_roadLine_4 o_a1 ea2 ?_
  refine r_aload_n (pc := 7) C dX4_roadLine_7 0 rfl ?_
  obtain ⟨a3, ea3, h⟩ := h
  refine r_getr (pc := 8) C fL_X4_18 dX4_roadLine_8 o_v0 ea3 ?_
  obtain ⟨o_a3, h⟩ := h
  refine r_geti (pc := 11) C fL_X4_66 dX4_roadLine_11 o_a3 ?_
  refine r_topi (fun x4 ex4 => ?_)
  have h := h x4 ex4
  obtain ⟨o_a2, h⟩ := h
  obtain ⟨i5, a6, ea6, h⟩ := h
  refine r_aald18 (pc := 14) C dX4_roadLine_14 o_a2 i5 ea6 ?_
  refine r_astore_n (pc := 15) C dX4_roadLine_15 rfl (by decide) (lv' := [(1, .ref a6), (0, .ref v0)]) rfl ?_
  refine r_aload_n (pc := 16) C dX4_roadLine_16 1 rfl ?_
  refine r_iconst (pc := 17) C (v := (-1 : Int32)) dX4_roadLine_17 (by decide) ?_
  refine r_callVi0 (pc := 18) C (rest := []) (a := v0) o_v0 [.int (-1 : Int32)] yV_X4_placeBut g_584 (c_X4_placeBut h) dX4_roadLine_18 rfl rfl (Nat.le_of_ble_eq_true rfl) ⟨by decide, by decide⟩ ⟨by decide, by decide⟩ ⟨rfl, rfl⟩ (fun x9 S7 h g8 => ?_)
  have bx9 := h.1
  have h := h.2 g8 bx9
  have o_a1 := gr_ob g8 o_a1
  have o_a2 := gr_ob g8 o_a2
  have o_a3 := gr_ob g8 o_a3
  have o_v0 := gr_ob g8 o_v0
  refine r_if_ne (pc := 21) C (tgt := 26) dX4_roadLine_21 (by decide) (fun c10 => ?_) (fun c10 => ?_)
  · have h := h.1 c10
    refine r_aload_n (pc := 26) C dX4_roadLine_26 0 rfl ?_
    refine r_aload_n (pc := 27) C dX4_roadLine_27 1 rfl ?_
    refine r_geti (pc := 28) C fL_X4_147 dX4_roadLine_28 o_v0 ?_
    refine r_topi (fun x11 ex11 => ?_)
    have h := h x11 ex11
    obtain ⟨o_a6, h⟩ := h
    refine r_puti (pc := 31) C pfL_X4_227 dX4_roadLine_31 o_a6 ?_
    refine r_heap (fun S12 eS12 => ?_)
    have h := h S12 eS12
    have o_a1 := ob_I eS12 o_a1
    have o_a2 := ob_I eS12 o_a2
    have o_a3 := ob_I eS12 o_a3
    have o_a6 := ob_I eS12 o_a6
    have o_v0 := ob_I eS12 o_v0
    refine r_aload_n (pc := 34) C dX4_roadLine_34 1 rfl ?_
    refine r_callVi0 (pc := 35) C (rest := []) (a := v0) o_v0 [] yV_X4_side g_548 (c_X4_side h) dX4_roadLine_35 rfl rfl (Nat.le_of_ble_eq_true rfl) ⟨by decide, by decide⟩ ⟨by decide, by decide⟩ ⟨rfl, rfl⟩ (fun x15 S13 h g14 => ?_)
    have bx15 := h.1
    have h := h.2 g14 bx15
    have o_a1 := gr_ob g14 o_a1
    have o_a2 := gr_ob g14 o_a2
    have o_a3 := gr_ob g14 o_a3
    have o_a6 := gr_ob g14 o_a6
    have o_v0 := gr_ob g14 o_v0
    refine r_if_ne (pc := 38) C (tgt := 43) dX4_roadLine_38 (by decide) (fun c16 => ?_) (fun c16 => ?_)
    · have h := h.1 c16
      refine r_aload_n (pc := 43) C dX4_roadLine_43 0 rfl ?_
      refine r_aload_n (pc := 44) C dX4_roadLine_44 1 rfl ?_
      refine r_geti (pc := 45) C fL_X4_147 dX4_roadLine_45 o_v0 ?_
      refine r_topi (fun x17 ex17 => ?_)
      have h := h x17 ex17
      refine r_puti (pc := 48) C pfL_X4_232 dX4_roadLine_48 o_a6 ?_
      refine r_heap (fun S18 eS18 => ?_)
      have h := h S18 eS18
      have o_a1 := ob_I eS18 o_a1
      have o_a2 := ob_I eS18 o_a2
      have o_a3 := ob_I eS18 o_a3
      have o_a6 := ob_I eS18 o_a6
      have o_v0 := ob_I eS18 o_v0
      refine r_aload_n (pc := 51) C dX4_roadLine_51 1 rfl ?_
      refine r_iconst (pc := 52) C (v := (1 : Int32)) dX4_roadLine_52 (by decide) ?_
      refine r_bipush (pc := 53) C (v := (60 : Int32)) dX4_roadLine_53 (by decide) ?_
      refine r_callVi0 (pc := 55) C (rest := []) (a := v0) o_v0 [.int (1 : Int32), .int (60 : Int32)] yV_X4_whole g_532 (c_X4_whole h) dX4_roadLine_55 rfl rfl (Nat.le_of_ble_eq_true rfl) ⟨by decide, by decide⟩ ⟨by decide, by decide⟩ ⟨rfl, rfl⟩ (fun x21 S19 h g20 => ?_)
      have bx21 := h.1
      have h := h.2 g20 bx21
      have o_a1 := gr_ob g20 o_a1
      have o_a2 := gr_ob g20 o_a2
      have o_a3 := gr_ob g20 o_a3
      have o_a6 := gr_ob g20 o_a6
      have o_v0 := gr_ob g20 o_v0
      refine r_if_ne (pc := 58) C (tgt := 63) dX4_roadLine_58 (by decide) (fun c22 => ?_) (fun c22 => ?_)
      · have h := h.1 c22
        refine r_aload_n (pc := 63) C dX4_roadLine_63 0 rfl ?_
        refine r_aload_n (pc := 64) C dX4_roadLine_64 1 rfl ?_
        refine r_geti (pc := 65) C fL_X4_147 dX4_roadLine_65 o_v0 ?_
        refine r_topi (fun x23 ex23 => ?_)
        have h := h x23 ex23
        refine r_puti (pc := 68) C pfL_X4_234 dX4_roadLine_68 o_a6 ?_
        refine r_heap (fun S24 eS24 => ?_)
        have h := h S24 eS24
        have o_a1 := ob_I eS24 o_a1
        have o_a2 := ob_I eS24 o_a2
        have o_a3 := ob_I eS24 o_a3
        have o_a6 := ob_I eS24 o_a6
        have o_v0 := ob_I eS24 o_v0
        refine r_aload_n (pc := 71) C dX4_roadLine_71 1 rfl ?_
        refine r_aload_n (pc := 72) C dX4_roadLine_72 0 rfl ?_
        refine r_geti (pc := 73) C fL_X4_227 dX4_roadLine_73 o_a6 ?_
        refine r_topi (fun x25 ex25 => ?_)
        have h := h x25 ex25
        refine r_callVi0 (pc := 76) C (rest := []) (a := v0) o_v0 [.int x25] yV_X4_placeBut g_584 (c_X4_placeBut h) dX4_roadLine_76 rfl rfl (Nat.le_of_ble_eq_true rfl) ⟨by decide, by decide⟩ ⟨by decide, by decide⟩ ⟨rfl, rfl⟩ (fun x28 S26 h g27 => ?_)
        have bx28 := h.1
        have h := h.2 g27 bx28
        have o_a1 := gr_ob g27 o_a1
        have o_a2 := gr_ob g27 o_a2
        have o_a3 := gr_ob g27 o_a3
        have o_a6 := gr_ob g27 o_a6
        have o_v0 := gr_ob g27 o_v0
        refine r_if_ne (pc := 79) C (tgt := 84) dX4_roadLine_79 (by decide) (fun c29 => ?_) (fun c29 => ?_)
        · have h := h.1 c29
          refine r_aload_n (pc := 84) C dX4_roadLine_84 0 rfl ?_
          refine r_aload_n (pc := 85) C dX4_roadLine_85 1 rfl ?_
          refine r_geti (pc := 86) C fL_X4_147 dX4_roadLine_86 o_v0 ?_
          refine r_topi (fun x30 ex30 => ?_)
          have h := h x30 ex30
          refine r_puti (pc := 89) C pfL_X4_235 dX4_roadLine_89 o_a6 ?_
          refine r_heap (fun S31 eS31 => ?_)
          have h := h S31 eS31
          have o_a1 := ob_I eS31 o_a1
          have o_a2 := ob_I eS31 o_a2
          have o_a3 := ob_I eS31 o_a3
          have o_a6 := ob_I eS31 o_a6
          have o_v0 := ob_I eS31 o_v0
          refine r_aload_n (pc := 92) C dX4_roadLine_92 0 rfl ?_
          refine r_iconst (pc := 93) C (v := (0 : Int32)) dX4_roadLine_93 (by decide) ?_
          refine r_puti (pc := 94) C pfL_X4_238 dX4_roadLine_94 o_a6 ?_
          refine r_heap (fun S32 eS32 => ?_)
          have h := h S32 eS32
          have o_a1 := ob_I eS32 o_a1
          have o_a2 := ob_I eS32 o_a2
          have o_a3 := ob_I eS32 o_a3
          have o_a6 := ob_I eS32 o_a6
          have o_v0 := ob_I eS32 o_v0
          refine r_aload_n (pc := 97) C dX4_roadLine_97 1 rfl ?_
          refine r_lds (pc := 98) C 17 rfl dX4_roadLine_98 ?_
          refine r_callVi0 (pc := 100) C (rest := []) (a := v0) o_v0 [.ref (eK (xE X) 17)] yV_X4_is g_458 (c_X4_is h) dX4_roadLine_100 rfl rfl (Nat.le_of_ble_eq_true rfl) ⟨by decide, by decide⟩ ⟨by decide, by decide⟩ ⟨rfl, rfl⟩ (fun x35 S33 h g34 => ?_)
          have bx35 := h.1
          have h := h.2 g34 bx35
          have o_a1 := gr_ob g34 o_a1
          have o_a2 := gr_ob g34 o_a2
          have o_a3 := gr_ob g34 o_a3
          have o_a6 := gr_ob g34 o_a6
          have o_v0 := gr_ob g34 o_v0
          refine r_if_eq (pc := 103) C (tgt := 130) dX4_roadLine_103 (by decide) (fun c36 => ?_) (fun c36 => ?_)
          · have h := h.1 c36
            exact r_sub [1] rfl (T_X4_roadLine_130 C E ht hn h)
          · have h := h.2 c36
            refine r_aload_n (pc := 106) C dX4_roadLine_106 1 rfl ?_
            refine r_lds (pc := 107) C 17 rfl dX4_roadLine_107 ?_
            refine r_iconst (pc := 109) C (v := (0 : Int32)) dX4_roadLine_109 (by decide) ?_
            refine r_aload_n (pc := 110) C dX4_roadLine_110 0 rfl ?_
            refine r_geti (pc := 111) C fL_X4_234 dX4_roadLine_111 o_a6 ?_
            refine r_topi (fun x37 ex37 => ?_)
            have h := h x37 ex37
            refine r_callVi0 (pc := 114) C (rest := []) (a := v0) o_v0 [.ref (eK (xE X) 17), .int (0 : Int32), .int x37] yV_X4_wordAndWhole g_524 (c_X4_wordAndWhole h) dX4_roadLine_114 rfl rfl (Nat.le_of_ble_eq_true rfl) ⟨by decide, by decide⟩ ⟨by decide, by decide⟩ ⟨rfl, rfl⟩ (fun x40 S38 h g39 => ?_)
            have bx40 := h.1
            have h := h.2 g39 bx40
            have o_a1 := gr_ob g39 o_a1
            have o_a2 := gr_ob g39 o_a2
            have o_a3 := gr_ob g39 o_a3
            have o_a6 := gr_ob g39 o_a6
            have o_v0 := gr_ob g39 o_v0
            refine r_if_ne (pc := 117) C (tgt := 122) dX4_roadLine_117 (by decide) (fun c41 => ?_) (fun c41 => ?_)
            · have h := h.1 c41
              refine r_aload_n (pc := 122) C dX4_roadLine_122 0 rfl ?_
              refine r_aload_n (pc := 123) C dX4_roadLine_123 1 rfl ?_
              refine r_geti (pc := 124) C fL_X4_147 dX4_roadLine_124 o_v0 ?_
              refine r_topi (fun x42 ex42 => ?_)
              have h := h x42 ex42
              refine r_puti (pc := 127) C pfL_X4_238 dX4_roadLine_127 o_a6 ?_
              refine r_heap (fun S43 eS43 => ?_)
              have h := h S43 eS43
              have o_a1 := ob_I eS43 o_a1
              have o_a2 := ob_I eS43 o_a2
              have o_a3 := ob_I eS43 o_a3
              have o_a6 := ob_I eS43 o_a6
              have o_v0 := ob_I eS43 o_v0
              exact r_sub [1] rfl (T_X4_roadLine_130 C E ht hn h)
            · have h := h.2 c41
              refine r_iconst (pc := 120) C (v := (0 : Int32)) dX4_roadLine_120 (by decide) ?_
              exact r_zret (pc := 121) C E ht dX4_roadLine_121 (by decide) (by decide) (Or.inl rfl) h
        · have h := h.2 c29
          refine r_iconst (pc := 82) C (v := (0 : Int32)) dX4_roadLine_82 (by decide) ?_
          exact r_zret (pc := 83) C E ht dX4_roadLine_83 (by decide) (by decide) (Or.inl rfl) h
      · have h := h.2 c22
        refine r_iconst (pc := 61) C (v := (0 : Int32)) dX4_roadLine_61 (by decide) ?_
        exact r_zret (pc := 62) C E ht dX4_roadLine_62 (by decide) (by decide) (Or.inl rfl) h
    · have h := h.2 c16
      refine r_iconst (pc := 41) C (v := (0 : Int32)) dX4_roadLine_41 (by decide) ?_
      exact r_zret (pc := 42) C E ht dX4_roadLine_42 (by decide) (by decide) (Or.inl rfl) h
  · have h := h.2 c10
    refine r_iconst (pc := 24) C (v := (0 : Int32)) dX4_roadLine_24 (by decide) ?_
    exact r_zret (pc := 25) C E ht dX4_roadLine_25 (by decide) (by decide) (Or.inl rfl) h
def P_X4_roadLine (v0 : Nat) (Q : Int32 → HS → Prop) (S : HS) : Prop := P_X4_roadLine_0 Q v0 S
theorem c_X4_roadLine {l : Launch} {Ee : EE} {S : HS} {v0 : Nat} {Q : Int32 → HS → Prop} (h : P_X4_roadLine v0 Q S) : MI l yX4_roadLine cX4_roadLine 2 (some .boolean) rm_X4_roadLine Ee S [.ref v0] (fun r S => bl r ∧ Q r S) :=
  openI (by decide) (Nat.le_of_ble_eq_true rfl) (fun X C E ht hn hE hl => by subst hE; exact r_sub [0] rfl (T_X4_roadLine_0 C E ht hn h))
