def rm_X9_grant : Room := { frames := 0, cells := 0, slots := 0, locals := 0 }
def P_X9_grant_0 (Q : Int32 → HS → Prop) (v0 : Nat) (v1 : Int32) (S : HS) : Prop := ob S v0 9 ∧ (∀ S1 : HS, S1 = sI S v0 9 (0 : Int32) → (Q v1 S1))
set_option maxRecDepth 20000 in
set_option maxHeartbeats 4000000 in
theorem T_X9_grant_0 {X : CX} {Q : Int32 → HS → Prop} (C : Cx X cX9_grant RX9 2 rm_X9_grant) (E : ReI X rm_X9_grant Q) (ht : (xh X).sig.returnType = (some .int)) (hn : (xh X).name = yX9_grant.name) {v0 : Nat} {v1 : Int32} {S : HS} (h : P_X9_grant_0 Q v0 v1 S) : WS X 2 0 0 0 [(0, .ref v0), (1, .int v1)] [] S := by
  refine r_aload_n (pc := 0) C dX9_grant_0 0 rfl ?_
  refine r_iconst (pc := 1) C (v := (0 : Int32)) dX9_grant_1 (by decide) ?_
  obtain ⟨o_v0, h⟩ := h
  refine r_puti (pc := 2) C pfL_X9_92 dX9_grant_2 o_v0 ?_
  refine r_heap (fun S1 eS1 => ?_)
  have h := h S1 eS1
  have o_v0 := ob_I eS1 o_v0
  refine r_iload_n (pc := 5) C dX9_grant_5 1 rfl ?_
  exact r_iret (pc := 6) C E ht dX9_grant_6 (by decide) (by decide) h
def P_X9_grant (v0 : Nat) (v1 : Int32) (Q : Int32 → HS → Prop) (S : HS) : Prop := P_X9_grant_0 Q v0 v1 S
theorem c_X9_grant {l : Launch} {Ee : EE} {S : HS} {v0 : Nat} {v1 : Int32} {Q : Int32 → HS → Prop} (h : P_X9_grant v0 v1 Q S) : MI l yX9_grant cX9_grant 2 (some .int) rm_X9_grant Ee S [.ref v0, .int v1] Q :=
  openI (by decide) (Nat.le_of_ble_eq_true rfl) (fun X C E ht hn hE hl => by subst hE; exact r_sub [0, 1] rfl (T_X9_grant_0 C E ht hn h))
def rm_X9_isWay : Room := { frames := 0, cells := 0, slots := 0, locals := 0 }
def P_X9_isWay_0 (Q : Int32 → HS → Prop) (v0 : Int32) (S : HS) : Prop := ((v0 = 0) → (Q (1 : Int32) S)) ∧ ((¬ v0 = 0) → (((¬ v0 = (1 : Int32)) → (Q (0 : Int32) S)) ∧ ((v0 = (1 : Int32)) → (Q (1 : Int32) S))))
set_option maxRecDepth 20000 in
set_option maxHeartbeats 4000000 in
theorem T_X9_isWay_0 {X : CX} {Q : Int32 → HS → Prop} (C : Cx X cX9_isWay RX9 1 rm_X9_isWay) (E : ReI X rm_X9_isWay (fun r S => bl r ∧ Q r S)) (ht : (xh X).sig.returnType = (some .boolean)) (hn : (xh X).name = yX9_isWay.name) {v0 : Int32} {S : HS} (h : P_X9_isWay_0 Q v0 S) : WS X 1 0 0 0 [(0, .int v0)] [] S := by
  refine r_iload_n (pc := 0) C dX9_isWay_0 0 rfl ?_
  refine r_if_eq (pc := 1) C (tgt := 9) dX9_isWay_1 (by decide) (fun c1 => ?_) (fun c1 => ?_)
  · have h := h.1 c1
    refine r_iconst (pc := 9) C (v := (1 : Int32)) dX9_isWay_9 (by decide) ?_
    refine r_goto (pc := 10) C (tgt := 14) dX9_isWay_10 (by decide) ?_
    exact r_zret (pc := 14) C E ht dX9_isWay_14 (by decide) (by decide) (Or.inr rfl) h
  · have h := h.2 c1
    refine r_iload_n (pc := 4) C dX9_isWay_4 0 rfl ?_
    refine r_iconst (pc := 5) C (v := (1 : Int32)) dX9_isWay_5 (by decide) ?_
    refine r_icmp_ne (pc := 6) C (tgt := 13) dX9_isWay_6 (by decide) (fun c2 => ?_) (fun c2 => ?_)
    · have h := h.1 c2
      refine r_iconst (pc := 13) C (v := (0 : Int32)) dX9_isWay_13 (by decide) ?_
      exact r_zret (pc := 14) C E ht dX9_isWay_14 (by decide) (by decide) (Or.inl rfl) h
    · have h := h.2 c2
      refine r_iconst (pc := 9) C (v := (1 : Int32)) dX9_isWay_9 (by decide) ?_
      refine r_goto (pc := 10) C (tgt := 14) dX9_isWay_10 (by decide) ?_
      exact r_zret (pc := 14) C E ht dX9_isWay_14 (by decide) (by decide) (Or.inr rfl) h
def P_X9_isWay (v0 : Int32) (Q : Int32 → HS → Prop) (S : HS) : Prop := P_X9_isWay_0 Q v0 S
theorem c_X9_isWay {l : Launch} {Ee : EE} {S : HS} {v0 : Int32} {Q : Int32 → HS → Prop} (h : P_X9_isWay v0 Q S) : MI l yX9_isWay cX9_isWay 1 (some .boolean) rm_X9_isWay Ee S [.int v0] (fun r S => bl r ∧ Q r S) :=
  openI (by decide) (Nat.le_of_ble_eq_true rfl) (fun X C E ht hn hE hl => by subst hE; exact r_sub [0] rfl (T_X9_isWay_0 C E ht hn h))
def rm_X9_air : Room := { frames := 2, cells := 0, slots := 0, locals := 46 }
def P_X9_air_0 (Q : Int32 → HS → Prop) (v0 : Nat) (v1 : Int32) (v2 : Int32) (v3 : Int32) (S : HS) : Prop := ob S v0 9 ∧ (∃ a1 : Nat, fR S v0 2 = some a1 ∧ (ob S a1 8 ∧ (P_X8_hasRoad a1 v1 (fun x4 S2 => Gr S S2 → bl x4 → (((x4 = 0) → (∀ S6 : HS, S6 = sI S2 v0 9 (1 : Int32) → (Q (-100 : Int32) S6))) ∧ ((¬ x4 = 0) → (P_X9_isWay v2 (fun x9 S7 => Gr S2 S7 → bl x9 → (((x9 = 0) → (∀ S11 : HS, S11 = sI S7 v0 9 (1 : Int32) → (Q (-100 : Int32) S11))) ∧ ((¬ x9 = 0) → (∃ a12 : Nat, fR S7 v0 2 = some a12 ∧ (ob S7 a12 8 ∧ (P_X8_hasHour a12 v3 (fun x15 S13 => Gr S7 S13 → bl x15 → (((¬ x15 = 0) → (∃ a17 : Nat, fR S13 v0 2 = some a17 ∧ (ob S13 a17 8 ∧ (∃ a18 : Nat, fR S13 a17 8 = some a18 ∧ (ob S13 a18 18 ∧ (vp_in v1 (hN S13 a18) ∧ ∃ a20 : Nat, fR S13 a18 v1.toNatClampNeg = some a20 ∧ (∃ a21 : Nat, fR S13 v0 2 = some a21 ∧ (ob S13 a21 8 ∧ (∃ a22 : Nat, fR S13 a21 6 = some a22 ∧ (ob S13 a22 17 ∧ (vp_in v3 (hN S13 a22) ∧ ∃ a24 : Nat, fR S13 a22 v3.toNatClampNeg = some a24 ∧ (ob S13 a20 5 ∧ (P_X5_airAlong a20 v2 a24 (fun x27 S25 => Gr S13 S25 → (P_X9_grant v0 x27 (fun x30 S28 => Gr S25 S28 → (Q x30 S28)) S25)) S13))))))))))))) ∧ ((x15 = 0) → (∀ S31 : HS, S31 = sI S13 v0 9 (1 : Int32) → (Q (-100 : Int32) S31))))) S7)))))) S2)))) S)))
set_option maxRecDepth 20000 in
set_option maxHeartbeats 4000000 in
theorem T_X9_air_0 {X : CX} {Q : Int32 → HS → Prop} (C : Cx X cX9_air RX9 4 rm_X9_air) (E : ReI X rm_X9_air Q) (ht : (xh X).sig.returnType = (some .int)) (hn : (xh X).name = yX9_air.name) {v0 : Nat} {v1 : Int32} {v2 : Int32} {v3 : Int32} {S : HS} (h : P_X9_air_0 Q v0 v1 v2 v3 S) : WS X 4 0 0 0 [(0, .ref v0), (1, .int v1), (2, .int v2), (3, .int v3)] [] S := by
  refine r_aload_n (pc := 0) C dX9_air_0 0 rfl ?_
  obtain ⟨o_v0, h⟩ := h
  obtain ⟨a1, ea1, h⟩ := h
  refine r_getr (pc := 1) C fL_X9_16 dX9_air_1 o_v0 ea1 ?_
  refine r_iload_n (pc := 4) C dX9_air_4 1 rfl ?_
  obtain ⟨o_a1, h⟩ := h
  refine r_callVi0 (pc := 5) C (rest := []) (a := a1) o_a1 [.int v1] yV_X8_hasRoad g_668 (c_X8_hasRoad h) dX9_air_5 rfl rfl (Nat.le_of_ble_eq_true rfl) ⟨by decide, by decide⟩ ⟨by decide, by decide⟩ ⟨rfl, rfl⟩ (fun x4 S2 h g3 => ?_)
  have bx4 := h.1
  have h := h.2 g3 bx4
  have o_a1 := gr_ob g3 o_a1
  have o_v0 := gr_ob g3 o_v0
  refine r_if_eq (pc := 8) C (tgt := 29) dX9_air_8 (by decide) (fun c5 => ?_) (fun c5 => ?_)
  · have h := h.1 c5
    refine r_aload_n (pc := 29) C dX9_air_29 0 rfl ?_
    refine r_iconst (pc := 30) C (v := (1 : Int32)) dX9_air_30 (by decide) ?_
    refine r_puti (pc := 31) C pfL_X9_92 dX9_air_31 o_v0 ?_
    refine r_heap (fun S6 eS6 => ?_)
    have h := h S6 eS6
    have o_a1 := ob_I eS6 o_a1
    have o_v0 := ob_I eS6 o_v0
    refine r_bipush (pc := 34) C (v := (-100 : Int32)) dX9_air_34 (by decide) ?_
    exact r_iret (pc := 36) C E ht dX9_air_36 (by decide) (by decide) h
  · have h := h.2 c5
    refine r_iload_n (pc := 11) C dX9_air_11 2 rfl ?_
    refine r_callSi0 (pc := 12) C (rest := []) rfl [.int v2] yS_X9_isWay g_672 (c_X9_isWay h) dX9_air_12 rfl rfl (Nat.le_of_ble_eq_true rfl) ⟨by decide, by decide⟩ ⟨by decide, by decide⟩ ⟨rfl, rfl⟩ (fun x9 S7 h g8 => ?_)
    have bx9 := h.1
    have h := h.2 g8 bx9
    have o_a1 := gr_ob g8 o_a1
    have o_v0 := gr_ob g8 o_v0
    refine r_if_eq (pc := 15) C (tgt := 29) dX9_air_15 (by decide) (fun c10 => ?_) (fun c10 => ?_)
    · have h := h.1 c10
      refine r_aload_n (pc := 29) C dX9_air_29 0 rfl ?_
      refine r_iconst (pc := 30) C (v := (1 : Int32)) dX9_air_30 (by decide) ?_
      refine r_puti (pc := 31) C pfL_X9_92 dX9_air_31 o_v0 ?_
      refine r_heap (fun S11 eS11 => ?_)
      have h := h S11 eS11
      have o_a1 := ob_I eS11 o_a1
      have o_v0 := ob_I eS11 o_v0
      refine r_bipush (pc := 34) C (v := (-100 : Int32)) dX9_air_34 (by decide) ?_
      exact r_iret (pc := 36) C E ht dX9_air_36 (by decide) (by decide) h
    · have h := h.2 c10
      refine r_aload_n (pc := 18) C dX9_air_18 0 rfl ?_
      obtain ⟨a12, ea12, h⟩ := h
      refine r_getr (pc := 19) C fL_X9_16 dX9_air_19 o_v0 ea12 ?_
      refine r_iload_n (pc := 22) C dX9_air_22 3 rfl ?_
      obtain ⟨o_a12, h⟩ := h
      refine r_callVi0 (pc := 23) C (rest := []) (a := a12) o_a12 [.int v3] yV_X8_hasHour g_675 (c_X8_hasHour h) dX9_air_23 rfl rfl (Nat.le_of_ble_eq_true rfl) ⟨by decide, by decide⟩ ⟨by decide, by decide⟩ ⟨rfl, rfl⟩ (fun x15 S13 h g14 => ?_)
      have bx15 := h.1
      have h := h.2 g14 bx15
      have o_a1 := gr_ob g14 o_a1
      have o_a12 := gr_ob g14 o_a12
      have o_v0 := gr_ob g14 o_v0
      refine r_if_ne (pc := 26) C (tgt := 37) dX9_air_26 (by decide) (fun c16 => ?_) (fun c16 => ?_)
      · have h := h.1 c16
        refine r_aload_n (pc := 37) C dX9_air_37 0 rfl ?_
        refine r_aload_n (pc := 38) C dX9_air_38 0 rfl ?_
        obtain ⟨a17, ea17, h⟩ := h
        refine r_getr (pc := 39) C fL_X9_16 dX9_air_39 o_v0 ea17 ?_
        obtain ⟨o_a17, h⟩ := h
        obtain ⟨a18, ea18, h⟩ := h
        refine r_getr (pc := 42) C fL_X9_112 dX9_air_42 o_a17 ea18 ?_
        refine r_iload_n (pc := 45) C dX9_air_45 1 rfl ?_
        obtain ⟨o_a18, h⟩ := h
        obtain ⟨i19, a20, ea20, h⟩ := h
        refine r_aald18 (pc := 46) C dX9_air_46 o_a18 i19 ea20 ?_
        refine r_iload_n (pc := 47) C dX9_air_47 2 rfl ?_
        refine r_aload_n (pc := 48) C dX9_air_48 0 rfl ?_
        obtain ⟨a21, ea21, h⟩ := h
        refine r_getr (pc := 49) C fL_X9_16 dX9_air_49 o_v0 ea21 ?_
        obtain ⟨o_a21, h⟩ := h
        obtain ⟨a22, ea22, h⟩ := h
        refine r_getr (pc := 52) C fL_X9_116 dX9_air_52 o_a21 ea22 ?_
        refine r_iload_n (pc := 55) C dX9_air_55 3 rfl ?_
        obtain ⟨o_a22, h⟩ := h
        obtain ⟨i23, a24, ea24, h⟩ := h
        refine r_aald17 (pc := 56) C dX9_air_56 o_a22 i23 ea24 ?_
        obtain ⟨o_a20, h⟩ := h
        refine r_callVi0 (pc := 57) C (rest := [.ref v0]) (a := a20) o_a20 [.int v2, .ref a24] yV_X5_airAlong g_749 (c_X5_airAlong h) dX9_air_57 rfl rfl (Nat.le_of_ble_eq_true rfl) ⟨by decide, by decide⟩ ⟨by decide, by decide⟩ ⟨rfl, rfl⟩ (fun x27 S25 h g26 => ?_)
        have h := h g26
        have o_a1 := gr_ob g26 o_a1
        have o_a12 := gr_ob g26 o_a12
        have o_a17 := gr_ob g26 o_a17
        have o_a18 := gr_ob g26 o_a18
        have o_a20 := gr_ob g26 o_a20
        have o_a21 := gr_ob g26 o_a21
        have o_a22 := gr_ob g26 o_a22
        have o_v0 := gr_ob g26 o_v0
        refine r_callVi0 (pc := 60) C (rest := []) (a := v0) o_v0 [.int x27] yV_X9_grant g_637 (c_X9_grant h) dX9_air_60 rfl rfl (Nat.le_of_ble_eq_true rfl) ⟨by decide, by decide⟩ ⟨by decide, by decide⟩ ⟨rfl, rfl⟩ (fun x30 S28 h g29 => ?_)
        have h := h g29
        have o_a1 := gr_ob g29 o_a1
        have o_a12 := gr_ob g29 o_a12
        have o_a17 := gr_ob g29 o_a17
        have o_a18 := gr_ob g29 o_a18
        have o_a20 := gr_ob g29 o_a20
        have o_a21 := gr_ob g29 o_a21
        have o_a22 := gr_ob g29 o_a22
        have o_v0 := gr_ob g29 o_v0
        exact r_iret (pc := 63) C E ht dX9_air_63 (by decide) (by decide) h
      · have h := h.2 c16
        refine r_aload_n (pc := 29) C dX9_air_29 0 rfl ?_
        refine r_iconst (pc := 30) C (v := (1 : Int32)) dX9_air_30 (by decide) ?_
        refine r_puti (pc := 31) C pfL_X9_92 dX9_air_31 o_v0 ?_
        refine r_heap (fun S31 eS31 => ?_)
        have h := h S31 eS31
        have o_a1 := ob_I eS31 o_a1
        have o_a12 := ob_I eS31 o_a12
        have o_v0 := ob_I eS31 o_v0
        refine r_bipush (pc := 34) C (v := (-100 : Int32)) dX9_air_34 (by decide) ?_
        exact r_iret (pc := 36) C E ht dX9_air_36 (by decide) (by decide) h
def P_X9_air (v0 : Nat) (v1 : Int32) (v2 : Int32) (v3 : Int32) (Q : Int32 → HS → Prop) (S : HS) : Prop := P_X9_air_0 Q v0 v1 v2 v3 S
theorem c_X9_air {l : Launch} {Ee : EE} {S : HS} {v0 : Nat} {v1 : Int32} {v2 : Int32} {v3 : Int32} {Q : Int32 → HS → Prop} (h : P_X9_air v0 v1 v2 v3 Q S) : MI l yX9_air cX9_air 4 (some .int) rm_X9_air Ee S [.ref v0, .int v1, .int v2, .int v3] Q :=
  openI (by decide) (Nat.le_of_ble_eq_true rfl) (fun X C E ht hn hE hl => by subst hE; exact r_sub [0, 1, 2, 3] rfl (T_X9_air_0 C E ht hn h))
def rm_X9_refusedBy : Room := { frames := 0, cells := 0, slots := 0, locals := 0 }
def P_X9_refusedBy_0 (Q : Int32 → HS → Prop) (v0 : Nat) (v1 : Int32) (S : HS) : Prop := ob S v0 9 ∧ (∀ S1 : HS, S1 = sI S v0 9 v1 → (((v1 = 0) → (Q (0 : Int32) S1)) ∧ ((¬ v1 = 0) → (Q (1 : Int32) S1))))
set_option maxRecDepth 20000 in
set_option maxHeartbeats 4000000 in
theorem T_X9_refusedBy_0 {X : CX} {Q : Int32 → HS → Prop} (C : Cx X cX9_refusedBy RX9 2 rm_X9_refusedBy) (E : ReI X rm_X9_refusedBy (fun r S => bl r ∧ Q r S)) (ht : (xh X).sig.returnType = (some .boolean)) (hn : (xh X).name = yX9_refusedBy.name) {v0 : Nat} {v1 : Int32} {S : HS} (h : P_X9_refusedBy_0 Q v0 v1 S) : WS X 2 0 0 0 [(0, .ref v0), (1, .int v1)] [] S := by
  refine r_aload_n (pc := 0) C dX9_refusedBy_0 0 rfl ?_
  refine r_iload_n (pc := 1) C dX9_refusedBy_1 1 rfl ?_
  obtain ⟨o_v0, h⟩ := h
  refine r_puti (pc := 2) C pfL_X9_92 dX9_refusedBy_2 o_v0 ?_
  refine r_heap (fun S1 eS1 => ?_)
  have h := h S1 eS1
  have o_v0 := ob_I eS1 o_v0
  refine r_iload_n (pc := 5) C dX9_refusedBy_5 1 rfl ?_
  refine r_if_eq (pc := 6) C (tgt := 13) dX9_refusedBy_6 (by decide) (fun c2 => ?_) (fun c2 => ?_)
  · have h := h.1 c2
    refine r_iconst (pc := 13) C (v := (0 : Int32)) dX9_refusedBy_13 (by decide) ?_
    exact r_zret (pc := 14) C E ht dX9_refusedBy_14 (by decide) (by decide) (Or.inl rfl) h
  · have h := h.2 c2
    refine r_iconst (pc := 9) C (v := (1 : Int32)) dX9_refusedBy_9 (by decide) ?_
    refine r_goto (pc := 10) C (tgt := 14) dX9_refusedBy_10 (by decide) ?_
    exact r_zret (pc := 14) C E ht dX9_refusedBy_14 (by decide) (by decide) (Or.inr rfl) h
def P_X9_refusedBy (v0 : Nat) (v1 : Int32) (Q : Int32 → HS → Prop) (S : HS) : Prop := P_X9_refusedBy_0 Q v0 v1 S
theorem c_X9_refusedBy {l : Launch} {Ee : EE} {S : HS} {v0 : Nat} {v1 : Int32} {Q : Int32 → HS → Prop} (h : P_X9_refusedBy v0 v1 Q S) : MI l yX9_refusedBy cX9_refusedBy 2 (some .boolean) rm_X9_refusedBy Ee S [.ref v0, .int v1] (fun r S => bl r ∧ Q r S) :=
  openI (by decide) (Nat.le_of_ble_eq_true rfl) (fun X C E ht hn hE hl => by subst hE; exact r_sub [0, 1] rfl (T_X9_refusedBy_0 C E ht hn h))
def rm_X9_back : Room := { frames := 2, cells := 0, slots := 0, locals := 43 }
def P_X9_back_17 (Q : Int32 → HS → Prop) (s0 : Nat) (s1 : Int32) (S : HS) : Prop := ob S s0 9 ∧ (P_X9_refusedBy s0 s1 (fun x3 S1 => Gr S S1 → bl x3 → (((¬ x3 = 0) → (Q (0 : Int32) S1)) ∧ ((x3 = 0) → (Q (1 : Int32) S1)))) S)
set_option maxRecDepth 20000 in
set_option maxHeartbeats 4000000 in
theorem T_X9_back_17 {X : CX} {Q : Int32 → HS → Prop} (C : Cx X cX9_back RX9 2 rm_X9_back) (E : ReI X rm_X9_back (fun r S => bl r ∧ Q r S)) (ht : (xh X).sig.returnType = (some .boolean)) (hn : (xh X).name = yX9_back.name) {s0 : Nat} {s1 : Int32} {S : HS} (h : P_X9_back_17 Q s0 s1 S) : WS X 2 0 0 17 [] [.int s1, .ref s0] S := by
  obtain ⟨o_s0, h⟩ := h
  refine r_callVi0 (pc := 17) C (rest := []) (a := s0) o_s0 [.int s1] yV_X9_refusedBy g_683 (c_X9_refusedBy h) dX9_back_17 rfl rfl (Nat.le_of_ble_eq_true rfl) ⟨by decide, by decide⟩ ⟨by decide, by decide⟩ ⟨rfl, rfl⟩ (fun x3 S1 h g2 => ?_)
  have bx3 := h.1
  have h := h.2 g2 bx3
  have o_s0 := gr_ob g2 o_s0
  refine r_if_ne (pc := 20) C (tgt := 27) dX9_back_20 (by decide) (fun c4 => ?_) (fun c4 => ?_)
  · have h := h.1 c4
    refine r_iconst (pc := 27) C (v := (0 : Int32)) dX9_back_27 (by decide) ?_
    exact r_zret (pc := 28) C E ht dX9_back_28 (by decide) (by decide) (Or.inl rfl) h
  · have h := h.2 c4
    refine r_iconst (pc := 23) C (v := (1 : Int32)) dX9_back_23 (by decide) ?_
    refine r_goto (pc := 24) C (tgt := 28) dX9_back_24 (by decide) ?_
    exact r_zret (pc := 28) C E ht dX9_back_28 (by decide) (by decide) (Or.inr rfl) h
def P_X9_back_0 (Q : Int32 → HS → Prop) (v0 : Nat) (v1 : Int32) (S : HS) : Prop := ob S v0 9 ∧ (∃ a1 : Nat, fR S v0 6 = some a1 ∧ (ob S a1 0 ∧ (P_X0_returnTo a1 v1 (fun x4 S2 => Gr S S2 → bl x4 → (((x4 = 0) → (P_X9_back_17 Q v0 (1 : Int32) S2)) ∧ ((¬ x4 = 0) → (P_X9_back_17 Q v0 (0 : Int32) S2)))) S)))
set_option maxRecDepth 20000 in
set_option maxHeartbeats 4000000 in
theorem T_X9_back_0 {X : CX} {Q : Int32 → HS → Prop} (C : Cx X cX9_back RX9 2 rm_X9_back) (E : ReI X rm_X9_back (fun r S => bl r ∧ Q r S)) (ht : (xh X).sig.returnType = (some .boolean)) (hn : (xh X).name = yX9_back.name) {v0 : Nat} {v1 : Int32} {S : HS} (h : P_X9_back_0 Q v0 v1 S) : WS X 2 0 0 0 [(0, .ref v0), (1, .int v1)] [] S := by
  refine r_aload_n (pc := 0) C dX9_back_0 0 rfl ?_
  refine r_aload_n (pc := 1) C dX9_back_1 0 rfl ?_
  obtain ⟨o_v0, h⟩ := h
  obtain ⟨a1, ea1, h⟩ := h
  refine r_getr (pc := 2) C fL_X9_44 dX9_back_2 o_v0 ea1 ?_
  refine r_iload_n (pc := 5) C dX9_back_5 1 rfl ?_
  obtain ⟨o_a1, h⟩ := h
  refine r_callVi0 (pc := 6) C (rest := [.ref v0]) (a := a1) o_a1 [.int v1] yV_X0_returnTo g_1056 (c_X0_returnTo h) dX9_back_6 rfl rfl (Nat.le_of_ble_eq_true rfl) ⟨by decide, by decide⟩ ⟨by decide, by decide⟩ ⟨rfl, rfl⟩ (fun x4 S2 h g3 => ?_)
  have bx4 := h.1
  have h := h.2 g3 bx4
  have o_a1 := gr_ob g3 o_a1
  have o_v0 := gr_ob g3 o_v0
  refine r_if_eq (pc := 9) C (tgt := 16) dX9_back_9 (by decide) (fun c5 => ?_) (fun c5 => ?_)
  · have h := h.1 c5
    refine r_iconst (pc := 16) C (v := (1 : Int32)) dX9_back_16 (by decide) ?_
    exact r_sub [] rfl (T_X9_back_17 C E ht hn h)
  · have h := h.2 c5
    refine r_iconst (pc := 12) C (v := (0 : Int32)) dX9_back_12 (by decide) ?_
    refine r_goto (pc := 13) C (tgt := 17) dX9_back_13 (by decide) ?_
    exact r_sub [] rfl (T_X9_back_17 C E ht hn h)
def P_X9_back (v0 : Nat) (v1 : Int32) (Q : Int32 → HS → Prop) (S : HS) : Prop := P_X9_back_0 Q v0 v1 S
theorem c_X9_back {l : Launch} {Ee : EE} {S : HS} {v0 : Nat} {v1 : Int32} {Q : Int32 → HS → Prop} (h : P_X9_back v0 v1 Q S) : MI l yX9_back cX9_back 2 (some .boolean) rm_X9_back Ee S [.ref v0, .int v1] (fun r S => bl r ∧ Q r S) :=
  openI (by decide) (Nat.le_of_ble_eq_true rfl) (fun X C E ht hn hE hl => by subst hE; exact r_sub [0, 1] rfl (T_X9_back_0 C E ht hn h))
def rm_X9_tripTrouble : Room := { frames := 1, cells := 0, slots := 0, locals := 21 }
def P_X9_tripTrouble_46 (Q : Int32 → HS → Prop) (s0 : Int32) (S : HS) : Prop := ((s0 = 0) → (Q (1 : Int32) S)) ∧ ((¬ s0 = 0) → (Q (0 : Int32) S))
set_option maxRecDepth 20000 in
set_option maxHeartbeats 4000000 in
theorem T_X9_tripTrouble_46 {X : CX} {Q : Int32 → HS → Prop} (C : Cx X cX9_tripTrouble RX9 6 rm_X9_tripTrouble) (E : ReI X rm_X9_tripTrouble Q) (ht : (xh X).sig.returnType = (some .int)) (hn : (xh X).name = yX9_tripTrouble.name) {s0 : Int32} {S : HS} (h : P_X9_tripTrouble_46 Q s0 S) : WS X 6 0 0 46 [] [.int s0] S := by
  refine r_istore (pc := 46) C dX9_tripTrouble_46 (by decide) (lv' := [(5, .int s0)]) rfl ?_
  refine r_iload (pc := 48) C dX9_tripTrouble_48 0 rfl ?_
  refine r_if_eq (pc := 50) C (tgt := 57) dX9_tripTrouble_50 (by decide) (fun c1 => ?_) (fun c1 => ?_)
  · have h := h.1 c1
    refine r_iconst (pc := 57) C (v := (1 : Int32)) dX9_tripTrouble_57 (by decide) ?_
    exact r_iret (pc := 58) C E ht dX9_tripTrouble_58 (by decide) (by decide) h
  · have h := h.2 c1
    refine r_iconst (pc := 53) C (v := (0 : Int32)) dX9_tripTrouble_53 (by decide) ?_
    refine r_goto (pc := 54) C (tgt := 58) dX9_tripTrouble_54 (by decide) ?_
    exact r_iret (pc := 58) C E ht dX9_tripTrouble_58 (by decide) (by decide) h
def P_X9_tripTrouble_45 (Q : Int32 → HS → Prop)  (S : HS) : Prop := P_X9_tripTrouble_46 Q (0 : Int32) S
set_option maxRecDepth 20000 in
set_option maxHeartbeats 4000000 in
theorem T_X9_tripTrouble_45 {X : CX} {Q : Int32 → HS → Prop} (C : Cx X cX9_tripTrouble RX9 6 rm_X9_tripTrouble) (E : ReI X rm_X9_tripTrouble Q) (ht : (xh X).sig.returnType = (some .int)) (hn : (xh X).name = yX9_tripTrouble.name)  {S : HS} (h : P_X9_tripTrouble_45 Q S) : WS X 6 0 0 45 [] [] S := by
  refine r_iconst (pc := 45) C (v := (0 : Int32)) dX9_tripTrouble_45 (by decide) ?_
  exact r_sub [] rfl (T_X9_tripTrouble_46 C E ht hn h)
def P_X9_tripTrouble_0 (Q : Int32 → HS → Prop) (v0 : Nat) (v1 : Int32) (v2 : Int32) (v3 : Int32) (v4 : Int32) (S : HS) : Prop := ob S v0 9 ∧ (∃ a1 : Nat, fR S v0 2 = some a1 ∧ (ob S a1 8 ∧ (P_X8_hasWalker a1 v1 (fun x4 S2 => Gr S S2 → bl x4 → (((x4 = 0) → (P_X9_tripTrouble_45 Q S2)) ∧ ((¬ x4 = 0) → (∃ a6 : Nat, fR S2 v0 2 = some a6 ∧ (ob S2 a6 8 ∧ (P_X8_hasRoad a6 v2 (fun x9 S7 => Gr S2 S7 → bl x9 → (((x9 = 0) → (P_X9_tripTrouble_45 Q S7)) ∧ ((¬ x9 = 0) → (P_X9_isWay v3 (fun x13 S11 => Gr S7 S11 → bl x13 → (((x13 = 0) → (P_X9_tripTrouble_45 Q S11)) ∧ ((¬ x13 = 0) → (∃ a15 : Nat, fR S11 v0 2 = some a15 ∧ (ob S11 a15 8 ∧ (P_X8_hasHour a15 v4 (fun x18 S16 => Gr S11 S16 → bl x18 → (((x18 = 0) → (P_X9_tripTrouble_45 Q S16)) ∧ ((¬ x18 = 0) → (P_X9_tripTrouble_46 Q (1 : Int32) S16)))) S11)))))) S7)))) S2)))))) S)))
set_option maxRecDepth 20000 in
set_option maxHeartbeats 4000000 in
theorem T_X9_tripTrouble_0 {X : CX} {Q : Int32 → HS → Prop} (C : Cx X cX9_tripTrouble RX9 6 rm_X9_tripTrouble) (E : ReI X rm_X9_tripTrouble Q) (ht : (xh X).sig.returnType = (some .int)) (hn : (xh X).name = yX9_tripTrouble.name) {v0 : Nat} {v1 : Int32} {v2 : Int32} {v3 : Int32} {v4 : Int32} {S : HS} (h : P_X9_tripTrouble_0 Q v0 v1 v2 v3 v4 S) : WS X 6 0 0 0 [(0, .ref v0), (1, .int v1), (2, .int v2), (3, .int v3), (4, .int v4)] [] S := by
  refine r_aload_n (pc := 0) C dX9_tripTrouble_0 0 rfl ?_
  obtain ⟨o_v0, h⟩ := h
  obtain ⟨a1, ea1, h⟩ := h
  refine r_getr (pc := 1) C fL_X9_16 dX9_tripTrouble_1 o_v0 ea1 ?_
  refine r_iload_n (pc := 4) C dX9_tripTrouble_4 1 rfl ?_
  obtain ⟨o_a1, h⟩ := h
  refine r_callVi0 (pc := 5) C (rest := []) (a := a1) o_a1 [.int v1] yV_X8_hasWalker g_664 (c_X8_hasWalker h) dX9_tripTrouble_5 rfl rfl (Nat.le_of_ble_eq_true rfl) ⟨by decide, by decide⟩ ⟨by decide, by decide⟩ ⟨rfl, rfl⟩ (fun x4 S2 h g3 => ?_)
  have bx4 := h.1
  have h := h.2 g3 bx4
  have o_a1 := gr_ob g3 o_a1
  have o_v0 := gr_ob g3 o_v0
  refine r_if_eq (pc := 8) C (tgt := 45) dX9_tripTrouble_8 (by decide) (fun c5 => ?_) (fun c5 => ?_)
  · have h := h.1 c5
    exact r_sub [] rfl (T_X9_tripTrouble_45 C E ht hn h)
  · have h := h.2 c5
    refine r_aload_n (pc := 11) C dX9_tripTrouble_11 0 rfl ?_
    obtain ⟨a6, ea6, h⟩ := h
    refine r_getr (pc := 12) C fL_X9_16 dX9_tripTrouble_12 o_v0 ea6 ?_
    refine r_iload_n (pc := 15) C dX9_tripTrouble_15 2 rfl ?_
    obtain ⟨o_a6, h⟩ := h
    refine r_callVi0 (pc := 16) C (rest := []) (a := a6) o_a6 [.int v2] yV_X8_hasRoad g_668 (c_X8_hasRoad h) dX9_tripTrouble_16 rfl rfl (Nat.le_of_ble_eq_true rfl) ⟨by decide, by decide⟩ ⟨by decide, by decide⟩ ⟨rfl, rfl⟩ (fun x9 S7 h g8 => ?_)
    have bx9 := h.1
    have h := h.2 g8 bx9
    have o_a1 := gr_ob g8 o_a1
    have o_a6 := gr_ob g8 o_a6
    have o_v0 := gr_ob g8 o_v0
    refine r_if_eq (pc := 19) C (tgt := 45) dX9_tripTrouble_19 (by decide) (fun c10 => ?_) (fun c10 => ?_)
    · have h := h.1 c10
      exact r_sub [] rfl (T_X9_tripTrouble_45 C E ht hn h)
    · have h := h.2 c10
      refine r_iload_n (pc := 22) C dX9_tripTrouble_22 3 rfl ?_
      refine r_callSi0 (pc := 23) C (rest := []) rfl [.int v3] yS_X9_isWay g_672 (c_X9_isWay h) dX9_tripTrouble_23 rfl rfl (Nat.le_of_ble_eq_true rfl) ⟨by decide, by decide⟩ ⟨by decide, by decide⟩ ⟨rfl, rfl⟩ (fun x13 S11 h g12 => ?_)
      have bx13 := h.1
      have h := h.2 g12 bx13
      have o_a1 := gr_ob g12 o_a1
      have o_a6 := gr_ob g12 o_a6
      have o_v0 := gr_ob g12 o_v0
      refine r_if_eq (pc := 26) C (tgt := 45) dX9_tripTrouble_26 (by decide) (fun c14 => ?_) (fun c14 => ?_)
      · have h := h.1 c14
        exact r_sub [] rfl (T_X9_tripTrouble_45 C E ht hn h)
      · have h := h.2 c14
        refine r_aload_n (pc := 29) C dX9_tripTrouble_29 0 rfl ?_
        obtain ⟨a15, ea15, h⟩ := h
        refine r_getr (pc := 30) C fL_X9_16 dX9_tripTrouble_30 o_v0 ea15 ?_
        refine r_iload (pc := 33) C dX9_tripTrouble_33 4 rfl ?_
        obtain ⟨o_a15, h⟩ := h
        refine r_callVi0 (pc := 35) C (rest := []) (a := a15) o_a15 [.int v4] yV_X8_hasHour g_675 (c_X8_hasHour h) dX9_tripTrouble_35 rfl rfl (Nat.le_of_ble_eq_true rfl) ⟨by decide, by decide⟩ ⟨by decide, by decide⟩ ⟨rfl, rfl⟩ (fun x18 S16 h g17 => ?_)
        have bx18 := h.1
        have h := h.2 g17 bx18
        have o_a1 := gr_ob g17 o_a1
        have o_a15 := gr_ob g17 o_a15
        have o_a6 := gr_ob g17 o_a6
        have o_v0 := gr_ob g17 o_v0
        refine r_if_eq (pc := 38) C (tgt := 45) dX9_tripTrouble_38 (by decide) (fun c19 => ?_) (fun c19 => ?_)
        · have h := h.1 c19
          exact r_sub [] rfl (T_X9_tripTrouble_45 C E ht hn h)
        · have h := h.2 c19
          refine r_iconst (pc := 41) C (v := (1 : Int32)) dX9_tripTrouble_41 (by decide) ?_
          refine r_goto (pc := 42) C (tgt := 46) dX9_tripTrouble_42 (by decide) ?_
          exact r_sub [] rfl (T_X9_tripTrouble_46 C E ht hn h)
def P_X9_tripTrouble (v0 : Nat) (v1 : Int32) (v2 : Int32) (v3 : Int32) (v4 : Int32) (Q : Int32 → HS → Prop) (S : HS) : Prop := P_X9_tripTrouble_0 Q v0 v1 v2 v3 v4 S
theorem c_X9_tripTrouble {l : Launch} {Ee : EE} {S : HS} {v0 : Nat} {v1 : Int32} {v2 : Int32} {v3 : Int32} {v4 : Int32} {Q : Int32 → HS → Prop} (h : P_X9_tripTrouble v0 v1 v2 v3 v4 Q S) : MI l yX9_tripTrouble cX9_tripTrouble 6 (some .int) rm_X9_tripTrouble Ee S [.ref v0, .int v1, .int v2, .int v3, .int v4] Q :=
  openI (by decide) (Nat.le_of_ble_eq_true rfl) (fun X C E ht hn hE hl => by subst hE; exact r_sub [0, 1, 2, 3, 4] rfl (T_X9_tripTrouble_0 C E ht hn h))
def rm_X9_best : Room := { frames := 5, cells := 0, slots := 0, locals := 131 }
def P_X9_best_0 (Q : Int32 → HS → Prop) (v0 : Nat) (v1 : Int32) (v2 : Int32) (v3 : Int32) (v4 : Int32) (S : HS) : Prop := ob S v0 9 ∧ (P_X9_tripTrouble v0 v1 v2 v3 v4 (fun x3 S1 => Gr S S1 → (P_X9_refusedBy v0 x3 (fun x6 S4 => Gr S1 S4 → bl x6 → (((x6 = 0) → (∃ a8 : Nat, fR S4 v0 4 = some a8 ∧ (∃ a9 : Nat, fR S4 v0 2 = some a9 ∧ (ob S4 a9 8 ∧ (∃ a10 : Nat, fR S4 a9 9 = some a10 ∧ (ob S4 a10 19 ∧ (vp_in v1 (hN S4 a10) ∧ ∃ a12 : Nat, fR S4 a10 v1.toNatClampNeg = some a12 ∧ (∃ a13 : Nat, fR S4 v0 2 = some a13 ∧ (ob S4 a13 8 ∧ (∃ a14 : Nat, fR S4 a13 8 = some a14 ∧ (ob S4 a14 18 ∧ (vp_in v2 (hN S4 a14) ∧ ∃ a16 : Nat, fR S4 a14 v2.toNatClampNeg = some a16 ∧ (∃ a17 : Nat, fR S4 v0 2 = some a17 ∧ (ob S4 a17 8 ∧ (∃ a18 : Nat, fR S4 a17 6 = some a18 ∧ (ob S4 a18 17 ∧ (vp_in v4 (hN S4 a18) ∧ ∃ a20 : Nat, fR S4 a18 v4.toNatClampNeg = some a20 ∧ (ob S4 a8 1 ∧ (P_X1_bestSpeed a8 a12 a16 v3 a20 (fun x23 S21 => Gr S4 S21 → (Q x23 S21)) S4))))))))))))))))))) ∧ ((¬ x6 = 0) → (Q (-1 : Int32) S4)))) S1)) S)
set_option maxRecDepth 20000 in
set_option maxHeartbeats 4000000 in
theorem T_X9_best_0 {X : CX} {Q : Int32 → HS → Prop} (C : Cx X cX9_best RX9 5 rm_X9_best) (E : ReI X rm_X9_best Q) (ht : (xh X).sig.returnType = (some .int)) (hn : (xh X).name = yX9_best.name) {v0 : Nat} {v1 : Int32} {v2 : Int32} {v3 : Int32} {v4 : Int32} {S : HS} (h : P_X9_best_0 Q v0 v1 v2 v3 v4 S) : WS X 5 0 0 0 [(0, .ref v0), (1, .int v1), (2, .int v2), (3, .int v3), (4, .int v4)] [] S := by
  refine r_aload_n (pc := 0) C dX9_best_0 0 rfl ?_
  refine r_aload_n (pc := 1) C dX9_best_1 0 rfl ?_
  refine r_iload_n (pc := 2) C dX9_best_2 1 rfl ?_
  refine r_iload_n (pc := 3) C dX9_best_3 2 rfl ?_
  refine r_iload_n (pc := 4) C dX9_best_4 3 rfl ?_
  refine r_iload (pc := 5) C dX9_best_5 4 rfl ?_
  obtain ⟨o_v0, h⟩ := h
  refine r_callVi0 (pc := 7) C (rest := [.ref v0]) (a := v0) o_v0 [.int v1, .int v2, .int v3, .int v4] yV_X9_tripTrouble g_660 (c_X9_tripTrouble h) dX9_best_7 rfl rfl (Nat.le_of_ble_eq_true rfl) ⟨by decide, by decide⟩ ⟨by decide, by decide⟩ ⟨rfl, rfl⟩ (fun x3 S1 h g2 => ?_)
  have h := h g2
  have o_v0 := gr_ob g2 o_v0
  refine r_callVi0 (pc := 10) C (rest := []) (a := v0) o_v0 [.int x3] yV_X9_refusedBy g_683 (c_X9_refusedBy h) dX9_best_10 rfl rfl (Nat.le_of_ble_eq_true rfl) ⟨by decide, by decide⟩ ⟨by decide, by decide⟩ ⟨rfl, rfl⟩ (fun x6 S4 h g5 => ?_)
  have bx6 := h.1
  have h := h.2 g5 bx6
  have o_v0 := gr_ob g5 o_v0
  refine r_if_eq (pc := 13) C (tgt := 18) dX9_best_13 (by decide) (fun c7 => ?_) (fun c7 => ?_)
  · have h := h.1 c7
    refine r_aload_n (pc := 18) C dX9_best_18 0 rfl ?_
    obtain ⟨a8, ea8, h⟩ := h
    refine r_getr (pc := 19) C fL_X9_30 dX9_best_19 o_v0 ea8 ?_
    refine r_aload_n (pc := 22) C dX9_best_22 0 rfl ?_
    obtain ⟨a9, ea9, h⟩ := h
    refine r_getr (pc := 23) C fL_X9_16 dX9_best_23 o_v0 ea9 ?_
    obtain ⟨o_a9, h⟩ := h
    obtain ⟨a10, ea10, h⟩ := h
    refine r_getr (pc := 26) C fL_X9_108 dX9_best_26 o_a9 ea10 ?_
    refine r_iload_n (pc := 29) C dX9_best_29 1 rfl ?_
    obtain ⟨o_a10, h⟩ := h
    obtain ⟨i11, a12, ea12, h⟩ := h
    refine r_aald19 (pc := 30) C dX9_best_30 o_a10 i11 ea12 ?_
    refine r_aload_n (pc := 31) C dX9_best_31 0 rfl ?_
    obtain ⟨a13, ea13, h⟩ := h
    refine r_getr (pc := 32) C fL_X9_16 dX9_best_32 o_v0 ea13 ?_
    obtain ⟨o_a13, h⟩ := h
    obtain ⟨a14, ea14, h⟩ := h
    refine r_getr (pc := 35) C fL_X9_112 dX9_best_35 o_a13 ea14 ?_
    refine r_iload_n (pc := 38) C dX9_best_38 2 rfl ?_
    obtain ⟨o_a14, h⟩ := h
    obtain ⟨i15, a16, ea16, h⟩ := h
    refine r_aald18 (pc := 39) C dX9_best_39 o_a14 i15 ea16 ?_
    refine r_iload_n (pc := 40) C dX9_best_40 3 rfl ?_
    refine r_aload_n (pc := 41) C dX9_best_41 0 rfl ?_
    obtain ⟨a17, ea17, h⟩ := h
    refine r_getr (pc := 42) C fL_X9_16 dX9_best_42 o_v0 ea17 ?_
    obtain ⟨o_a17, h⟩ := h
    obtain ⟨a18, ea18, h⟩ := h
    refine r_getr (pc := 45) C fL_X9_116 dX9_best_45 o_a17 ea18 ?_
    refine r_iload (pc := 48) C dX9_best_48 4 rfl ?_
    obtain ⟨o_a18, h⟩ := h
    obtain ⟨i19, a20, ea20, h⟩ := h
    refine r_aald17 (pc := 50) C dX9_best_50 o_a18 i19 ea20 ?_
    obtain ⟨o_a8, h⟩ := h
    refine r_callVi0 (pc := 51) C (rest := []) (a := a8) o_a8 [.ref a12, .ref a16, .int v3, .ref a20] yV_X1_bestSpeed g_760 (c_X1_bestSpeed h) dX9_best_51 rfl rfl (Nat.le_of_ble_eq_true rfl) ⟨by decide, by decide⟩ ⟨by decide, by decide⟩ ⟨rfl, rfl⟩ (fun x23 S21 h g22 => ?_)
    have h := h g22
    have o_a10 := gr_ob g22 o_a10
    have o_a13 := gr_ob g22 o_a13
    have o_a14 := gr_ob g22 o_a14
    have o_a17 := gr_ob g22 o_a17
    have o_a18 := gr_ob g22 o_a18
    have o_a8 := gr_ob g22 o_a8
    have o_a9 := gr_ob g22 o_a9
    have o_v0 := gr_ob g22 o_v0
    exact r_iret (pc := 54) C E ht dX9_best_54 (by decide) (by decide) h
  · have h := h.2 c7
    refine r_iconst (pc := 16) C (v := (-1 : Int32)) dX9_best_16 (by decide) ?_
    exact r_iret (pc := 17) C E ht dX9_best_17 (by decide) (by decide) h
def P_X9_best (v0 : Nat) (v1 : Int32) (v2 : Int32) (v3 : Int32) (v4 : Int32) (Q : Int32 → HS → Prop) (S : HS) : Prop := P_X9_best_0 Q v0 v1 v2 v3 v4 S
theorem c_X9_best {l : Launch} {Ee : EE} {S : HS} {v0 : Nat} {v1 : Int32} {v2 : Int32} {v3 : Int32} {v4 : Int32} {Q : Int32 → HS → Prop} (h : P_X9_best v0 v1 v2 v3 v4 Q S) : MI l yX9_best cX9_best 5 (some .int) rm_X9_best Ee S [.ref v0, .int v1, .int v2, .int v3, .int v4] Q :=
  openI (by decide) (Nat.le_of_ble_eq_true rfl) (fun X C E ht hn hE hl => by subst hE; exact r_sub [0, 1, 2, 3, 4] rfl (T_X9_best_0 C E ht hn h))
def rm_X9_coatParts : Room := { frames := 0, cells := 0, slots := 0, locals := 0 }
def P_X9_coatParts_0 (Q : Int64 → HS → Prop) (v0 : Nat) (S : HS) : Prop := ob S v0 6 ∧ (∀ x1 : Int32, x1 = fI S v0 0 → (((¬ x1 = (2 : Int32)) → (Q (0 : Int64) S)) ∧ ((x1 = (2 : Int32)) → (∀ x3 : Int32, x3 = fI S v0 1 → (Q (x3.toInt64 * (2520 : Int64)) S)))))
set_option maxRecDepth 20000 in
set_option maxHeartbeats 4000000 in
theorem T_X9_coatParts_0 {X : CX} {Q : Int64 → HS → Prop} (C : Cx X cX9_coatParts RX9 1 rm_X9_coatParts) (E : ReJ X rm_X9_coatParts Q) (ht : (xh X).sig.returnType = (some .long)) (hn : (xh X).name = yX9_coatParts.name) {v0 : Nat} {S : HS} (h : P_X9_coatParts_0 Q v0 S) : WS X 1 0 0 0 [(0, .ref v0)] [] S := by
  refine r_aload_n (pc := 0) C dX9_coatParts_0 0 rfl ?_
  obtain ⟨o_v0, h⟩ := h
  refine r_geti (pc := 1) C fL_X9_167 dX9_coatParts_1 o_v0 ?_
  refine r_topi (fun x1 ex1 => ?_)
  have h := h x1 ex1
  refine r_iconst (pc := 4) C (v := (2 : Int32)) dX9_coatParts_4 (by decide) ?_
  refine r_icmp_ne (pc := 5) C (tgt := 20) dX9_coatParts_5 (by decide) (fun c2 => ?_) (fun c2 => ?_)
  · have h := h.1 c2
    refine r_lconst (pc := 20) C (v := (0 : Int64)) dX9_coatParts_20 (by decide) ?_
    exact r_lret (pc := 21) C E ht dX9_coatParts_21 (by decide) (by decide) h
  · have h := h.2 c2
    refine r_aload_n (pc := 8) C dX9_coatParts_8 0 rfl ?_
    refine r_geti (pc := 9) C fL_X9_341 dX9_coatParts_9 o_v0 ?_
    refine r_topi (fun x3 ex3 => ?_)
    have h := h x3 ex3
    refine r_i2l (pc := 12) C dX9_coatParts_12 ?_
    refine r_ldc2 (pc := 13) C (v := (2520 : Int64)) dX9_coatParts_13 g_721 ?_
    refine r_lmul (pc := 16) C dX9_coatParts_16 ?_
    refine r_goto (pc := 17) C (tgt := 21) dX9_coatParts_17 (by decide) ?_
    exact r_lret (pc := 21) C E ht dX9_coatParts_21 (by decide) (by decide) h
def P_X9_coatParts (v0 : Nat) (Q : Int64 → HS → Prop) (S : HS) : Prop := P_X9_coatParts_0 Q v0 S
theorem c_X9_coatParts {l : Launch} {Ee : EE} {S : HS} {v0 : Nat} {Q : Int64 → HS → Prop} (h : P_X9_coatParts v0 Q S) : MJ l yX9_coatParts cX9_coatParts 1 (some .long) rm_X9_coatParts Ee S [.ref v0] Q :=
  openJ (by decide) (Nat.le_of_ble_eq_true rfl) (fun X C E ht hn hE hl => by subst hE; exact r_sub [0] rfl (T_X9_coatParts_0 C E ht hn h))
def rm_X9_commonDivisor : Room := { frames := 0, cells := 0, slots := 0, locals := 0 }
def B_X9_commonDivisor_9 (Q : Int64 → HS → Prop) (X9 : Int64 → Int64 → Int32 → HS → Prop) (v4 : Int64) (v6 : Int64) (v8 : Int32) (S : HS) : Prop := (((200 : Int32) ≤ v8) → (Q v4 S)) ∧ ((¬ (200 : Int32) ≤ v8) → ((((lg_cmp v6 (0 : Int64)) = 0) → (Q v4 S)) ∧ ((¬ (lg_cmp v6 (0 : Int64)) = 0) → (¬ v6 = 0 ∧ ∀ x4 : Int64, x4 = v4 - v4 / v6 * v6 → (∀ x5 : Int32, x5 = v8 + (1 : Int32) → (X9 v6 x4 x5 S))))))
def P_X9_commonDivisor_9 (Q : Int64 → HS → Prop) (v4 : Int64) (v6 : Int64) (v8 : Int32) (S : HS) : Prop := ∀ X9 : Int64 → Int64 → Int32 → HS → Prop, (∀ (v4 : Int64) (v6 : Int64) (v8 : Int32) (S : HS), B_X9_commonDivisor_9 Q X9 v4 v6 v8 S → X9 v4 v6 v8 S) → X9 v4 v6 v8 S
set_option maxRecDepth 20000 in
set_option maxHeartbeats 4000000 in
theorem TB_X9_commonDivisor_9 {X : CX} {Q : Int64 → HS → Prop} (C : Cx X cX9_commonDivisor RX9 11 rm_X9_commonDivisor) (E : ReJ X rm_X9_commonDivisor Q) (ht : (xh X).sig.returnType = (some .long)) (hn : (xh X).name = yX9_commonDivisor.name) {X9 : Int64 → Int64 → Int32 → HS → Prop} (hX9 : ∀ (v4 : Int64) (v6 : Int64) (v8 : Int32) (S : HS), X9 v4 v6 v8 S → WS X 11 0 0 9 [(4, .long v4), (6, .long v6), (8, .int v8)] [] S) {v4 : Int64} {v6 : Int64} {v8 : Int32} {S : HS} (h : B_X9_commonDivisor_9 Q X9 v4 v6 v8 S) : WS X 11 0 0 9 [(4, .long v4), (6, .long v6), (8, .int v8)] [] S := by
  refine r_iload (pc := 9) C dX9_commonDivisor_9 2 rfl ?_
  refine r_sipush (pc := 11) C (v := (200 : Int32)) dX9_commonDivisor_11 (by decide) ?_
  refine r_icmp_ge (pc := 14) C (tgt := 45) dX9_commonDivisor_14 (by decide) (fun c1 => ?_) (fun c1 => ?_)
  · have h := h.1 c1
    refine r_lload (pc := 45) C dX9_commonDivisor_45 0 rfl ?_
    exact r_lret (pc := 47) C E ht dX9_commonDivisor_47 (by decide) (by decide) h
  · have h := h.2 c1
    refine r_lload (pc := 17) C dX9_commonDivisor_17 1 rfl ?_
    refine r_lconst (pc := 19) C (v := (0 : Int64)) dX9_commonDivisor_19 (by decide) ?_
    refine r_lcmp (pc := 20) C dX9_commonDivisor_20 ?_
    refine r_if_eq (pc := 21) C (tgt := 45) dX9_commonDivisor_21 (by decide) (fun c2 => ?_) (fun c2 => ?_)
    · have h := h.1 c2
      refine r_lload (pc := 45) C dX9_commonDivisor_45 0 rfl ?_
      exact r_lret (pc := 47) C E ht dX9_commonDivisor_47 (by decide) (by decide) h
    · have h := h.2 c2
      refine r_lload (pc := 24) C dX9_commonDivisor_24 0 rfl ?_
      refine r_lload (pc := 26) C dX9_commonDivisor_26 1 rfl ?_
      obtain ⟨q3, h⟩ := h
      refine r_lrem (pc := 28) C dX9_commonDivisor_28 q3 ?_
      refine r_topl (fun x4 ex4 => ?_)
      have h := h x4 ex4
      refine r_lstore (pc := 29) C dX9_commonDivisor_29 (by decide) (lv' := [(9, .long x4), (4, .long v4), (6, .long v6), (8, .int v8)]) rfl ?_
      refine r_lload (pc := 31) C dX9_commonDivisor_31 2 rfl ?_
      refine r_lstore (pc := 33) C dX9_commonDivisor_33 (by decide) (lv' := [(4, .long v6), (9, .long x4), (6, .long v6), (8, .int v8)]) rfl ?_
      refine r_lload (pc := 35) C dX9_commonDivisor_35 1 rfl ?_
      refine r_lstore (pc := 37) C dX9_commonDivisor_37 (by decide) (lv' := [(6, .long x4), (4, .long v6), (9, .long x4), (8, .int v8)]) rfl ?_
      obtain ⟨x5, ex5⟩ : ∃ z : Int32, z = v8 + (1 : Int32) := ⟨_, rfl⟩
      have h := h x5 ex5
      refine r_iinc (pc := 39) C (v := x5) (lv' := [(8, .int x5), (6, .long x4), (4, .long v6), (9, .long x4)]) dX9_commonDivisor_39 3 rfl ex5.symm (by decide) rfl ?_
      refine r_goto (pc := 42) C (tgt := 9) dX9_commonDivisor_42 (by decide) ?_
      exact r_sub [2, 1, 0] rfl (hX9 v6 x4 x5 S h)
theorem T_X9_commonDivisor_9 {X : CX} {Q : Int64 → HS → Prop} (C : Cx X cX9_commonDivisor RX9 11 rm_X9_commonDivisor) (E : ReJ X rm_X9_commonDivisor Q) (ht : (xh X).sig.returnType = (some .long)) (hn : (xh X).name = yX9_commonDivisor.name) {v4 : Int64} {v6 : Int64} {v8 : Int32} {S : HS} (h : P_X9_commonDivisor_9 Q v4 v6 v8 S) : WS X 11 0 0 9 [(4, .long v4), (6, .long v6), (8, .int v8)] [] S :=
  h (fun v4 v6 v8 S => WS X 11 0 0 9 [(4, .long v4), (6, .long v6), (8, .int v8)] [] S) (fun v4 v6 v8 S hh => TB_X9_commonDivisor_9 C E ht hn (fun v4 v6 v8 S z => z) hh)
def P_X9_commonDivisor_0 (Q : Int64 → HS → Prop) (v0 : Int64) (v2 : Int64) (S : HS) : Prop := P_X9_commonDivisor_9 Q v0 v2 (0 : Int32) S
set_option maxRecDepth 20000 in
set_option maxHeartbeats 4000000 in
theorem T_X9_commonDivisor_0 {X : CX} {Q : Int64 → HS → Prop} (C : Cx X cX9_commonDivisor RX9 11 rm_X9_commonDivisor) (E : ReJ X rm_X9_commonDivisor Q) (ht : (xh X).sig.returnType = (some .long)) (hn : (xh X).name = yX9_commonDivisor.name) {v0 : Int64} {v2 : Int64} {S : HS} (h : P_X9_commonDivisor_0 Q v0 v2 S) : WS X 11 0 0 0 [(0, .long v0), (2, .long v2)] [] S := by
  refine r_lload_n (pc := 0) C dX9_commonDivisor_0 0 rfl ?_
  refine r_lstore (pc := 1) C dX9_commonDivisor_1 (by decide) (lv' := [(4, .long v0), (0, .long v0), (2, .long v2)]) rfl ?_
  refine r_lload_n (pc := 3) C dX9_commonDivisor_3 2 rfl ?_
  refine r_lstore (pc := 4) C dX9_commonDivisor_4 (by decide) (lv' := [(6, .long v2), (4, .long v0), (0, .long v0), (2, .long v2)]) rfl ?_
  refine r_iconst (pc := 6) C (v := (0 : Int32)) dX9_commonDivisor_6 (by decide) ?_
  refine r_istore (pc := 7) C dX9_commonDivisor_7 (by decide) (lv' := [(8, .int (0 : Int32)), (6, .long v2), (4, .long v0), (0, .long v0), (2, .long v2)]) rfl ?_
  exact r_sub [2, 1, 0] rfl (T_X9_commonDivisor_9 C E ht hn h)
def P_X9_commonDivisor (v0 : Int64) (v2 : Int64) (Q : Int64 → HS → Prop) (S : HS) : Prop := P_X9_commonDivisor_0 Q v0 v2 S
theorem c_X9_commonDivisor {l : Launch} {Ee : EE} {S : HS} {v0 : Int64} {v2 : Int64} {Q : Int64 → HS → Prop} (h : P_X9_commonDivisor v0 v2 Q S) : MJ l yX9_commonDivisor cX9_commonDivisor 11 (some .long) rm_X9_commonDivisor Ee S [.long v0, .long v2] Q :=
  openJ (by decide) (Nat.le_of_ble_eq_true rfl) (fun X C E ht hn hE hl => by subst hE; exact r_sub [0, 1] rfl (T_X9_commonDivisor_0 C E ht hn h))
def rm_X9_refuse : Room := { frames := 0, cells := 0, slots := 0, locals := 0 }
def P_X9_refuse_0 (Q : Int32 → HS → Prop) (v0 : Nat) (v1 : Int32) (S : HS) : Prop := ob S v0 9 ∧ (∀ S1 : HS, S1 = sI S v0 9 v1 → (Q (-1 : Int32) S1))
set_option maxRecDepth 20000 in
set_option maxHeartbeats 4000000 in
theorem T_X9_refuse_0 {X : CX} {Q : Int32 → HS → Prop} (C : Cx X cX9_refuse RX9 2 rm_X9_refuse) (E : ReI X rm_X9_refuse Q) (ht : (xh X).sig.returnType = (some .int)) (hn : (xh X).name = yX9_refuse.name) {v0 : Nat} {v1 : Int32} {S : HS} (h : P_X9_refuse_0 Q v0 v1 S) : WS X 2 0 0 0 [(0, .ref v0), (1, .int v1)] [] S := by
  refine r_aload_n (pc := 0) C dX9_refuse_0 0 rfl ?_
  refine r_iload_n (pc := 1) C dX9_refuse_1 1 rfl ?_
  obtain ⟨o_v0, h⟩ := h
  refine r_puti (pc := 2) C pfL_X9_92 dX9_refuse_2 o_v0 ?_
  refine r_heap (fun S1 eS1 => ?_)
  have h := h S1 eS1
  have o_v0 := ob_I eS1 o_v0
  refine r_iconst (pc := 5) C (v := (-1 : Int32)) dX9_refuse_5 (by decide) ?_
  exact r_iret (pc := 6) C E ht dX9_refuse_6 (by decide) (by decide) h
def P_X9_refuse (v0 : Nat) (v1 : Int32) (Q : Int32 → HS → Prop) (S : HS) : Prop := P_X9_refuse_0 Q v0 v1 S
theorem c_X9_refuse {l : Launch} {Ee : EE} {S : HS} {v0 : Nat} {v1 : Int32} {Q : Int32 → HS → Prop} (h : P_X9_refuse v0 v1 Q S) : MI l yX9_refuse cX9_refuse 2 (some .int) rm_X9_refuse Ee S [.ref v0, .int v1] Q :=
  openI (by decide) (Nat.le_of_ble_eq_true rfl) (fun X C E ht hn hE hl => by subst hE; exact r_sub [0, 1] rfl (T_X9_refuse_0 C E ht hn h))
def rm_X9_day : Room := { frames := 2, cells := 0, slots := 0, locals := 44 }
def P_X9_day_22 (Q : Int32 → HS → Prop) (v0 : Nat) (S : HS) : Prop := ob S v0 9 ∧ (P_X9_refuse v0 (1 : Int32) (fun x3 S1 => Gr S S1 → (Q x3 S1)) S)
set_option maxRecDepth 20000 in
set_option maxHeartbeats 4000000 in
theorem T_X9_day_22 {X : CX} {Q : Int32 → HS → Prop} (C : Cx X cX9_day RX9 5 rm_X9_day) (E : ReI X rm_X9_day Q) (ht : (xh X).sig.returnType = (some .int)) (hn : (xh X).name = yX9_day.name) {v0 : Nat} {S : HS} (h : P_X9_day_22 Q v0 S) : WS X 5 0 0 22 [(0, .ref v0)] [] S := by
  refine r_aload_n (pc := 22) C dX9_day_22 0 rfl ?_
  refine r_iconst (pc := 23) C (v := (1 : Int32)) dX9_day_23 (by decide) ?_
  obtain ⟨o_v0, h⟩ := h
  refine r_callVi0 (pc := 24) C (rest := []) (a := v0) o_v0 [.int (1 : Int32)] yV_X9_refuse g_430 (c_X9_refuse h) dX9_day_24 rfl rfl (Nat.le_of_ble_eq_true rfl) ⟨by decide, by decide⟩ ⟨by decide, by decide⟩ ⟨rfl, rfl⟩ (fun x3 S1 h g2 => ?_)
  have h := h g2
  have o_v0 := gr_ob g2 o_v0
  exact r_iret (pc := 27) C E ht dX9_day_27 (by decide) (by decide) h
def P_X9_day_52 (Q : Int32 → HS → Prop) (v0 : Nat) (S : HS) : Prop := ob S v0 9 ∧ (P_X9_refuse v0 (2 : Int32) (fun x3 S1 => Gr S S1 → (Q x3 S1)) S)
set_option maxRecDepth 20000 in
set_option maxHeartbeats 4000000 in
theorem T_X9_day_52 {X : CX} {Q : Int32 → HS → Prop} (C : Cx X cX9_day RX9 5 rm_X9_day) (E : ReI X rm_X9_day Q) (ht : (xh X).sig.returnType = (some .int)) (hn : (xh X).name = yX9_day.name) {v0 : Nat} {S : HS} (h : P_X9_day_52 Q v0 S) : WS X 5 0 0 52 [(0, .ref v0)] [] S := by
  refine r_aload_n (pc := 52) C dX9_day_52 0 rfl ?_
  refine r_iconst (pc := 53) C (v := (2 : Int32)) dX9_day_53 (by decide) ?_
  obtain ⟨o_v0, h⟩ := h
  refine r_callVi0 (pc := 54) C (rest := []) (a := v0) o_v0 [.int (2 : Int32)] yV_X9_refuse g_430 (c_X9_refuse h) dX9_day_54 rfl rfl (Nat.le_of_ble_eq_true rfl) ⟨by decide, by decide⟩ ⟨by decide, by decide⟩ ⟨rfl, rfl⟩ (fun x3 S1 h g2 => ?_)
  have h := h g2
  have o_v0 := gr_ob g2 o_v0
  exact r_iret (pc := 57) C E ht dX9_day_57 (by decide) (by decide) h
def P_X9_day_0 (Q : Int32 → HS → Prop) (v0 : Nat) (v1 : Int32) (v2 : Int32) (v3 : Int32) (v4 : Int32) (S : HS) : Prop := ob S v0 9 ∧ (∃ a1 : Nat, fR S v0 2 = some a1 ∧ (ob S a1 8 ∧ (P_X8_hasWalker a1 v1 (fun x4 S2 => Gr S S2 → bl x4 → (((x4 = 0) → (P_X9_day_22 Q v0 S2)) ∧ ((¬ x4 = 0) → (∃ a6 : Nat, fR S2 v0 2 = some a6 ∧ (ob S2 a6 8 ∧ (P_X8_hasPlace a6 v2 (fun x9 S7 => Gr S2 S7 → bl x9 → (((¬ x9 = 0) → (((v3 < 0) → (P_X9_day_52 Q v0 S7)) ∧ ((¬ v3 < 0) → ((((400 : Int32) < v3) → (P_X9_day_52 Q v0 S7)) ∧ ((¬ (400 : Int32) < v3) → (((v4 < 0) → (P_X9_day_52 Q v0 S7)) ∧ ((¬ v4 < 0) → (((v4 < (65537 : Int32)) → (∃ a15 : Nat, fR S7 v0 6 = some a15 ∧ (ob S7 a15 0 ∧ (P_X0_begin a15 v1 v2 v3 (fun S16 => Gr S7 S16 → (∃ a19 : Nat, fR S16 v0 6 = some a19 ∧ (∃ a20 : Nat, fR S16 v0 2 = some a20 ∧ (ob S16 a19 0 ∧ (P_X0_draw a19 a20 v4 (fun S21 => Gr S16 S21 → (∃ a24 : Nat, fR S21 v0 6 = some a24 ∧ (ob S21 a24 0 ∧ (∀ x25 : Int32, x25 = fI S21 a24 1 → (P_X9_grant v0 x25 (fun x28 S26 => Gr S21 S26 → (Q x28 S26)) S21))))) S16))))) S7)))) ∧ ((¬ v4 < (65537 : Int32)) → (P_X9_day_52 Q v0 S7)))))))))) ∧ ((x9 = 0) → (P_X9_day_22 Q v0 S7)))) S2)))))) S)))
set_option maxRecDepth 20000 in
set_option maxHeartbeats 4000000 in
theorem T_X9_day_0 {X : CX} {Q : Int32 → HS → Prop} (C : Cx X cX9_day RX9 5 rm_X9_day) (E : ReI X rm_X9_day Q) (ht : (xh X).sig.returnType = (some .int)) (hn : (xh X).name = yX9_day.name) {v0 : Nat} {v1 : Int32} {v2 : Int32} {v3 : Int32} {v4 : Int32} {S : HS} (h : P_X9_day_0 Q v0 v1 v2 v3 v4 S) : WS X 5 0 0 0 [(0, .ref v0), (1, .int v1), (2, .int v2), (3, .int v3), (4, .int v4)] [] S := by
  refine r_aload_n (pc := 0) C dX9_day_0 0 rfl ?_
  obtain ⟨o_v0, h⟩ := h
  obtain ⟨a1, ea1, h⟩ := h
  refine r_getr (pc := 1) C fL_X9_16 dX9_day_1 o_v0 ea1 ?_
  refine r_iload_n (pc := 4) C dX9_day_4 1 rfl ?_
  obtain ⟨o_a1, h⟩ := h
  refine r_callVi0 (pc := 5) C (rest := []) (a := a1) o_a1 [.int v1] yV_X8_hasWalker g_664 (c_X8_hasWalker h) dX9_day_5 rfl rfl (Nat.le_of_ble_eq_true rfl) ⟨by decide, by decide⟩ ⟨by decide, by decide⟩ ⟨rfl, rfl⟩ (fun x4 S2 h g3 => ?_)
  have bx4 := h.1
  have h := h.2 g3 bx4
  have o_a1 := gr_ob g3 o_a1
  have o_v0 := gr_ob g3 o_v0
  refine r_if_eq (pc := 8) C (tgt := 22) dX9_day_8 (by decide) (fun c5 => ?_) (fun c5 => ?_)
  · have h := h.1 c5
    exact r_sub [0] rfl (T_X9_day_22 C E ht hn h)
  · have h := h.2 c5
    refine r_aload_n (pc := 11) C dX9_day_11 0 rfl ?_
    obtain ⟨a6, ea6, h⟩ := h
    refine r_getr (pc := 12) C fL_X9_16 dX9_day_12 o_v0 ea6 ?_
    refine r_iload_n (pc := 15) C dX9_day_15 2 rfl ?_
    obtain ⟨o_a6, h⟩ := h
    refine r_callVi0 (pc := 16) C (rest := []) (a := a6) o_a6 [.int v2] yV_X8_hasPlace g_825 (c_X8_hasPlace h) dX9_day_16 rfl rfl (Nat.le_of_ble_eq_true rfl) ⟨by decide, by decide⟩ ⟨by decide, by decide⟩ ⟨rfl, rfl⟩ (fun x9 S7 h g8 => ?_)
    have bx9 := h.1
    have h := h.2 g8 bx9
    have o_a1 := gr_ob g8 o_a1
    have o_a6 := gr_ob g8 o_a6
    have o_v0 := gr_ob g8 o_v0
    refine r_if_ne (pc := 19) C (tgt := 28) dX9_day_19 (by decide) (fun c10 => ?_) (fun c10 => ?_)
    · have h := h.1 c10
      refine r_iload_n (pc := 28) C dX9_day_28 3 rfl ?_
      refine r_if_lt (pc := 29) C (tgt := 52) dX9_day_29 (by decide) (fun c11 => ?_) (fun c11 => ?_)
      · have h := h.1 c11
        exact r_sub [0] rfl (T_X9_day_52 C E ht hn h)
      · have h := h.2 c11
        refine r_iload_n (pc := 32) C dX9_day_32 3 rfl ?_
        refine r_sipush (pc := 33) C (v := (400 : Int32)) dX9_day_33 (by decide) ?_
        refine r_icmp_gt (pc := 36) C (tgt := 52) dX9_day_36 (by decide) (fun c12 => ?_) (fun c12 => ?_)
        · have h := h.1 c12
          exact r_sub [0] rfl (T_X9_day_52 C E ht hn h)
        · have h := h.2 c12
          refine r_iload (pc := 39) C dX9_day_39 4 rfl ?_
          refine r_if_lt (pc := 41) C (tgt := 52) dX9_day_41 (by decide) (fun c13 => ?_) (fun c13 => ?_)
          · have h := h.1 c13
            exact r_sub [0] rfl (T_X9_day_52 C E ht hn h)
          · have h := h.2 c13
            refine r_iload (pc := 44) C dX9_day_44 4 rfl ?_
            refine r_ldcw (pc := 46) C (v := (65537 : Int32)) dX9_day_46 g_966 ?_
            refine r_icmp_lt (pc := 49) C (tgt := 58) dX9_day_49 (by decide) (fun c14 => ?_) (fun c14 => ?_)
            · have h := h.1 c14
              refine r_aload_n (pc := 58) C dX9_day_58 0 rfl ?_
              obtain ⟨a15, ea15, h⟩ := h
              refine r_getr (pc := 59) C fL_X9_44 dX9_day_59 o_v0 ea15 ?_
              refine r_iload_n (pc := 62) C dX9_day_62 1 rfl ?_
              refine r_iload_n (pc := 63) C dX9_day_63 2 rfl ?_
              refine r_iload_n (pc := 64) C dX9_day_64 3 rfl ?_
              obtain ⟨o_a15, h⟩ := h
              refine r_callVv0 (pc := 65) C (rest := []) (a := a15) o_a15 [.int v1, .int v2, .int v3] yV_X0_begin g_967 (c_X0_begin h) dX9_day_65 rfl rfl (Nat.le_of_ble_eq_true rfl) ⟨by decide, by decide⟩ ⟨by decide, by decide⟩ ⟨rfl, rfl⟩ (fun S16 h g17 => ?_)
              have h := h g17
              have o_a1 := gr_ob g17 o_a1
              have o_a15 := gr_ob g17 o_a15
              have o_a6 := gr_ob g17 o_a6
              have o_v0 := gr_ob g17 o_v0
              refine r_aload_n (pc := 68) C dX9_day_68 0 rfl ?_
              obtain ⟨a19, ea19, h⟩ := h
              refine r_getr (pc := 69) C fL_X9_44 dX9_day_69 o_v0 ea19 ?_
              refine r_aload_n (pc := 72) C dX9_day_72 0 rfl ?_
              obtain ⟨a20, ea20, h⟩ := h
              refine r_getr (pc := 73) C fL_X9_16 dX9_day_73 o_v0 ea20 ?_
              refine r_iload (pc := 76) C dX9_day_76 4 rfl ?_
              obtain ⟨o_a19, h⟩ := h
              refine r_callVv0 (pc := 78) C (rest := []) (a := a19) o_a19 [.ref a20, .int v4] yV_X0_draw g_972 (c_X0_draw h) dX9_day_78 rfl rfl (Nat.le_of_ble_eq_true rfl) ⟨by decide, by decide⟩ ⟨by decide, by decide⟩ ⟨rfl, rfl⟩ (fun S21 h g22 => ?_)
              have h := h g22
              have o_a1 := gr_ob g22 o_a1
              have o_a15 := gr_ob g22 o_a15
              have o_a19 := gr_ob g22 o_a19
              have o_a6 := gr_ob g22 o_a6
              have o_v0 := gr_ob g22 o_v0
              refine r_aload_n (pc := 81) C dX9_day_81 0 rfl ?_
              refine r_aload_n (pc := 82) C dX9_day_82 0 rfl ?_
              obtain ⟨a24, ea24, h⟩ := h
              refine r_getr (pc := 83) C fL_X9_44 dX9_day_83 o_v0 ea24 ?_
              obtain ⟨o_a24, h⟩ := h
              refine r_geti (pc := 86) C fL_X9_276 dX9_day_86 o_a24 ?_
              refine r_topi (fun x25 ex25 => ?_)
              have h := h x25 ex25
              refine r_callVi0 (pc := 89) C (rest := []) (a := v0) o_v0 [.int x25] yV_X9_grant g_637 (c_X9_grant h) dX9_day_89 rfl rfl (Nat.le_of_ble_eq_true rfl) ⟨by decide, by decide⟩ ⟨by decide, by decide⟩ ⟨rfl, rfl⟩ (fun x28 S26 h g27 => ?_)
              have h := h g27
              have o_a1 := gr_ob g27 o_a1
              have o_a15 := gr_ob g27 o_a15
              have o_a19 := gr_ob g27 o_a19
              have o_a24 := gr_ob g27 o_a24
              have o_a6 := gr_ob g27 o_a6
              have o_v0 := gr_ob g27 o_v0
              exact r_iret (pc := 92) C E ht dX9_day_92 (by decide) (by decide) h
            · have h := h.2 c14
              exact r_sub [0] rfl (T_X9_day_52 C E ht hn h)
    · have h := h.2 c10
      exact r_sub [0] rfl (T_X9_day_22 C E ht hn h)
def P_X9_day (v0 : Nat) (v1 : Int32) (v2 : Int32) (v3 : Int32) (v4 : Int32) (Q : Int32 → HS → Prop) (S : HS) : Prop := P_X9_day_0 Q v0 v1 v2 v3 v4 S
theorem c_X9_day {l : Launch} {Ee : EE} {S : HS} {v0 : Nat} {v1 : Int32} {v2 : Int32} {v3 : Int32} {v4 : Int32} {Q : Int32 → HS → Prop} (h : P_X9_day v0 v1 v2 v3 v4 Q S) : MI l yX9_day cX9_day 5 (some .int) rm_X9_day Ee S [.ref v0, .int v1, .int v2, .int v3, .int v4] Q :=
  openI (by decide) (Nat.le_of_ble_eq_true rfl) (fun X C E ht hn hE hl => by subst hE; exact r_sub [0, 1, 2, 3, 4] rfl (T_X9_day_0 C E ht hn h))
def rm_X9_driest : Room := { frames := 6, cells := 0, slots := 0, locals := 155 }
def P_X9_driest_29 (Q : Int32 → HS → Prop) (v0 : Nat) (S : HS) : Prop := ob S v0 9 ∧ (P_X9_refuse v0 (1 : Int32) (fun x3 S1 => Gr S S1 → (Q x3 S1)) S)
set_option maxRecDepth 20000 in
set_option maxHeartbeats 4000000 in
theorem T_X9_driest_29 {X : CX} {Q : Int32 → HS → Prop} (C : Cx X cX9_driest RX9 11 rm_X9_driest) (E : ReI X rm_X9_driest Q) (ht : (xh X).sig.returnType = (some .int)) (hn : (xh X).name = yX9_driest.name) {v0 : Nat} {S : HS} (h : P_X9_driest_29 Q v0 S) : WS X 11 0 0 29 [(0, .ref v0)] [] S := by
  refine r_aload_n (pc := 29) C dX9_driest_29 0 rfl ?_
  refine r_iconst (pc := 30) C (v := (1 : Int32)) dX9_driest_30 (by decide) ?_
  obtain ⟨o_v0, h⟩ := h
  refine r_callVi0 (pc := 31) C (rest := []) (a := v0) o_v0 [.int (1 : Int32)] yV_X9_refuse g_430 (c_X9_refuse h) dX9_driest_31 rfl rfl (Nat.le_of_ble_eq_true rfl) ⟨by decide, by decide⟩ ⟨by decide, by decide⟩ ⟨rfl, rfl⟩ (fun x3 S1 h g2 => ?_)
  have h := h g2
  have o_v0 := gr_ob g2 o_v0
  exact r_iret (pc := 34) C E ht dX9_driest_34 (by decide) (by decide) h
def P_X9_driest_140 (Q : Int32 → HS → Prop) (X63 : Nat → Int32 → Int32 → Int32 → Int32 → Int64 → Int32 → HS → Prop) (v0 : Nat) (v1 : Int32) (v2 : Int32) (v3 : Int32) (v4 : Int32) (v5 : Int64) (v7 : Int32) (S : HS) : Prop := ∀ x1 : Int32, x1 = v7 + (1 : Int32) → (X63 v0 v1 v2 v3 v4 v5 x1 S)
set_option maxRecDepth 20000 in
set_option maxHeartbeats 4000000 in
theorem T_X9_driest_140 {X : CX} {Q : Int32 → HS → Prop} (C : Cx X cX9_driest RX9 11 rm_X9_driest) (E : ReI X rm_X9_driest Q) (ht : (xh X).sig.returnType = (some .int)) (hn : (xh X).name = yX9_driest.name) {X63 : Nat → Int32 → Int32 → Int32 → Int32 → Int64 → Int32 → HS → Prop} (hX63 : ∀ (v0 : Nat) (v1 : Int32) (v2 : Int32) (v3 : Int32) (v4 : Int32) (v5 : Int64) (v7 : Int32) (S : HS), X63 v0 v1 v2 v3 v4 v5 v7 S → WS X 11 0 0 63 [(0, .ref v0), (1, .int v1), (2, .int v2), (3, .int v3), (4, .int v4), (5, .long v5), (7, .int v7)] [] S) {v0 : Nat} {v1 : Int32} {v2 : Int32} {v3 : Int32} {v4 : Int32} {v5 : Int64} {v7 : Int32} {S : HS} (h : P_X9_driest_140 Q X63 v0 v1 v2 v3 v4 v5 v7 S) : WS X 11 0 0 140 [(0, .ref v0), (1, .int v1), (2, .int v2), (3, .int v3), (4, .int v4), (5, .long v5), (7, .int v7)] [] S := by
  obtain ⟨x1, ex1⟩ : ∃ z : Int32, z = v7 + (1 : Int32) := ⟨_, rfl⟩
  have h := h x1 ex1
  refine r_iinc (pc := 140) C (v := x1) (lv' := [(7, .int x1), (0, .ref v0), (1, .int v1), (2, .int v2), (3, .int v3), (4, .int v4), (5, .long v5)]) dX9_driest_140 6 rfl ex1.symm (by decide) rfl ?_
  refine r_goto (pc := 143) C (tgt := 63) dX9_driest_143 (by decide) ?_
  exact r_sub [1, 2, 3, 4, 5, 6, 0] rfl (hX63 v0 v1 v2 v3 v4 v5 x1 S h)
def B_X9_driest_63 (Q : Int32 → HS → Prop) (X63 : Nat → Int32 → Int32 → Int32 → Int32 → Int64 → Int32 → HS → Prop) (v0 : Nat) (v1 : Int32) (v2 : Int32) (v3 : Int32) (v4 : Int32) (v5 : Int64) (v7 : Int32) (S : HS) : Prop := ob S v0 9 ∧ (∃ a1 : Nat, fR S v0 2 = some a1 ∧ (ob S a1 8 ∧ (∀ x2 : Int32, x2 = fI S a1 1 → (((x2 ≤ v7) → (P_X9_grant v0 v4 (fun x6 S4 => Gr S S4 → (Q x6 S4)) S)) ∧ ((¬ x2 ≤ v7) → (∃ a7 : Nat, fR S v0 2 = some a7 ∧ (ob S a7 8 ∧ (∃ a8 : Nat, fR S a7 6 = some a8 ∧ (ob S a8 17 ∧ (vp_in v7 (hN S a8) ∧ ∃ a10 : Nat, fR S a8 v7.toNatClampNeg = some a10 ∧ (∃ a11 : Nat, fR S v0 4 = some a11 ∧ (∃ a12 : Nat, fR S v0 2 = some a12 ∧ (ob S a12 8 ∧ (∃ a13 : Nat, fR S a12 9 = some a13 ∧ (ob S a13 19 ∧ (vp_in v1 (hN S a13) ∧ ∃ a15 : Nat, fR S a13 v1.toNatClampNeg = some a15 ∧ (∃ a16 : Nat, fR S v0 2 = some a16 ∧ (ob S a16 8 ∧ (∃ a17 : Nat, fR S a16 8 = some a17 ∧ (ob S a17 18 ∧ (vp_in v2 (hN S a17) ∧ ∃ a19 : Nat, fR S a17 v2.toNatClampNeg = some a19 ∧ (ob S a11 1 ∧ (P_X1_leastWet a11 a15 a19 v3 a10 (fun x22 S20 => Gr S S20 → (ob S20 a10 3 ∧ (∀ x23 : Int32, x23 = fI S20 a10 4 → (∀ x24 : Int64, x24 = x22 * x23.toInt64 → (((0 ≤ (lg_cmp x24 v5)) → (P_X9_driest_140 Q X63 v0 v1 v2 v3 v4 v5 v7 S20)) ∧ ((¬ 0 ≤ (lg_cmp x24 v5)) → (P_X9_driest_140 Q X63 v0 v1 v2 v3 v7 x24 v7 S20))))))) S)))))))))))))))))))))))
def P_X9_driest_63 (Q : Int32 → HS → Prop) (v0 : Nat) (v1 : Int32) (v2 : Int32) (v3 : Int32) (v4 : Int32) (v5 : Int64) (v7 : Int32) (S : HS) : Prop := ∀ X63 : Nat → Int32 → Int32 → Int32 → Int32 → Int64 → Int32 → HS → Prop, (∀ (v0 : Nat) (v1 : Int32) (v2 : Int32) (v3 : Int32) (v4 : Int32) (v5 : Int64) (v7 : Int32) (S : HS), B_X9_driest_63 Q X63 v0 v1 v2 v3 v4 v5 v7 S → X63 v0 v1 v2 v3 v4 v5 v7 S) → X63 v0 v1 v2 v3 v4 v5 v7 S
set_option maxRecDepth 20000 in
set_option maxHeartbeats 4000000 in
theorem TB_X9_driest_63 {X : CX} {Q : Int32 → HS → Prop} (C : Cx X cX9_driest RX9 11 rm_X9_driest) (E : ReI X rm_X9_driest Q) (ht : (xh X).sig.returnType = (some .int)) (hn : (xh X).name = yX9_driest.name) {X63 : Nat → Int32 → Int32 → Int32 → Int32 → Int64 → Int32 → HS → Prop} (hX63 : ∀ (v0 : Nat) (v1 : Int32) (v2 : Int32) (v3 : Int32) (v4 : Int32) (v5 : Int64) (v7 : Int32) (S : HS), X63 v0 v1 v2 v3 v4 v5 v7 S → WS X 11 0 0 63 [(0, .ref v0), (1, .int v1), (2, .int v2), (3, .int v3), (4, .int v4), (5, .long v5), (7, .int v7)] [] S) {v0 : Nat} {v1 : Int32} {v2 : Int32} {v3 : Int32} {v4 : Int32} {v5 : Int64} {v7 : Int32} {S : HS} (h : B_X9_driest_63 Q X63 v0 v1 v2 v3 v4 v5 v7 S) : WS X 11 0 0 63 [(0, .ref v0), (1, .int v1), (2, .int v2), (3, .int v3), (4, .int v4), (5, .long v5), (7, .int v7)] [] S := by
  refine r_iload (pc := 63) C dX9_driest_63 6 rfl ?_
  refine r_aload_n (pc := 65) C dX9_driest_65 0 rfl ?_
  obtain ⟨o_v0, h⟩ := h
  obtain ⟨a1, ea1, h⟩ := h
  refine r_getr (pc := 66) C fL_X9_16 dX9_driest_66 o_v0 ea1 ?_
  obtain ⟨o_a1, h⟩ := h
  refine r_geti (pc := 69) C fL_X9_196 dX9_driest_69 o_a1 ?_
  refine r_topi (fun x2 ex2 => ?_)
  have h := h x2 ex2
  refine r_icmp_ge (pc := 72) C (tgt := 146) dX9_driest_72 (by decide) (fun c3 => ?_) (fun c3 => ?_)
  · have h := h.1 c3
    refine r_aload_n (pc := 146) C dX9_driest_146 0 rfl ?_
    refine r_iload (pc := 147) C dX9_driest_147 4 rfl ?_
    refine r_callVi0 (pc := 149) C (rest := []) (a := v0) o_v0 [.int v4] yV_X9_grant g_637 (c_X9_grant h) dX9_driest_149 rfl rfl (Nat.le_of_ble_eq_true rfl) ⟨by decide, by decide⟩ ⟨by decide, by decide⟩ ⟨rfl, rfl⟩ (fun x6 S4 h g5 => ?_)
    have h := h g5
    have o_a1 := gr_ob g5 o_a1
    have o_v0 := gr_ob g5 o_v0
    exact r_iret (pc := 152) C E ht dX9_driest_152 (by decide) (by decide) h
  · have h := h.2 c3
    refine r_aload_n (pc := 75) C dX9_driest_75 0 rfl ?_
    obtain ⟨a7, ea7, h⟩ := h
    refine r_getr (pc := 76) C fL_X9_16 dX9_driest_76 o_v0 ea7 ?_
    obtain ⟨o_a7, h⟩ := h
    obtain ⟨a8, ea8, h⟩ := h
    refine r_getr (pc := 79) C fL_X9_116 dX9_driest_79 o_a7 ea8 ?_
    refine r_iload (pc := 82) C dX9_driest_82 6 rfl ?_
    obtain ⟨o_a8, h⟩ := h
    obtain ⟨i9, a10, ea10, h⟩ := h
    refine r_aald17 (pc := 84) C dX9_driest_84 o_a8 i9 ea10 ?_
    refine r_astore (pc := 85) C dX9_driest_85 (by decide) (lv' := [(8, .ref a10), (0, .ref v0), (1, .int v1), (2, .int v2), (3, .int v3), (4, .int v4), (5, .long v5), (7, .int v7)]) rfl ?_
    refine r_aload_n (pc := 87) C dX9_driest_87 1 rfl ?_
    obtain ⟨a11, ea11, h⟩ := h
    refine r_getr (pc := 88) C fL_X9_30 dX9_driest_88 o_v0 ea11 ?_
    refine r_aload_n (pc := 91) C dX9_driest_91 1 rfl ?_
    obtain ⟨a12, ea12, h⟩ := h
    refine r_getr (pc := 92) C fL_X9_16 dX9_driest_92 o_v0 ea12 ?_
    obtain ⟨o_a12, h⟩ := h
    obtain ⟨a13, ea13, h⟩ := h
    refine r_getr (pc := 95) C fL_X9_108 dX9_driest_95 o_a12 ea13 ?_
    refine r_iload_n (pc := 98) C dX9_driest_98 2 rfl ?_
    obtain ⟨o_a13, h⟩ := h
    obtain ⟨i14, a15, ea15, h⟩ := h
    refine r_aald19 (pc := 99) C dX9_driest_99 o_a13 i14 ea15 ?_
    refine r_aload_n (pc := 100) C dX9_driest_100 1 rfl ?_
    obtain ⟨a16, ea16, h⟩ := h
    refine r_getr (pc := 101) C fL_X9_16 dX9_driest_101 o_v0 ea16 ?_
    obtain ⟨o_a16, h⟩ := h
    obtain ⟨a17, ea17, h⟩ := h
    refine r_getr (pc := 104) C fL_X9_112 dX9_driest_104 o_a16 ea17 ?_
    refine r_iload_n (pc := 107) C dX9_driest_107 3 rfl ?_
    obtain ⟨o_a17, h⟩ := h
    obtain ⟨i18, a19, ea19, h⟩ := h
    refine r_aald18 (pc := 108) C dX9_driest_108 o_a17 i18 ea19 ?_
    refine r_iload_n (pc := 109) C dX9_driest_109 4 rfl ?_
    refine r_aload (pc := 110) C dX9_driest_110 0 rfl ?_
    obtain ⟨o_a11, h⟩ := h
    refine r_callVl0 (pc := 112) C (rest := []) (a := a11) o_a11 [.ref a15, .ref a19, .int v3, .ref a10] yV_X1_leastWet g_770 (c_X1_leastWet h) dX9_driest_112 rfl rfl (Nat.le_of_ble_eq_true rfl) ⟨by decide, by decide⟩ ⟨by decide, by decide⟩ ⟨rfl, rfl⟩ (fun x22 S20 h g21 => ?_)
    have h := h g21
    have o_a1 := gr_ob g21 o_a1
    have o_a11 := gr_ob g21 o_a11
    have o_a12 := gr_ob g21 o_a12
    have o_a13 := gr_ob g21 o_a13
    have o_a16 := gr_ob g21 o_a16
    have o_a17 := gr_ob g21 o_a17
    have o_a7 := gr_ob g21 o_a7
    have o_a8 := gr_ob g21 o_a8
    have o_v0 := gr_ob g21 o_v0
    refine r_aload (pc := 115) C dX9_driest_115 0 rfl ?_
    obtain ⟨o_a10, h⟩ := h
    refine r_geti (pc := 117) C fL_X9_134 dX9_driest_117 o_a10 ?_
    refine r_topi (fun x23 ex23 => ?_)
    have h := h x23 ex23
    refine r_i2l (pc := 120) C dX9_driest_120 ?_
    refine r_lmul (pc := 121) C dX9_driest_121 ?_
    refine r_topl (fun x24 ex24 => ?_)
    have h := h x24 ex24
    refine r_lstore (pc := 122) C dX9_driest_122 (by decide) (lv' := [(9, .long x24), (8, .ref a10), (0, .ref v0), (1, .int v1), (2, .int v2), (3, .int v3), (4, .int v4), (5, .long v5), (7, .int v7)]) rfl ?_
    refine r_lload (pc := 124) C dX9_driest_124 0 rfl ?_
    refine r_lload (pc := 126) C dX9_driest_126 7 rfl ?_
    refine r_lcmp (pc := 128) C dX9_driest_128 ?_
    refine r_if_ge (pc := 129) C (tgt := 140) dX9_driest_129 (by decide) (fun c25 => ?_) (fun c25 => ?_)
    · have h := h.1 c25
      exact r_sub [2, 3, 4, 5, 6, 7, 8] rfl (T_X9_driest_140 C E ht hn hX63 h)
    · have h := h.2 c25
      refine r_lload (pc := 132) C dX9_driest_132 0 rfl ?_
      refine r_lstore (pc := 134) C dX9_driest_134 (by decide) (lv' := [(5, .long x24), (9, .long x24), (8, .ref a10), (0, .ref v0), (1, .int v1), (2, .int v2), (3, .int v3), (4, .int v4), (7, .int v7)]) rfl ?_
      refine r_iload (pc := 136) C dX9_driest_136 8 rfl ?_
      refine r_istore (pc := 138) C dX9_driest_138 (by decide) (lv' := [(4, .int v7), (5, .long x24), (9, .long x24), (8, .ref a10), (0, .ref v0), (1, .int v1), (2, .int v2), (3, .int v3), (7, .int v7)]) rfl ?_
      exact r_sub [4, 5, 6, 7, 0, 1, 8] rfl (T_X9_driest_140 C E ht hn hX63 h)
theorem T_X9_driest_63 {X : CX} {Q : Int32 → HS → Prop} (C : Cx X cX9_driest RX9 11 rm_X9_driest) (E : ReI X rm_X9_driest Q) (ht : (xh X).sig.returnType = (some .int)) (hn : (xh X).name = yX9_driest.name) {v0 : Nat} {v1 : Int32} {v2 : Int32} {v3 : Int32} {v4 : Int32} {v5 : Int64} {v7 : Int32} {S : HS} (h : P_X9_driest_63 Q v0 v1 v2 v3 v4 v5 v7 S) : WS X 11 0 0 63 [(0, .ref v0), (1, .int v1), (2, .int v2), (3, .int v3), (4, .int v4), (5, .long v5), (7, .int v7)] [] S :=
  h (fun v0 v1 v2 v3 v4 v5 v7 S => WS X 11 0 0 63 [(0, .ref v0), (1, .int v1), (2, .int v2), (3, .int v3), (4, .int v4), (5, .long v5), (7, .int v7)] [] S) (fun v0 v1 v2 v3 v4 v5 v7 S hh => TB_X9_driest_63 C E ht hn (fun v0 v1 v2 v3 v4 v5 v7 S z => z) hh)
def P_X9_driest_0 (Q : Int32 → HS → Prop) (v0 : Nat) (v1 : Int32) (v2 : Int32) (v3 : Int32) (S : HS) : Prop := ob S v0 9 ∧ (∃ a1 : Nat, fR S v0 2 = some a1 ∧ (ob S a1 8 ∧ (P_X8_hasWalker a1 v1 (fun x4 S2 => Gr S S2 → bl x4 → (((x4 = 0) → (P_X9_driest_29 Q v0 S2)) ∧ ((¬ x4 = 0) → (∃ a6 : Nat, fR S2 v0 2 = some a6 ∧ (ob S2 a6 8 ∧ (P_X8_hasRoad a6 v2 (fun x9 S7 => Gr S2 S7 → bl x9 → (((x9 = 0) → (P_X9_driest_29 Q v0 S7)) ∧ ((¬ x9 = 0) → (P_X9_isWay v3 (fun x13 S11 => Gr S7 S11 → bl x13 → (((¬ x13 = 0) → (∃ a15 : Nat, fR S11 v0 2 = some a15 ∧ (ob S11 a15 8 ∧ (∀ x16 : Int32, x16 = fI S11 a15 1 → (((¬ x16 = 0) → (P_X9_driest_63 Q v0 v1 v2 v3 (0 : Int32) (4611686018427387904 : Int64) (0 : Int32) S11)) ∧ ((x16 = 0) → (P_X9_refuse v0 (6 : Int32) (fun x20 S18 => Gr S11 S18 → (Q x20 S18)) S11))))))) ∧ ((x13 = 0) → (P_X9_driest_29 Q v0 S11)))) S7)))) S2)))))) S)))
set_option maxRecDepth 20000 in
set_option maxHeartbeats 4000000 in
theorem T_X9_driest_0 {X : CX} {Q : Int32 → HS → Prop} (C : Cx X cX9_driest RX9 11 rm_X9_driest) (E : ReI X rm_X9_driest Q) (ht : (xh X).sig.returnType = (some .int)) (hn : (xh X).name = yX9_driest.name) {v0 : Nat} {v1 : Int32} {v2 : Int32} {v3 : Int32} {S : HS} (h : P_X9_driest_0 Q v0 v1 v2 v3 S) : WS X 11 0 0 0 [(0, .ref v0), (1, .int v1), (2, .int v2), (3, .int v3)] [] S := by
  refine r_aload_n (pc := 0) C dX9_driest_0 0 rfl ?_
  obtain ⟨o_v0, h⟩ := h
  obtain ⟨a1, ea1, h⟩ := h
  refine r_getr (pc := 1) C fL_X9_16 dX9_driest_1 o_v0 ea1 ?_
  refine r_iload_n (pc := 4) C dX9_driest_4 1 rfl ?_
  obtain ⟨o_a1, h⟩ := h
  refine r_callVi0 (pc := 5) C (rest := []) (a := a1) o_a1 [.int v1] yV_X8_hasWalker g_664 (c_X8_hasWalker h) dX9_driest_5 rfl rfl (Nat.le_of_ble_eq_true rfl) ⟨by decide, by decide⟩ ⟨by decide, by decide⟩ ⟨rfl, rfl⟩ (fun x4 S2 h g3 => ?_)
  have bx4 := h.1
  have h := h.2 g3 bx4
  have o_a1 := gr_ob g3 o_a1
  have o_v0 := gr_ob g3 o_v0
  refine r_if_eq (pc := 8) C (tgt := 29) dX9_driest_8 (by decide) (fun c5 => ?_) (fun c5 => ?_)
  · have h := h.1 c5
    exact r_sub [0] rfl (T_X9_driest_29 C E ht hn h)
  · have h := h.2 c5
    refine r_aload_n (pc := 11) C dX9_driest_11 0 rfl ?_
    obtain ⟨a6, ea6, h⟩ := h
    refine r_getr (pc := 12) C fL_X9_16 dX9_driest_12 o_v0 ea6 ?_
    refine r_iload_n (pc := 15) C dX9_driest_15 2 rfl ?_
    obtain ⟨o_a6, h⟩ := h
    refine r_callVi0 (pc := 16) C (rest := []) (a := a6) o_a6 [.int v2] yV_X8_hasRoad g_668 (c_X8_hasRoad h) dX9_driest_16 rfl rfl (Nat.le_of_ble_eq_true rfl) ⟨by decide, by decide⟩ ⟨by decide, by decide⟩ ⟨rfl, rfl⟩ (fun x9 S7 h g8 => ?_)
    have bx9 := h.1
    have h := h.2 g8 bx9
    have o_a1 := gr_ob g8 o_a1
    have o_a6 := gr_ob g8 o_a6
    have o_v0 := gr_ob g8 o_v0
    refine r_if_eq (pc := 19) C (tgt := 29) dX9_driest_19 (by decide) (fun c10 => ?_) (fun c10 => ?_)
    · have h := h.1 c10
      exact r_sub [0] rfl (T_X9_driest_29 C E ht hn h)
    · have h := h.2 c10
      refine r_iload_n (pc := 22) C dX9_driest_22 3 rfl ?_
      refine r_callSi0 (pc := 23) C (rest := []) rfl [.int v3] yS_X9_isWay g_672 (c_X9_isWay h) dX9_driest_23 rfl rfl (Nat.le_of_ble_eq_true rfl) ⟨by decide, by decide⟩ ⟨by decide, by decide⟩ ⟨rfl, rfl⟩ (fun x13 S11 h g12 => ?_)
      have bx13 := h.1
      have h := h.2 g12 bx13
      have o_a1 := gr_ob g12 o_a1
      have o_a6 := gr_ob g12 o_a6
      have o_v0 := gr_ob g12 o_v0
      refine r_if_ne (pc := 26) C (tgt := 35) dX9_driest_26 (by decide) (fun c14 => ?_) (fun c14 => ?_)
      · have h := h.1 c14
        refine r_aload_n (pc := 35) C dX9_driest_35 0 rfl ?_
        obtain ⟨a15, ea15, h⟩ := h
        refine r_getr (pc := 36) C fL_X9_16 dX9_driest_36 o_v0 ea15 ?_
        obtain ⟨o_a15, h⟩ := h
        refine r_geti (pc := 39) C fL_X9_196 dX9_driest_39 o_a15 ?_
        refine r_topi (fun x16 ex16 => ?_)
        have h := h x16 ex16
        refine r_if_ne (pc := 42) C (tgt := 52) dX9_driest_42 (by decide) (fun c17 => ?_) (fun c17 => ?_)
        · have h := h.1 c17
          refine r_iconst (pc := 52) C (v := (0 : Int32)) dX9_driest_52 (by decide) ?_
          refine r_istore (pc := 53) C dX9_driest_53 (by decide) (lv' := [(4, .int (0 : Int32)), (0, .ref v0), (1, .int v1), (2, .int v2), (3, .int v3)]) rfl ?_
          refine r_ldc2 (pc := 55) C (v := (4611686018427387904 : Int64)) dX9_driest_55 g_796 ?_
          refine r_lstore (pc := 58) C dX9_driest_58 (by decide) (lv' := [(5, .long (4611686018427387904 : Int64)), (4, .int (0 : Int32)), (0, .ref v0), (1, .int v1), (2, .int v2), (3, .int v3)]) rfl ?_
          refine r_iconst (pc := 60) C (v := (0 : Int32)) dX9_driest_60 (by decide) ?_
          refine r_istore (pc := 61) C dX9_driest_61 (by decide) (lv' := [(7, .int (0 : Int32)), (5, .long (4611686018427387904 : Int64)), (4, .int (0 : Int32)), (0, .ref v0), (1, .int v1), (2, .int v2), (3, .int v3)]) rfl ?_
          exact r_sub [3, 4, 5, 6, 2, 1, 0] rfl (T_X9_driest_63 C E ht hn h)
        · have h := h.2 c17
          refine r_aload_n (pc := 45) C dX9_driest_45 0 rfl ?_
          refine r_bipush (pc := 46) C (v := (6 : Int32)) dX9_driest_46 (by decide) ?_
          refine r_callVi0 (pc := 48) C (rest := []) (a := v0) o_v0 [.int (6 : Int32)] yV_X9_refuse g_430 (c_X9_refuse h) dX9_driest_48 rfl rfl (Nat.le_of_ble_eq_true rfl) ⟨by decide, by decide⟩ ⟨by decide, by decide⟩ ⟨rfl, rfl⟩ (fun x20 S18 h g19 => ?_)
          have h := h g19
          have o_a1 := gr_ob g19 o_a1
          have o_a15 := gr_ob g19 o_a15
          have o_a6 := gr_ob g19 o_a6
          have o_v0 := gr_ob g19 o_v0
          exact r_iret (pc := 51) C E ht dX9_driest_51 (by decide) (by decide) h
      · have h := h.2 c14
        exact r_sub [0] rfl (T_X9_driest_29 C E ht hn h)
def P_X9_driest (v0 : Nat) (v1 : Int32) (v2 : Int32) (v3 : Int32) (Q : Int32 → HS → Prop) (S : HS) : Prop := P_X9_driest_0 Q v0 v1 v2 v3 S
theorem c_X9_driest {l : Launch} {Ee : EE} {S : HS} {v0 : Nat} {v1 : Int32} {v2 : Int32} {v3 : Int32} {Q : Int32 → HS → Prop} (h : P_X9_driest v0 v1 v2 v3 Q S) : MI l yX9_driest cX9_driest 11 (some .int) rm_X9_driest Ee S [.ref v0, .int v1, .int v2, .int v3] Q :=
  openI (by decide) (Nat.le_of_ble_eq_true rfl) (fun X C E ht hn hE hl => by subst hE; exact r_sub [0, 1, 2, 3] rfl (T_X9_driest_0 C E ht hn h))
def rm_X9_even : Room := { frames := 6, cells := 0, slots := 0, locals := 155 }
def P_X9_even_0 (Q : Int32 → HS → Prop) (v0 : Nat) (v1 : Int32) (v2 : Int32) (v3 : Int32) (v4 : Int32) (S : HS) : Prop := ob S v0 9 ∧ (P_X9_tripTrouble v0 v1 v2 v3 v4 (fun x3 S1 => Gr S S1 → (P_X9_refusedBy v0 x3 (fun x6 S4 => Gr S1 S4 → bl x6 → (((x6 = 0) → (∃ a8 : Nat, fR S4 v0 2 = some a8 ∧ (ob S4 a8 8 ∧ (∃ a9 : Nat, fR S4 a8 9 = some a9 ∧ (ob S4 a9 19 ∧ (vp_in v1 (hN S4 a9) ∧ ∃ a11 : Nat, fR S4 a9 v1.toNatClampNeg = some a11 ∧ (∃ a12 : Nat, fR S4 v0 4 = some a12 ∧ (∃ a13 : Nat, fR S4 v0 2 = some a13 ∧ (ob S4 a13 8 ∧ (∃ a14 : Nat, fR S4 a13 8 = some a14 ∧ (ob S4 a14 18 ∧ (vp_in v2 (hN S4 a14) ∧ ∃ a16 : Nat, fR S4 a14 v2.toNatClampNeg = some a16 ∧ (∃ a17 : Nat, fR S4 v0 2 = some a17 ∧ (ob S4 a17 8 ∧ (∃ a18 : Nat, fR S4 a17 6 = some a18 ∧ (ob S4 a18 17 ∧ (vp_in v4 (hN S4 a18) ∧ ∃ a20 : Nat, fR S4 a18 v4.toNatClampNeg = some a20 ∧ (ob S4 a12 1 ∧ (P_X1_worstSpeed a12 a11 a16 v3 a20 (fun x23 S21 => Gr S4 S21 → (∃ a24 : Nat, fR S21 v0 4 = some a24 ∧ (∃ a25 : Nat, fR S21 v0 2 = some a25 ∧ (ob S21 a25 8 ∧ (∃ a26 : Nat, fR S21 a25 8 = some a26 ∧ (ob S21 a26 18 ∧ (vp_in v2 (hN S21 a26) ∧ ∃ a28 : Nat, fR S21 a26 v2.toNatClampNeg = some a28 ∧ (∃ a29 : Nat, fR S21 v0 2 = some a29 ∧ (ob S21 a29 8 ∧ (∃ a30 : Nat, fR S21 a29 6 = some a30 ∧ (ob S21 a30 17 ∧ (vp_in v4 (hN S21 a30) ∧ ∃ a32 : Nat, fR S21 a30 v4.toNatClampNeg = some a32 ∧ (ob S21 a24 1 ∧ (P_X1_leastWet a24 a11 a28 v3 a32 (fun x35 S33 => Gr S21 S33 → (∃ a36 : Nat, fR S33 v0 4 = some a36 ∧ (∃ a37 : Nat, fR S33 v0 2 = some a37 ∧ (ob S33 a37 8 ∧ (∃ a38 : Nat, fR S33 a37 8 = some a38 ∧ (ob S33 a38 18 ∧ (vp_in v2 (hN S33 a38) ∧ ∃ a40 : Nat, fR S33 a38 v2.toNatClampNeg = some a40 ∧ (∃ a41 : Nat, fR S33 v0 2 = some a41 ∧ (ob S33 a41 8 ∧ (∃ a42 : Nat, fR S33 a41 6 = some a42 ∧ (ob S33 a42 17 ∧ (vp_in v4 (hN S33 a42) ∧ ∃ a44 : Nat, fR S33 a42 v4.toNatClampNeg = some a44 ∧ (ob S33 a36 1 ∧ (P_X1_wetOf a36 a11 a40 v3 a44 x23 (fun x47 S45 => Gr S33 S45 → (((¬ (lg_cmp x47 x35) = 0) → (Q (0 : Int32) S45)) ∧ (((lg_cmp x47 x35) = 0) → (Q (1 : Int32) S45)))) S33)))))))))))))) S21)))))))))))))) S4))))))))))))))))))) ∧ ((¬ x6 = 0) → (Q (-1 : Int32) S4)))) S1)) S)
set_option maxRecDepth 20000 in
set_option maxHeartbeats 4000000 in
theorem T_X9_even_0 {X : CX} {Q : Int32 → HS → Prop} (C : Cx X cX9_even RX9 9 rm_X9_even) (E : ReI X rm_X9_even Q) (ht : (xh X).sig.returnType = (some .int)) (hn : (xh X).name = yX9_even.name) {v0 : Nat} {v1 : Int32} {v2 : Int32} {v3 : Int32} {v4 : Int32} {S : HS} (h : P_X9_even_0 Q v0 v1 v2 v3 v4 S) : WS X 9 0 0 0 [(0, .ref v0), (1, .int v1), (2, .int v2), (3, .int v3), (4, .int v4)] [] S := by
  refine r_aload_n (pc := 0) C dX9_even_0 0 rfl ?_
  refine r_aload_n (pc := 1) C dX9_even_1 0 rfl ?_
  refine r_iload_n (pc := 2) C dX9_even_2 1 rfl ?_
  refine r_iload_n (pc := 3) C dX9_even_3 2 rfl ?_
  refine r_iload_n (pc := 4) C dX9_even_4 3 rfl ?_
  refine r_iload (pc := 5) C dX9_even_5 4 rfl ?_
  obtain ⟨o_v0, h⟩ := h
  refine r_callVi0 (pc := 7) C (rest := [.ref v0]) (a := v0) o_v0 [.int v1, .int v2, .int v3, .int v4] yV_X9_tripTrouble g_660 (c_X9_tripTrouble h) dX9_even_7 rfl rfl (Nat.le_of_ble_eq_true rfl) ⟨by decide, by decide⟩ ⟨by decide, by decide⟩ ⟨rfl, rfl⟩ (fun x3 S1 h g2 => ?_)
  have h := h g2
  have o_v0 := gr_ob g2 o_v0
  refine r_callVi0 (pc := 10) C (rest := []) (a := v0) o_v0 [.int x3] yV_X9_refusedBy g_683 (c_X9_refusedBy h) dX9_even_10 rfl rfl (Nat.le_of_ble_eq_true rfl) ⟨by decide, by decide⟩ ⟨by decide, by decide⟩ ⟨rfl, rfl⟩ (fun x6 S4 h g5 => ?_)
  have bx6 := h.1
  have h := h.2 g5 bx6
  have o_v0 := gr_ob g5 o_v0
  refine r_if_eq (pc := 13) C (tgt := 18) dX9_even_13 (by decide) (fun c7 => ?_) (fun c7 => ?_)
  · have h := h.1 c7
    refine r_aload_n (pc := 18) C dX9_even_18 0 rfl ?_
    obtain ⟨a8, ea8, h⟩ := h
    refine r_getr (pc := 19) C fL_X9_16 dX9_even_19 o_v0 ea8 ?_
    obtain ⟨o_a8, h⟩ := h
    obtain ⟨a9, ea9, h⟩ := h
    refine r_getr (pc := 22) C fL_X9_108 dX9_even_22 o_a8 ea9 ?_
    refine r_iload_n (pc := 25) C dX9_even_25 1 rfl ?_
    obtain ⟨o_a9, h⟩ := h
    obtain ⟨i10, a11, ea11, h⟩ := h
    refine r_aald19 (pc := 26) C dX9_even_26 o_a9 i10 ea11 ?_
    refine r_astore (pc := 27) C dX9_even_27 (by decide) (lv' := [(5, .ref a11), (0, .ref v0), (1, .int v1), (2, .int v2), (3, .int v3), (4, .int v4)]) rfl ?_
    refine r_aload_n (pc := 29) C dX9_even_29 1 rfl ?_
    obtain ⟨a12, ea12, h⟩ := h
    refine r_getr (pc := 30) C fL_X9_30 dX9_even_30 o_v0 ea12 ?_
    refine r_aload (pc := 33) C dX9_even_33 0 rfl ?_
    refine r_aload_n (pc := 35) C dX9_even_35 1 rfl ?_
    obtain ⟨a13, ea13, h⟩ := h
    refine r_getr (pc := 36) C fL_X9_16 dX9_even_36 o_v0 ea13 ?_
    obtain ⟨o_a13, h⟩ := h
    obtain ⟨a14, ea14, h⟩ := h
    refine r_getr (pc := 39) C fL_X9_112 dX9_even_39 o_a13 ea14 ?_
    refine r_iload_n (pc := 42) C dX9_even_42 3 rfl ?_
    obtain ⟨o_a14, h⟩ := h
    obtain ⟨i15, a16, ea16, h⟩ := h
    refine r_aald18 (pc := 43) C dX9_even_43 o_a14 i15 ea16 ?_
    refine r_iload_n (pc := 44) C dX9_even_44 4 rfl ?_
    refine r_aload_n (pc := 45) C dX9_even_45 1 rfl ?_
    obtain ⟨a17, ea17, h⟩ := h
    refine r_getr (pc := 46) C fL_X9_16 dX9_even_46 o_v0 ea17 ?_
    obtain ⟨o_a17, h⟩ := h
    obtain ⟨a18, ea18, h⟩ := h
    refine r_getr (pc := 49) C fL_X9_116 dX9_even_49 o_a17 ea18 ?_
    refine r_iload (pc := 52) C dX9_even_52 5 rfl ?_
    obtain ⟨o_a18, h⟩ := h
    obtain ⟨i19, a20, ea20, h⟩ := h
    refine r_aald17 (pc := 54) C dX9_even_54 o_a18 i19 ea20 ?_
    obtain ⟨o_a12, h⟩ := h
    refine r_callVi0 (pc := 55) C (rest := []) (a := a12) o_a12 [.ref a11, .ref a16, .int v3, .ref a20] yV_X1_worstSpeed g_779 (c_X1_worstSpeed h) dX9_even_55 rfl rfl (Nat.le_of_ble_eq_true rfl) ⟨by decide, by decide⟩ ⟨by decide, by decide⟩ ⟨rfl, rfl⟩ (fun x23 S21 h g22 => ?_)
    have h := h g22
    have o_a12 := gr_ob g22 o_a12
    have o_a13 := gr_ob g22 o_a13
    have o_a14 := gr_ob g22 o_a14
    have o_a17 := gr_ob g22 o_a17
    have o_a18 := gr_ob g22 o_a18
    have o_a8 := gr_ob g22 o_a8
    have o_a9 := gr_ob g22 o_a9
    have o_v0 := gr_ob g22 o_v0
    refine r_istore (pc := 58) C dX9_even_58 (by decide) (lv' := [(6, .int x23), (5, .ref a11), (0, .ref v0), (1, .int v1), (2, .int v2), (3, .int v3), (4, .int v4)]) rfl ?_
    refine r_aload_n (pc := 60) C dX9_even_60 2 rfl ?_
    obtain ⟨a24, ea24, h⟩ := h
    refine r_getr (pc := 61) C fL_X9_30 dX9_even_61 o_v0 ea24 ?_
    refine r_aload (pc := 64) C dX9_even_64 1 rfl ?_
    refine r_aload_n (pc := 66) C dX9_even_66 2 rfl ?_
    obtain ⟨a25, ea25, h⟩ := h
    refine r_getr (pc := 67) C fL_X9_16 dX9_even_67 o_v0 ea25 ?_
    obtain ⟨o_a25, h⟩ := h
    obtain ⟨a26, ea26, h⟩ := h
    refine r_getr (pc := 70) C fL_X9_112 dX9_even_70 o_a25 ea26 ?_
    refine r_iload_n (pc := 73) C dX9_even_73 4 rfl ?_
    obtain ⟨o_a26, h⟩ := h
    obtain ⟨i27, a28, ea28, h⟩ := h
    refine r_aald18 (pc := 74) C dX9_even_74 o_a26 i27 ea28 ?_
    refine r_iload_n (pc := 75) C dX9_even_75 5 rfl ?_
    refine r_aload_n (pc := 76) C dX9_even_76 2 rfl ?_
    obtain ⟨a29, ea29, h⟩ := h
    refine r_getr (pc := 77) C fL_X9_16 dX9_even_77 o_v0 ea29 ?_
    obtain ⟨o_a29, h⟩ := h
    obtain ⟨a30, ea30, h⟩ := h
    refine r_getr (pc := 80) C fL_X9_116 dX9_even_80 o_a29 ea30 ?_
    refine r_iload (pc := 83) C dX9_even_83 6 rfl ?_
    obtain ⟨o_a30, h⟩ := h
    obtain ⟨i31, a32, ea32, h⟩ := h
    refine r_aald17 (pc := 85) C dX9_even_85 o_a30 i31 ea32 ?_
    obtain ⟨o_a24, h⟩ := h
    refine r_callVl0 (pc := 86) C (rest := []) (a := a24) o_a24 [.ref a11, .ref a28, .int v3, .ref a32] yV_X1_leastWet g_770 (c_X1_leastWet h) dX9_even_86 rfl rfl (Nat.le_of_ble_eq_true rfl) ⟨by decide, by decide⟩ ⟨by decide, by decide⟩ ⟨rfl, rfl⟩ (fun x35 S33 h g34 => ?_)
    have h := h g34
    have o_a12 := gr_ob g34 o_a12
    have o_a13 := gr_ob g34 o_a13
    have o_a14 := gr_ob g34 o_a14
    have o_a17 := gr_ob g34 o_a17
    have o_a18 := gr_ob g34 o_a18
    have o_a24 := gr_ob g34 o_a24
    have o_a25 := gr_ob g34 o_a25
    have o_a26 := gr_ob g34 o_a26
    have o_a29 := gr_ob g34 o_a29
    have o_a30 := gr_ob g34 o_a30
    have o_a8 := gr_ob g34 o_a8
    have o_a9 := gr_ob g34 o_a9
    have o_v0 := gr_ob g34 o_v0
    refine r_lstore (pc := 89) C dX9_even_89 (by decide) (lv' := [(7, .long x35), (6, .int x23), (5, .ref a11), (0, .ref v0), (1, .int v1), (2, .int v2), (3, .int v3), (4, .int v4)]) rfl ?_
    refine r_aload_n (pc := 91) C dX9_even_91 3 rfl ?_
    obtain ⟨a36, ea36, h⟩ := h
    refine r_getr (pc := 92) C fL_X9_30 dX9_even_92 o_v0 ea36 ?_
    refine r_aload (pc := 95) C dX9_even_95 2 rfl ?_
    refine r_aload_n (pc := 97) C dX9_even_97 3 rfl ?_
    obtain ⟨a37, ea37, h⟩ := h
    refine r_getr (pc := 98) C fL_X9_16 dX9_even_98 o_v0 ea37 ?_
    obtain ⟨o_a37, h⟩ := h
    obtain ⟨a38, ea38, h⟩ := h
    refine r_getr (pc := 101) C fL_X9_112 dX9_even_101 o_a37 ea38 ?_
    refine r_iload_n (pc := 104) C dX9_even_104 5 rfl ?_
    obtain ⟨o_a38, h⟩ := h
    obtain ⟨i39, a40, ea40, h⟩ := h
    refine r_aald18 (pc := 105) C dX9_even_105 o_a38 i39 ea40 ?_
    refine r_iload_n (pc := 106) C dX9_even_106 6 rfl ?_
    refine r_aload_n (pc := 107) C dX9_even_107 3 rfl ?_
    obtain ⟨a41, ea41, h⟩ := h
    refine r_getr (pc := 108) C fL_X9_16 dX9_even_108 o_v0 ea41 ?_
    obtain ⟨o_a41, h⟩ := h
    obtain ⟨a42, ea42, h⟩ := h
    refine r_getr (pc := 111) C fL_X9_116 dX9_even_111 o_a41 ea42 ?_
    refine r_iload (pc := 114) C dX9_even_114 7 rfl ?_
    obtain ⟨o_a42, h⟩ := h
    obtain ⟨i43, a44, ea44, h⟩ := h
    refine r_aald17 (pc := 116) C dX9_even_116 o_a42 i43 ea44 ?_
    refine r_iload (pc := 117) C dX9_even_117 1 rfl ?_
    obtain ⟨o_a36, h⟩ := h
    refine r_callVl0 (pc := 119) C (rest := []) (a := a36) o_a36 [.ref a11, .ref a40, .int v3, .ref a44, .int x23] yV_X1_wetOf g_688 (c_X1_wetOf h) dX9_even_119 rfl rfl (Nat.le_of_ble_eq_true rfl) ⟨by decide, by decide⟩ ⟨by decide, by decide⟩ ⟨rfl, rfl⟩ (fun x47 S45 h g46 => ?_)
    have h := h g46
    have o_a12 := gr_ob g46 o_a12
    have o_a13 := gr_ob g46 o_a13
    have o_a14 := gr_ob g46 o_a14
    have o_a17 := gr_ob g46 o_a17
    have o_a18 := gr_ob g46 o_a18
    have o_a24 := gr_ob g46 o_a24
    have o_a25 := gr_ob g46 o_a25
    have o_a26 := gr_ob g46 o_a26
    have o_a29 := gr_ob g46 o_a29
    have o_a30 := gr_ob g46 o_a30
    have o_a36 := gr_ob g46 o_a36
    have o_a37 := gr_ob g46 o_a37
    have o_a38 := gr_ob g46 o_a38
    have o_a41 := gr_ob g46 o_a41
    have o_a42 := gr_ob g46 o_a42
    have o_a8 := gr_ob g46 o_a8
    have o_a9 := gr_ob g46 o_a9
    have o_v0 := gr_ob g46 o_v0
    refine r_lload (pc := 122) C dX9_even_122 0 rfl ?_
    refine r_lcmp (pc := 124) C dX9_even_124 ?_
    refine r_if_ne (pc := 125) C (tgt := 132) dX9_even_125 (by decide) (fun c48 => ?_) (fun c48 => ?_)
    · have h := h.1 c48
      refine r_iconst (pc := 132) C (v := (0 : Int32)) dX9_even_132 (by decide) ?_
      exact r_iret (pc := 133) C E ht dX9_even_133 (by decide) (by decide) h
    · have h := h.2 c48
      refine r_iconst (pc := 128) C (v := (1 : Int32)) dX9_even_128 (by decide) ?_
      refine r_goto (pc := 129) C (tgt := 133) dX9_even_129 (by decide) ?_
      exact r_iret (pc := 133) C E ht dX9_even_133 (by decide) (by decide) h
  · have h := h.2 c7
    refine r_iconst (pc := 16) C (v := (-1 : Int32)) dX9_even_16 (by decide) ?_
    exact r_iret (pc := 17) C E ht dX9_even_17 (by decide) (by decide) h
def P_X9_even (v0 : Nat) (v1 : Int32) (v2 : Int32) (v3 : Int32) (v4 : Int32) (Q : Int32 → HS → Prop) (S : HS) : Prop := P_X9_even_0 Q v0 v1 v2 v3 v4 S
theorem c_X9_even {l : Launch} {Ee : EE} {S : HS} {v0 : Nat} {v1 : Int32} {v2 : Int32} {v3 : Int32} {v4 : Int32} {Q : Int32 → HS → Prop} (h : P_X9_even v0 v1 v2 v3 v4 Q S) : MI l yX9_even cX9_even 9 (some .int) rm_X9_even Ee S [.ref v0, .int v1, .int v2, .int v3, .int v4] Q :=
  openI (by decide) (Nat.le_of_ble_eq_true rfl) (fun X C E ht hn hE hl => by subst hE; exact r_sub [0, 1, 2, 3, 4] rfl (T_X9_even_0 C E ht hn h))
def rm_X9_fraction : Room := { frames := 1, cells := 0, slots := 0, locals := 30 }
def P_X9_fraction_0 (Q : Int64 → HS → Prop) (v0 : Int64) (v2 : Int64) (v4 : Int32) (S : HS) : Prop := P_X9_commonDivisor v0 v2 (fun x3 S1 => Gr S S1 → (((0 < (lg_cmp x3 (0 : Int64))) → (((v4 = 0) → (¬ x3 = 0 ∧ ∀ x7 : Int64, x7 = v0 / x3 → (Q x7 S1))) ∧ ((¬ v4 = 0) → (¬ x3 = 0 ∧ ∀ x9 : Int64, x9 = v2 / x3 → (Q x9 S1))))) ∧ ((¬ 0 < (lg_cmp x3 (0 : Int64))) → (((v4 = 0) → (Q (0 : Int64) S1)) ∧ ((¬ v4 = 0) → (Q (1 : Int64) S1)))))) S
set_option maxRecDepth 20000 in
set_option maxHeartbeats 4000000 in
theorem T_X9_fraction_0 {X : CX} {Q : Int64 → HS → Prop} (C : Cx X cX9_fraction RX9 7 rm_X9_fraction) (E : ReJ X rm_X9_fraction Q) (ht : (xh X).sig.returnType = (some .long)) (hn : (xh X).name = yX9_fraction.name) {v0 : Int64} {v2 : Int64} {v4 : Int32} {S : HS} (h : P_X9_fraction_0 Q v0 v2 v4 S) : WS X 7 0 0 0 [(0, .long v0), (2, .long v2), (4, .int v4)] [] S := by
  refine r_lload_n (pc := 0) C dX9_fraction_0 0 rfl ?_
  refine r_lload_n (pc := 1) C dX9_fraction_1 1 rfl ?_
  refine r_callSl0 (pc := 2) C (rest := []) rfl [.long v0, .long v2] yS_X9_commonDivisor g_725 (c_X9_commonDivisor h) dX9_fraction_2 rfl rfl (Nat.le_of_ble_eq_true rfl) ⟨by decide, by decide⟩ ⟨by decide, by decide⟩ ⟨rfl, rfl⟩ (fun x3 S1 h g2 => ?_)
  have h := h g2
  refine r_lstore (pc := 5) C dX9_fraction_5 (by decide) (lv' := [(5, .long x3), (0, .long v0), (2, .long v2), (4, .int v4)]) rfl ?_
  refine r_lload (pc := 7) C dX9_fraction_7 0 rfl ?_
  refine r_lconst (pc := 9) C (v := (0 : Int64)) dX9_fraction_9 (by decide) ?_
  refine r_lcmp (pc := 10) C dX9_fraction_10 ?_
  refine r_if_gt (pc := 11) C (tgt := 25) dX9_fraction_11 (by decide) (fun c4 => ?_) (fun c4 => ?_)
  · have h := h.1 c4
    refine r_iload (pc := 25) C dX9_fraction_25 3 rfl ?_
    refine r_if_eq (pc := 27) C (tgt := 34) dX9_fraction_27 (by decide) (fun c5 => ?_) (fun c5 => ?_)
    · have h := h.1 c5
      refine r_lload_n (pc := 34) C dX9_fraction_34 1 rfl ?_
      refine r_lload (pc := 35) C dX9_fraction_35 0 rfl ?_
      obtain ⟨q6, h⟩ := h
      refine r_ldiv (pc := 37) C dX9_fraction_37 q6 ?_
      refine r_topl (fun x7 ex7 => ?_)
      have h := h x7 ex7
      exact r_lret (pc := 38) C E ht dX9_fraction_38 (by decide) (by decide) h
    · have h := h.2 c5
      refine r_lload_n (pc := 30) C dX9_fraction_30 2 rfl ?_
      refine r_goto (pc := 31) C (tgt := 35) dX9_fraction_31 (by decide) ?_
      refine r_lload (pc := 35) C dX9_fraction_35 0 rfl ?_
      obtain ⟨q8, h⟩ := h
      refine r_ldiv (pc := 37) C dX9_fraction_37 q8 ?_
      refine r_topl (fun x9 ex9 => ?_)
      have h := h x9 ex9
      exact r_lret (pc := 38) C E ht dX9_fraction_38 (by decide) (by decide) h
  · have h := h.2 c4
    refine r_iload (pc := 14) C dX9_fraction_14 3 rfl ?_
    refine r_if_eq (pc := 16) C (tgt := 23) dX9_fraction_16 (by decide) (fun c10 => ?_) (fun c10 => ?_)
    · have h := h.1 c10
      refine r_lconst (pc := 23) C (v := (0 : Int64)) dX9_fraction_23 (by decide) ?_
      exact r_lret (pc := 24) C E ht dX9_fraction_24 (by decide) (by decide) h
    · have h := h.2 c10
      refine r_lconst (pc := 19) C (v := (1 : Int64)) dX9_fraction_19 (by decide) ?_
      refine r_goto (pc := 20) C (tgt := 24) dX9_fraction_20 (by decide) ?_
      exact r_lret (pc := 24) C E ht dX9_fraction_24 (by decide) (by decide) h
def P_X9_fraction (v0 : Int64) (v2 : Int64) (v4 : Int32) (Q : Int64 → HS → Prop) (S : HS) : Prop := P_X9_fraction_0 Q v0 v2 v4 S
theorem c_X9_fraction {l : Launch} {Ee : EE} {S : HS} {v0 : Int64} {v2 : Int64} {v4 : Int32} {Q : Int64 → HS → Prop} (h : P_X9_fraction v0 v2 v4 Q S) : MJ l yX9_fraction cX9_fraction 7 (some .long) rm_X9_fraction Ee S [.long v0, .long v2, .int v4] Q :=
  openJ (by decide) (Nat.le_of_ble_eq_true rfl) (fun X C E ht hn hE hl => by subst hE; exact r_sub [0, 1, 2] rfl (T_X9_fraction_0 C E ht hn h))
def rm_X9_isFace : Room := { frames := 0, cells := 0, slots := 0, locals := 0 }
def P_X9_isFace_0 (Q : Int32 → HS → Prop) (v0 : Int32) (S : HS) : Prop := ((v0 < 0) → (Q (0 : Int32) S)) ∧ ((¬ v0 < 0) → ((((5 : Int32) ≤ v0) → (Q (0 : Int32) S)) ∧ ((¬ (5 : Int32) ≤ v0) → (Q (1 : Int32) S))))
set_option maxRecDepth 20000 in
set_option maxHeartbeats 4000000 in
theorem T_X9_isFace_0 {X : CX} {Q : Int32 → HS → Prop} (C : Cx X cX9_isFace RX9 1 rm_X9_isFace) (E : ReI X rm_X9_isFace (fun r S => bl r ∧ Q r S)) (ht : (xh X).sig.returnType = (some .boolean)) (hn : (xh X).name = yX9_isFace.name) {v0 : Int32} {S : HS} (h : P_X9_isFace_0 Q v0 S) : WS X 1 0 0 0 [(0, .int v0)] [] S := by
  refine r_iload_n (pc := 0) C dX9_isFace_0 0 rfl ?_
  refine r_if_lt (pc := 1) C (tgt := 13) dX9_isFace_1 (by decide) (fun c1 => ?_) (fun c1 => ?_)
  · have h := h.1 c1
    refine r_iconst (pc := 13) C (v := (0 : Int32)) dX9_isFace_13 (by decide) ?_
    exact r_zret (pc := 14) C E ht dX9_isFace_14 (by decide) (by decide) (Or.inl rfl) h
  · have h := h.2 c1
    refine r_iload_n (pc := 4) C dX9_isFace_4 0 rfl ?_
    refine r_iconst (pc := 5) C (v := (5 : Int32)) dX9_isFace_5 (by decide) ?_
    refine r_icmp_ge (pc := 6) C (tgt := 13) dX9_isFace_6 (by decide) (fun c2 => ?_) (fun c2 => ?_)
    · have h := h.1 c2
      refine r_iconst (pc := 13) C (v := (0 : Int32)) dX9_isFace_13 (by decide) ?_
      exact r_zret (pc := 14) C E ht dX9_isFace_14 (by decide) (by decide) (Or.inl rfl) h
    · have h := h.2 c2
      refine r_iconst (pc := 9) C (v := (1 : Int32)) dX9_isFace_9 (by decide) ?_
      refine r_goto (pc := 10) C (tgt := 14) dX9_isFace_10 (by decide) ?_
      exact r_zret (pc := 14) C E ht dX9_isFace_14 (by decide) (by decide) (Or.inr rfl) h
def P_X9_isFace (v0 : Int32) (Q : Int32 → HS → Prop) (S : HS) : Prop := P_X9_isFace_0 Q v0 S
theorem c_X9_isFace {l : Launch} {Ee : EE} {S : HS} {v0 : Int32} {Q : Int32 → HS → Prop} (h : P_X9_isFace v0 Q S) : MI l yX9_isFace cX9_isFace 1 (some .boolean) rm_X9_isFace Ee S [.int v0] (fun r S => bl r ∧ Q r S) :=
  openI (by decide) (Nat.le_of_ble_eq_true rfl) (fun X C E ht hn hE hl => by subst hE; exact r_sub [0] rfl (T_X9_isFace_0 C E ht hn h))
def rm_X9_legTrouble : Room := { frames := 2, cells := 0, slots := 0, locals := 46 }
def P_X9_legTrouble_0 (Q : Int32 → HS → Prop) (v0 : Nat) (v1 : Int32) (v2 : Int32) (v3 : Int32) (v4 : Int32) (v5 : Int32) (S : HS) : Prop := ob S v0 9 ∧ (P_X9_tripTrouble v0 v1 v2 v3 v4 (fun x3 S1 => Gr S S1 → (((x3 = 0) → (∃ a5 : Nat, fR S1 v0 2 = some a5 ∧ (ob S1 a5 8 ∧ (∃ a6 : Nat, fR S1 a5 9 = some a6 ∧ (ob S1 a6 19 ∧ (vp_in v1 (hN S1 a6) ∧ ∃ a8 : Nat, fR S1 a6 v1.toNatClampNeg = some a8 ∧ (ob S1 a8 6 ∧ (P_X6_canGo a8 v5 (fun x11 S9 => Gr S1 S9 → bl x11 → (((x11 = 0) → (Q (2 : Int32) S9)) ∧ ((¬ x11 = 0) → (Q (0 : Int32) S9)))) S1)))))))) ∧ ((¬ x3 = 0) → (Q x3 S1)))) S)
set_option maxRecDepth 20000 in
set_option maxHeartbeats 4000000 in
theorem T_X9_legTrouble_0 {X : CX} {Q : Int32 → HS → Prop} (C : Cx X cX9_legTrouble RX9 7 rm_X9_legTrouble) (E : ReI X rm_X9_legTrouble Q) (ht : (xh X).sig.returnType = (some .int)) (hn : (xh X).name = yX9_legTrouble.name) {v0 : Nat} {v1 : Int32} {v2 : Int32} {v3 : Int32} {v4 : Int32} {v5 : Int32} {S : HS} (h : P_X9_legTrouble_0 Q v0 v1 v2 v3 v4 v5 S) : WS X 7 0 0 0 [(0, .ref v0), (1, .int v1), (2, .int v2), (3, .int v3), (4, .int v4), (5, .int v5)] [] S := by
  refine r_aload_n (pc := 0) C dX9_legTrouble_0 0 rfl ?_
  refine r_iload_n (pc := 1) C dX9_legTrouble_1 1 rfl ?_
  refine r_iload_n (pc := 2) C dX9_legTrouble_2 2 rfl ?_
  refine r_iload_n (pc := 3) C dX9_legTrouble_3 3 rfl ?_
  refine r_iload (pc := 4) C dX9_legTrouble_4 4 rfl ?_
  obtain ⟨o_v0, h⟩ := h
  refine r_callVi0 (pc := 6) C (rest := []) (a := v0) o_v0 [.int v1, .int v2, .int v3, .int v4] yV_X9_tripTrouble g_660 (c_X9_tripTrouble h) dX9_legTrouble_6 rfl rfl (Nat.le_of_ble_eq_true rfl) ⟨by decide, by decide⟩ ⟨by decide, by decide⟩ ⟨rfl, rfl⟩ (fun x3 S1 h g2 => ?_)
  have h := h g2
  have o_v0 := gr_ob g2 o_v0
  refine r_istore (pc := 9) C dX9_legTrouble_9 (by decide) (lv' := [(6, .int x3), (0, .ref v0), (1, .int v1), (2, .int v2), (3, .int v3), (4, .int v4), (5, .int v5)]) rfl ?_
  refine r_iload (pc := 11) C dX9_legTrouble_11 0 rfl ?_
  refine r_if_eq (pc := 13) C (tgt := 19) dX9_legTrouble_13 (by decide) (fun c4 => ?_) (fun c4 => ?_)
  · have h := h.1 c4
    refine r_aload_n (pc := 19) C dX9_legTrouble_19 1 rfl ?_
    obtain ⟨a5, ea5, h⟩ := h
    refine r_getr (pc := 20) C fL_X9_16 dX9_legTrouble_20 o_v0 ea5 ?_
    obtain ⟨o_a5, h⟩ := h
    obtain ⟨a6, ea6, h⟩ := h
    refine r_getr (pc := 23) C fL_X9_108 dX9_legTrouble_23 o_a5 ea6 ?_
    refine r_iload_n (pc := 26) C dX9_legTrouble_26 2 rfl ?_
    obtain ⟨o_a6, h⟩ := h
    obtain ⟨i7, a8, ea8, h⟩ := h
    refine r_aald19 (pc := 27) C dX9_legTrouble_27 o_a6 i7 ea8 ?_
    refine r_iload (pc := 28) C dX9_legTrouble_28 6 rfl ?_
    obtain ⟨o_a8, h⟩ := h
    refine r_callVi0 (pc := 30) C (rest := []) (a := a8) o_a8 [.int v5] yV_X6_canGo g_679 (c_X6_canGo h) dX9_legTrouble_30 rfl rfl (Nat.le_of_ble_eq_true rfl) ⟨by decide, by decide⟩ ⟨by decide, by decide⟩ ⟨rfl, rfl⟩ (fun x11 S9 h g10 => ?_)
    have bx11 := h.1
    have h := h.2 g10 bx11
    have o_a5 := gr_ob g10 o_a5
    have o_a6 := gr_ob g10 o_a6
    have o_a8 := gr_ob g10 o_a8
    have o_v0 := gr_ob g10 o_v0
    refine r_if_eq (pc := 33) C (tgt := 40) dX9_legTrouble_33 (by decide) (fun c12 => ?_) (fun c12 => ?_)
    · have h := h.1 c12
      refine r_iconst (pc := 40) C (v := (2 : Int32)) dX9_legTrouble_40 (by decide) ?_
      exact r_iret (pc := 41) C E ht dX9_legTrouble_41 (by decide) (by decide) h
    · have h := h.2 c12
      refine r_iconst (pc := 36) C (v := (0 : Int32)) dX9_legTrouble_36 (by decide) ?_
      refine r_goto (pc := 37) C (tgt := 41) dX9_legTrouble_37 (by decide) ?_
      exact r_iret (pc := 41) C E ht dX9_legTrouble_41 (by decide) (by decide) h
  · have h := h.2 c4
    refine r_iload (pc := 16) C dX9_legTrouble_16 0 rfl ?_
    exact r_iret (pc := 18) C E ht dX9_legTrouble_18 (by decide) (by decide) h
def P_X9_legTrouble (v0 : Nat) (v1 : Int32) (v2 : Int32) (v3 : Int32) (v4 : Int32) (v5 : Int32) (Q : Int32 → HS → Prop) (S : HS) : Prop := P_X9_legTrouble_0 Q v0 v1 v2 v3 v4 v5 S
theorem c_X9_legTrouble {l : Launch} {Ee : EE} {S : HS} {v0 : Nat} {v1 : Int32} {v2 : Int32} {v3 : Int32} {v4 : Int32} {v5 : Int32} {Q : Int32 → HS → Prop} (h : P_X9_legTrouble v0 v1 v2 v3 v4 v5 Q S) : MI l yX9_legTrouble cX9_legTrouble 7 (some .int) rm_X9_legTrouble Ee S [.ref v0, .int v1, .int v2, .int v3, .int v4, .int v5] Q :=
  openI (by decide) (Nat.le_of_ble_eq_true rfl) (fun X C E ht hn hE hl => by subst hE; exact r_sub [0, 1, 2, 3, 4, 5] rfl (T_X9_legTrouble_0 C E ht hn h))
def rm_X9_face : Room := { frames := 4, cells := 0, slots := 0, locals := 101 }
def P_X9_face_23 (Q : Int64 → HS → Prop) (v0 : Nat) (v1 : Int32) (v2 : Int32) (v3 : Int32) (v4 : Int32) (v5 : Int32) (v6 : Int32) (v7 : Int32) (s0 : Int32) (S : HS) : Prop := ob S v0 9 ∧ (P_X9_refusedBy v0 s0 (fun x3 S1 => Gr S S1 → bl x3 → (((x3 = 0) → (∃ a5 : Nat, fR S1 v0 4 = some a5 ∧ (∃ a6 : Nat, fR S1 v0 2 = some a6 ∧ (ob S1 a6 8 ∧ (∃ a7 : Nat, fR S1 a6 9 = some a7 ∧ (ob S1 a7 19 ∧ (vp_in v1 (hN S1 a7) ∧ ∃ a9 : Nat, fR S1 a7 v1.toNatClampNeg = some a9 ∧ (∃ a10 : Nat, fR S1 v0 2 = some a10 ∧ (ob S1 a10 8 ∧ (∃ a11 : Nat, fR S1 a10 8 = some a11 ∧ (ob S1 a11 18 ∧ (vp_in v2 (hN S1 a11) ∧ ∃ a13 : Nat, fR S1 a11 v2.toNatClampNeg = some a13 ∧ (∃ a14 : Nat, fR S1 v0 2 = some a14 ∧ (ob S1 a14 8 ∧ (∃ a15 : Nat, fR S1 a14 6 = some a15 ∧ (ob S1 a15 17 ∧ (vp_in v4 (hN S1 a15) ∧ ∃ a17 : Nat, fR S1 a15 v4.toNatClampNeg = some a17 ∧ (ob S1 a5 1 ∧ (P_X1_wetOf a5 a9 a13 v3 a17 v5 (fun x20 S18 => Gr S1 S18 → (∃ a21 : Nat, fR S18 v0 4 = some a21 ∧ (ob S18 a21 1 ∧ (∃ a22 : Nat, fR S18 a21 0 = some a22 ∧ (ob S18 a22 14 ∧ (vp_in v6 (hN S18 a22) ∧ ∀ x24 : Int64, x24 = fJ S18 a22 v6.toNatClampNeg → (P_X9_fraction x24 (2520 : Int64) v7 (fun x27 S25 => Gr S18 S25 → (Q x27 S25)) S18))))))) S1))))))))))))))))))) ∧ ((¬ x3 = 0) → (Q (-1 : Int64) S1)))) S)
set_option maxRecDepth 20000 in
set_option maxHeartbeats 4000000 in
theorem T_X9_face_23 {X : CX} {Q : Int64 → HS → Prop} (C : Cx X cX9_face RX9 9 rm_X9_face) (E : ReJ X rm_X9_face Q) (ht : (xh X).sig.returnType = (some .long)) (hn : (xh X).name = yX9_face.name) {v0 : Nat} {v1 : Int32} {v2 : Int32} {v3 : Int32} {v4 : Int32} {v5 : Int32} {v6 : Int32} {v7 : Int32} {s0 : Int32} {S : HS} (h : P_X9_face_23 Q v0 v1 v2 v3 v4 v5 v6 v7 s0 S) : WS X 9 0 0 23 [(0, .ref v0), (1, .int v1), (2, .int v2), (3, .int v3), (4, .int v4), (5, .int v5), (6, .int v6), (7, .int v7)] [.int s0] S := by
  refine r_istore (pc := 23) C dX9_face_23 (by decide) (lv' := [(8, .int s0), (0, .ref v0), (1, .int v1), (2, .int v2), (3, .int v3), (4, .int v4), (5, .int v5), (6, .int v6), (7, .int v7)]) rfl ?_
  refine r_aload_n (pc := 25) C dX9_face_25 1 rfl ?_
  refine r_iload (pc := 26) C dX9_face_26 0 rfl ?_
  obtain ⟨o_v0, h⟩ := h
  refine r_callVi0 (pc := 28) C (rest := []) (a := v0) o_v0 [.int s0] yV_X9_refusedBy g_683 (c_X9_refusedBy h) dX9_face_28 rfl rfl (Nat.le_of_ble_eq_true rfl) ⟨by decide, by decide⟩ ⟨by decide, by decide⟩ ⟨rfl, rfl⟩ (fun x3 S1 h g2 => ?_)
  have bx3 := h.1
  have h := h.2 g2 bx3
  have o_v0 := gr_ob g2 o_v0
  refine r_if_eq (pc := 31) C (tgt := 38) dX9_face_31 (by decide) (fun c4 => ?_) (fun c4 => ?_)
  · have h := h.1 c4
    refine r_aload_n (pc := 38) C dX9_face_38 1 rfl ?_
    obtain ⟨a5, ea5, h⟩ := h
    refine r_getr (pc := 39) C fL_X9_30 dX9_face_39 o_v0 ea5 ?_
    refine r_aload_n (pc := 42) C dX9_face_42 1 rfl ?_
    obtain ⟨a6, ea6, h⟩ := h
    refine r_getr (pc := 43) C fL_X9_16 dX9_face_43 o_v0 ea6 ?_
    obtain ⟨o_a6, h⟩ := h
    obtain ⟨a7, ea7, h⟩ := h
    refine r_getr (pc := 46) C fL_X9_108 dX9_face_46 o_a6 ea7 ?_
    refine r_iload_n (pc := 49) C dX9_face_49 2 rfl ?_
    obtain ⟨o_a7, h⟩ := h
    obtain ⟨i8, a9, ea9, h⟩ := h
    refine r_aald19 (pc := 50) C dX9_face_50 o_a7 i8 ea9 ?_
    refine r_aload_n (pc := 51) C dX9_face_51 1 rfl ?_
    obtain ⟨a10, ea10, h⟩ := h
    refine r_getr (pc := 52) C fL_X9_16 dX9_face_52 o_v0 ea10 ?_
    obtain ⟨o_a10, h⟩ := h
    obtain ⟨a11, ea11, h⟩ := h
    refine r_getr (pc := 55) C fL_X9_112 dX9_face_55 o_a10 ea11 ?_
    refine r_iload_n (pc := 58) C dX9_face_58 3 rfl ?_
    obtain ⟨o_a11, h⟩ := h
    obtain ⟨i12, a13, ea13, h⟩ := h
    refine r_aald18 (pc := 59) C dX9_face_59 o_a11 i12 ea13 ?_
    refine r_iload_n (pc := 60) C dX9_face_60 4 rfl ?_
    refine r_aload_n (pc := 61) C dX9_face_61 1 rfl ?_
    obtain ⟨a14, ea14, h⟩ := h
    refine r_getr (pc := 62) C fL_X9_16 dX9_face_62 o_v0 ea14 ?_
    obtain ⟨o_a14, h⟩ := h
    obtain ⟨a15, ea15, h⟩ := h
    refine r_getr (pc := 65) C fL_X9_116 dX9_face_65 o_a14 ea15 ?_
    refine r_iload (pc := 68) C dX9_face_68 5 rfl ?_
    obtain ⟨o_a15, h⟩ := h
    obtain ⟨i16, a17, ea17, h⟩ := h
    refine r_aald17 (pc := 70) C dX9_face_70 o_a15 i16 ea17 ?_
    refine r_iload (pc := 71) C dX9_face_71 6 rfl ?_
    obtain ⟨o_a5, h⟩ := h
    refine r_callVl0 (pc := 73) C (rest := []) (a := a5) o_a5 [.ref a9, .ref a13, .int v3, .ref a17, .int v5] yV_X1_wetOf g_688 (c_X1_wetOf h) dX9_face_73 rfl rfl (Nat.le_of_ble_eq_true rfl) ⟨by decide, by decide⟩ ⟨by decide, by decide⟩ ⟨rfl, rfl⟩ (fun x20 S18 h g19 => ?_)
    have h := h g19
    have o_a10 := gr_ob g19 o_a10
    have o_a11 := gr_ob g19 o_a11
    have o_a14 := gr_ob g19 o_a14
    have o_a15 := gr_ob g19 o_a15
    have o_a5 := gr_ob g19 o_a5
    have o_a6 := gr_ob g19 o_a6
    have o_a7 := gr_ob g19 o_a7
    have o_v0 := gr_ob g19 o_v0
    refine r_pop2 (pc := 76) C dX9_face_76 rfl ?_
    refine r_aload_n (pc := 77) C dX9_face_77 1 rfl ?_
    obtain ⟨a21, ea21, h⟩ := h
    refine r_getr (pc := 78) C fL_X9_30 dX9_face_78 o_v0 ea21 ?_
    obtain ⟨o_a21, h⟩ := h
    obtain ⟨a22, ea22, h⟩ := h
    refine r_getr (pc := 81) C fL_X9_124 dX9_face_81 o_a21 ea22 ?_
    refine r_iload (pc := 84) C dX9_face_84 7 rfl ?_
    obtain ⟨o_a22, h⟩ := h
    obtain ⟨i23, h⟩ := h
    refine r_lald (pc := 86) C dX9_face_86 o_a22 i23 ?_
    refine r_topl (fun x24 ex24 => ?_)
    have h := h x24 ex24
    refine r_ldc2 (pc := 87) C (v := (2520 : Int64)) dX9_face_87 g_721 ?_
    refine r_iload (pc := 90) C dX9_face_90 8 rfl ?_
    refine r_callSl0 (pc := 92) C (rest := []) rfl [.long x24, .long (2520 : Int64), .int v7] yS_X9_fraction g_722 (c_X9_fraction h) dX9_face_92 rfl rfl (Nat.le_of_ble_eq_true rfl) ⟨by decide, by decide⟩ ⟨by decide, by decide⟩ ⟨rfl, rfl⟩ (fun x27 S25 h g26 => ?_)
    have h := h g26
    have o_a10 := gr_ob g26 o_a10
    have o_a11 := gr_ob g26 o_a11
    have o_a14 := gr_ob g26 o_a14
    have o_a15 := gr_ob g26 o_a15
    have o_a21 := gr_ob g26 o_a21
    have o_a22 := gr_ob g26 o_a22
    have o_a5 := gr_ob g26 o_a5
    have o_a6 := gr_ob g26 o_a6
    have o_a7 := gr_ob g26 o_a7
    have o_v0 := gr_ob g26 o_v0
    exact r_lret (pc := 95) C E ht dX9_face_95 (by decide) (by decide) h
  · have h := h.2 c4
    refine r_ldc2 (pc := 34) C (v := (-1 : Int64)) dX9_face_34 g_687 ?_
    exact r_lret (pc := 37) C E ht dX9_face_37 (by decide) (by decide) h
def P_X9_face_0 (Q : Int64 → HS → Prop) (v0 : Nat) (v1 : Int32) (v2 : Int32) (v3 : Int32) (v4 : Int32) (v5 : Int32) (v6 : Int32) (v7 : Int32) (S : HS) : Prop := P_X9_isFace v6 (fun x3 S1 => Gr S S1 → bl x3 → (((x3 = 0) → (P_X9_face_23 Q v0 v1 v2 v3 v4 v5 v6 v7 (1 : Int32) S1)) ∧ ((¬ x3 = 0) → (ob S1 v0 9 ∧ (P_X9_legTrouble v0 v1 v2 v3 v4 v5 (fun x7 S5 => Gr S1 S5 → (P_X9_face_23 Q v0 v1 v2 v3 v4 v5 v6 v7 x7 S5)) S1))))) S
set_option maxRecDepth 20000 in
set_option maxHeartbeats 4000000 in
theorem T_X9_face_0 {X : CX} {Q : Int64 → HS → Prop} (C : Cx X cX9_face RX9 9 rm_X9_face) (E : ReJ X rm_X9_face Q) (ht : (xh X).sig.returnType = (some .long)) (hn : (xh X).name = yX9_face.name) {v0 : Nat} {v1 : Int32} {v2 : Int32} {v3 : Int32} {v4 : Int32} {v5 : Int32} {v6 : Int32} {v7 : Int32} {S : HS} (h : P_X9_face_0 Q v0 v1 v2 v3 v4 v5 v6 v7 S) : WS X 9 0 0 0 [(0, .ref v0), (1, .int v1), (2, .int v2), (3, .int v3), (4, .int v4), (5, .int v5), (6, .int v6), (7, .int v7)] [] S := by
  refine r_iload (pc := 0) C dX9_face_0 6 rfl ?_
  refine r_callSi0 (pc := 2) C (rest := []) rfl [.int v6] yS_X9_isFace g_653 (c_X9_isFace h) dX9_face_2 rfl rfl (Nat.le_of_ble_eq_true rfl) ⟨by decide, by decide⟩ ⟨by decide, by decide⟩ ⟨rfl, rfl⟩ (fun x3 S1 h g2 => ?_)
  have bx3 := h.1
  have h := h.2 g2 bx3
  refine r_if_eq (pc := 5) C (tgt := 22) dX9_face_5 (by decide) (fun c4 => ?_) (fun c4 => ?_)
  · have h := h.1 c4
    refine r_iconst (pc := 22) C (v := (1 : Int32)) dX9_face_22 (by decide) ?_
    exact r_sub [0, 1, 2, 3, 4, 5, 6, 7] rfl (T_X9_face_23 C E ht hn h)
  · have h := h.2 c4
    refine r_aload_n (pc := 8) C dX9_face_8 0 rfl ?_
    refine r_iload_n (pc := 9) C dX9_face_9 1 rfl ?_
    refine r_iload_n (pc := 10) C dX9_face_10 2 rfl ?_
    refine r_iload_n (pc := 11) C dX9_face_11 3 rfl ?_
    refine r_iload (pc := 12) C dX9_face_12 4 rfl ?_
    refine r_iload (pc := 14) C dX9_face_14 5 rfl ?_
    obtain ⟨o_v0, h⟩ := h
    refine r_callVi0 (pc := 16) C (rest := []) (a := v0) o_v0 [.int v1, .int v2, .int v3, .int v4, .int v5] yV_X9_legTrouble g_656 (c_X9_legTrouble h) dX9_face_16 rfl rfl (Nat.le_of_ble_eq_true rfl) ⟨by decide, by decide⟩ ⟨by decide, by decide⟩ ⟨rfl, rfl⟩ (fun x7 S5 h g6 => ?_)
    have h := h g6
    have o_v0 := gr_ob g6 o_v0
    refine r_goto (pc := 19) C (tgt := 23) dX9_face_19 (by decide) ?_
    exact r_sub [0, 1, 2, 3, 4, 5, 6, 7] rfl (T_X9_face_23 C E ht hn h)
def P_X9_face (v0 : Nat) (v1 : Int32) (v2 : Int32) (v3 : Int32) (v4 : Int32) (v5 : Int32) (v6 : Int32) (v7 : Int32) (Q : Int64 → HS → Prop) (S : HS) : Prop := P_X9_face_0 Q v0 v1 v2 v3 v4 v5 v6 v7 S
theorem c_X9_face {l : Launch} {Ee : EE} {S : HS} {v0 : Nat} {v1 : Int32} {v2 : Int32} {v3 : Int32} {v4 : Int32} {v5 : Int32} {v6 : Int32} {v7 : Int32} {Q : Int64 → HS → Prop} (h : P_X9_face v0 v1 v2 v3 v4 v5 v6 v7 Q S) : MJ l yX9_face cX9_face 9 (some .long) rm_X9_face Ee S [.ref v0, .int v1, .int v2, .int v3, .int v4, .int v5, .int v6, .int v7] Q :=
  openJ (by decide) (Nat.le_of_ble_eq_true rfl) (fun X C E ht hn hE hl => by subst hE; exact r_sub [0, 1, 2, 3, 4, 5, 6, 7] rfl (T_X9_face_0 C E ht hn h))
def rm_X9_fault : Room := { frames := 0, cells := 0, slots := 0, locals := 0 }
def P_X9_fault_0 (Q : Int32 → HS → Prop) (v0 : Nat) (S : HS) : Prop := ob S v0 9 ∧ (∀ x1 : Int32, x1 = fI S v0 7 → (Q x1 S))
set_option maxRecDepth 20000 in
set_option maxHeartbeats 4000000 in
theorem T_X9_fault_0 {X : CX} {Q : Int32 → HS → Prop} (C : Cx X cX9_fault RX9 1 rm_X9_fault) (E : ReI X rm_X9_fault Q) (ht : (xh X).sig.returnType = (some .int)) (hn : (xh X).name = yX9_fault.name) {v0 : Nat} {S : HS} (h : P_X9_fault_0 Q v0 S) : WS X 1 0 0 0 [(0, .ref v0)] [] S := by
  refine r_aload_n (pc := 0) C dX9_fault_0 0 rfl ?_
  obtain ⟨o_v0, h⟩ := h
  refine r_geti (pc := 1) C fL_X9_67 dX9_fault_1 o_v0 ?_
  refine r_topi (fun x1 ex1 => ?_)
  have h := h x1 ex1
  exact r_iret (pc := 4) C E ht dX9_fault_4 (by decide) (by decide) h
def P_X9_fault (v0 : Nat) (Q : Int32 → HS → Prop) (S : HS) : Prop := P_X9_fault_0 Q v0 S
theorem c_X9_fault {l : Launch} {Ee : EE} {S : HS} {v0 : Nat} {Q : Int32 → HS → Prop} (h : P_X9_fault v0 Q S) : MI l yX9_fault cX9_fault 1 (some .int) rm_X9_fault Ee S [.ref v0] Q :=
  openI (by decide) (Nat.le_of_ble_eq_true rfl) (fun X C E ht hn hE hl => by subst hE; exact r_sub [0] rfl (T_X9_fault_0 C E ht hn h))
def rm_X9_putBytes : Room := { frames := 0, cells := 0, slots := 0, locals := 0 }
def P_X9_putBytes_49 (Q : HS → Prop) (X3 : Nat → Int32 → Int32 → HS → Prop) (v0 : Nat) (v1 : Int32) (v2 : Int32) (S : HS) : Prop := ∀ x1 : Int32, x1 = v2 + (-8 : Int32) → (X3 v0 v1 x1 S)
set_option maxRecDepth 20000 in
set_option maxHeartbeats 4000000 in
theorem T_X9_putBytes_49 {X : CX} {Q : HS → Prop} (C : Cx X cX9_putBytes RX9 3 rm_X9_putBytes) (E : ReV X rm_X9_putBytes Q) (ht : (xh X).sig.returnType = none) (hn : (xh X).name = yX9_putBytes.name) {X3 : Nat → Int32 → Int32 → HS → Prop} (hX3 : ∀ (v0 : Nat) (v1 : Int32) (v2 : Int32) (S : HS), X3 v0 v1 v2 S → WS X 3 0 0 3 [(0, .ref v0), (1, .int v1), (2, .int v2)] [] S) {v0 : Nat} {v1 : Int32} {v2 : Int32} {S : HS} (h : P_X9_putBytes_49 Q X3 v0 v1 v2 S) : WS X 3 0 0 49 [(0, .ref v0), (1, .int v1), (2, .int v2)] [] S := by
  obtain ⟨x1, ex1⟩ : ∃ z : Int32, z = v2 + (-8 : Int32) := ⟨_, rfl⟩
  have h := h x1 ex1
  refine r_iinc (pc := 49) C (v := x1) (lv' := [(2, .int x1), (0, .ref v0), (1, .int v1)]) dX9_putBytes_49 2 rfl ex1.symm (by decide) rfl ?_
  refine r_goto (pc := 52) C (tgt := 3) dX9_putBytes_52 (by decide) ?_
  exact r_sub [1, 2, 0] rfl (hX3 v0 v1 x1 S h)
def B_X9_putBytes_3 (Q : HS → Prop) (X3 : Nat → Int32 → Int32 → HS → Prop) (v0 : Nat) (v1 : Int32) (v2 : Int32) (S : HS) : Prop := ((v2 < 0) → (Q S)) ∧ ((¬ v2 < 0) → (ob S v0 9 ∧ (∀ x2 : Int32, x2 = fI S v0 1 → (((x2 < 0) → (P_X9_putBytes_49 Q X3 v0 v1 v2 S)) ∧ ((¬ x2 < 0) → (∀ x4 : Int32, x4 = fI S v0 1 → (∃ a5 : Nat, fR S v0 0 = some a5 ∧ (ob S a5 12 ∧ ((((nI (hN S a5)) ≤ x4) → (P_X9_putBytes_49 Q X3 v0 v1 v2 S)) ∧ ((¬ (nI (hN S a5)) ≤ x4) → (∃ a7 : Nat, fR S v0 0 = some a7 ∧ (∀ x8 : Int32, x8 = fI S v0 1 → (ob S a7 12 ∧ (∀ x10 : Int32, x10 = ((v1.toUInt32 >>> (v2.toUInt32 &&& Int32.toUInt32 31)).toInt32).toInt8.toInt32 → (vp_in x8 (hN S a7) ∧ (∀ S11 : HS, S11 = sI S a7 x8.toNatClampNeg (vp_nar .byte x10) → (∀ x12 : Int32, x12 = fI S11 v0 1 → (∀ x13 : Int32, x13 = x12 + (1 : Int32) → (∀ S14 : HS, S14 = sI S11 v0 1 x13 → (P_X9_putBytes_49 Q X3 v0 v1 v2 S14))))))))))))))))))))
def P_X9_putBytes_3 (Q : HS → Prop) (v0 : Nat) (v1 : Int32) (v2 : Int32) (S : HS) : Prop := ∀ X3 : Nat → Int32 → Int32 → HS → Prop, (∀ (v0 : Nat) (v1 : Int32) (v2 : Int32) (S : HS), B_X9_putBytes_3 Q X3 v0 v1 v2 S → X3 v0 v1 v2 S) → X3 v0 v1 v2 S
set_option maxRecDepth 20000 in
set_option maxHeartbeats 4000000 in
theorem TB_X9_putBytes_3 {X : CX} {Q : HS → Prop} (C : Cx X cX9_putBytes RX9 3 rm_X9_putBytes) (E : ReV X rm_X9_putBytes Q) (ht : (xh X).sig.returnType = none) (hn : (xh X).name = yX9_putBytes.name) {X3 : Nat → Int32 → Int32 → HS → Prop} (hX3 : ∀ (v0 : Nat) (v1 : Int32) (v2 : Int32) (S : HS), X3 v0 v1 v2 S → WS X 3 0 0 3 [(0, .ref v0), (1, .int v1), (2, .int v2)] [] S) {v0 : Nat} {v1 : Int32} {v2 : Int32} {S : HS} (h : B_X9_putBytes_3 Q X3 v0 v1 v2 S) : WS X 3 0 0 3 [(0, .ref v0), (1, .int v1), (2, .int v2)] [] S := by
  refine r_iload_n (pc := 3) C dX9_putBytes_3 2 rfl ?_
  refine r_if_lt (pc := 4) C (tgt := 55) dX9_putBytes_4 (by decide) (fun c1 => ?_) (fun c1 => ?_)
  · have h := h.1 c1
    exact r_vret (pc := 55) C E ht dX9_putBytes_55 (by decide) (by decide) h
  · have h := h.2 c1
    refine r_aload_n (pc := 7) C dX9_putBytes_7 0 rfl ?_
    obtain ⟨o_v0, h⟩ := h
    refine r_geti (pc := 8) C fL_X9_48 dX9_putBytes_8 o_v0 ?_
    refine r_topi (fun x2 ex2 => ?_)
    have h := h x2 ex2
    refine r_if_lt (pc := 11) C (tgt := 49) dX9_putBytes_11 (by decide) (fun c3 => ?_) (fun c3 => ?_)
    · have h := h.1 c3
      exact r_sub [0, 1, 2] rfl (T_X9_putBytes_49 C E ht hn hX3 h)
    · have h := h.2 c3
      refine r_aload_n (pc := 14) C dX9_putBytes_14 0 rfl ?_
      refine r_geti (pc := 15) C fL_X9_48 dX9_putBytes_15 o_v0 ?_
      refine r_topi (fun x4 ex4 => ?_)
      have h := h x4 ex4
      refine r_aload_n (pc := 18) C dX9_putBytes_18 0 rfl ?_
      obtain ⟨a5, ea5, h⟩ := h
      refine r_getr (pc := 19) C fL_X9_9 dX9_putBytes_19 o_v0 ea5 ?_
      obtain ⟨o_a5, h⟩ := h
      refine r_alen12 (pc := 22) C dX9_putBytes_22 o_a5 ?_
      refine r_icmp_ge (pc := 23) C (tgt := 49) dX9_putBytes_23 (by decide) (fun c6 => ?_) (fun c6 => ?_)
      · have h := h.1 c6
        exact r_sub [0, 1, 2] rfl (T_X9_putBytes_49 C E ht hn hX3 h)
      · have h := h.2 c6
        refine r_aload_n (pc := 26) C dX9_putBytes_26 0 rfl ?_
        obtain ⟨a7, ea7, h⟩ := h
        refine r_getr (pc := 27) C fL_X9_9 dX9_putBytes_27 o_v0 ea7 ?_
        refine r_aload_n (pc := 30) C dX9_putBytes_30 0 rfl ?_
        refine r_geti (pc := 31) C fL_X9_48 dX9_putBytes_31 o_v0 ?_
        refine r_topi (fun x8 ex8 => ?_)
        have h := h x8 ex8
        refine r_iload_n (pc := 34) C dX9_putBytes_34 1 rfl ?_
        refine r_iload_n (pc := 35) C dX9_putBytes_35 2 rfl ?_
        refine r_iushr (pc := 36) C dX9_putBytes_36 ?_
        refine r_i2b (pc := 37) C dX9_putBytes_37 ?_
        obtain ⟨o_a7, h⟩ := h
        refine r_topi (fun x10 ex10 => ?_)
        have h := h x10 ex10
        obtain ⟨i9, h⟩ := h
        refine r_bast (pc := 38) C dX9_putBytes_38 o_a7 i9 ?_
        refine r_heap (fun S11 eS11 => ?_)
        have h := h S11 eS11
        have o_a5 := ob_I eS11 o_a5
        have o_a7 := ob_I eS11 o_a7
        have o_v0 := ob_I eS11 o_v0
        refine r_aload_n (pc := 39) C dX9_putBytes_39 0 rfl ?_
        refine r_dup (pc := 40) C dX9_putBytes_40 rfl ?_
        refine r_geti (pc := 41) C fL_X9_48 dX9_putBytes_41 o_v0 ?_
        refine r_topi (fun x12 ex12 => ?_)
        have h := h x12 ex12
        refine r_iconst (pc := 44) C (v := (1 : Int32)) dX9_putBytes_44 (by decide) ?_
        refine r_iadd (pc := 45) C dX9_putBytes_45 ?_
        refine r_topi (fun x13 ex13 => ?_)
        have h := h x13 ex13
        refine r_puti (pc := 46) C pfL_X9_48 dX9_putBytes_46 o_v0 ?_
        refine r_heap (fun S14 eS14 => ?_)
        have h := h S14 eS14
        have o_a5 := ob_I eS14 o_a5
        have o_a7 := ob_I eS14 o_a7
        have o_v0 := ob_I eS14 o_v0
        exact r_sub [0, 1, 2] rfl (T_X9_putBytes_49 C E ht hn hX3 h)
theorem T_X9_putBytes_3 {X : CX} {Q : HS → Prop} (C : Cx X cX9_putBytes RX9 3 rm_X9_putBytes) (E : ReV X rm_X9_putBytes Q) (ht : (xh X).sig.returnType = none) (hn : (xh X).name = yX9_putBytes.name) {v0 : Nat} {v1 : Int32} {v2 : Int32} {S : HS} (h : P_X9_putBytes_3 Q v0 v1 v2 S) : WS X 3 0 0 3 [(0, .ref v0), (1, .int v1), (2, .int v2)] [] S :=
  h (fun v0 v1 v2 S => WS X 3 0 0 3 [(0, .ref v0), (1, .int v1), (2, .int v2)] [] S) (fun v0 v1 v2 S hh => TB_X9_putBytes_3 C E ht hn (fun v0 v1 v2 S z => z) hh)
def P_X9_putBytes_0 (Q : HS → Prop) (v0 : Nat) (v1 : Int32) (S : HS) : Prop := P_X9_putBytes_3 Q v0 v1 (24 : Int32) S
set_option maxRecDepth 20000 in
set_option maxHeartbeats 4000000 in
theorem T_X9_putBytes_0 {X : CX} {Q : HS → Prop} (C : Cx X cX9_putBytes RX9 3 rm_X9_putBytes) (E : ReV X rm_X9_putBytes Q) (ht : (xh X).sig.returnType = none) (hn : (xh X).name = yX9_putBytes.name) {v0 : Nat} {v1 : Int32} {S : HS} (h : P_X9_putBytes_0 Q v0 v1 S) : WS X 3 0 0 0 [(0, .ref v0), (1, .int v1)] [] S := by
  refine r_bipush (pc := 0) C (v := (24 : Int32)) dX9_putBytes_0 (by decide) ?_
  refine r_istore_n (pc := 2) C dX9_putBytes_2 rfl (by decide) (lv' := [(2, .int (24 : Int32)), (0, .ref v0), (1, .int v1)]) rfl ?_
  exact r_sub [1, 2, 0] rfl (T_X9_putBytes_3 C E ht hn h)
def P_X9_putBytes (v0 : Nat) (v1 : Int32) (Q : HS → Prop) (S : HS) : Prop := P_X9_putBytes_0 Q v0 v1 S
theorem c_X9_putBytes {l : Launch} {Ee : EE} {S : HS} {v0 : Nat} {v1 : Int32} {Q : HS → Prop} (h : P_X9_putBytes v0 v1 Q S) : MV l yX9_putBytes cX9_putBytes 3 none rm_X9_putBytes Ee S [.ref v0, .int v1] Q :=
  openV (by decide) (Nat.le_of_ble_eq_true rfl) (fun X C E ht hn hE hl => by subst hE; exact r_sub [0, 1] rfl (T_X9_putBytes_0 C E ht hn h))
def rm_X9_feed : Room := { frames := 1, cells := 0, slots := 0, locals := 22 }
def P_X9_feed_0 (Q : Int32 → HS → Prop) (v0 : Nat) (v1 : Int32) (v2 : Int32) (v3 : Int32) (v4 : Int32) (v5 : Int32) (S : HS) : Prop := ob S v0 9 ∧ (∀ x1 : Int32, x1 = fI S v0 1 → ((((x1 + (20 : Int32)) ≤ (900 : Int32)) → (P_X9_putBytes v0 v1 (fun S3 => Gr S S3 → (P_X9_putBytes v0 v2 (fun S6 => Gr S3 S6 → (P_X9_putBytes v0 v3 (fun S9 => Gr S6 S9 → (P_X9_putBytes v0 v4 (fun S12 => Gr S9 S12 → (P_X9_putBytes v0 v5 (fun S15 => Gr S12 S15 → (∀ x18 : Int32, x18 = fI S15 v0 1 → (Q x18 S15))) S12)) S9)) S6)) S3)) S)) ∧ ((¬ (x1 + (20 : Int32)) ≤ (900 : Int32)) → (Q (-1 : Int32) S))))
set_option maxRecDepth 20000 in
set_option maxHeartbeats 4000000 in
theorem T_X9_feed_0 {X : CX} {Q : Int32 → HS → Prop} (C : Cx X cX9_feed RX9 6 rm_X9_feed) (E : ReI X rm_X9_feed Q) (ht : (xh X).sig.returnType = (some .int)) (hn : (xh X).name = yX9_feed.name) {v0 : Nat} {v1 : Int32} {v2 : Int32} {v3 : Int32} {v4 : Int32} {v5 : Int32} {S : HS} (h : P_X9_feed_0 Q v0 v1 v2 v3 v4 v5 S) : WS X 6 0 0 0 [(0, .ref v0), (1, .int v1), (2, .int v2), (3, .int v3), (4, .int v4), (5, .int v5)] [] S := by
  refine r_aload_n (pc := 0) C dX9_feed_0 0 rfl ?_
  obtain ⟨o_v0, h⟩ := h
  refine r_geti (pc := 1) C fL_X9_48 dX9_feed_1 o_v0 ?_
  refine r_topi (fun x1 ex1 => ?_)
  have h := h x1 ex1
  refine r_bipush (pc := 4) C (v := (20 : Int32)) dX9_feed_4 (by decide) ?_
  refine r_iadd (pc := 6) C dX9_feed_6 ?_
  refine r_sipush (pc := 7) C (v := (900 : Int32)) dX9_feed_7 (by decide) ?_
  refine r_icmp_le (pc := 10) C (tgt := 15) dX9_feed_10 (by decide) (fun c2 => ?_) (fun c2 => ?_)
  · have h := h.1 c2
    refine r_aload_n (pc := 15) C dX9_feed_15 0 rfl ?_
    refine r_iload_n (pc := 16) C dX9_feed_16 1 rfl ?_
    refine r_callVv0 (pc := 17) C (rest := []) (a := v0) o_v0 [.int v1] yV_X9_putBytes g_422 (c_X9_putBytes h) dX9_feed_17 rfl rfl (Nat.le_of_ble_eq_true rfl) ⟨by decide, by decide⟩ ⟨by decide, by decide⟩ ⟨rfl, rfl⟩ (fun S3 h g4 => ?_)
    have h := h g4
    have o_v0 := gr_ob g4 o_v0
    refine r_aload_n (pc := 20) C dX9_feed_20 0 rfl ?_
    refine r_iload_n (pc := 21) C dX9_feed_21 2 rfl ?_
    refine r_callVv0 (pc := 22) C (rest := []) (a := v0) o_v0 [.int v2] yV_X9_putBytes g_422 (c_X9_putBytes h) dX9_feed_22 rfl rfl (Nat.le_of_ble_eq_true rfl) ⟨by decide, by decide⟩ ⟨by decide, by decide⟩ ⟨rfl, rfl⟩ (fun S6 h g7 => ?_)
    have h := h g7
    have o_v0 := gr_ob g7 o_v0
    refine r_aload_n (pc := 25) C dX9_feed_25 0 rfl ?_
    refine r_iload_n (pc := 26) C dX9_feed_26 3 rfl ?_
    refine r_callVv0 (pc := 27) C (rest := []) (a := v0) o_v0 [.int v3] yV_X9_putBytes g_422 (c_X9_putBytes h) dX9_feed_27 rfl rfl (Nat.le_of_ble_eq_true rfl) ⟨by decide, by decide⟩ ⟨by decide, by decide⟩ ⟨rfl, rfl⟩ (fun S9 h g10 => ?_)
    have h := h g10
    have o_v0 := gr_ob g10 o_v0
    refine r_aload_n (pc := 30) C dX9_feed_30 0 rfl ?_
    refine r_iload (pc := 31) C dX9_feed_31 4 rfl ?_
    refine r_callVv0 (pc := 33) C (rest := []) (a := v0) o_v0 [.int v4] yV_X9_putBytes g_422 (c_X9_putBytes h) dX9_feed_33 rfl rfl (Nat.le_of_ble_eq_true rfl) ⟨by decide, by decide⟩ ⟨by decide, by decide⟩ ⟨rfl, rfl⟩ (fun S12 h g13 => ?_)
    have h := h g13
    have o_v0 := gr_ob g13 o_v0
    refine r_aload_n (pc := 36) C dX9_feed_36 0 rfl ?_
    refine r_iload (pc := 37) C dX9_feed_37 5 rfl ?_
    refine r_callVv0 (pc := 39) C (rest := []) (a := v0) o_v0 [.int v5] yV_X9_putBytes g_422 (c_X9_putBytes h) dX9_feed_39 rfl rfl (Nat.le_of_ble_eq_true rfl) ⟨by decide, by decide⟩ ⟨by decide, by decide⟩ ⟨rfl, rfl⟩ (fun S15 h g16 => ?_)
    have h := h g16
    have o_v0 := gr_ob g16 o_v0
    refine r_aload_n (pc := 42) C dX9_feed_42 0 rfl ?_
    refine r_geti (pc := 43) C fL_X9_48 dX9_feed_43 o_v0 ?_
    refine r_topi (fun x18 ex18 => ?_)
    have h := h x18 ex18
    exact r_iret (pc := 46) C E ht dX9_feed_46 (by decide) (by decide) h
  · have h := h.2 c2
    refine r_iconst (pc := 13) C (v := (-1 : Int32)) dX9_feed_13 (by decide) ?_
    exact r_iret (pc := 14) C E ht dX9_feed_14 (by decide) (by decide) h
def P_X9_feed (v0 : Nat) (v1 : Int32) (v2 : Int32) (v3 : Int32) (v4 : Int32) (v5 : Int32) (Q : Int32 → HS → Prop) (S : HS) : Prop := P_X9_feed_0 Q v0 v1 v2 v3 v4 v5 S
theorem c_X9_feed {l : Launch} {Ee : EE} {S : HS} {v0 : Nat} {v1 : Int32} {v2 : Int32} {v3 : Int32} {v4 : Int32} {v5 : Int32} {Q : Int32 → HS → Prop} (h : P_X9_feed v0 v1 v2 v3 v4 v5 Q S) : MI l yX9_feed cX9_feed 6 (some .int) rm_X9_feed Ee S [.ref v0, .int v1, .int v2, .int v3, .int v4, .int v5] Q :=
  openI (by decide) (Nat.le_of_ble_eq_true rfl) (fun X C E ht hn hE hl => by subst hE; exact r_sub [0, 1, 2, 3, 4, 5] rfl (T_X9_feed_0 C E ht hn h))
def rm_X9_leeTrouble : Room := { frames := 3, cells := 0, slots := 0, locals := 72 }
def P_X9_leeTrouble_0 (Q : Int32 → HS → Prop) (v0 : Nat) (v1 : Int32) (v2 : Int32) (v3 : Int32) (v4 : Int32) (v5 : Int32) (v6 : Int32) (S : HS) : Prop := ((v1 = v2) → (Q (1 : Int32) S)) ∧ ((¬ v1 = v2) → (ob S v0 9 ∧ (∃ a2 : Nat, fR S v0 2 = some a2 ∧ (ob S a2 8 ∧ (P_X8_hasWalker a2 v1 (fun x5 S3 => Gr S S3 → bl x5 → (((x5 = 0) → (Q (1 : Int32) S3)) ∧ ((¬ x5 = 0) → (∃ a7 : Nat, fR S3 v0 2 = some a7 ∧ (ob S3 a7 8 ∧ (P_X8_hasWalker a7 v2 (fun x10 S8 => Gr S3 S8 → bl x10 → (((¬ x10 = 0) → (P_X9_legTrouble v0 v1 v3 v4 v5 v6 (fun x14 S12 => Gr S8 S12 → (((x14 = 0) → (∃ a16 : Nat, fR S12 v0 2 = some a16 ∧ (ob S12 a16 8 ∧ (∃ a17 : Nat, fR S12 a16 9 = some a17 ∧ (ob S12 a17 19 ∧ (vp_in v2 (hN S12 a17) ∧ ∃ a19 : Nat, fR S12 a17 v2.toNatClampNeg = some a19 ∧ (ob S12 a19 6 ∧ (P_X6_canGo a19 v6 (fun x22 S20 => Gr S12 S20 → bl x22 → (((x22 = 0) → (Q (2 : Int32) S20)) ∧ ((¬ x22 = 0) → (Q (0 : Int32) S20)))) S12)))))))) ∧ ((¬ x14 = 0) → (Q x14 S12)))) S8)) ∧ ((x10 = 0) → (Q (1 : Int32) S8)))) S3)))))) S)))))
set_option maxRecDepth 20000 in
set_option maxHeartbeats 4000000 in
theorem T_X9_leeTrouble_0 {X : CX} {Q : Int32 → HS → Prop} (C : Cx X cX9_leeTrouble RX9 8 rm_X9_leeTrouble) (E : ReI X rm_X9_leeTrouble Q) (ht : (xh X).sig.returnType = (some .int)) (hn : (xh X).name = yX9_leeTrouble.name) {v0 : Nat} {v1 : Int32} {v2 : Int32} {v3 : Int32} {v4 : Int32} {v5 : Int32} {v6 : Int32} {S : HS} (h : P_X9_leeTrouble_0 Q v0 v1 v2 v3 v4 v5 v6 S) : WS X 8 0 0 0 [(0, .ref v0), (1, .int v1), (2, .int v2), (3, .int v3), (4, .int v4), (5, .int v5), (6, .int v6)] [] S := by
  refine r_iload_n (pc := 0) C dX9_leeTrouble_0 1 rfl ?_
  refine r_iload_n (pc := 1) C dX9_leeTrouble_1 2 rfl ?_
  refine r_icmp_eq (pc := 2) C (tgt := 27) dX9_leeTrouble_2 (by decide) (fun c1 => ?_) (fun c1 => ?_)
  · have h := h.1 c1
    refine r_iconst (pc := 27) C (v := (1 : Int32)) dX9_leeTrouble_27 (by decide) ?_
    exact r_iret (pc := 28) C E ht dX9_leeTrouble_28 (by decide) (by decide) h
  · have h := h.2 c1
    refine r_aload_n (pc := 5) C dX9_leeTrouble_5 0 rfl ?_
    obtain ⟨o_v0, h⟩ := h
    obtain ⟨a2, ea2, h⟩ := h
    refine r_getr (pc := 6) C fL_X9_16 dX9_leeTrouble_6 o_v0 ea2 ?_
    refine r_iload_n (pc := 9) C dX9_leeTrouble_9 1 rfl ?_
    obtain ⟨o_a2, h⟩ := h
    refine r_callVi0 (pc := 10) C (rest := []) (a := a2) o_a2 [.int v1] yV_X8_hasWalker g_664 (c_X8_hasWalker h) dX9_leeTrouble_10 rfl rfl (Nat.le_of_ble_eq_true rfl) ⟨by decide, by decide⟩ ⟨by decide, by decide⟩ ⟨rfl, rfl⟩ (fun x5 S3 h g4 => ?_)
    have bx5 := h.1
    have h := h.2 g4 bx5
    have o_a2 := gr_ob g4 o_a2
    have o_v0 := gr_ob g4 o_v0
    refine r_if_eq (pc := 13) C (tgt := 27) dX9_leeTrouble_13 (by decide) (fun c6 => ?_) (fun c6 => ?_)
    · have h := h.1 c6
      refine r_iconst (pc := 27) C (v := (1 : Int32)) dX9_leeTrouble_27 (by decide) ?_
      exact r_iret (pc := 28) C E ht dX9_leeTrouble_28 (by decide) (by decide) h
    · have h := h.2 c6
      refine r_aload_n (pc := 16) C dX9_leeTrouble_16 0 rfl ?_
      obtain ⟨a7, ea7, h⟩ := h
      refine r_getr (pc := 17) C fL_X9_16 dX9_leeTrouble_17 o_v0 ea7 ?_
      refine r_iload_n (pc := 20) C dX9_leeTrouble_20 2 rfl ?_
      obtain ⟨o_a7, h⟩ := h
      refine r_callVi0 (pc := 21) C (rest := []) (a := a7) o_a7 [.int v2] yV_X8_hasWalker g_664 (c_X8_hasWalker h) dX9_leeTrouble_21 rfl rfl (Nat.le_of_ble_eq_true rfl) ⟨by decide, by decide⟩ ⟨by decide, by decide⟩ ⟨rfl, rfl⟩ (fun x10 S8 h g9 => ?_)
      have bx10 := h.1
      have h := h.2 g9 bx10
      have o_a2 := gr_ob g9 o_a2
      have o_a7 := gr_ob g9 o_a7
      have o_v0 := gr_ob g9 o_v0
      refine r_if_ne (pc := 24) C (tgt := 29) dX9_leeTrouble_24 (by decide) (fun c11 => ?_) (fun c11 => ?_)
      · have h := h.1 c11
        refine r_aload_n (pc := 29) C dX9_leeTrouble_29 0 rfl ?_
        refine r_iload_n (pc := 30) C dX9_leeTrouble_30 1 rfl ?_
        refine r_iload_n (pc := 31) C dX9_leeTrouble_31 3 rfl ?_
        refine r_iload (pc := 32) C dX9_leeTrouble_32 4 rfl ?_
        refine r_iload (pc := 34) C dX9_leeTrouble_34 5 rfl ?_
        refine r_iload (pc := 36) C dX9_leeTrouble_36 6 rfl ?_
        refine r_callVi0 (pc := 38) C (rest := []) (a := v0) o_v0 [.int v1, .int v3, .int v4, .int v5, .int v6] yV_X9_legTrouble g_656 (c_X9_legTrouble h) dX9_leeTrouble_38 rfl rfl (Nat.le_of_ble_eq_true rfl) ⟨by decide, by decide⟩ ⟨by decide, by decide⟩ ⟨rfl, rfl⟩ (fun x14 S12 h g13 => ?_)
        have h := h g13
        have o_a2 := gr_ob g13 o_a2
        have o_a7 := gr_ob g13 o_a7
        have o_v0 := gr_ob g13 o_v0
        refine r_istore (pc := 41) C dX9_leeTrouble_41 (by decide) (lv' := [(7, .int x14), (0, .ref v0), (1, .int v1), (2, .int v2), (3, .int v3), (4, .int v4), (5, .int v5), (6, .int v6)]) rfl ?_
        refine r_iload (pc := 43) C dX9_leeTrouble_43 0 rfl ?_
        refine r_if_eq (pc := 45) C (tgt := 51) dX9_leeTrouble_45 (by decide) (fun c15 => ?_) (fun c15 => ?_)
        · have h := h.1 c15
          refine r_aload_n (pc := 51) C dX9_leeTrouble_51 1 rfl ?_
          obtain ⟨a16, ea16, h⟩ := h
          refine r_getr (pc := 52) C fL_X9_16 dX9_leeTrouble_52 o_v0 ea16 ?_
          obtain ⟨o_a16, h⟩ := h
          obtain ⟨a17, ea17, h⟩ := h
          refine r_getr (pc := 55) C fL_X9_108 dX9_leeTrouble_55 o_a16 ea17 ?_
          refine r_iload_n (pc := 58) C dX9_leeTrouble_58 3 rfl ?_
          obtain ⟨o_a17, h⟩ := h
          obtain ⟨i18, a19, ea19, h⟩ := h
          refine r_aald19 (pc := 59) C dX9_leeTrouble_59 o_a17 i18 ea19 ?_
          refine r_iload (pc := 60) C dX9_leeTrouble_60 7 rfl ?_
          obtain ⟨o_a19, h⟩ := h
          refine r_callVi0 (pc := 62) C (rest := []) (a := a19) o_a19 [.int v6] yV_X6_canGo g_679 (c_X6_canGo h) dX9_leeTrouble_62 rfl rfl (Nat.le_of_ble_eq_true rfl) ⟨by decide, by decide⟩ ⟨by decide, by decide⟩ ⟨rfl, rfl⟩ (fun x22 S20 h g21 => ?_)
          have bx22 := h.1
          have h := h.2 g21 bx22
          have o_a16 := gr_ob g21 o_a16
          have o_a17 := gr_ob g21 o_a17
          have o_a19 := gr_ob g21 o_a19
          have o_a2 := gr_ob g21 o_a2
          have o_a7 := gr_ob g21 o_a7
          have o_v0 := gr_ob g21 o_v0
          refine r_if_eq (pc := 65) C (tgt := 72) dX9_leeTrouble_65 (by decide) (fun c23 => ?_) (fun c23 => ?_)
          · have h := h.1 c23
            refine r_iconst (pc := 72) C (v := (2 : Int32)) dX9_leeTrouble_72 (by decide) ?_
            exact r_iret (pc := 73) C E ht dX9_leeTrouble_73 (by decide) (by decide) h
          · have h := h.2 c23
            refine r_iconst (pc := 68) C (v := (0 : Int32)) dX9_leeTrouble_68 (by decide) ?_
            refine r_goto (pc := 69) C (tgt := 73) dX9_leeTrouble_69 (by decide) ?_
            exact r_iret (pc := 73) C E ht dX9_leeTrouble_73 (by decide) (by decide) h
        · have h := h.2 c15
          refine r_iload (pc := 48) C dX9_leeTrouble_48 0 rfl ?_
          exact r_iret (pc := 50) C E ht dX9_leeTrouble_50 (by decide) (by decide) h
      · have h := h.2 c11
        refine r_iconst (pc := 27) C (v := (1 : Int32)) dX9_leeTrouble_27 (by decide) ?_
        exact r_iret (pc := 28) C E ht dX9_leeTrouble_28 (by decide) (by decide) h
def P_X9_leeTrouble (v0 : Nat) (v1 : Int32) (v2 : Int32) (v3 : Int32) (v4 : Int32) (v5 : Int32) (v6 : Int32) (Q : Int32 → HS → Prop) (S : HS) : Prop := P_X9_leeTrouble_0 Q v0 v1 v2 v3 v4 v5 v6 S
theorem c_X9_leeTrouble {l : Launch} {Ee : EE} {S : HS} {v0 : Nat} {v1 : Int32} {v2 : Int32} {v3 : Int32} {v4 : Int32} {v5 : Int32} {v6 : Int32} {Q : Int32 → HS → Prop} (h : P_X9_leeTrouble v0 v1 v2 v3 v4 v5 v6 Q S) : MI l yX9_leeTrouble cX9_leeTrouble 8 (some .int) rm_X9_leeTrouble Ee S [.ref v0, .int v1, .int v2, .int v3, .int v4, .int v5, .int v6] Q :=
  openI (by decide) (Nat.le_of_ble_eq_true rfl) (fun X C E ht hn hE hl => by subst hE; exact r_sub [0, 1, 2, 3, 4, 5, 6] rfl (T_X9_leeTrouble_0 C E ht hn h))
