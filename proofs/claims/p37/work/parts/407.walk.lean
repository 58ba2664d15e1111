def rm_X11_round : Room := { frames := 8, cells := 0, slots := 0, locals := 213 }
def P_X11_round_29 (Q : Int64 → HS → Prop) (v0 : Nat) (S : HS) : Prop := ob S v0 11 ∧ (P_X11_refused v0 (1 : Int32) (fun x3 S1 => Gr S S1 → (Q x3.toInt64 S1)) S)
set_option maxRecDepth 20000 in
set_option maxHeartbeats 4000000 in
theorem T_X11_round_29 {X : CX} {Q : Int64 → HS → Prop} (C : Cx X cX11_round RX11 5 rm_X11_round) (E : ReJ X rm_X11_round Q) (ht : (xh X).sig.returnType = (some .long)) (hn : (xh X).name = yX11_round.name) {v0 : Nat} {S : HS} (h : P_X11_round_29 Q v0 S) : WS X 5 0 0 29 [(0, .ref v0)] [] S := by
  refine r_aload_n (pc := 29) C dX11_round_29 0 rfl ?_
  refine r_iconst (pc := 30) C (v := (1 : Int32)) dX11_round_30 (by decide) ?_
  obtain ⟨o_v0, h⟩ := h
  refine r_callVi0 (pc := 31) C (rest := []) (a := v0) o_v0 [.int (1 : Int32)] yV_X11_refused g_1250 (c_X11_refused h) dX11_round_31 rfl rfl (Nat.le_of_ble_eq_true rfl) ⟨by decide, by decide⟩ ⟨by decide, by decide⟩ ⟨rfl, rfl⟩ (fun x3 S1 h g2 => ?_)
  have h := h g2
  have o_v0 := gr_ob g2 o_v0
  refine r_i2l (pc := 34) C dX11_round_34 ?_
  exact r_lret (pc := 35) C E ht dX11_round_35 (by decide) (by decide) h
def P_X11_round_0 (Q : Int64 → HS → Prop) (v0 : Nat) (v1 : Int32) (v2 : Int32) (v3 : Int32) (v4 : Int32) (S : HS) : Prop := ob S v0 11 ∧ (∀ S1 : HS, S1 = sI S v0 0 (0 : Int32) → (P_X11_isWalker v0 v1 (fun x4 S2 => Gr S1 S2 → bl x4 → (((x4 = 0) → (P_X11_round_29 Q v0 S2)) ∧ ((¬ x4 = 0) → (P_X11_isRoad v0 v2 (fun x8 S6 => Gr S2 S6 → bl x8 → (((x8 = 0) → (P_X11_round_29 Q v0 S6)) ∧ ((¬ x8 = 0) → (P_X11_isHour v0 v3 (fun x12 S10 => Gr S6 S10 → bl x12 → (((¬ x12 = 0) → (P_X11_wetAtBest v0 v1 v2 (0 : Int32) v3 (fun x16 S14 => Gr S10 S14 → (P_X11_wetAtBest v0 v1 v2 (1 : Int32) v3 (fun x19 S17 => Gr S14 S17 → (P_X11_told v0 (x16 + x19) (2520 : Int64) v4 (fun x22 S20 => Gr S17 S20 → (Q x22 S20)) S17)) S14)) S10)) ∧ ((x12 = 0) → (P_X11_round_29 Q v0 S10)))) S6)))) S2)))) S1))
set_option maxRecDepth 20000 in
set_option maxHeartbeats 4000000 in
theorem T_X11_round_0 {X : CX} {Q : Int64 → HS → Prop} (C : Cx X cX11_round RX11 5 rm_X11_round) (E : ReJ X rm_X11_round Q) (ht : (xh X).sig.returnType = (some .long)) (hn : (xh X).name = yX11_round.name) {v0 : Nat} {v1 : Int32} {v2 : Int32} {v3 : Int32} {v4 : Int32} {S : HS} (h : P_X11_round_0 Q v0 v1 v2 v3 v4 S) : WS X 5 0 0 0 [(0, .ref v0), (1, .int v1), (2, .int v2), (3, .int v3), (4, .int v4)] [] S := by
  refine r_aload_n (pc := 0) C dX11_round_0 0 rfl ?_
  refine r_iconst (pc := 1) C (v := (0 : Int32)) dX11_round_1 (by decide) ?_
  obtain ⟨o_v0, h⟩ := h
  refine r_puti (pc := 2) C pfL_X11_40 dX11_round_2 o_v0 ?_
  refine r_heap (fun S1 eS1 => ?_)
  have h := h S1 eS1
  have o_v0 := ob_I eS1 o_v0
  refine r_aload_n (pc := 5) C dX11_round_5 0 rfl ?_
  refine r_iload_n (pc := 6) C dX11_round_6 1 rfl ?_
  refine r_callVi0 (pc := 7) C (rest := []) (a := v0) o_v0 [.int v1] yV_X11_isWalker g_1538 (c_X11_isWalker h) dX11_round_7 rfl rfl (Nat.le_of_ble_eq_true rfl) ⟨by decide, by decide⟩ ⟨by decide, by decide⟩ ⟨rfl, rfl⟩ (fun x4 S2 h g3 => ?_)
  have bx4 := h.1
  have h := h.2 g3 bx4
  have o_v0 := gr_ob g3 o_v0
  refine r_if_eq (pc := 10) C (tgt := 29) dX11_round_10 (by decide) (fun c5 => ?_) (fun c5 => ?_)
  · have h := h.1 c5
    exact r_sub [0] rfl (T_X11_round_29 C E ht hn h)
  · have h := h.2 c5
    refine r_aload_n (pc := 13) C dX11_round_13 0 rfl ?_
    refine r_iload_n (pc := 14) C dX11_round_14 2 rfl ?_
    refine r_callVi0 (pc := 15) C (rest := []) (a := v0) o_v0 [.int v2] yV_X11_isRoad g_1542 (c_X11_isRoad h) dX11_round_15 rfl rfl (Nat.le_of_ble_eq_true rfl) ⟨by decide, by decide⟩ ⟨by decide, by decide⟩ ⟨rfl, rfl⟩ (fun x8 S6 h g7 => ?_)
    have bx8 := h.1
    have h := h.2 g7 bx8
    have o_v0 := gr_ob g7 o_v0
    refine r_if_eq (pc := 18) C (tgt := 29) dX11_round_18 (by decide) (fun c9 => ?_) (fun c9 => ?_)
    · have h := h.1 c9
      exact r_sub [0] rfl (T_X11_round_29 C E ht hn h)
    · have h := h.2 c9
      refine r_aload_n (pc := 21) C dX11_round_21 0 rfl ?_
      refine r_iload_n (pc := 22) C dX11_round_22 3 rfl ?_
      refine r_callVi0 (pc := 23) C (rest := []) (a := v0) o_v0 [.int v3] yV_X11_isHour g_1546 (c_X11_isHour h) dX11_round_23 rfl rfl (Nat.le_of_ble_eq_true rfl) ⟨by decide, by decide⟩ ⟨by decide, by decide⟩ ⟨rfl, rfl⟩ (fun x12 S10 h g11 => ?_)
      have bx12 := h.1
      have h := h.2 g11 bx12
      have o_v0 := gr_ob g11 o_v0
      refine r_if_ne (pc := 26) C (tgt := 36) dX11_round_26 (by decide) (fun c13 => ?_) (fun c13 => ?_)
      · have h := h.1 c13
        refine r_aload_n (pc := 36) C dX11_round_36 0 rfl ?_
        refine r_aload_n (pc := 37) C dX11_round_37 0 rfl ?_
        refine r_iload_n (pc := 38) C dX11_round_38 1 rfl ?_
        refine r_iload_n (pc := 39) C dX11_round_39 2 rfl ?_
        refine r_iconst (pc := 40) C (v := (0 : Int32)) dX11_round_40 (by decide) ?_
        refine r_iload_n (pc := 41) C dX11_round_41 3 rfl ?_
        refine r_callVl0 (pc := 42) C (rest := [.ref v0]) (a := v0) o_v0 [.int v1, .int v2, .int (0 : Int32), .int v3] yV_X11_wetAtBest g_1647 (c_X11_wetAtBest h) dX11_round_42 rfl rfl (Nat.le_of_ble_eq_true rfl) ⟨by decide, by decide⟩ ⟨by decide, by decide⟩ ⟨rfl, rfl⟩ (fun x16 S14 h g15 => ?_)
        have h := h g15
        have o_v0 := gr_ob g15 o_v0
        refine r_aload_n (pc := 45) C dX11_round_45 0 rfl ?_
        refine r_iload_n (pc := 46) C dX11_round_46 1 rfl ?_
        refine r_iload_n (pc := 47) C dX11_round_47 2 rfl ?_
        refine r_iconst (pc := 48) C (v := (1 : Int32)) dX11_round_48 (by decide) ?_
        refine r_iload_n (pc := 49) C dX11_round_49 3 rfl ?_
        refine r_callVl0 (pc := 50) C (rest := [.long x16, .ref v0]) (a := v0) o_v0 [.int v1, .int v2, .int (1 : Int32), .int v3] yV_X11_wetAtBest g_1647 (c_X11_wetAtBest h) dX11_round_50 rfl rfl (Nat.le_of_ble_eq_true rfl) ⟨by decide, by decide⟩ ⟨by decide, by decide⟩ ⟨rfl, rfl⟩ (fun x19 S17 h g18 => ?_)
        have h := h g18
        have o_v0 := gr_ob g18 o_v0
        refine r_ladd (pc := 53) C dX11_round_53 ?_
        refine r_ldc2 (pc := 54) C (v := (2520 : Int64)) dX11_round_54 g_1585 ?_
        refine r_iload (pc := 57) C dX11_round_57 4 rfl ?_
        refine r_callVl0 (pc := 59) C (rest := []) (a := v0) o_v0 [.long (x16 + x19), .long (2520 : Int64), .int v4] yV_X11_told g_1586 (c_X11_told h) dX11_round_59 rfl rfl (Nat.le_of_ble_eq_true rfl) ⟨by decide, by decide⟩ ⟨by decide, by decide⟩ ⟨rfl, rfl⟩ (fun x22 S20 h g21 => ?_)
        have h := h g21
        have o_v0 := gr_ob g21 o_v0
        exact r_lret (pc := 62) C E ht dX11_round_62 (by decide) (by decide) h
      · have h := h.2 c13
        exact r_sub [0] rfl (T_X11_round_29 C E ht hn h)
def P_X11_round (v0 : Nat) (v1 : Int32) (v2 : Int32) (v3 : Int32) (v4 : Int32) (Q : Int64 → HS → Prop) (S : HS) : Prop := P_X11_round_0 Q v0 v1 v2 v3 v4 S
theorem c_X11_round {l : Launch} {Ee : EE} {S : HS} {v0 : Nat} {v1 : Int32} {v2 : Int32} {v3 : Int32} {v4 : Int32} {Q : Int64 → HS → Prop} (h : P_X11_round v0 v1 v2 v3 v4 Q S) : MJ l yX11_round cX11_round 5 (some .long) rm_X11_round Ee S [.ref v0, .int v1, .int v2, .int v3, .int v4] Q :=
  openJ (by decide) (Nat.le_of_ble_eq_true rfl) (fun X C E ht hn hE hl => by subst hE; exact r_sub [0, 1, 2, 3, 4] rfl (T_X11_round_0 C E ht hn h))
def rm_X11_saves : Room := { frames := 7, cells := 0, slots := 0, locals := 189 }
def P_X11_saves_39 (Q : Int64 → HS → Prop) (v0 : Nat) (S : HS) : Prop := ob S v0 11 ∧ (P_X11_refused v0 (1 : Int32) (fun x3 S1 => Gr S S1 → (Q x3.toInt64 S1)) S)
set_option maxRecDepth 20000 in
set_option maxHeartbeats 4000000 in
theorem T_X11_saves_39 {X : CX} {Q : Int64 → HS → Prop} (C : Cx X cX11_saves RX11 6 rm_X11_saves) (E : ReJ X rm_X11_saves Q) (ht : (xh X).sig.returnType = (some .long)) (hn : (xh X).name = yX11_saves.name) {v0 : Nat} {S : HS} (h : P_X11_saves_39 Q v0 S) : WS X 6 0 0 39 [(0, .ref v0)] [] S := by
  refine r_aload_n (pc := 39) C dX11_saves_39 0 rfl ?_
  refine r_iconst (pc := 40) C (v := (1 : Int32)) dX11_saves_40 (by decide) ?_
  obtain ⟨o_v0, h⟩ := h
  refine r_callVi0 (pc := 41) C (rest := []) (a := v0) o_v0 [.int (1 : Int32)] yV_X11_refused g_1250 (c_X11_refused h) dX11_saves_41 rfl rfl (Nat.le_of_ble_eq_true rfl) ⟨by decide, by decide⟩ ⟨by decide, by decide⟩ ⟨rfl, rfl⟩ (fun x3 S1 h g2 => ?_)
  have h := h g2
  have o_v0 := gr_ob g2 o_v0
  refine r_i2l (pc := 44) C dX11_saves_44 ?_
  exact r_lret (pc := 45) C E ht dX11_saves_45 (by decide) (by decide) h
def P_X11_saves_0 (Q : Int64 → HS → Prop) (v0 : Nat) (v1 : Int32) (v2 : Int32) (v3 : Int32) (v4 : Int32) (v5 : Int32) (S : HS) : Prop := ob S v0 11 ∧ (∀ S1 : HS, S1 = sI S v0 0 (0 : Int32) → (P_X11_isWalker v0 v1 (fun x4 S2 => Gr S1 S2 → bl x4 → (((x4 = 0) → (P_X11_saves_39 Q v0 S2)) ∧ ((¬ x4 = 0) → (P_X11_isRoad v0 v2 (fun x8 S6 => Gr S2 S6 → bl x8 → (((x8 = 0) → (P_X11_saves_39 Q v0 S6)) ∧ ((¬ x8 = 0) → (P_X11_in v3 (0 : Int32) (1 : Int32) (fun x12 S10 => Gr S6 S10 → bl x12 → (((x12 = 0) → (P_X11_saves_39 Q v0 S10)) ∧ ((¬ x12 = 0) → (P_X11_isHour v0 v4 (fun x16 S14 => Gr S10 S14 → bl x16 → (((¬ x16 = 0) → (∃ a18 : Nat, fR S14 v0 3 = some a18 ∧ (ob S14 a18 10 ∧ (∃ a19 : Nat, fR S14 a18 24 = some a19 ∧ (ob S14 a19 13 ∧ (vp_in v1 (hN S14 a19) ∧ ∀ x21 : Int32, x21 = fI S14 a19 v1.toNatClampNeg → (P_X11_wetOf v0 v1 v2 v3 v4 x21 (fun x24 S22 => Gr S14 S22 → (P_X11_bestOf v0 v1 v2 v3 v4 (fun x27 S25 => Gr S22 S25 → (P_X11_wetOf v0 v1 v2 v3 v4 x27 (fun x30 S28 => Gr S25 S28 → (P_X11_told v0 (x24 - x30) (2520 : Int64) v5 (fun x33 S31 => Gr S28 S31 → (Q x33 S31)) S28)) S25)) S22)) S14))))))) ∧ ((x16 = 0) → (P_X11_saves_39 Q v0 S14)))) S10)))) S6)))) S2)))) S1))
set_option maxRecDepth 20000 in
set_option maxHeartbeats 4000000 in
theorem T_X11_saves_0 {X : CX} {Q : Int64 → HS → Prop} (C : Cx X cX11_saves RX11 6 rm_X11_saves) (E : ReJ X rm_X11_saves Q) (ht : (xh X).sig.returnType = (some .long)) (hn : (xh X).name = yX11_saves.name) {v0 : Nat} {v1 : Int32} {v2 : Int32} {v3 : Int32} {v4 : Int32} {v5 : Int32} {S : HS} (h : P_X11_saves_0 Q v0 v1 v2 v3 v4 v5 S) : WS X 6 0 0 0 [(0, .ref v0), (1, .int v1), (2, .int v2), (3, .int v3), (4, .int v4), (5, .int v5)] [] S := by
  refine r_aload_n (pc := 0) C dX11_saves_0 0 rfl ?_
  refine r_iconst (pc := 1) C (v := (0 : Int32)) dX11_saves_1 (by decide) ?_
  obtain ⟨o_v0, h⟩ := h
  refine r_puti (pc := 2) C pfL_X11_40 dX11_saves_2 o_v0 ?_
  refine r_heap (fun S1 eS1 => ?_)
  have h := h S1 eS1
  have o_v0 := ob_I eS1 o_v0
  refine r_aload_n (pc := 5) C dX11_saves_5 0 rfl ?_
  refine r_iload_n (pc := 6) C dX11_saves_6 1 rfl ?_
  refine r_callVi0 (pc := 7) C (rest := []) (a := v0) o_v0 [.int v1] yV_X11_isWalker g_1538 (c_X11_isWalker h) dX11_saves_7 rfl rfl (Nat.le_of_ble_eq_true rfl) ⟨by decide, by decide⟩ ⟨by decide, by decide⟩ ⟨rfl, rfl⟩ (fun x4 S2 h g3 => ?_)
  have bx4 := h.1
  have h := h.2 g3 bx4
  have o_v0 := gr_ob g3 o_v0
  refine r_if_eq (pc := 10) C (tgt := 39) dX11_saves_10 (by decide) (fun c5 => ?_) (fun c5 => ?_)
  · have h := h.1 c5
    exact r_sub [0] rfl (T_X11_saves_39 C E ht hn h)
  · have h := h.2 c5
    refine r_aload_n (pc := 13) C dX11_saves_13 0 rfl ?_
    refine r_iload_n (pc := 14) C dX11_saves_14 2 rfl ?_
    refine r_callVi0 (pc := 15) C (rest := []) (a := v0) o_v0 [.int v2] yV_X11_isRoad g_1542 (c_X11_isRoad h) dX11_saves_15 rfl rfl (Nat.le_of_ble_eq_true rfl) ⟨by decide, by decide⟩ ⟨by decide, by decide⟩ ⟨rfl, rfl⟩ (fun x8 S6 h g7 => ?_)
    have bx8 := h.1
    have h := h.2 g7 bx8
    have o_v0 := gr_ob g7 o_v0
    refine r_if_eq (pc := 18) C (tgt := 39) dX11_saves_18 (by decide) (fun c9 => ?_) (fun c9 => ?_)
    · have h := h.1 c9
      exact r_sub [0] rfl (T_X11_saves_39 C E ht hn h)
    · have h := h.2 c9
      refine r_iload_n (pc := 21) C dX11_saves_21 3 rfl ?_
      refine r_iconst (pc := 22) C (v := (0 : Int32)) dX11_saves_22 (by decide) ?_
      refine r_iconst (pc := 23) C (v := (1 : Int32)) dX11_saves_23 (by decide) ?_
      refine r_callSi0 (pc := 24) C (rest := []) rfl [.int v3, .int (0 : Int32), .int (1 : Int32)] yS_X11_in g_1434 (c_X11_in h) dX11_saves_24 rfl rfl (Nat.le_of_ble_eq_true rfl) ⟨by decide, by decide⟩ ⟨by decide, by decide⟩ ⟨rfl, rfl⟩ (fun x12 S10 h g11 => ?_)
      have bx12 := h.1
      have h := h.2 g11 bx12
      have o_v0 := gr_ob g11 o_v0
      refine r_if_eq (pc := 27) C (tgt := 39) dX11_saves_27 (by decide) (fun c13 => ?_) (fun c13 => ?_)
      · have h := h.1 c13
        exact r_sub [0] rfl (T_X11_saves_39 C E ht hn h)
      · have h := h.2 c13
        refine r_aload_n (pc := 30) C dX11_saves_30 0 rfl ?_
        refine r_iload (pc := 31) C dX11_saves_31 4 rfl ?_
        refine r_callVi0 (pc := 33) C (rest := []) (a := v0) o_v0 [.int v4] yV_X11_isHour g_1546 (c_X11_isHour h) dX11_saves_33 rfl rfl (Nat.le_of_ble_eq_true rfl) ⟨by decide, by decide⟩ ⟨by decide, by decide⟩ ⟨rfl, rfl⟩ (fun x16 S14 h g15 => ?_)
        have bx16 := h.1
        have h := h.2 g15 bx16
        have o_v0 := gr_ob g15 o_v0
        refine r_if_ne (pc := 36) C (tgt := 46) dX11_saves_36 (by decide) (fun c17 => ?_) (fun c17 => ?_)
        · have h := h.1 c17
          refine r_aload_n (pc := 46) C dX11_saves_46 0 rfl ?_
          refine r_aload_n (pc := 47) C dX11_saves_47 0 rfl ?_
          refine r_iload_n (pc := 48) C dX11_saves_48 1 rfl ?_
          refine r_iload_n (pc := 49) C dX11_saves_49 2 rfl ?_
          refine r_iload_n (pc := 50) C dX11_saves_50 3 rfl ?_
          refine r_iload (pc := 51) C dX11_saves_51 4 rfl ?_
          refine r_aload_n (pc := 53) C dX11_saves_53 0 rfl ?_
          obtain ⟨a18, ea18, h⟩ := h
          refine r_getr (pc := 54) C fL_X11_338 dX11_saves_54 o_v0 ea18 ?_
          obtain ⟨o_a18, h⟩ := h
          obtain ⟨a19, ea19, h⟩ := h
          refine r_getNr (pc := 57) C fN_X11_317 dX11_saves_57 o_a18 ea19 ?_
          refine r_iload_n (pc := 60) C dX11_saves_60 1 rfl ?_
          obtain ⟨o_a19, h⟩ := h
          obtain ⟨i20, h⟩ := h
          refine r_iald (pc := 61) C dX11_saves_61 o_a19 i20 ?_
          refine r_topi (fun x21 ex21 => ?_)
          have h := h x21 ex21
          refine r_callVl0 (pc := 62) C (rest := [.ref v0]) (a := v0) o_v0 [.int v1, .int v2, .int v3, .int v4, .int x21] yV_X11_wetOf g_1594 (c_X11_wetOf h) dX11_saves_62 rfl rfl (Nat.le_of_ble_eq_true rfl) ⟨by decide, by decide⟩ ⟨by decide, by decide⟩ ⟨rfl, rfl⟩ (fun x24 S22 h g23 => ?_)
          have h := h g23
          have o_a18 := gr_ob g23 o_a18
          have o_a19 := gr_ob g23 o_a19
          have o_v0 := gr_ob g23 o_v0
          refine r_aload_n (pc := 65) C dX11_saves_65 0 rfl ?_
          refine r_iload_n (pc := 66) C dX11_saves_66 1 rfl ?_
          refine r_iload_n (pc := 67) C dX11_saves_67 2 rfl ?_
          refine r_iload_n (pc := 68) C dX11_saves_68 3 rfl ?_
          refine r_iload (pc := 69) C dX11_saves_69 4 rfl ?_
          refine r_aload_n (pc := 71) C dX11_saves_71 0 rfl ?_
          refine r_iload_n (pc := 72) C dX11_saves_72 1 rfl ?_
          refine r_iload_n (pc := 73) C dX11_saves_73 2 rfl ?_
          refine r_iload_n (pc := 74) C dX11_saves_74 3 rfl ?_
          refine r_iload (pc := 75) C dX11_saves_75 4 rfl ?_
          refine r_callVi0 (pc := 77) C (rest := [.int v4, .int v3, .int v2, .int v1, .ref v0, .long x24, .ref v0]) (a := v0) o_v0 [.int v1, .int v2, .int v3, .int v4] yV_X11_bestOf g_1627 (c_X11_bestOf h) dX11_saves_77 rfl rfl (Nat.le_of_ble_eq_true rfl) ⟨by decide, by decide⟩ ⟨by decide, by decide⟩ ⟨rfl, rfl⟩ (fun x27 S25 h g26 => ?_)
          have h := h g26
          have o_a18 := gr_ob g26 o_a18
          have o_a19 := gr_ob g26 o_a19
          have o_v0 := gr_ob g26 o_v0
          refine r_callVl0 (pc := 80) C (rest := [.long x24, .ref v0]) (a := v0) o_v0 [.int v1, .int v2, .int v3, .int v4, .int x27] yV_X11_wetOf g_1594 (c_X11_wetOf h) dX11_saves_80 rfl rfl (Nat.le_of_ble_eq_true rfl) ⟨by decide, by decide⟩ ⟨by decide, by decide⟩ ⟨rfl, rfl⟩ (fun x30 S28 h g29 => ?_)
          have h := h g29
          have o_a18 := gr_ob g29 o_a18
          have o_a19 := gr_ob g29 o_a19
          have o_v0 := gr_ob g29 o_v0
          refine r_lsub (pc := 83) C dX11_saves_83 ?_
          refine r_ldc2 (pc := 84) C (v := (2520 : Int64)) dX11_saves_84 g_1585 ?_
          refine r_iload (pc := 87) C dX11_saves_87 5 rfl ?_
          refine r_callVl0 (pc := 89) C (rest := []) (a := v0) o_v0 [.long (x24 - x30), .long (2520 : Int64), .int v5] yV_X11_told g_1586 (c_X11_told h) dX11_saves_89 rfl rfl (Nat.le_of_ble_eq_true rfl) ⟨by decide, by decide⟩ ⟨by decide, by decide⟩ ⟨rfl, rfl⟩ (fun x33 S31 h g32 => ?_)
          have h := h g32
          have o_a18 := gr_ob g32 o_a18
          have o_a19 := gr_ob g32 o_a19
          have o_v0 := gr_ob g32 o_v0
          exact r_lret (pc := 92) C E ht dX11_saves_92 (by decide) (by decide) h
        · have h := h.2 c17
          exact r_sub [0] rfl (T_X11_saves_39 C E ht hn h)
def P_X11_saves (v0 : Nat) (v1 : Int32) (v2 : Int32) (v3 : Int32) (v4 : Int32) (v5 : Int32) (Q : Int64 → HS → Prop) (S : HS) : Prop := P_X11_saves_0 Q v0 v1 v2 v3 v4 v5 S
theorem c_X11_saves {l : Launch} {Ee : EE} {S : HS} {v0 : Nat} {v1 : Int32} {v2 : Int32} {v3 : Int32} {v4 : Int32} {v5 : Int32} {Q : Int64 → HS → Prop} (h : P_X11_saves v0 v1 v2 v3 v4 v5 Q S) : MJ l yX11_saves cX11_saves 6 (some .long) rm_X11_saves Ee S [.ref v0, .int v1, .int v2, .int v3, .int v4, .int v5] Q :=
  openJ (by decide) (Nat.le_of_ble_eq_true rfl) (fun X C E ht hn hE hl => by subst hE; exact r_sub [0, 1, 2, 3, 4, 5] rfl (T_X11_saves_0 C E ht hn h))
def rm_X11_size : Room := { frames := 1, cells := 0, slots := 0, locals := 22 }
def P_X11_size_0 (Q : Int32 → HS → Prop) (v0 : Nat) (v1 : Int32) (S : HS) : Prop := ob S v0 11 ∧ (∀ S1 : HS, S1 = sI S v0 0 (0 : Int32) → (((¬ v1 = (11 : Int32)) → (P_X11_in v1 (0 : Int32) (10 : Int32) (fun x5 S3 => Gr S1 S3 → bl x5 → (((¬ x5 = 0) → ((fR S3 v0 3 = none → (Q (0 : Int32) S3)) ∧ (∀ a7 : Nat, fR S3 v0 3 = some a7 → ((v1.toInt < 0 ∨ 9 < v1.toInt → (∀ x10 : Int32, x10 = fI S3 v0 25 → (Q x10 S3))) ∧ (v1.toInt = 0 → (∃ a11 : Nat, fR S3 v0 3 = some a11 ∧ (ob S3 a11 10 ∧ (∀ x12 : Int32, x12 = fI S3 a11 0 → (Q x12 S3))))) ∧ (v1.toInt = 1 → (∃ a13 : Nat, fR S3 v0 3 = some a13 ∧ (ob S3 a13 10 ∧ (∀ x14 : Int32, x14 = fI S3 a13 1 → (Q x14 S3))))) ∧ (v1.toInt = 2 → (∃ a15 : Nat, fR S3 v0 3 = some a15 ∧ (ob S3 a15 10 ∧ (∀ x16 : Int32, x16 = fI S3 a15 2 → (Q x16 S3))))) ∧ (v1.toInt = 3 → (∃ a17 : Nat, fR S3 v0 3 = some a17 ∧ (ob S3 a17 10 ∧ (∀ x18 : Int32, x18 = fI S3 a17 3 → (Q x18 S3))))) ∧ (v1.toInt = 4 → (∃ a19 : Nat, fR S3 v0 3 = some a19 ∧ (ob S3 a19 10 ∧ (∀ x20 : Int32, x20 = fI S3 a19 4 → (Q x20 S3))))) ∧ (v1.toInt = 5 → (∃ a21 : Nat, fR S3 v0 3 = some a21 ∧ (ob S3 a21 10 ∧ (∀ x22 : Int32, x22 = fI S3 a21 5 → (Q x22 S3))))) ∧ (v1.toInt = 6 → (∀ x23 : Int32, x23 = fI S3 v0 19 → (Q x23 S3))) ∧ (v1.toInt = 7 → (P_X11_isDay v0 (fun x26 S24 => Gr S3 S24 → bl x26 → (((x26 = 0) → (Q (-2 : Int32) S24)) ∧ ((¬ x26 = 0) → (∃ a28 : Nat, fR S24 v0 21 = some a28 ∧ (ob S24 a28 14 ∧ (vp_in (0 : Int32) (hN S24 a28) ∧ ∀ x30 : Int64, x30 = fJ S24 a28 (0 : Int32).toNatClampNeg → (Q x30.toInt32 S24))))))) S3)) ∧ (v1.toInt = 8 → (P_X11_isDay v0 (fun x33 S31 => Gr S3 S31 → bl x33 → (((x33 = 0) → (Q (0 : Int32) S31)) ∧ ((¬ x33 = 0) → (∃ a35 : Nat, fR S31 v0 21 = some a35 ∧ (ob S31 a35 14 ∧ (vp_in (1 : Int32) (hN S31 a35) ∧ ∀ x37 : Int64, x37 = fJ S31 a35 (1 : Int32).toNatClampNeg → (Q x37.toInt32 S31))))))) S3)) ∧ (v1.toInt = 9 → (∀ x38 : Int32, x38 = fI S3 v0 24 → (Q x38 S3))))))) ∧ ((x5 = 0) → (Q (-1 : Int32) S3)))) S1)) ∧ ((v1 = (11 : Int32)) → (∀ x39 : Int32, x39 = fI S1 v0 6 → (Q x39 S1)))))
set_option maxRecDepth 20000 in
set_option maxHeartbeats 4000000 in
theorem T_X11_size_0 {X : CX} {Q : Int32 → HS → Prop} (C : Cx X cX11_size RX11 2 rm_X11_size) (E : ReI X rm_X11_size Q) (ht : (xh X).sig.returnType = (some .int)) (hn : (xh X).name = yX11_size.name) {v0 : Nat} {v1 : Int32} {S : HS} (h : P_X11_size_0 Q v0 v1 S) : WS X 2 0 0 0 [(0, .ref v0), (1, .int v1)] [] S := by
  refine r_aload_n (pc := 0) C dX11_size_0 0 rfl ?_
  refine r_iconst (pc := 1) C (v := (0 : Int32)) dX11_size_1 (by decide) ?_
  obtain ⟨o_v0, h⟩ := h
  refine r_puti (pc := 2) C pfL_X11_40 dX11_size_2 o_v0 ?_
  refine r_heap (fun S1 eS1 => ?_)
  have h := h S1 eS1
  have o_v0 := ob_I eS1 o_v0
  refine r_iload_n (pc := 5) C dX11_size_5 1 rfl ?_
  refine r_bipush (pc := 6) C (v := (11 : Int32)) dX11_size_6 (by decide) ?_
  refine r_icmp_ne (pc := 8) C (tgt := 16) dX11_size_8 (by decide) (fun c2 => ?_) (fun c2 => ?_)
  · have h := h.1 c2
    refine r_iload_n (pc := 16) C dX11_size_16 1 rfl ?_
    refine r_iconst (pc := 17) C (v := (0 : Int32)) dX11_size_17 (by decide) ?_
    refine r_bipush (pc := 18) C (v := (10 : Int32)) dX11_size_18 (by decide) ?_
    refine r_callSi0 (pc := 20) C (rest := []) rfl [.int v1, .int (0 : Int32), .int (10 : Int32)] yS_X11_in g_1434 (c_X11_in h) dX11_size_20 rfl rfl (Nat.le_of_ble_eq_true rfl) ⟨by decide, by decide⟩ ⟨by decide, by decide⟩ ⟨rfl, rfl⟩ (fun x5 S3 h g4 => ?_)
    have bx5 := h.1
    have h := h.2 g4 bx5
    have o_v0 := gr_ob g4 o_v0
    refine r_if_ne (pc := 23) C (tgt := 28) dX11_size_23 (by decide) (fun c6 => ?_) (fun c6 => ?_)
    · have h := h.1 c6
      refine r_aload_n (pc := 28) C dX11_size_28 0 rfl ?_
      rcases e8 : fR S3 v0 3 with _ | a7
      · refine r_get0 (pc := 29) C fL_X11_338 dX11_size_29 o_v0 e8 ?_
        refine r_ifnonnull0 (pc := 32) C dX11_size_32 ?_
        have h := h.1 e8
        refine r_iconst (pc := 35) C (v := (0 : Int32)) dX11_size_35 (by decide) ?_
        exact r_iret (pc := 36) C E ht dX11_size_36 (by decide) (by decide) h
      · refine r_getr (pc := 29) C fL_X11_338 dX11_size_29 o_v0 e8 ?_
        refine r_ifnonnull (pc := 32) C (tgt := 37) dX11_size_32 (by decide) ?_
        have h := h.2 a7 e8
        refine r_iload_n (pc := 37) C dX11_size_37 1 rfl ?_
        refine r_table (pc := 38) C (tgt := 189) dX11_size_38 (by decide) (fun c9 => ?_) (fun j hj hx => ?_)
        · have h := h.1 c9
          refine r_aload_n (pc := 189) C dX11_size_189 0 rfl ?_
          refine r_geti (pc := 190) C fL_X11_343 dX11_size_190 o_v0 ?_
          refine r_topi (fun x10 ex10 => ?_)
          have h := h x10 ex10
          exact r_iret (pc := 193) C E ht dX11_size_193 (by decide) (by decide) h
        · match j, hj, hx with
          | 0, _, hx =>
            refine ⟨54, 92, rfl, by decide, ?_⟩
            have h := h.2.1 (by simpa using hx)
            refine r_aload_n (pc := 92) C dX11_size_92 0 rfl ?_
            obtain ⟨a11, ea11, h⟩ := h
            refine r_getr (pc := 93) C fL_X11_338 dX11_size_93 o_v0 ea11 ?_
            obtain ⟨o_a11, h⟩ := h
            refine r_getNi (pc := 96) C fN_X11_151 dX11_size_96 o_a11 ?_
            refine r_topi (fun x12 ex12 => ?_)
            have h := h x12 ex12
            exact r_iret (pc := 99) C E ht dX11_size_99 (by decide) (by decide) h
          | 1, _, hx =>
            refine ⟨62, 100, rfl, by decide, ?_⟩
            have h := h.2.2.1 (by simpa using hx)
            refine r_aload_n (pc := 100) C dX11_size_100 0 rfl ?_
            obtain ⟨a13, ea13, h⟩ := h
            refine r_getr (pc := 101) C fL_X11_338 dX11_size_101 o_v0 ea13 ?_
            obtain ⟨o_a13, h⟩ := h
            refine r_getNi (pc := 104) C fN_X11_219 dX11_size_104 o_a13 ?_
            refine r_topi (fun x14 ex14 => ?_)
            have h := h x14 ex14
            exact r_iret (pc := 107) C E ht dX11_size_107 (by decide) (by decide) h
          | 2, _, hx =>
            refine ⟨70, 108, rfl, by decide, ?_⟩
            have h := h.2.2.2.1 (by simpa using hx)
            refine r_aload_n (pc := 108) C dX11_size_108 0 rfl ?_
            obtain ⟨a15, ea15, h⟩ := h
            refine r_getr (pc := 109) C fL_X11_338 dX11_size_109 o_v0 ea15 ?_
            obtain ⟨o_a15, h⟩ := h
            refine r_getNi (pc := 112) C fN_X11_190 dX11_size_112 o_a15 ?_
            refine r_topi (fun x16 ex16 => ?_)
            have h := h x16 ex16
            exact r_iret (pc := 115) C E ht dX11_size_115 (by decide) (by decide) h
          | 3, _, hx =>
            refine ⟨78, 116, rfl, by decide, ?_⟩
            have h := h.2.2.2.2.1 (by simpa using hx)
            refine r_aload_n (pc := 116) C dX11_size_116 0 rfl ?_
            obtain ⟨a17, ea17, h⟩ := h
            refine r_getr (pc := 117) C fL_X11_338 dX11_size_117 o_v0 ea17 ?_
            obtain ⟨o_a17, h⟩ := h
            refine r_getNi (pc := 120) C fN_X11_264 dX11_size_120 o_a17 ?_
            refine r_topi (fun x18 ex18 => ?_)
            have h := h x18 ex18
            exact r_iret (pc := 123) C E ht dX11_size_123 (by decide) (by decide) h
          | 4, _, hx =>
            refine ⟨86, 124, rfl, by decide, ?_⟩
            have h := h.2.2.2.2.2.1 (by simpa using hx)
            refine r_aload_n (pc := 124) C dX11_size_124 0 rfl ?_
            obtain ⟨a19, ea19, h⟩ := h
            refine r_getr (pc := 125) C fL_X11_338 dX11_size_125 o_v0 ea19 ?_
            obtain ⟨o_a19, h⟩ := h
            refine r_getNi (pc := 128) C fN_X11_193 dX11_size_128 o_a19 ?_
            refine r_topi (fun x20 ex20 => ?_)
            have h := h x20 ex20
            exact r_iret (pc := 131) C E ht dX11_size_131 (by decide) (by decide) h
          | 5, _, hx =>
            refine ⟨94, 132, rfl, by decide, ?_⟩
            have h := h.2.2.2.2.2.2.1 (by simpa using hx)
            refine r_aload_n (pc := 132) C dX11_size_132 0 rfl ?_
            obtain ⟨a21, ea21, h⟩ := h
            refine r_getr (pc := 133) C fL_X11_338 dX11_size_133 o_v0 ea21 ?_
            obtain ⟨o_a21, h⟩ := h
            refine r_getNi (pc := 136) C fN_X11_323 dX11_size_136 o_a21 ?_
            refine r_topi (fun x22 ex22 => ?_)
            have h := h x22 ex22
            exact r_iret (pc := 139) C E ht dX11_size_139 (by decide) (by decide) h
          | 6, _, hx =>
            refine ⟨102, 140, rfl, by decide, ?_⟩
            have h := h.2.2.2.2.2.2.2.1 (by simpa using hx)
            refine r_aload_n (pc := 140) C dX11_size_140 0 rfl ?_
            refine r_geti (pc := 141) C fL_X11_28 dX11_size_141 o_v0 ?_
            refine r_topi (fun x23 ex23 => ?_)
            have h := h x23 ex23
            exact r_iret (pc := 144) C E ht dX11_size_144 (by decide) (by decide) h
          | 7, _, hx =>
            refine ⟨107, 145, rfl, by decide, ?_⟩
            have h := h.2.2.2.2.2.2.2.2.1 (by simpa using hx)
            refine r_aload_n (pc := 145) C dX11_size_145 0 rfl ?_
            refine r_callVi0 (pc := 146) C (rest := []) (a := v0) o_v0 [] yV_X11_isDay g_1779 (c_X11_isDay h) dX11_size_146 rfl rfl (Nat.le_of_ble_eq_true rfl) ⟨by decide, by decide⟩ ⟨by decide, by decide⟩ ⟨rfl, rfl⟩ (fun x26 S24 h g25 => ?_)
            have bx26 := h.1
            have h := h.2 g25 bx26
            have o_v0 := gr_ob g25 o_v0
            refine r_if_eq (pc := 149) C (tgt := 162) dX11_size_149 (by decide) (fun c27 => ?_) (fun c27 => ?_)
            · have h := h.1 c27
              refine r_bipush (pc := 162) C (v := (-2 : Int32)) dX11_size_162 (by decide) ?_
              exact r_iret (pc := 164) C E ht dX11_size_164 (by decide) (by decide) h
            · have h := h.2 c27
              refine r_aload_n (pc := 152) C dX11_size_152 0 rfl ?_
              obtain ⟨a28, ea28, h⟩ := h
              refine r_getr (pc := 153) C fL_X11_31 dX11_size_153 o_v0 ea28 ?_
              refine r_iconst (pc := 156) C (v := (0 : Int32)) dX11_size_156 (by decide) ?_
              obtain ⟨o_a28, h⟩ := h
              obtain ⟨i29, h⟩ := h
              refine r_lald (pc := 157) C dX11_size_157 o_a28 i29 ?_
              refine r_topl (fun x30 ex30 => ?_)
              have h := h x30 ex30
              refine r_l2i (pc := 158) C dX11_size_158 ?_
              refine r_goto (pc := 159) C (tgt := 164) dX11_size_159 (by decide) ?_
              exact r_iret (pc := 164) C E ht dX11_size_164 (by decide) (by decide) h
          | 8, _, hx =>
            refine ⟨127, 165, rfl, by decide, ?_⟩
            have h := h.2.2.2.2.2.2.2.2.2.1 (by simpa using hx)
            refine r_aload_n (pc := 165) C dX11_size_165 0 rfl ?_
            refine r_callVi0 (pc := 166) C (rest := []) (a := v0) o_v0 [] yV_X11_isDay g_1779 (c_X11_isDay h) dX11_size_166 rfl rfl (Nat.le_of_ble_eq_true rfl) ⟨by decide, by decide⟩ ⟨by decide, by decide⟩ ⟨rfl, rfl⟩ (fun x33 S31 h g32 => ?_)
            have bx33 := h.1
            have h := h.2 g32 bx33
            have o_v0 := gr_ob g32 o_v0
            refine r_if_eq (pc := 169) C (tgt := 182) dX11_size_169 (by decide) (fun c34 => ?_) (fun c34 => ?_)
            · have h := h.1 c34
              refine r_iconst (pc := 182) C (v := (0 : Int32)) dX11_size_182 (by decide) ?_
              exact r_iret (pc := 183) C E ht dX11_size_183 (by decide) (by decide) h
            · have h := h.2 c34
              refine r_aload_n (pc := 172) C dX11_size_172 0 rfl ?_
              obtain ⟨a35, ea35, h⟩ := h
              refine r_getr (pc := 173) C fL_X11_31 dX11_size_173 o_v0 ea35 ?_
              refine r_iconst (pc := 176) C (v := (1 : Int32)) dX11_size_176 (by decide) ?_
              obtain ⟨o_a35, h⟩ := h
              obtain ⟨i36, h⟩ := h
              refine r_lald (pc := 177) C dX11_size_177 o_a35 i36 ?_
              refine r_topl (fun x37 ex37 => ?_)
              have h := h x37 ex37
              refine r_l2i (pc := 178) C dX11_size_178 ?_
              refine r_goto (pc := 179) C (tgt := 183) dX11_size_179 (by decide) ?_
              exact r_iret (pc := 183) C E ht dX11_size_183 (by decide) (by decide) h
          | 9, _, hx =>
            refine ⟨146, 184, rfl, by decide, ?_⟩
            have h := h.2.2.2.2.2.2.2.2.2.2 (by simpa using hx)
            refine r_aload_n (pc := 184) C dX11_size_184 0 rfl ?_
            refine r_geti (pc := 185) C fL_X11_340 dX11_size_185 o_v0 ?_
            refine r_topi (fun x38 ex38 => ?_)
            have h := h x38 ex38
            exact r_iret (pc := 188) C E ht dX11_size_188 (by decide) (by decide) h
          | j + 10, hj, _ => exact absurd hj (by omega)
    · have h := h.2 c6
      refine r_iconst (pc := 26) C (v := (-1 : Int32)) dX11_size_26 (by decide) ?_
      exact r_iret (pc := 27) C E ht dX11_size_27 (by decide) (by decide) h
  · have h := h.2 c2
    refine r_aload_n (pc := 11) C dX11_size_11 0 rfl ?_
    refine r_geti (pc := 12) C fL_X11_331 dX11_size_12 o_v0 ?_
    refine r_topi (fun x39 ex39 => ?_)
    have h := h x39 ex39
    exact r_iret (pc := 15) C E ht dX11_size_15 (by decide) (by decide) h
def P_X11_size (v0 : Nat) (v1 : Int32) (Q : Int32 → HS → Prop) (S : HS) : Prop := P_X11_size_0 Q v0 v1 S
theorem c_X11_size {l : Launch} {Ee : EE} {S : HS} {v0 : Nat} {v1 : Int32} {Q : Int32 → HS → Prop} (h : P_X11_size v0 v1 Q S) : MI l yX11_size cX11_size 2 (some .int) rm_X11_size Ee S [.ref v0, .int v1] Q :=
  openI (by decide) (Nat.le_of_ble_eq_true rfl) (fun X C E ht hn hE hl => by subst hE; exact r_sub [0, 1] rfl (T_X11_size_0 C E ht hn h))
def rm_X11_soaked : Room := { frames := 1, cells := 0, slots := 0, locals := 23 }
def P_X11_soaked_57 (Q : Int32 → HS → Prop) (s0 : Nat) (s1 : Int32) (S : HS) : Prop := ob S s0 11 ∧ (P_X11_good s0 s1 (fun x3 S1 => Gr S S1 → (Q x3 S1)) S)
set_option maxRecDepth 20000 in
set_option maxHeartbeats 4000000 in
theorem T_X11_soaked_57 {X : CX} {Q : Int32 → HS → Prop} (C : Cx X cX11_soaked RX11 1 rm_X11_soaked) (E : ReI X rm_X11_soaked Q) (ht : (xh X).sig.returnType = (some .int)) (hn : (xh X).name = yX11_soaked.name) {s0 : Nat} {s1 : Int32} {S : HS} (h : P_X11_soaked_57 Q s0 s1 S) : WS X 1 0 0 57 [] [.int s1, .ref s0] S := by
  obtain ⟨o_s0, h⟩ := h
  refine r_callVi0 (pc := 57) C (rest := []) (a := s0) o_s0 [.int s1] yV_X11_good g_1518 (c_X11_good h) dX11_soaked_57 rfl rfl (Nat.le_of_ble_eq_true rfl) ⟨by decide, by decide⟩ ⟨by decide, by decide⟩ ⟨rfl, rfl⟩ (fun x3 S1 h g2 => ?_)
  have h := h g2
  have o_s0 := gr_ob g2 o_s0
  exact r_iret (pc := 60) C E ht dX11_soaked_60 (by decide) (by decide) h
def P_X11_soaked_0 (Q : Int32 → HS → Prop) (v0 : Nat) (S : HS) : Prop := ob S v0 11 ∧ (∀ S1 : HS, S1 = sI S v0 0 (0 : Int32) → (P_X11_isDay v0 (fun x4 S2 => Gr S1 S2 → bl x4 → (((¬ x4 = 0) → (∃ a6 : Nat, fR S2 v0 3 = some a6 ∧ (ob S2 a6 10 ∧ (∃ a7 : Nat, fR S2 a6 19 = some a7 ∧ (∀ x8 : Int32, x8 = fI S2 v0 19 → (ob S2 a7 13 ∧ (vp_in x8 (hN S2 a7) ∧ ∀ x10 : Int32, x10 = fI S2 a7 x8.toNatClampNeg → (((x10 = (2 : Int32)) → (P_X11_gotInAll v0 (fun x14 S12 => Gr S2 S12 → (P_X11_holds v0 (fun x17 S15 => Gr S12 S15 → ((((lg_cmp x14 x17) ≤ 0) → (P_X11_soaked_57 Q v0 (0 : Int32) S15)) ∧ ((¬ (lg_cmp x14 x17) ≤ 0) → (P_X11_soaked_57 Q v0 (1 : Int32) S15)))) S12)) S2)) ∧ ((¬ x10 = (2 : Int32)) → (P_X11_soaked_57 Q v0 (-2 : Int32) S2)))))))))) ∧ ((x4 = 0) → (P_X11_refused v0 (1 : Int32) (fun x21 S19 => Gr S2 S19 → (Q x21 S19)) S2)))) S1))
set_option maxRecDepth 20000 in
set_option maxHeartbeats 4000000 in
theorem T_X11_soaked_0 {X : CX} {Q : Int32 → HS → Prop} (C : Cx X cX11_soaked RX11 1 rm_X11_soaked) (E : ReI X rm_X11_soaked Q) (ht : (xh X).sig.returnType = (some .int)) (hn : (xh X).name = yX11_soaked.name) {v0 : Nat} {S : HS} (h : P_X11_soaked_0 Q v0 S) : WS X 1 0 0 0 [(0, .ref v0)] [] S := by
  refine r_aload_n (pc := 0) C dX11_soaked_0 0 rfl ?_
  refine r_iconst (pc := 1) C (v := (0 : Int32)) dX11_soaked_1 (by decide) ?_
  obtain ⟨o_v0, h⟩ := h
  refine r_puti (pc := 2) C pfL_X11_40 dX11_soaked_2 o_v0 ?_
  refine r_heap (fun S1 eS1 => ?_)
  have h := h S1 eS1
  have o_v0 := ob_I eS1 o_v0
  refine r_aload_n (pc := 5) C dX11_soaked_5 0 rfl ?_
  refine r_callVi0 (pc := 6) C (rest := []) (a := v0) o_v0 [] yV_X11_isDay g_1779 (c_X11_isDay h) dX11_soaked_6 rfl rfl (Nat.le_of_ble_eq_true rfl) ⟨by decide, by decide⟩ ⟨by decide, by decide⟩ ⟨rfl, rfl⟩ (fun x4 S2 h g3 => ?_)
  have bx4 := h.1
  have h := h.2 g3 bx4
  have o_v0 := gr_ob g3 o_v0
  refine r_if_ne (pc := 9) C (tgt := 18) dX11_soaked_9 (by decide) (fun c5 => ?_) (fun c5 => ?_)
  · have h := h.1 c5
    refine r_aload_n (pc := 18) C dX11_soaked_18 0 rfl ?_
    refine r_aload_n (pc := 19) C dX11_soaked_19 0 rfl ?_
    obtain ⟨a6, ea6, h⟩ := h
    refine r_getr (pc := 20) C fL_X11_338 dX11_soaked_20 o_v0 ea6 ?_
    obtain ⟨o_a6, h⟩ := h
    obtain ⟨a7, ea7, h⟩ := h
    refine r_getNr (pc := 23) C fN_X11_302 dX11_soaked_23 o_a6 ea7 ?_
    refine r_aload_n (pc := 26) C dX11_soaked_26 0 rfl ?_
    refine r_geti (pc := 27) C fL_X11_28 dX11_soaked_27 o_v0 ?_
    refine r_topi (fun x8 ex8 => ?_)
    have h := h x8 ex8
    obtain ⟨o_a7, h⟩ := h
    obtain ⟨i9, h⟩ := h
    refine r_iald (pc := 30) C dX11_soaked_30 o_a7 i9 ?_
    refine r_topi (fun x10 ex10 => ?_)
    have h := h x10 ex10
    refine r_iconst (pc := 31) C (v := (2 : Int32)) dX11_soaked_31 (by decide) ?_
    refine r_icmp_eq (pc := 32) C (tgt := 40) dX11_soaked_32 (by decide) (fun c11 => ?_) (fun c11 => ?_)
    · have h := h.1 c11
      refine r_aload_n (pc := 40) C dX11_soaked_40 0 rfl ?_
      refine r_callVl0 (pc := 41) C (rest := [.ref v0]) (a := v0) o_v0 [] yV_X11_gotInAll g_1812 (c_X11_gotInAll h) dX11_soaked_41 rfl rfl (Nat.le_of_ble_eq_true rfl) ⟨by decide, by decide⟩ ⟨by decide, by decide⟩ ⟨rfl, rfl⟩ (fun x14 S12 h g13 => ?_)
      have h := h g13
      have o_a6 := gr_ob g13 o_a6
      have o_a7 := gr_ob g13 o_a7
      have o_v0 := gr_ob g13 o_v0
      refine r_aload_n (pc := 44) C dX11_soaked_44 0 rfl ?_
      refine r_callVl0 (pc := 45) C (rest := [.long x14, .ref v0]) (a := v0) o_v0 [] yV_X11_holds g_1816 (c_X11_holds h) dX11_soaked_45 rfl rfl (Nat.le_of_ble_eq_true rfl) ⟨by decide, by decide⟩ ⟨by decide, by decide⟩ ⟨rfl, rfl⟩ (fun x17 S15 h g16 => ?_)
      have h := h g16
      have o_a6 := gr_ob g16 o_a6
      have o_a7 := gr_ob g16 o_a7
      have o_v0 := gr_ob g16 o_v0
      refine r_lcmp (pc := 48) C dX11_soaked_48 ?_
      refine r_if_le (pc := 49) C (tgt := 56) dX11_soaked_49 (by decide) (fun c18 => ?_) (fun c18 => ?_)
      · have h := h.1 c18
        refine r_iconst (pc := 56) C (v := (0 : Int32)) dX11_soaked_56 (by decide) ?_
        exact r_sub [] rfl (T_X11_soaked_57 C E ht hn h)
      · have h := h.2 c18
        refine r_iconst (pc := 52) C (v := (1 : Int32)) dX11_soaked_52 (by decide) ?_
        refine r_goto (pc := 53) C (tgt := 57) dX11_soaked_53 (by decide) ?_
        exact r_sub [] rfl (T_X11_soaked_57 C E ht hn h)
    · have h := h.2 c11
      refine r_bipush (pc := 35) C (v := (-2 : Int32)) dX11_soaked_35 (by decide) ?_
      refine r_goto (pc := 37) C (tgt := 57) dX11_soaked_37 (by decide) ?_
      exact r_sub [] rfl (T_X11_soaked_57 C E ht hn h)
  · have h := h.2 c5
    refine r_aload_n (pc := 12) C dX11_soaked_12 0 rfl ?_
    refine r_iconst (pc := 13) C (v := (1 : Int32)) dX11_soaked_13 (by decide) ?_
    refine r_callVi0 (pc := 14) C (rest := []) (a := v0) o_v0 [.int (1 : Int32)] yV_X11_refused g_1250 (c_X11_refused h) dX11_soaked_14 rfl rfl (Nat.le_of_ble_eq_true rfl) ⟨by decide, by decide⟩ ⟨by decide, by decide⟩ ⟨rfl, rfl⟩ (fun x21 S19 h g20 => ?_)
    have h := h g20
    have o_v0 := gr_ob g20 o_v0
    exact r_iret (pc := 17) C E ht dX11_soaked_17 (by decide) (by decide) h
def P_X11_soaked (v0 : Nat) (Q : Int32 → HS → Prop) (S : HS) : Prop := P_X11_soaked_0 Q v0 S
theorem c_X11_soaked {l : Launch} {Ee : EE} {S : HS} {v0 : Nat} {Q : Int32 → HS → Prop} (h : P_X11_soaked v0 Q S) : MI l yX11_soaked cX11_soaked 1 (some .int) rm_X11_soaked Ee S [.ref v0] Q :=
  openI (by decide) (Nat.le_of_ble_eq_true rfl) (fun X C E ht hn hE hl => by subst hE; exact r_sub [0] rfl (T_X11_soaked_0 C E ht hn h))
def rm_X11_stay : Room := { frames := 2, cells := 0, slots := 0, locals := 43 }
def P_X11_stay_133 (Q : Int32 → HS → Prop) (X84 : Nat → Int32 → Int32 → Int32 → HS → Prop) (v0 : Nat) (v1 : Int32) (v2 : Int32) (v3 : Int32) (S : HS) : Prop := ob S v0 11 ∧ (∃ a1 : Nat, fR S v0 21 = some a1 ∧ (ob S a1 14 ∧ (vp_in (1 : Int32) (hN S a1) ∧ ∀ x3 : Int64, x3 = fJ S a1 (1 : Int32).toNatClampNeg → (∀ x5 : Int64, x5 = x3 + (1 : Int64) → (vp_in (1 : Int32) (hN S a1) ∧ (∀ S6 : HS, S6 = sJ S a1 (1 : Int32).toNatClampNeg x5 → (∀ x7 : Int32, x7 = v3 + (1 : Int32) → (X84 v0 v1 v2 x7 S6))))))))
set_option maxRecDepth 20000 in
set_option maxHeartbeats 4000000 in
theorem T_X11_stay_133 {X : CX} {Q : Int32 → HS → Prop} (C : Cx X cX11_stay RX11 4 rm_X11_stay) (E : ReI X rm_X11_stay (fun r S => bl r ∧ Q r S)) (ht : (xh X).sig.returnType = (some .boolean)) (hn : (xh X).name = yX11_stay.name) {X84 : Nat → Int32 → Int32 → Int32 → HS → Prop} (hX84 : ∀ (v0 : Nat) (v1 : Int32) (v2 : Int32) (v3 : Int32) (S : HS), X84 v0 v1 v2 v3 S → WS X 4 0 0 84 [(0, .ref v0), (1, .int v1), (2, .int v2), (3, .int v3)] [] S) {v0 : Nat} {v1 : Int32} {v2 : Int32} {v3 : Int32} {S : HS} (h : P_X11_stay_133 Q X84 v0 v1 v2 v3 S) : WS X 4 0 0 133 [(0, .ref v0), (1, .int v1), (2, .int v2), (3, .int v3)] [] S := by
  refine r_aload_n (pc := 133) C dX11_stay_133 0 rfl ?_
  obtain ⟨o_v0, h⟩ := h
  obtain ⟨a1, ea1, h⟩ := h
  refine r_getr (pc := 134) C fL_X11_31 dX11_stay_134 o_v0 ea1 ?_
  refine r_iconst (pc := 137) C (v := (1 : Int32)) dX11_stay_137 (by decide) ?_
  refine r_dup2 (pc := 138) C dX11_stay_138 rfl rfl ?_
  obtain ⟨o_a1, h⟩ := h
  obtain ⟨i2, h⟩ := h
  refine r_lald (pc := 139) C dX11_stay_139 o_a1 i2 ?_
  refine r_topl (fun x3 ex3 => ?_)
  have h := h x3 ex3
  refine r_lconst (pc := 140) C (v := (1 : Int64)) dX11_stay_140 (by decide) ?_
  refine r_ladd (pc := 141) C dX11_stay_141 ?_
  refine r_topl (fun x5 ex5 => ?_)
  have h := h x5 ex5
  obtain ⟨i4, h⟩ := h
  refine r_last (pc := 142) C dX11_stay_142 o_a1 i4 ?_
  refine r_heap (fun S6 eS6 => ?_)
  have h := h S6 eS6
  have o_a1 := ob_J eS6 o_a1
  have o_v0 := ob_J eS6 o_v0
  obtain ⟨x7, ex7⟩ : ∃ z : Int32, z = v3 + (1 : Int32) := ⟨_, rfl⟩
  have h := h x7 ex7
  refine r_iinc (pc := 143) C (v := x7) (lv' := [(3, .int x7), (0, .ref v0), (1, .int v1), (2, .int v2)]) dX11_stay_143 3 rfl ex7.symm (by decide) rfl ?_
  refine r_goto (pc := 146) C (tgt := 84) dX11_stay_146 (by decide) ?_
  exact r_sub [1, 2, 3, 0] rfl (hX84 v0 v1 v2 x7 S6 h)
def B_X11_stay_84 (Q : Int32 → HS → Prop) (X84 : Nat → Int32 → Int32 → Int32 → HS → Prop) (v0 : Nat) (v1 : Int32) (v2 : Int32) (v3 : Int32) (S : HS) : Prop := ((v1 ≤ v3) → (ob S v0 11 ∧ (P_X11_granted v0 (fun x4 S2 => Gr S S2 → bl x4 → (bl x4 ∧ Q x4 S2)) S))) ∧ ((¬ v1 ≤ v3) → (ob S v0 11 ∧ (∃ a5 : Nat, fR S v0 3 = some a5 ∧ (ob S a5 10 ∧ (∃ a6 : Nat, fR S a5 18 = some a6 ∧ (ob S a6 15 ∧ (vp_in v2 (hN S a6) ∧ ∀ x8 : Int32, x8 = fI S a6 v2.toNatClampNeg → (((¬ x8 = 0) → (P_X11_stay_133 Q X84 v0 v1 v2 v3 S)) ∧ ((x8 = 0) → (∃ a10 : Nat, fR S v0 21 = some a10 ∧ (ob S a10 14 ∧ (vp_in (1 : Int32) (hN S a10) ∧ ∀ x12 : Int64, x12 = fJ S a10 (1 : Int32).toNatClampNeg → (P_X11_rainsIn v0 x12.toInt32 (fun x15 S13 => Gr S S13 → bl x15 → (((x15 = 0) → (P_X11_stay_133 Q X84 v0 v1 v2 v3 S13)) ∧ ((¬ x15 = 0) → (∃ a17 : Nat, fR S13 v0 21 = some a17 ∧ (ob S13 a17 14 ∧ (vp_in (2 : Int32) (hN S13 a17) ∧ ∀ x19 : Int64, x19 = fJ S13 a17 (2 : Int32).toNatClampNeg → (∀ x20 : Int32, x20 = fI S13 v0 19 → (P_X11_drips v0 x20 v2 (fun x23 S21 => Gr S13 S21 → (∀ x25 : Int64, x25 = x19 + x23 → (vp_in (2 : Int32) (hN S21 a17) ∧ (∀ S26 : HS, S26 = sJ S21 a17 (2 : Int32).toNatClampNeg x25 → (P_X11_stay_133 Q X84 v0 v1 v2 v3 S26))))) S13)))))))) S)))))))))))))
def P_X11_stay_84 (Q : Int32 → HS → Prop) (v0 : Nat) (v1 : Int32) (v2 : Int32) (v3 : Int32) (S : HS) : Prop := ∀ X84 : Nat → Int32 → Int32 → Int32 → HS → Prop, (∀ (v0 : Nat) (v1 : Int32) (v2 : Int32) (v3 : Int32) (S : HS), B_X11_stay_84 Q X84 v0 v1 v2 v3 S → X84 v0 v1 v2 v3 S) → X84 v0 v1 v2 v3 S
set_option maxRecDepth 20000 in
set_option maxHeartbeats 4000000 in
theorem TB_X11_stay_84 {X : CX} {Q : Int32 → HS → Prop} (C : Cx X cX11_stay RX11 4 rm_X11_stay) (E : ReI X rm_X11_stay (fun r S => bl r ∧ Q r S)) (ht : (xh X).sig.returnType = (some .boolean)) (hn : (xh X).name = yX11_stay.name) {X84 : Nat → Int32 → Int32 → Int32 → HS → Prop} (hX84 : ∀ (v0 : Nat) (v1 : Int32) (v2 : Int32) (v3 : Int32) (S : HS), X84 v0 v1 v2 v3 S → WS X 4 0 0 84 [(0, .ref v0), (1, .int v1), (2, .int v2), (3, .int v3)] [] S) {v0 : Nat} {v1 : Int32} {v2 : Int32} {v3 : Int32} {S : HS} (h : B_X11_stay_84 Q X84 v0 v1 v2 v3 S) : WS X 4 0 0 84 [(0, .ref v0), (1, .int v1), (2, .int v2), (3, .int v3)] [] S := by
  refine r_iload_n (pc := 84) C dX11_stay_84 3 rfl ?_
  refine r_iload_n (pc := 85) C dX11_stay_85 1 rfl ?_
  refine r_icmp_ge (pc := 86) C (tgt := 149) dX11_stay_86 (by decide) (fun c1 => ?_) (fun c1 => ?_)
  · have h := h.1 c1
    refine r_aload_n (pc := 149) C dX11_stay_149 0 rfl ?_
    obtain ⟨o_v0, h⟩ := h
    refine r_callVi0 (pc := 150) C (rest := []) (a := v0) o_v0 [] yV_X11_granted g_1800 (c_X11_granted h) dX11_stay_150 rfl rfl (Nat.le_of_ble_eq_true rfl) ⟨by decide, by decide⟩ ⟨by decide, by decide⟩ ⟨rfl, rfl⟩ (fun x4 S2 h g3 => ?_)
    have bx4 := h.1
    have h := h.2 g3 bx4
    have o_v0 := gr_ob g3 o_v0
    exact r_zret (pc := 153) C E ht dX11_stay_153 (by decide) (by decide) h.1 h.2
  · have h := h.2 c1
    refine r_aload_n (pc := 89) C dX11_stay_89 0 rfl ?_
    obtain ⟨o_v0, h⟩ := h
    obtain ⟨a5, ea5, h⟩ := h
    refine r_getr (pc := 90) C fL_X11_338 dX11_stay_90 o_v0 ea5 ?_
    obtain ⟨o_a5, h⟩ := h
    obtain ⟨a6, ea6, h⟩ := h
    refine r_getNr (pc := 93) C fN_X11_258 dX11_stay_93 o_a5 ea6 ?_
    refine r_iload_n (pc := 96) C dX11_stay_96 2 rfl ?_
    obtain ⟨o_a6, h⟩ := h
    obtain ⟨i7, h⟩ := h
    refine r_zald (pc := 97) C dX11_stay_97 o_a6 i7 ?_
    refine r_topi (fun x8 ex8 => ?_)
    have h := h x8 ex8
    refine r_if_ne (pc := 98) C (tgt := 133) dX11_stay_98 (by decide) (fun c9 => ?_) (fun c9 => ?_)
    · have h := h.1 c9
      exact r_sub [0, 1, 2, 3] rfl (T_X11_stay_133 C E ht hn hX84 h)
    · have h := h.2 c9
      refine r_aload_n (pc := 101) C dX11_stay_101 0 rfl ?_
      refine r_aload_n (pc := 102) C dX11_stay_102 0 rfl ?_
      obtain ⟨a10, ea10, h⟩ := h
      refine r_getr (pc := 103) C fL_X11_31 dX11_stay_103 o_v0 ea10 ?_
      refine r_iconst (pc := 106) C (v := (1 : Int32)) dX11_stay_106 (by decide) ?_
      obtain ⟨o_a10, h⟩ := h
      obtain ⟨i11, h⟩ := h
      refine r_lald (pc := 107) C dX11_stay_107 o_a10 i11 ?_
      refine r_topl (fun x12 ex12 => ?_)
      have h := h x12 ex12
      refine r_l2i (pc := 108) C dX11_stay_108 ?_
      refine r_callVi0 (pc := 109) C (rest := []) (a := v0) o_v0 [.int x12.toInt32] yV_X11_rainsIn g_1787 (c_X11_rainsIn h) dX11_stay_109 rfl rfl (Nat.le_of_ble_eq_true rfl) ⟨by decide, by decide⟩ ⟨by decide, by decide⟩ ⟨rfl, rfl⟩ (fun x15 S13 h g14 => ?_)
      have bx15 := h.1
      have h := h.2 g14 bx15
      have o_a10 := gr_ob g14 o_a10
      have o_a5 := gr_ob g14 o_a5
      have o_a6 := gr_ob g14 o_a6
      have o_v0 := gr_ob g14 o_v0
      refine r_if_eq (pc := 112) C (tgt := 133) dX11_stay_112 (by decide) (fun c16 => ?_) (fun c16 => ?_)
      · have h := h.1 c16
        exact r_sub [0, 1, 2, 3] rfl (T_X11_stay_133 C E ht hn hX84 h)
      · have h := h.2 c16
        refine r_aload_n (pc := 115) C dX11_stay_115 0 rfl ?_
        obtain ⟨a17, ea17, h⟩ := h
        refine r_getr (pc := 116) C fL_X11_31 dX11_stay_116 o_v0 ea17 ?_
        refine r_iconst (pc := 119) C (v := (2 : Int32)) dX11_stay_119 (by decide) ?_
        refine r_dup2 (pc := 120) C dX11_stay_120 rfl rfl ?_
        obtain ⟨o_a17, h⟩ := h
        obtain ⟨i18, h⟩ := h
        refine r_lald (pc := 121) C dX11_stay_121 o_a17 i18 ?_
        refine r_topl (fun x19 ex19 => ?_)
        have h := h x19 ex19
        refine r_aload_n (pc := 122) C dX11_stay_122 0 rfl ?_
        refine r_aload_n (pc := 123) C dX11_stay_123 0 rfl ?_
        refine r_geti (pc := 124) C fL_X11_28 dX11_stay_124 o_v0 ?_
        refine r_topi (fun x20 ex20 => ?_)
        have h := h x20 ex20
        refine r_iload_n (pc := 127) C dX11_stay_127 2 rfl ?_
        refine r_callVl0 (pc := 128) C (rest := [.long x19, .int (2 : Int32), .ref a17]) (a := v0) o_v0 [.int x20, .int v2] yV_X11_drips g_1723 (c_X11_drips h) dX11_stay_128 rfl rfl (Nat.le_of_ble_eq_true rfl) ⟨by decide, by decide⟩ ⟨by decide, by decide⟩ ⟨rfl, rfl⟩ (fun x23 S21 h g22 => ?_)
        have h := h g22
        have o_a10 := gr_ob g22 o_a10
        have o_a17 := gr_ob g22 o_a17
        have o_a5 := gr_ob g22 o_a5
        have o_a6 := gr_ob g22 o_a6
        have o_v0 := gr_ob g22 o_v0
        refine r_ladd (pc := 131) C dX11_stay_131 ?_
        refine r_topl (fun x25 ex25 => ?_)
        have h := h x25 ex25
        obtain ⟨i24, h⟩ := h
        refine r_last (pc := 132) C dX11_stay_132 o_a17 i24 ?_
        refine r_heap (fun S26 eS26 => ?_)
        have h := h S26 eS26
        have o_a10 := ob_J eS26 o_a10
        have o_a17 := ob_J eS26 o_a17
        have o_a5 := ob_J eS26 o_a5
        have o_a6 := ob_J eS26 o_a6
        have o_v0 := ob_J eS26 o_v0
        exact r_sub [0, 1, 2, 3] rfl (T_X11_stay_133 C E ht hn hX84 h)
theorem T_X11_stay_84 {X : CX} {Q : Int32 → HS → Prop} (C : Cx X cX11_stay RX11 4 rm_X11_stay) (E : ReI X rm_X11_stay (fun r S => bl r ∧ Q r S)) (ht : (xh X).sig.returnType = (some .boolean)) (hn : (xh X).name = yX11_stay.name) {v0 : Nat} {v1 : Int32} {v2 : Int32} {v3 : Int32} {S : HS} (h : P_X11_stay_84 Q v0 v1 v2 v3 S) : WS X 4 0 0 84 [(0, .ref v0), (1, .int v1), (2, .int v2), (3, .int v3)] [] S :=
  h (fun v0 v1 v2 v3 S => WS X 4 0 0 84 [(0, .ref v0), (1, .int v1), (2, .int v2), (3, .int v3)] [] S) (fun v0 v1 v2 v3 S hh => TB_X11_stay_84 C E ht hn (fun v0 v1 v2 v3 S z => z) hh)
def P_X11_stay_0 (Q : Int32 → HS → Prop) (v0 : Nat) (v1 : Int32) (S : HS) : Prop := ob S v0 11 ∧ (∀ S1 : HS, S1 = sI S v0 0 (0 : Int32) → (P_X11_isDay v0 (fun x4 S2 => Gr S1 S2 → bl x4 → (((¬ x4 = 0) → (P_X11_in v1 (1 : Int32) (60 : Int32) (fun x8 S6 => Gr S2 S6 → bl x8 → (((¬ x8 = 0) → (∃ a10 : Nat, fR S6 v0 21 = some a10 ∧ (ob S6 a10 14 ∧ (vp_in (0 : Int32) (hN S6 a10) ∧ ∀ x12 : Int64, x12 = fJ S6 a10 (0 : Int32).toNatClampNeg → (∀ x13 : Int32, x13 = x12.toInt32 → (P_X11_canWait v0 x13 (fun x16 S14 => Gr S6 S14 → bl x16 → (((¬ x16 = 0) → (∃ a18 : Nat, fR S14 v0 21 = some a18 ∧ (ob S14 a18 14 ∧ (vp_in (1 : Int32) (hN S14 a18) ∧ ∀ x20 : Int64, x20 = fJ S14 a18 (1 : Int32).toNatClampNeg → ((((lg_cmp (x20 + v1.toInt64) (999 : Int64)) ≤ 0) → (P_X11_keeps v0 (fun S22 => Gr S14 S22 → (P_X11_stay_84 Q v0 v1 x13 (0 : Int32) S22)) S14)) ∧ ((¬ (lg_cmp (x20 + v1.toInt64) (999 : Int64)) ≤ 0) → (P_X11_denied v0 (3 : Int32) (fun x27 S25 => Gr S14 S25 → bl x27 → (bl x27 ∧ Q x27 S25)) S14))))))) ∧ ((x16 = 0) → (P_X11_denied v0 (5 : Int32) (fun x30 S28 => Gr S14 S28 → bl x30 → (bl x30 ∧ Q x30 S28)) S14)))) S6)))))) ∧ ((x8 = 0) → (P_X11_denied v0 (2 : Int32) (fun x33 S31 => Gr S6 S31 → bl x33 → (bl x33 ∧ Q x33 S31)) S6)))) S2)) ∧ ((x4 = 0) → (P_X11_denied v0 (1 : Int32) (fun x36 S34 => Gr S2 S34 → bl x36 → (bl x36 ∧ Q x36 S34)) S2)))) S1))
set_option maxRecDepth 20000 in
set_option maxHeartbeats 4000000 in
theorem T_X11_stay_0 {X : CX} {Q : Int32 → HS → Prop} (C : Cx X cX11_stay RX11 4 rm_X11_stay) (E : ReI X rm_X11_stay (fun r S => bl r ∧ Q r S)) (ht : (xh X).sig.returnType = (some .boolean)) (hn : (xh X).name = yX11_stay.name) {v0 : Nat} {v1 : Int32} {S : HS} (h : P_X11_stay_0 Q v0 v1 S) : WS X 4 0 0 0 [(0, .ref v0), (1, .int v1)] [] S := by
  refine r_aload_n (pc := 0) C dX11_stay_0 0 rfl ?_
  refine r_iconst (pc := 1) C (v := (0 : Int32)) dX11_stay_1 (by decide) ?_
  obtain ⟨o_v0, h⟩ := h
  refine r_puti (pc := 2) C pfL_X11_40 dX11_stay_2 o_v0 ?_
  refine r_heap (fun S1 eS1 => ?_)
  have h := h S1 eS1
  have o_v0 := ob_I eS1 o_v0
  refine r_aload_n (pc := 5) C dX11_stay_5 0 rfl ?_
  refine r_callVi0 (pc := 6) C (rest := []) (a := v0) o_v0 [] yV_X11_isDay g_1779 (c_X11_isDay h) dX11_stay_6 rfl rfl (Nat.le_of_ble_eq_true rfl) ⟨by decide, by decide⟩ ⟨by decide, by decide⟩ ⟨rfl, rfl⟩ (fun x4 S2 h g3 => ?_)
  have bx4 := h.1
  have h := h.2 g3 bx4
  have o_v0 := gr_ob g3 o_v0
  refine r_if_ne (pc := 9) C (tgt := 18) dX11_stay_9 (by decide) (fun c5 => ?_) (fun c5 => ?_)
  · have h := h.1 c5
    refine r_iload_n (pc := 18) C dX11_stay_18 1 rfl ?_
    refine r_iconst (pc := 19) C (v := (1 : Int32)) dX11_stay_19 (by decide) ?_
    refine r_bipush (pc := 20) C (v := (60 : Int32)) dX11_stay_20 (by decide) ?_
    refine r_callSi0 (pc := 22) C (rest := []) rfl [.int v1, .int (1 : Int32), .int (60 : Int32)] yS_X11_in g_1434 (c_X11_in h) dX11_stay_22 rfl rfl (Nat.le_of_ble_eq_true rfl) ⟨by decide, by decide⟩ ⟨by decide, by decide⟩ ⟨rfl, rfl⟩ (fun x8 S6 h g7 => ?_)
    have bx8 := h.1
    have h := h.2 g7 bx8
    have o_v0 := gr_ob g7 o_v0
    refine r_if_ne (pc := 25) C (tgt := 34) dX11_stay_25 (by decide) (fun c9 => ?_) (fun c9 => ?_)
    · have h := h.1 c9
      refine r_aload_n (pc := 34) C dX11_stay_34 0 rfl ?_
      obtain ⟨a10, ea10, h⟩ := h
      refine r_getr (pc := 35) C fL_X11_31 dX11_stay_35 o_v0 ea10 ?_
      refine r_iconst (pc := 38) C (v := (0 : Int32)) dX11_stay_38 (by decide) ?_
      obtain ⟨o_a10, h⟩ := h
      obtain ⟨i11, h⟩ := h
      refine r_lald (pc := 39) C dX11_stay_39 o_a10 i11 ?_
      refine r_topl (fun x12 ex12 => ?_)
      have h := h x12 ex12
      refine r_l2i (pc := 40) C dX11_stay_40 ?_
      refine r_topi (fun x13 ex13 => ?_)
      have h := h x13 ex13
      refine r_istore_n (pc := 41) C dX11_stay_41 rfl (by decide) (lv' := [(2, .int x13), (0, .ref v0), (1, .int v1)]) rfl ?_
      refine r_aload_n (pc := 42) C dX11_stay_42 1 rfl ?_
      refine r_iload_n (pc := 43) C dX11_stay_43 0 rfl ?_
      refine r_callVi0 (pc := 44) C (rest := []) (a := v0) o_v0 [.int x13] yV_X11_canWait g_1715 (c_X11_canWait h) dX11_stay_44 rfl rfl (Nat.le_of_ble_eq_true rfl) ⟨by decide, by decide⟩ ⟨by decide, by decide⟩ ⟨rfl, rfl⟩ (fun x16 S14 h g15 => ?_)
      have bx16 := h.1
      have h := h.2 g15 bx16
      have o_a10 := gr_ob g15 o_a10
      have o_v0 := gr_ob g15 o_v0
      refine r_if_ne (pc := 47) C (tgt := 56) dX11_stay_47 (by decide) (fun c17 => ?_) (fun c17 => ?_)
      · have h := h.1 c17
        refine r_aload_n (pc := 56) C dX11_stay_56 1 rfl ?_
        obtain ⟨a18, ea18, h⟩ := h
        refine r_getr (pc := 57) C fL_X11_31 dX11_stay_57 o_v0 ea18 ?_
        refine r_iconst (pc := 60) C (v := (1 : Int32)) dX11_stay_60 (by decide) ?_
        obtain ⟨o_a18, h⟩ := h
        obtain ⟨i19, h⟩ := h
        refine r_lald (pc := 61) C dX11_stay_61 o_a18 i19 ?_
        refine r_topl (fun x20 ex20 => ?_)
        have h := h x20 ex20
        refine r_iload_n (pc := 62) C dX11_stay_62 2 rfl ?_
        refine r_i2l (pc := 63) C dX11_stay_63 ?_
        refine r_ladd (pc := 64) C dX11_stay_64 ?_
        refine r_ldc2 (pc := 65) C (v := (999 : Int64)) dX11_stay_65 g_1799 ?_
        refine r_lcmp (pc := 68) C dX11_stay_68 ?_
        refine r_if_le (pc := 69) C (tgt := 78) dX11_stay_69 (by decide) (fun c21 => ?_) (fun c21 => ?_)
        · have h := h.1 c21
          refine r_aload_n (pc := 78) C dX11_stay_78 1 rfl ?_
          refine r_callVv0 (pc := 79) C (rest := []) (a := v0) o_v0 [] yV_X11_keeps g_1783 (c_X11_keeps h) dX11_stay_79 rfl rfl (Nat.le_of_ble_eq_true rfl) ⟨by decide, by decide⟩ ⟨by decide, by decide⟩ ⟨rfl, rfl⟩ (fun S22 h g23 => ?_)
          have h := h g23
          have o_a10 := gr_ob g23 o_a10
          have o_a18 := gr_ob g23 o_a18
          have o_v0 := gr_ob g23 o_v0
          refine r_iconst (pc := 82) C (v := (0 : Int32)) dX11_stay_82 (by decide) ?_
          refine r_istore_n (pc := 83) C dX11_stay_83 rfl (by decide) (lv' := [(3, .int (0 : Int32)), (2, .int x13), (0, .ref v0), (1, .int v1)]) rfl ?_
          exact r_sub [2, 3, 1, 0] rfl (T_X11_stay_84 C E ht hn h)
        · have h := h.2 c21
          refine r_aload_n (pc := 72) C dX11_stay_72 1 rfl ?_
          refine r_iconst (pc := 73) C (v := (3 : Int32)) dX11_stay_73 (by decide) ?_
          refine r_callVi0 (pc := 74) C (rest := []) (a := v0) o_v0 [.int (3 : Int32)] yV_X11_denied g_1795 (c_X11_denied h) dX11_stay_74 rfl rfl (Nat.le_of_ble_eq_true rfl) ⟨by decide, by decide⟩ ⟨by decide, by decide⟩ ⟨rfl, rfl⟩ (fun x27 S25 h g26 => ?_)
          have bx27 := h.1
          have h := h.2 g26 bx27
          have o_a10 := gr_ob g26 o_a10
          have o_a18 := gr_ob g26 o_a18
          have o_v0 := gr_ob g26 o_v0
          exact r_zret (pc := 77) C E ht dX11_stay_77 (by decide) (by decide) h.1 h.2
      · have h := h.2 c17
        refine r_aload_n (pc := 50) C dX11_stay_50 1 rfl ?_
        refine r_iconst (pc := 51) C (v := (5 : Int32)) dX11_stay_51 (by decide) ?_
        refine r_callVi0 (pc := 52) C (rest := []) (a := v0) o_v0 [.int (5 : Int32)] yV_X11_denied g_1795 (c_X11_denied h) dX11_stay_52 rfl rfl (Nat.le_of_ble_eq_true rfl) ⟨by decide, by decide⟩ ⟨by decide, by decide⟩ ⟨rfl, rfl⟩ (fun x30 S28 h g29 => ?_)
        have bx30 := h.1
        have h := h.2 g29 bx30
        have o_a10 := gr_ob g29 o_a10
        have o_v0 := gr_ob g29 o_v0
        exact r_zret (pc := 55) C E ht dX11_stay_55 (by decide) (by decide) h.1 h.2
    · have h := h.2 c9
      refine r_aload_n (pc := 28) C dX11_stay_28 0 rfl ?_
      refine r_iconst (pc := 29) C (v := (2 : Int32)) dX11_stay_29 (by decide) ?_
      refine r_callVi0 (pc := 30) C (rest := []) (a := v0) o_v0 [.int (2 : Int32)] yV_X11_denied g_1795 (c_X11_denied h) dX11_stay_30 rfl rfl (Nat.le_of_ble_eq_true rfl) ⟨by decide, by decide⟩ ⟨by decide, by decide⟩ ⟨rfl, rfl⟩ (fun x33 S31 h g32 => ?_)
      have bx33 := h.1
      have h := h.2 g32 bx33
      have o_v0 := gr_ob g32 o_v0
      exact r_zret (pc := 33) C E ht dX11_stay_33 (by decide) (by decide) h.1 h.2
  · have h := h.2 c5
    refine r_aload_n (pc := 12) C dX11_stay_12 0 rfl ?_
    refine r_iconst (pc := 13) C (v := (1 : Int32)) dX11_stay_13 (by decide) ?_
    refine r_callVi0 (pc := 14) C (rest := []) (a := v0) o_v0 [.int (1 : Int32)] yV_X11_denied g_1795 (c_X11_denied h) dX11_stay_14 rfl rfl (Nat.le_of_ble_eq_true rfl) ⟨by decide, by decide⟩ ⟨by decide, by decide⟩ ⟨rfl, rfl⟩ (fun x36 S34 h g35 => ?_)
    have bx36 := h.1
    have h := h.2 g35 bx36
    have o_v0 := gr_ob g35 o_v0
    exact r_zret (pc := 17) C E ht dX11_stay_17 (by decide) (by decide) h.1 h.2
def P_X11_stay (v0 : Nat) (v1 : Int32) (Q : Int32 → HS → Prop) (S : HS) : Prop := P_X11_stay_0 Q v0 v1 S
theorem c_X11_stay {l : Launch} {Ee : EE} {S : HS} {v0 : Nat} {v1 : Int32} {Q : Int32 → HS → Prop} (h : P_X11_stay v0 v1 Q S) : MI l yX11_stay cX11_stay 4 (some .boolean) rm_X11_stay Ee S [.ref v0, .int v1] (fun r S => bl r ∧ Q r S) :=
  openI (by decide) (Nat.le_of_ble_eq_true rfl) (fun X C E ht hn hE hl => by subst hE; exact r_sub [0, 1] rfl (T_X11_stay_0 C E ht hn h))
def rm_X11_stepOf : Room := { frames := 1, cells := 0, slots := 0, locals := 22 }
def P_X11_stepOf_117 (Q : Int32 → HS → Prop) (X9 : Nat → Int32 → Int32 → Int32 → Int32 → HS → Prop) (v0 : Nat) (v4 : Int32) (v6 : Int32) (v7 : Int32) (s0 : Int32) (S : HS) : Prop := X9 v0 v4 s0 v6 v7 S
set_option maxRecDepth 20000 in
set_option maxHeartbeats 4000000 in
theorem T_X11_stepOf_117 {X : CX} {Q : Int32 → HS → Prop} (C : Cx X cX11_stepOf RX11 9 rm_X11_stepOf) (E : ReI X rm_X11_stepOf Q) (ht : (xh X).sig.returnType = (some .int)) (hn : (xh X).name = yX11_stepOf.name) {X9 : Nat → Int32 → Int32 → Int32 → Int32 → HS → Prop} (hX9 : ∀ (v0 : Nat) (v4 : Int32) (v5 : Int32) (v6 : Int32) (v7 : Int32) (S : HS), X9 v0 v4 v5 v6 v7 S → WS X 9 0 0 9 [(0, .ref v0), (4, .int v4), (5, .int v5), (6, .int v6), (7, .int v7)] [] S) {v0 : Nat} {v4 : Int32} {v6 : Int32} {v7 : Int32} {s0 : Int32} {S : HS} (h : P_X11_stepOf_117 Q X9 v0 v4 v6 v7 s0 S) : WS X 9 0 0 117 [(0, .ref v0), (4, .int v4), (6, .int v6), (7, .int v7)] [.int s0] S := by
  refine r_istore (pc := 117) C dX11_stepOf_117 (by decide) (lv' := [(5, .int s0), (0, .ref v0), (4, .int v4), (6, .int v6), (7, .int v7)]) rfl ?_
  refine r_goto (pc := 119) C (tgt := 9) dX11_stepOf_119 (by decide) ?_
  exact r_sub [1, 2, 0, 3, 4] rfl (hX9 v0 v4 s0 v6 v7 S h)
def P_X11_stepOf_82 (Q : Int32 → HS → Prop) (X9 : Nat → Int32 → Int32 → Int32 → Int32 → HS → Prop) (v0 : Nat) (v4 : Int32) (v5 : Int32) (v7 : Int32) (v8 : Int32) (s0 : Int32) (s1 : Int32) (S : HS) : Prop := ∀ x1 : Int32, x1 = s0 + s1 → (((¬ v8 = (-2 : Int32)) → (ob S v0 11 ∧ (∃ a3 : Nat, fR S v0 3 = some a3 ∧ (∀ x4 : Int32, x4 = v8 / (100 : Int32) → (∀ x5 : Int32, x5 = v8 / (10 : Int32) → (∀ x6 : Int32, x6 = x5 - x5 / (10 : Int32) * (10 : Int32) → (ob S a3 10 ∧ (P_X10_ends a3 x4 x6 (fun x9 S7 => Gr S S7 → (P_X11_stepOf_117 Q X9 v0 v4 x1 v7 x9 S7)) S)))))))) ∧ ((v8 = (-2 : Int32)) → (P_X11_stepOf_117 Q X9 v0 v4 x1 v7 v5 S)))
set_option maxRecDepth 20000 in
set_option maxHeartbeats 4000000 in
theorem T_X11_stepOf_82 {X : CX} {Q : Int32 → HS → Prop} (C : Cx X cX11_stepOf RX11 9 rm_X11_stepOf) (E : ReI X rm_X11_stepOf Q) (ht : (xh X).sig.returnType = (some .int)) (hn : (xh X).name = yX11_stepOf.name) {X9 : Nat → Int32 → Int32 → Int32 → Int32 → HS → Prop} (hX9 : ∀ (v0 : Nat) (v4 : Int32) (v5 : Int32) (v6 : Int32) (v7 : Int32) (S : HS), X9 v0 v4 v5 v6 v7 S → WS X 9 0 0 9 [(0, .ref v0), (4, .int v4), (5, .int v5), (6, .int v6), (7, .int v7)] [] S) {v0 : Nat} {v4 : Int32} {v5 : Int32} {v7 : Int32} {v8 : Int32} {s0 : Int32} {s1 : Int32} {S : HS} (h : P_X11_stepOf_82 Q X9 v0 v4 v5 v7 v8 s0 s1 S) : WS X 9 0 0 82 [(0, .ref v0), (4, .int v4), (5, .int v5), (7, .int v7), (8, .int v8)] [.int s1, .int s0] S := by
  refine r_iadd (pc := 82) C dX11_stepOf_82 ?_
  refine r_topi (fun x1 ex1 => ?_)
  have h := h x1 ex1
  refine r_istore (pc := 83) C dX11_stepOf_83 (by decide) (lv' := [(6, .int x1), (0, .ref v0), (4, .int v4), (5, .int v5), (7, .int v7), (8, .int v8)]) rfl ?_
  refine r_iload (pc := 85) C dX11_stepOf_85 5 rfl ?_
  refine r_bipush (pc := 87) C (v := (-2 : Int32)) dX11_stepOf_87 (by decide) ?_
  refine r_icmp_ne (pc := 89) C (tgt := 97) dX11_stepOf_89 (by decide) (fun c2 => ?_) (fun c2 => ?_)
  · have h := h.1 c2
    refine r_aload_n (pc := 97) C dX11_stepOf_97 1 rfl ?_
    obtain ⟨o_v0, h⟩ := h
    obtain ⟨a3, ea3, h⟩ := h
    refine r_getr (pc := 98) C fL_X11_338 dX11_stepOf_98 o_v0 ea3 ?_
    refine r_iload (pc := 101) C dX11_stepOf_101 5 rfl ?_
    refine r_bipush (pc := 103) C (v := (100 : Int32)) dX11_stepOf_103 (by decide) ?_
    refine r_idiv (pc := 105) C dX11_stepOf_105 (by decide) ?_
    refine r_topi (fun x4 ex4 => ?_)
    have h := h x4 ex4
    refine r_iload (pc := 106) C dX11_stepOf_106 5 rfl ?_
    refine r_bipush (pc := 108) C (v := (10 : Int32)) dX11_stepOf_108 (by decide) ?_
    refine r_idiv (pc := 110) C dX11_stepOf_110 (by decide) ?_
    refine r_topi (fun x5 ex5 => ?_)
    have h := h x5 ex5
    refine r_bipush (pc := 111) C (v := (10 : Int32)) dX11_stepOf_111 (by decide) ?_
    refine r_irem (pc := 113) C dX11_stepOf_113 (by decide) ?_
    refine r_topi (fun x6 ex6 => ?_)
    have h := h x6 ex6
    obtain ⟨o_a3, h⟩ := h
    refine r_callVi0 (pc := 114) C (rest := []) (a := a3) o_a3 [.int x4, .int x6] yV_X10_ends g_1699 (c_X10_ends h) dX11_stepOf_114 rfl rfl (Nat.le_of_ble_eq_true rfl) ⟨by decide, by decide⟩ ⟨by decide, by decide⟩ ⟨rfl, rfl⟩ (fun x9 S7 h g8 => ?_)
    have h := h g8
    have o_a3 := gr_ob g8 o_a3
    have o_v0 := gr_ob g8 o_v0
    exact r_sub [1, 2, 0, 4] rfl (T_X11_stepOf_117 C E ht hn hX9 h)
  · have h := h.2 c2
    refine r_iload (pc := 92) C dX11_stepOf_92 3 rfl ?_
    refine r_goto (pc := 94) C (tgt := 117) dX11_stepOf_94 (by decide) ?_
    exact r_sub [1, 2, 0, 4] rfl (T_X11_stepOf_117 C E ht hn hX9 h)
def B_X11_stepOf_9 (Q : Int32 → HS → Prop) (X9 : Nat → Int32 → Int32 → Int32 → Int32 → HS → Prop) (v0 : Nat) (v4 : Int32) (v5 : Int32) (v6 : Int32) (v7 : Int32) (S : HS) : Prop := ob S v0 11 ∧ (∃ a1 : Nat, fR S v0 18 = some a1 ∧ (P_X11_spotOf v5 v6 (fun x4 S2 => Gr S S2 → (ob S2 a1 13 ∧ (vp_in x4 (hN S2 a1) ∧ ∀ x6 : Int32, x6 = fI S2 a1 x4.toNatClampNeg → (((x6 = (-1 : Int32)) → (((0 ≤ v4) → (Q (-1 : Int32) S2)) ∧ ((¬ 0 ≤ v4) → (Q v7 S2)))) ∧ ((¬ x6 = (-1 : Int32)) → (∃ a9 : Nat, fR S2 v0 18 = some a9 ∧ (P_X11_spotOf v5 v6 (fun x12 S10 => Gr S2 S10 → (ob S10 a9 13 ∧ (vp_in x12 (hN S10 a9) ∧ ∀ x14 : Int32, x14 = fI S10 a9 x12.toNatClampNeg → (((¬ v7 = v4) → (∀ x16 : Int32, x16 = v7 + (1 : Int32) → (((¬ x14 = (-2 : Int32)) → (∃ a18 : Nat, fR S10 v0 3 = some a18 ∧ (∀ x19 : Int32, x19 = x14 / (100 : Int32) → (∀ x20 : Int32, x20 = x14 - x14 / (10 : Int32) * (10 : Int32) → (ob S10 a18 10 ∧ (P_X10_minutes a18 x19 x20 (fun x23 S21 => Gr S10 S21 → (P_X11_stepOf_82 Q X9 v0 v4 v5 x16 x14 v6 x23 S21)) S10)))))) ∧ ((x14 = (-2 : Int32)) → (P_X11_stepOf_82 Q X9 v0 v4 v5 x16 x14 v6 (1 : Int32) S10))))) ∧ ((v7 = v4) → (Q x14 S10)))))) S2))))))) S))
def P_X11_stepOf_9 (Q : Int32 → HS → Prop) (v0 : Nat) (v4 : Int32) (v5 : Int32) (v6 : Int32) (v7 : Int32) (S : HS) : Prop := ∀ X9 : Nat → Int32 → Int32 → Int32 → Int32 → HS → Prop, (∀ (v0 : Nat) (v4 : Int32) (v5 : Int32) (v6 : Int32) (v7 : Int32) (S : HS), B_X11_stepOf_9 Q X9 v0 v4 v5 v6 v7 S → X9 v0 v4 v5 v6 v7 S) → X9 v0 v4 v5 v6 v7 S
set_option maxRecDepth 20000 in
set_option maxHeartbeats 4000000 in
theorem TB_X11_stepOf_9 {X : CX} {Q : Int32 → HS → Prop} (C : Cx X cX11_stepOf RX11 9 rm_X11_stepOf) (E : ReI X rm_X11_stepOf Q) (ht : (xh X).sig.returnType = (some .int)) (hn : (xh X).name = yX11_stepOf.name) {X9 : Nat → Int32 → Int32 → Int32 → Int32 → HS → Prop} (hX9 : ∀ (v0 : Nat) (v4 : Int32) (v5 : Int32) (v6 : Int32) (v7 : Int32) (S : HS), X9 v0 v4 v5 v6 v7 S → WS X 9 0 0 9 [(0, .ref v0), (4, .int v4), (5, .int v5), (6, .int v6), (7, .int v7)] [] S) {v0 : Nat} {v4 : Int32} {v5 : Int32} {v6 : Int32} {v7 : Int32} {S : HS} (h : B_X11_stepOf_9 Q X9 v0 v4 v5 v6 v7 S) : WS X 9 0 0 9 [(0, .ref v0), (4, .int v4), (5, .int v5), (6, .int v6), (7, .int v7)] [] S := by
  refine r_aload_n (pc := 9) C dX11_stepOf_9 0 rfl ?_
  obtain ⟨o_v0, h⟩ := h
  obtain ⟨a1, ea1, h⟩ := h
  refine r_getr (pc := 10) C fL_X11_25 dX11_stepOf_10 o_v0 ea1 ?_
  refine r_iload (pc := 13) C dX11_stepOf_13 2 rfl ?_
  refine r_iload (pc := 15) C dX11_stepOf_15 3 rfl ?_
  refine r_callSi0 (pc := 17) C (rest := [.ref a1]) rfl [.int v5, .int v6] yS_X11_spotOf g_1687 (c_X11_spotOf h) dX11_stepOf_17 rfl rfl (Nat.le_of_ble_eq_true rfl) ⟨by decide, by decide⟩ ⟨by decide, by decide⟩ ⟨rfl, rfl⟩ (fun x4 S2 h g3 => ?_)
  have h := h g3
  have o_v0 := gr_ob g3 o_v0
  obtain ⟨o_a1, h⟩ := h
  obtain ⟨i5, h⟩ := h
  refine r_iald (pc := 20) C dX11_stepOf_20 o_a1 i5 ?_
  refine r_topi (fun x6 ex6 => ?_)
  have h := h x6 ex6
  refine r_iconst (pc := 21) C (v := (-1 : Int32)) dX11_stepOf_21 (by decide) ?_
  refine r_icmp_eq (pc := 22) C (tgt := 122) dX11_stepOf_22 (by decide) (fun c7 => ?_) (fun c7 => ?_)
  · have h := h.1 c7
    refine r_iload (pc := 122) C dX11_stepOf_122 1 rfl ?_
    refine r_if_ge (pc := 124) C (tgt := 132) dX11_stepOf_124 (by decide) (fun c8 => ?_) (fun c8 => ?_)
    · have h := h.1 c8
      refine r_iconst (pc := 132) C (v := (-1 : Int32)) dX11_stepOf_132 (by decide) ?_
      exact r_iret (pc := 133) C E ht dX11_stepOf_133 (by decide) (by decide) h
    · have h := h.2 c8
      refine r_iload (pc := 127) C dX11_stepOf_127 4 rfl ?_
      refine r_goto (pc := 129) C (tgt := 133) dX11_stepOf_129 (by decide) ?_
      exact r_iret (pc := 133) C E ht dX11_stepOf_133 (by decide) (by decide) h
  · have h := h.2 c7
    refine r_aload_n (pc := 25) C dX11_stepOf_25 0 rfl ?_
    obtain ⟨a9, ea9, h⟩ := h
    refine r_getr (pc := 26) C fL_X11_25 dX11_stepOf_26 o_v0 ea9 ?_
    refine r_iload (pc := 29) C dX11_stepOf_29 2 rfl ?_
    refine r_iload (pc := 31) C dX11_stepOf_31 3 rfl ?_
    refine r_callSi0 (pc := 33) C (rest := [.ref a9]) rfl [.int v5, .int v6] yS_X11_spotOf g_1687 (c_X11_spotOf h) dX11_stepOf_33 rfl rfl (Nat.le_of_ble_eq_true rfl) ⟨by decide, by decide⟩ ⟨by decide, by decide⟩ ⟨rfl, rfl⟩ (fun x12 S10 h g11 => ?_)
    have h := h g11
    have o_a1 := gr_ob g11 o_a1
    have o_v0 := gr_ob g11 o_v0
    obtain ⟨o_a9, h⟩ := h
    obtain ⟨i13, h⟩ := h
    refine r_iald (pc := 36) C dX11_stepOf_36 o_a9 i13 ?_
    refine r_topi (fun x14 ex14 => ?_)
    have h := h x14 ex14
    refine r_istore (pc := 37) C dX11_stepOf_37 (by decide) (lv' := [(8, .int x14), (0, .ref v0), (4, .int v4), (5, .int v5), (6, .int v6), (7, .int v7)]) rfl ?_
    refine r_iload (pc := 39) C dX11_stepOf_39 5 rfl ?_
    refine r_iload (pc := 41) C dX11_stepOf_41 2 rfl ?_
    refine r_icmp_ne (pc := 43) C (tgt := 49) dX11_stepOf_43 (by decide) (fun c15 => ?_) (fun c15 => ?_)
    · have h := h.1 c15
      obtain ⟨x16, ex16⟩ : ∃ z : Int32, z = v7 + (1 : Int32) := ⟨_, rfl⟩
      have h := h x16 ex16
      refine r_iinc (pc := 49) C (v := x16) (lv' := [(7, .int x16), (8, .int x14), (0, .ref v0), (4, .int v4), (5, .int v5), (6, .int v6)]) dX11_stepOf_49 5 rfl ex16.symm (by decide) rfl ?_
      refine r_iload (pc := 52) C dX11_stepOf_52 5 rfl ?_
      refine r_iload (pc := 54) C dX11_stepOf_54 1 rfl ?_
      refine r_bipush (pc := 56) C (v := (-2 : Int32)) dX11_stepOf_56 (by decide) ?_
      refine r_icmp_ne (pc := 58) C (tgt := 65) dX11_stepOf_58 (by decide) (fun c17 => ?_) (fun c17 => ?_)
      · have h := h.1 c17
        refine r_aload_n (pc := 65) C dX11_stepOf_65 2 rfl ?_
        obtain ⟨a18, ea18, h⟩ := h
        refine r_getr (pc := 66) C fL_X11_338 dX11_stepOf_66 o_v0 ea18 ?_
        refine r_iload (pc := 69) C dX11_stepOf_69 1 rfl ?_
        refine r_bipush (pc := 71) C (v := (100 : Int32)) dX11_stepOf_71 (by decide) ?_
        refine r_idiv (pc := 73) C dX11_stepOf_73 (by decide) ?_
        refine r_topi (fun x19 ex19 => ?_)
        have h := h x19 ex19
        refine r_iload (pc := 74) C dX11_stepOf_74 1 rfl ?_
        refine r_bipush (pc := 76) C (v := (10 : Int32)) dX11_stepOf_76 (by decide) ?_
        refine r_irem (pc := 78) C dX11_stepOf_78 (by decide) ?_
        refine r_topi (fun x20 ex20 => ?_)
        have h := h x20 ex20
        obtain ⟨o_a18, h⟩ := h
        refine r_callVi0 (pc := 79) C (rest := [.int v6]) (a := a18) o_a18 [.int x19, .int x20] yV_X10_minutes g_1607 (c_X10_minutes h) dX11_stepOf_79 rfl rfl (Nat.le_of_ble_eq_true rfl) ⟨by decide, by decide⟩ ⟨by decide, by decide⟩ ⟨rfl, rfl⟩ (fun x23 S21 h g22 => ?_)
        have h := h g22
        have o_a1 := gr_ob g22 o_a1
        have o_a18 := gr_ob g22 o_a18
        have o_a9 := gr_ob g22 o_a9
        have o_v0 := gr_ob g22 o_v0
        exact r_sub [2, 3, 4, 0, 1] rfl (T_X11_stepOf_82 C E ht hn hX9 h)
      · have h := h.2 c17
        refine r_iconst (pc := 61) C (v := (1 : Int32)) dX11_stepOf_61 (by decide) ?_
        refine r_goto (pc := 62) C (tgt := 82) dX11_stepOf_62 (by decide) ?_
        exact r_sub [2, 3, 4, 0, 1] rfl (T_X11_stepOf_82 C E ht hn hX9 h)
    · have h := h.2 c15
      refine r_iload (pc := 46) C dX11_stepOf_46 0 rfl ?_
      exact r_iret (pc := 48) C E ht dX11_stepOf_48 (by decide) (by decide) h
theorem T_X11_stepOf_9 {X : CX} {Q : Int32 → HS → Prop} (C : Cx X cX11_stepOf RX11 9 rm_X11_stepOf) (E : ReI X rm_X11_stepOf Q) (ht : (xh X).sig.returnType = (some .int)) (hn : (xh X).name = yX11_stepOf.name) {v0 : Nat} {v4 : Int32} {v5 : Int32} {v6 : Int32} {v7 : Int32} {S : HS} (h : P_X11_stepOf_9 Q v0 v4 v5 v6 v7 S) : WS X 9 0 0 9 [(0, .ref v0), (4, .int v4), (5, .int v5), (6, .int v6), (7, .int v7)] [] S :=
  h (fun v0 v4 v5 v6 v7 S => WS X 9 0 0 9 [(0, .ref v0), (4, .int v4), (5, .int v5), (6, .int v6), (7, .int v7)] [] S) (fun v0 v4 v5 v6 v7 S hh => TB_X11_stepOf_9 C E ht hn (fun v0 v4 v5 v6 v7 S z => z) hh)
def P_X11_stepOf_0 (Q : Int32 → HS → Prop) (v0 : Nat) (v2 : Int32) (v3 : Int32) (v4 : Int32) (S : HS) : Prop := P_X11_stepOf_9 Q v0 v4 v2 v3 (0 : Int32) S
set_option maxRecDepth 20000 in
set_option maxHeartbeats 4000000 in
theorem T_X11_stepOf_0 {X : CX} {Q : Int32 → HS → Prop} (C : Cx X cX11_stepOf RX11 9 rm_X11_stepOf) (E : ReI X rm_X11_stepOf Q) (ht : (xh X).sig.returnType = (some .int)) (hn : (xh X).name = yX11_stepOf.name) {v0 : Nat} {v2 : Int32} {v3 : Int32} {v4 : Int32} {S : HS} (h : P_X11_stepOf_0 Q v0 v2 v3 v4 S) : WS X 9 0 0 0 [(0, .ref v0), (2, .int v2), (3, .int v3), (4, .int v4)] [] S := by
  refine r_iload_n (pc := 0) C dX11_stepOf_0 1 rfl ?_
  refine r_istore (pc := 1) C dX11_stepOf_1 (by decide) (lv' := [(5, .int v2), (0, .ref v0), (2, .int v2), (3, .int v3), (4, .int v4)]) rfl ?_
  refine r_iload_n (pc := 3) C dX11_stepOf_3 3 rfl ?_
  refine r_istore (pc := 4) C dX11_stepOf_4 (by decide) (lv' := [(6, .int v3), (5, .int v2), (0, .ref v0), (2, .int v2), (3, .int v3), (4, .int v4)]) rfl ?_
  refine r_iconst (pc := 6) C (v := (0 : Int32)) dX11_stepOf_6 (by decide) ?_
  refine r_istore (pc := 7) C dX11_stepOf_7 (by decide) (lv' := [(7, .int (0 : Int32)), (6, .int v3), (5, .int v2), (0, .ref v0), (2, .int v2), (3, .int v3), (4, .int v4)]) rfl ?_
  exact r_sub [3, 6, 2, 1, 0] rfl (T_X11_stepOf_9 C E ht hn h)
def P_X11_stepOf (v0 : Nat) (v1 : Int32) (v2 : Int32) (v3 : Int32) (v4 : Int32) (Q : Int32 → HS → Prop) (S : HS) : Prop := P_X11_stepOf_0 Q v0 v2 v3 v4 S
theorem c_X11_stepOf {l : Launch} {Ee : EE} {S : HS} {v0 : Nat} {v1 : Int32} {v2 : Int32} {v3 : Int32} {v4 : Int32} {Q : Int32 → HS → Prop} (h : P_X11_stepOf v0 v1 v2 v3 v4 Q S) : MI l yX11_stepOf cX11_stepOf 9 (some .int) rm_X11_stepOf Ee S [.ref v0, .int v1, .int v2, .int v3, .int v4] Q :=
  openI (by decide) (Nat.le_of_ble_eq_true rfl) (fun X C E ht hn hE hl => by subst hE; exact r_sub [0, 2, 3, 4] rfl (T_X11_stepOf_0 C E ht hn h))
def rm_X11_step : Room := { frames := 10, cells := 0, slots := 0, locals := 268 }
def P_X11_step_49 (Q : Int32 → HS → Prop) (v0 : Nat) (s0 : Int32) (S : HS) : Prop := ((¬ s0 = (-1 : Int32)) → (ob S v0 11 ∧ (P_X11_good v0 s0 (fun x4 S2 => Gr S S2 → (Q x4 S2)) S))) ∧ ((s0 = (-1 : Int32)) → (ob S v0 11 ∧ (P_X11_refused v0 (1 : Int32) (fun x7 S5 => Gr S S5 → (Q x7 S5)) S)))
set_option maxRecDepth 20000 in
set_option maxHeartbeats 4000000 in
theorem T_X11_step_49 {X : CX} {Q : Int32 → HS → Prop} (C : Cx X cX11_step RX11 9 rm_X11_step) (E : ReI X rm_X11_step Q) (ht : (xh X).sig.returnType = (some .int)) (hn : (xh X).name = yX11_step.name) {v0 : Nat} {s0 : Int32} {S : HS} (h : P_X11_step_49 Q v0 s0 S) : WS X 9 0 0 49 [(0, .ref v0)] [.int s0] S := by
  refine r_istore (pc := 49) C dX11_step_49 (by decide) (lv' := [(8, .int s0), (0, .ref v0)]) rfl ?_
  refine r_iload (pc := 51) C dX11_step_51 0 rfl ?_
  refine r_iconst (pc := 53) C (v := (-1 : Int32)) dX11_step_53 (by decide) ?_
  refine r_icmp_ne (pc := 54) C (tgt := 65) dX11_step_54 (by decide) (fun c1 => ?_) (fun c1 => ?_)
  · have h := h.1 c1
    refine r_aload_n (pc := 65) C dX11_step_65 1 rfl ?_
    refine r_iload (pc := 66) C dX11_step_66 0 rfl ?_
    obtain ⟨o_v0, h⟩ := h
    refine r_callVi0 (pc := 68) C (rest := []) (a := v0) o_v0 [.int s0] yV_X11_good g_1518 (c_X11_good h) dX11_step_68 rfl rfl (Nat.le_of_ble_eq_true rfl) ⟨by decide, by decide⟩ ⟨by decide, by decide⟩ ⟨rfl, rfl⟩ (fun x4 S2 h g3 => ?_)
    have h := h g3
    have o_v0 := gr_ob g3 o_v0
    exact r_iret (pc := 71) C E ht dX11_step_71 (by decide) (by decide) h
  · have h := h.2 c1
    refine r_aload_n (pc := 57) C dX11_step_57 1 rfl ?_
    refine r_iconst (pc := 58) C (v := (1 : Int32)) dX11_step_58 (by decide) ?_
    obtain ⟨o_v0, h⟩ := h
    refine r_callVi0 (pc := 59) C (rest := []) (a := v0) o_v0 [.int (1 : Int32)] yV_X11_refused g_1250 (c_X11_refused h) dX11_step_59 rfl rfl (Nat.le_of_ble_eq_true rfl) ⟨by decide, by decide⟩ ⟨by decide, by decide⟩ ⟨rfl, rfl⟩ (fun x7 S5 h g6 => ?_)
    have h := h g6
    have o_v0 := gr_ob g6 o_v0
    refine r_goto (pc := 62) C (tgt := 71) dX11_step_62 (by decide) ?_
    exact r_iret (pc := 71) C E ht dX11_step_71 (by decide) (by decide) h
def P_X11_step_0 (Q : Int32 → HS → Prop) (v0 : Nat) (v1 : Int32) (v2 : Int32) (v3 : Int32) (v4 : Int32) (v5 : Int32) (v6 : Int32) (S : HS) : Prop := ob S v0 11 ∧ (∀ S1 : HS, S1 = sI S v0 0 (0 : Int32) → (P_X11_refusesWay v0 v1 v2 v3 v4 v5 (fun x4 S2 => Gr S1 S2 → (((x4 ≤ 0) → (((0 ≤ v6) → (P_X11_stepOf v0 v1 v2 v4 v6 (fun x9 S7 => Gr S2 S7 → (P_X11_step_49 Q v0 x9 S7)) S2)) ∧ ((¬ 0 ≤ v6) → (P_X11_step_49 Q v0 (-1 : Int32) S2)))) ∧ ((¬ x4 ≤ 0) → (P_X11_refused v0 x4 (fun x12 S10 => Gr S2 S10 → (Q x12 S10)) S2)))) S1))
set_option maxRecDepth 20000 in
set_option maxHeartbeats 4000000 in
theorem T_X11_step_0 {X : CX} {Q : Int32 → HS → Prop} (C : Cx X cX11_step RX11 9 rm_X11_step) (E : ReI X rm_X11_step Q) (ht : (xh X).sig.returnType = (some .int)) (hn : (xh X).name = yX11_step.name) {v0 : Nat} {v1 : Int32} {v2 : Int32} {v3 : Int32} {v4 : Int32} {v5 : Int32} {v6 : Int32} {S : HS} (h : P_X11_step_0 Q v0 v1 v2 v3 v4 v5 v6 S) : WS X 9 0 0 0 [(0, .ref v0), (1, .int v1), (2, .int v2), (3, .int v3), (4, .int v4), (5, .int v5), (6, .int v6)] [] S := by
  refine r_aload_n (pc := 0) C dX11_step_0 0 rfl ?_
  refine r_iconst (pc := 1) C (v := (0 : Int32)) dX11_step_1 (by decide) ?_
  obtain ⟨o_v0, h⟩ := h
  refine r_puti (pc := 2) C pfL_X11_40 dX11_step_2 o_v0 ?_
  refine r_heap (fun S1 eS1 => ?_)
  have h := h S1 eS1
  have o_v0 := ob_I eS1 o_v0
  refine r_aload_n (pc := 5) C dX11_step_5 0 rfl ?_
  refine r_iload_n (pc := 6) C dX11_step_6 1 rfl ?_
  refine r_iload_n (pc := 7) C dX11_step_7 2 rfl ?_
  refine r_iload_n (pc := 8) C dX11_step_8 3 rfl ?_
  refine r_iload (pc := 9) C dX11_step_9 4 rfl ?_
  refine r_iload (pc := 11) C dX11_step_11 5 rfl ?_
  refine r_callVi0 (pc := 13) C (rest := []) (a := v0) o_v0 [.int v1, .int v2, .int v3, .int v4, .int v5] yV_X11_refusesWay g_1675 (c_X11_refusesWay h) dX11_step_13 rfl rfl (Nat.le_of_ble_eq_true rfl) ⟨by decide, by decide⟩ ⟨by decide, by decide⟩ ⟨rfl, rfl⟩ (fun x4 S2 h g3 => ?_)
  have h := h g3
  have o_v0 := gr_ob g3 o_v0
  refine r_istore (pc := 16) C dX11_step_16 (by decide) (lv' := [(7, .int x4), (0, .ref v0), (1, .int v1), (2, .int v2), (3, .int v3), (4, .int v4), (5, .int v5), (6, .int v6)]) rfl ?_
  refine r_iload (pc := 18) C dX11_step_18 0 rfl ?_
  refine r_if_le (pc := 20) C (tgt := 30) dX11_step_20 (by decide) (fun c5 => ?_) (fun c5 => ?_)
  · have h := h.1 c5
    refine r_iload (pc := 30) C dX11_step_30 7 rfl ?_
    refine r_if_ge (pc := 32) C (tgt := 39) dX11_step_32 (by decide) (fun c6 => ?_) (fun c6 => ?_)
    · have h := h.1 c6
      refine r_aload_n (pc := 39) C dX11_step_39 1 rfl ?_
      refine r_iload_n (pc := 40) C dX11_step_40 2 rfl ?_
      refine r_iload_n (pc := 41) C dX11_step_41 3 rfl ?_
      refine r_iload (pc := 42) C dX11_step_42 5 rfl ?_
      refine r_iload (pc := 44) C dX11_step_44 7 rfl ?_
      refine r_callVi0 (pc := 46) C (rest := []) (a := v0) o_v0 [.int v1, .int v2, .int v4, .int v6] yV_X11_stepOf g_1735 (c_X11_stepOf h) dX11_step_46 rfl rfl (Nat.le_of_ble_eq_true rfl) ⟨by decide, by decide⟩ ⟨by decide, by decide⟩ ⟨rfl, rfl⟩ (fun x9 S7 h g8 => ?_)
      have h := h g8
      have o_v0 := gr_ob g8 o_v0
      exact r_sub [1] rfl (T_X11_step_49 C E ht hn h)
    · have h := h.2 c6
      refine r_iconst (pc := 35) C (v := (-1 : Int32)) dX11_step_35 (by decide) ?_
      refine r_goto (pc := 36) C (tgt := 49) dX11_step_36 (by decide) ?_
      exact r_sub [1] rfl (T_X11_step_49 C E ht hn h)
  · have h := h.2 c5
    refine r_aload_n (pc := 23) C dX11_step_23 1 rfl ?_
    refine r_iload (pc := 24) C dX11_step_24 0 rfl ?_
    refine r_callVi0 (pc := 26) C (rest := []) (a := v0) o_v0 [.int x4] yV_X11_refused g_1250 (c_X11_refused h) dX11_step_26 rfl rfl (Nat.le_of_ble_eq_true rfl) ⟨by decide, by decide⟩ ⟨by decide, by decide⟩ ⟨rfl, rfl⟩ (fun x12 S10 h g11 => ?_)
    have h := h g11
    have o_v0 := gr_ob g11 o_v0
    exact r_iret (pc := 29) C E ht dX11_step_29 (by decide) (by decide) h
def P_X11_step (v0 : Nat) (v1 : Int32) (v2 : Int32) (v3 : Int32) (v4 : Int32) (v5 : Int32) (v6 : Int32) (Q : Int32 → HS → Prop) (S : HS) : Prop := P_X11_step_0 Q v0 v1 v2 v3 v4 v5 v6 S
theorem c_X11_step {l : Launch} {Ee : EE} {S : HS} {v0 : Nat} {v1 : Int32} {v2 : Int32} {v3 : Int32} {v4 : Int32} {v5 : Int32} {v6 : Int32} {Q : Int32 → HS → Prop} (h : P_X11_step v0 v1 v2 v3 v4 v5 v6 Q S) : MI l yX11_step cX11_step 9 (some .int) rm_X11_step Ee S [.ref v0, .int v1, .int v2, .int v3, .int v4, .int v5, .int v6] Q :=
  openI (by decide) (Nat.le_of_ble_eq_true rfl) (fun X C E ht hn hE hl => by subst hE; exact r_sub [0, 1, 2, 3, 4, 5, 6] rfl (T_X11_step_0 C E ht hn h))
def rm_X11_steps : Room := { frames := 10, cells := 0, slots := 0, locals := 268 }
def P_X11_steps_0 (Q : Int32 → HS → Prop) (v0 : Nat) (v1 : Int32) (v2 : Int32) (v3 : Int32) (v4 : Int32) (v5 : Int32) (S : HS) : Prop := ob S v0 11 ∧ (∀ S1 : HS, S1 = sI S v0 0 (0 : Int32) → (P_X11_refusesWay v0 v1 v2 v3 v4 v5 (fun x4 S2 => Gr S1 S2 → (((x4 ≤ 0) → (P_X11_stepOf v0 v1 v2 v4 (-1 : Int32) (fun x8 S6 => Gr S2 S6 → (P_X11_good v0 x8 (fun x11 S9 => Gr S6 S9 → (Q x11 S9)) S6)) S2)) ∧ ((¬ x4 ≤ 0) → (P_X11_refused v0 x4 (fun x14 S12 => Gr S2 S12 → (Q x14 S12)) S2)))) S1))
set_option maxRecDepth 20000 in
set_option maxHeartbeats 4000000 in
theorem T_X11_steps_0 {X : CX} {Q : Int32 → HS → Prop} (C : Cx X cX11_steps RX11 7 rm_X11_steps) (E : ReI X rm_X11_steps Q) (ht : (xh X).sig.returnType = (some .int)) (hn : (xh X).name = yX11_steps.name) {v0 : Nat} {v1 : Int32} {v2 : Int32} {v3 : Int32} {v4 : Int32} {v5 : Int32} {S : HS} (h : P_X11_steps_0 Q v0 v1 v2 v3 v4 v5 S) : WS X 7 0 0 0 [(0, .ref v0), (1, .int v1), (2, .int v2), (3, .int v3), (4, .int v4), (5, .int v5)] [] S := by
  refine r_aload_n (pc := 0) C dX11_steps_0 0 rfl ?_
  refine r_iconst (pc := 1) C (v := (0 : Int32)) dX11_steps_1 (by decide) ?_
  obtain ⟨o_v0, h⟩ := h
  refine r_puti (pc := 2) C pfL_X11_40 dX11_steps_2 o_v0 ?_
  refine r_heap (fun S1 eS1 => ?_)
  have h := h S1 eS1
  have o_v0 := ob_I eS1 o_v0
  refine r_aload_n (pc := 5) C dX11_steps_5 0 rfl ?_
  refine r_iload_n (pc := 6) C dX11_steps_6 1 rfl ?_
  refine r_iload_n (pc := 7) C dX11_steps_7 2 rfl ?_
  refine r_iload_n (pc := 8) C dX11_steps_8 3 rfl ?_
  refine r_iload (pc := 9) C dX11_steps_9 4 rfl ?_
  refine r_iload (pc := 11) C dX11_steps_11 5 rfl ?_
  refine r_callVi0 (pc := 13) C (rest := []) (a := v0) o_v0 [.int v1, .int v2, .int v3, .int v4, .int v5] yV_X11_refusesWay g_1675 (c_X11_refusesWay h) dX11_steps_13 rfl rfl (Nat.le_of_ble_eq_true rfl) ⟨by decide, by decide⟩ ⟨by decide, by decide⟩ ⟨rfl, rfl⟩ (fun x4 S2 h g3 => ?_)
  have h := h g3
  have o_v0 := gr_ob g3 o_v0
  refine r_istore (pc := 16) C dX11_steps_16 (by decide) (lv' := [(6, .int x4), (0, .ref v0), (1, .int v1), (2, .int v2), (3, .int v3), (4, .int v4), (5, .int v5)]) rfl ?_
  refine r_iload (pc := 18) C dX11_steps_18 0 rfl ?_
  refine r_if_le (pc := 20) C (tgt := 32) dX11_steps_20 (by decide) (fun c5 => ?_) (fun c5 => ?_)
  · have h := h.1 c5
    refine r_aload_n (pc := 32) C dX11_steps_32 1 rfl ?_
    refine r_aload_n (pc := 33) C dX11_steps_33 1 rfl ?_
    refine r_iload_n (pc := 34) C dX11_steps_34 2 rfl ?_
    refine r_iload_n (pc := 35) C dX11_steps_35 3 rfl ?_
    refine r_iload (pc := 36) C dX11_steps_36 5 rfl ?_
    refine r_iconst (pc := 38) C (v := (-1 : Int32)) dX11_steps_38 (by decide) ?_
    refine r_callVi0 (pc := 39) C (rest := [.ref v0]) (a := v0) o_v0 [.int v1, .int v2, .int v4, .int (-1 : Int32)] yV_X11_stepOf g_1735 (c_X11_stepOf h) dX11_steps_39 rfl rfl (Nat.le_of_ble_eq_true rfl) ⟨by decide, by decide⟩ ⟨by decide, by decide⟩ ⟨rfl, rfl⟩ (fun x8 S6 h g7 => ?_)
    have h := h g7
    have o_v0 := gr_ob g7 o_v0
    refine r_callVi0 (pc := 42) C (rest := []) (a := v0) o_v0 [.int x8] yV_X11_good g_1518 (c_X11_good h) dX11_steps_42 rfl rfl (Nat.le_of_ble_eq_true rfl) ⟨by decide, by decide⟩ ⟨by decide, by decide⟩ ⟨rfl, rfl⟩ (fun x11 S9 h g10 => ?_)
    have h := h g10
    have o_v0 := gr_ob g10 o_v0
    exact r_iret (pc := 45) C E ht dX11_steps_45 (by decide) (by decide) h
  · have h := h.2 c5
    refine r_aload_n (pc := 23) C dX11_steps_23 1 rfl ?_
    refine r_iload (pc := 24) C dX11_steps_24 0 rfl ?_
    refine r_callVi0 (pc := 26) C (rest := []) (a := v0) o_v0 [.int x4] yV_X11_refused g_1250 (c_X11_refused h) dX11_steps_26 rfl rfl (Nat.le_of_ble_eq_true rfl) ⟨by decide, by decide⟩ ⟨by decide, by decide⟩ ⟨rfl, rfl⟩ (fun x14 S12 h g13 => ?_)
    have h := h g13
    have o_v0 := gr_ob g13 o_v0
    refine r_goto (pc := 29) C (tgt := 45) dX11_steps_29 (by decide) ?_
    exact r_iret (pc := 45) C E ht dX11_steps_45 (by decide) (by decide) h
def P_X11_steps (v0 : Nat) (v1 : Int32) (v2 : Int32) (v3 : Int32) (v4 : Int32) (v5 : Int32) (Q : Int32 → HS → Prop) (S : HS) : Prop := P_X11_steps_0 Q v0 v1 v2 v3 v4 v5 S
theorem c_X11_steps {l : Launch} {Ee : EE} {S : HS} {v0 : Nat} {v1 : Int32} {v2 : Int32} {v3 : Int32} {v4 : Int32} {v5 : Int32} {Q : Int32 → HS → Prop} (h : P_X11_steps v0 v1 v2 v3 v4 v5 Q S) : MI l yX11_steps cX11_steps 7 (some .int) rm_X11_steps Ee S [.ref v0, .int v1, .int v2, .int v3, .int v4, .int v5] Q :=
  openI (by decide) (Nat.le_of_ble_eq_true rfl) (fun X C E ht hn hE hl => by subst hE; exact r_sub [0, 1, 2, 3, 4, 5] rfl (T_X11_steps_0 C E ht hn h))
def rm_X11_there : Room := { frames := 10, cells := 0, slots := 0, locals := 268 }
def P_X11_there_0 (Q : Int32 → HS → Prop) (v0 : Nat) (v1 : Int32) (v2 : Int32) (v3 : Int32) (v4 : Int32) (v5 : Int32) (S : HS) : Prop := ob S v0 11 ∧ (∀ S1 : HS, S1 = sI S v0 0 (0 : Int32) → (P_X11_refusesWay v0 v1 v2 v3 v4 v5 (fun x4 S2 => Gr S1 S2 → (((x4 ≤ 0) → (∃ a6 : Nat, fR S2 v0 17 = some a6 ∧ (P_X11_spotOf v2 v4 (fun x9 S7 => Gr S2 S7 → (ob S7 a6 13 ∧ (vp_in x9 (hN S7 a6) ∧ ∀ x11 : Int32, x11 = fI S7 a6 x9.toNatClampNeg → (P_X11_good v0 x11 (fun x14 S12 => Gr S7 S12 → (Q x14 S12)) S7)))) S2))) ∧ ((¬ x4 ≤ 0) → (P_X11_refused v0 x4 (fun x17 S15 => Gr S2 S15 → (Q x17 S15)) S2)))) S1))
set_option maxRecDepth 20000 in
set_option maxHeartbeats 4000000 in
theorem T_X11_there_0 {X : CX} {Q : Int32 → HS → Prop} (C : Cx X cX11_there RX11 7 rm_X11_there) (E : ReI X rm_X11_there Q) (ht : (xh X).sig.returnType = (some .int)) (hn : (xh X).name = yX11_there.name) {v0 : Nat} {v1 : Int32} {v2 : Int32} {v3 : Int32} {v4 : Int32} {v5 : Int32} {S : HS} (h : P_X11_there_0 Q v0 v1 v2 v3 v4 v5 S) : WS X 7 0 0 0 [(0, .ref v0), (1, .int v1), (2, .int v2), (3, .int v3), (4, .int v4), (5, .int v5)] [] S := by
  refine r_aload_n (pc := 0) C dX11_there_0 0 rfl ?_
  refine r_iconst (pc := 1) C (v := (0 : Int32)) dX11_there_1 (by decide) ?_
  obtain ⟨o_v0, h⟩ := h
  refine r_puti (pc := 2) C pfL_X11_40 dX11_there_2 o_v0 ?_
  refine r_heap (fun S1 eS1 => ?_)
  have h := h S1 eS1
  have o_v0 := ob_I eS1 o_v0
  refine r_aload_n (pc := 5) C dX11_there_5 0 rfl ?_
  refine r_iload_n (pc := 6) C dX11_there_6 1 rfl ?_
  refine r_iload_n (pc := 7) C dX11_there_7 2 rfl ?_
  refine r_iload_n (pc := 8) C dX11_there_8 3 rfl ?_
  refine r_iload (pc := 9) C dX11_there_9 4 rfl ?_
  refine r_iload (pc := 11) C dX11_there_11 5 rfl ?_
  refine r_callVi0 (pc := 13) C (rest := []) (a := v0) o_v0 [.int v1, .int v2, .int v3, .int v4, .int v5] yV_X11_refusesWay g_1675 (c_X11_refusesWay h) dX11_there_13 rfl rfl (Nat.le_of_ble_eq_true rfl) ⟨by decide, by decide⟩ ⟨by decide, by decide⟩ ⟨rfl, rfl⟩ (fun x4 S2 h g3 => ?_)
  have h := h g3
  have o_v0 := gr_ob g3 o_v0
  refine r_istore (pc := 16) C dX11_there_16 (by decide) (lv' := [(6, .int x4), (0, .ref v0), (1, .int v1), (2, .int v2), (3, .int v3), (4, .int v4), (5, .int v5)]) rfl ?_
  refine r_iload (pc := 18) C dX11_there_18 0 rfl ?_
  refine r_if_le (pc := 20) C (tgt := 32) dX11_there_20 (by decide) (fun c5 => ?_) (fun c5 => ?_)
  · have h := h.1 c5
    refine r_aload_n (pc := 32) C dX11_there_32 1 rfl ?_
    refine r_aload_n (pc := 33) C dX11_there_33 1 rfl ?_
    obtain ⟨a6, ea6, h⟩ := h
    refine r_getr (pc := 34) C fL_X11_21 dX11_there_34 o_v0 ea6 ?_
    refine r_iload_n (pc := 37) C dX11_there_37 3 rfl ?_
    refine r_iload (pc := 38) C dX11_there_38 5 rfl ?_
    refine r_callSi0 (pc := 40) C (rest := [.ref a6, .ref v0]) rfl [.int v2, .int v4] yS_X11_spotOf g_1687 (c_X11_spotOf h) dX11_there_40 rfl rfl (Nat.le_of_ble_eq_true rfl) ⟨by decide, by decide⟩ ⟨by decide, by decide⟩ ⟨rfl, rfl⟩ (fun x9 S7 h g8 => ?_)
    have h := h g8
    have o_v0 := gr_ob g8 o_v0
    obtain ⟨o_a6, h⟩ := h
    obtain ⟨i10, h⟩ := h
    refine r_iald (pc := 43) C dX11_there_43 o_a6 i10 ?_
    refine r_topi (fun x11 ex11 => ?_)
    have h := h x11 ex11
    refine r_callVi0 (pc := 44) C (rest := []) (a := v0) o_v0 [.int x11] yV_X11_good g_1518 (c_X11_good h) dX11_there_44 rfl rfl (Nat.le_of_ble_eq_true rfl) ⟨by decide, by decide⟩ ⟨by decide, by decide⟩ ⟨rfl, rfl⟩ (fun x14 S12 h g13 => ?_)
    have h := h g13
    have o_a6 := gr_ob g13 o_a6
    have o_v0 := gr_ob g13 o_v0
    exact r_iret (pc := 47) C E ht dX11_there_47 (by decide) (by decide) h
  · have h := h.2 c5
    refine r_aload_n (pc := 23) C dX11_there_23 1 rfl ?_
    refine r_iload (pc := 24) C dX11_there_24 0 rfl ?_
    refine r_callVi0 (pc := 26) C (rest := []) (a := v0) o_v0 [.int x4] yV_X11_refused g_1250 (c_X11_refused h) dX11_there_26 rfl rfl (Nat.le_of_ble_eq_true rfl) ⟨by decide, by decide⟩ ⟨by decide, by decide⟩ ⟨rfl, rfl⟩ (fun x17 S15 h g16 => ?_)
    have h := h g16
    have o_v0 := gr_ob g16 o_v0
    refine r_goto (pc := 29) C (tgt := 47) dX11_there_29 (by decide) ?_
    exact r_iret (pc := 47) C E ht dX11_there_47 (by decide) (by decide) h
def P_X11_there (v0 : Nat) (v1 : Int32) (v2 : Int32) (v3 : Int32) (v4 : Int32) (v5 : Int32) (Q : Int32 → HS → Prop) (S : HS) : Prop := P_X11_there_0 Q v0 v1 v2 v3 v4 v5 S
theorem c_X11_there {l : Launch} {Ee : EE} {S : HS} {v0 : Nat} {v1 : Int32} {v2 : Int32} {v3 : Int32} {v4 : Int32} {v5 : Int32} {Q : Int32 → HS → Prop} (h : P_X11_there v0 v1 v2 v3 v4 v5 Q S) : MI l yX11_there cX11_there 7 (some .int) rm_X11_there Ee S [.ref v0, .int v1, .int v2, .int v3, .int v4, .int v5] Q :=
  openI (by decide) (Nat.le_of_ble_eq_true rfl) (fun X C E ht hn hE hl => by subst hE; exact r_sub [0, 1, 2, 3, 4, 5] rfl (T_X11_there_0 C E ht hn h))
def rm_X11_trouble : Room := { frames := 0, cells := 0, slots := 0, locals := 0 }
def P_X11_trouble_0 (Q : Int32 → HS → Prop) (v0 : Nat) (S : HS) : Prop := ob S v0 11 ∧ (∀ S1 : HS, S1 = sI S v0 0 (0 : Int32) → (∀ x2 : Int32, x2 = fI S1 v0 1 → (Q x2 S1)))
set_option maxRecDepth 20000 in
set_option maxHeartbeats 4000000 in
theorem T_X11_trouble_0 {X : CX} {Q : Int32 → HS → Prop} (C : Cx X cX11_trouble RX11 1 rm_X11_trouble) (E : ReI X rm_X11_trouble Q) (ht : (xh X).sig.returnType = (some .int)) (hn : (xh X).name = yX11_trouble.name) {v0 : Nat} {S : HS} (h : P_X11_trouble_0 Q v0 S) : WS X 1 0 0 0 [(0, .ref v0)] [] S := by
  refine r_aload_n (pc := 0) C dX11_trouble_0 0 rfl ?_
  refine r_iconst (pc := 1) C (v := (0 : Int32)) dX11_trouble_1 (by decide) ?_
  obtain ⟨o_v0, h⟩ := h
  refine r_puti (pc := 2) C pfL_X11_40 dX11_trouble_2 o_v0 ?_
  refine r_heap (fun S1 eS1 => ?_)
  have h := h S1 eS1
  have o_v0 := ob_I eS1 o_v0
  refine r_aload_n (pc := 5) C dX11_trouble_5 0 rfl ?_
  refine r_geti (pc := 6) C fL_X11_43 dX11_trouble_6 o_v0 ?_
  refine r_topi (fun x2 ex2 => ?_)
  have h := h x2 ex2
  exact r_iret (pc := 9) C E ht dX11_trouble_9 (by decide) (by decide) h
def P_X11_trouble (v0 : Nat) (Q : Int32 → HS → Prop) (S : HS) : Prop := P_X11_trouble_0 Q v0 S
theorem c_X11_trouble {l : Launch} {Ee : EE} {S : HS} {v0 : Nat} {Q : Int32 → HS → Prop} (h : P_X11_trouble v0 Q S) : MI l yX11_trouble cX11_trouble 1 (some .int) rm_X11_trouble Ee S [.ref v0] Q :=
  openI (by decide) (Nat.le_of_ble_eq_true rfl) (fun X C E ht hn hE hl => by subst hE; exact r_sub [0] rfl (T_X11_trouble_0 C E ht hn h))
def rm_X11_undo : Room := { frames := 2, cells := 0, slots := 0, locals := 42 }
def P_X11_undo_19 (Q : Int32 → HS → Prop) (v0 : Nat) (S : HS) : Prop := ob S v0 11 ∧ (P_X11_denied v0 (6 : Int32) (fun x3 S1 => Gr S S1 → bl x3 → (bl x3 ∧ Q x3 S1)) S)
set_option maxRecDepth 20000 in
set_option maxHeartbeats 4000000 in
theorem T_X11_undo_19 {X : CX} {Q : Int32 → HS → Prop} (C : Cx X cX11_undo RX11 2 rm_X11_undo) (E : ReI X rm_X11_undo (fun r S => bl r ∧ Q r S)) (ht : (xh X).sig.returnType = (some .boolean)) (hn : (xh X).name = yX11_undo.name) {v0 : Nat} {S : HS} (h : P_X11_undo_19 Q v0 S) : WS X 2 0 0 19 [(0, .ref v0)] [] S := by
  refine r_aload_n (pc := 19) C dX11_undo_19 0 rfl ?_
  refine r_bipush (pc := 20) C (v := (6 : Int32)) dX11_undo_20 (by decide) ?_
  obtain ⟨o_v0, h⟩ := h
  refine r_callVi0 (pc := 22) C (rest := []) (a := v0) o_v0 [.int (6 : Int32)] yV_X11_denied g_1795 (c_X11_denied h) dX11_undo_22 rfl rfl (Nat.le_of_ble_eq_true rfl) ⟨by decide, by decide⟩ ⟨by decide, by decide⟩ ⟨rfl, rfl⟩ (fun x3 S1 h g2 => ?_)
  have bx3 := h.1
  have h := h.2 g2 bx3
  have o_v0 := gr_ob g2 o_v0
  exact r_zret (pc := 25) C E ht dX11_undo_25 (by decide) (by decide) h.1 h.2
def B_X11_undo_38 (Q : Int32 → HS → Prop) (X38 : Nat → Int32 → HS → Prop) (v0 : Nat) (v1 : Int32) (S : HS) : Prop := (((7 : Int32) ≤ v1) → (ob S v0 11 ∧ (P_X11_granted v0 (fun x4 S2 => Gr S S2 → bl x4 → (bl x4 ∧ Q x4 S2)) S))) ∧ ((¬ (7 : Int32) ≤ v1) → (ob S v0 11 ∧ (∃ a5 : Nat, fR S v0 21 = some a5 ∧ (∃ a6 : Nat, fR S v0 22 = some a6 ∧ (∀ x7 : Int32, x7 = fI S v0 24 → (ob S a6 14 ∧ (∀ x9 : Int32, x9 = ((7 : Int32) * x7) + v1 → (vp_in x9 (hN S a6) ∧ ∀ x10 : Int64, x10 = fJ S a6 x9.toNatClampNeg → (ob S a5 14 ∧ (vp_in v1 (hN S a5) ∧ (∀ S12 : HS, S12 = sJ S a5 v1.toNatClampNeg x10 → (∀ x13 : Int32, x13 = v1 + (1 : Int32) → (X38 v0 x13 S12)))))))))))))
def P_X11_undo_38 (Q : Int32 → HS → Prop) (v0 : Nat) (v1 : Int32) (S : HS) : Prop := ∀ X38 : Nat → Int32 → HS → Prop, (∀ (v0 : Nat) (v1 : Int32) (S : HS), B_X11_undo_38 Q X38 v0 v1 S → X38 v0 v1 S) → X38 v0 v1 S
set_option maxRecDepth 20000 in
set_option maxHeartbeats 4000000 in
theorem TB_X11_undo_38 {X : CX} {Q : Int32 → HS → Prop} (C : Cx X cX11_undo RX11 2 rm_X11_undo) (E : ReI X rm_X11_undo (fun r S => bl r ∧ Q r S)) (ht : (xh X).sig.returnType = (some .boolean)) (hn : (xh X).name = yX11_undo.name) {X38 : Nat → Int32 → HS → Prop} (hX38 : ∀ (v0 : Nat) (v1 : Int32) (S : HS), X38 v0 v1 S → WS X 2 0 0 38 [(0, .ref v0), (1, .int v1)] [] S) {v0 : Nat} {v1 : Int32} {S : HS} (h : B_X11_undo_38 Q X38 v0 v1 S) : WS X 2 0 0 38 [(0, .ref v0), (1, .int v1)] [] S := by
  refine r_iload_n (pc := 38) C dX11_undo_38 1 rfl ?_
  refine r_bipush (pc := 39) C (v := (7 : Int32)) dX11_undo_39 (by decide) ?_
  refine r_icmp_ge (pc := 41) C (tgt := 70) dX11_undo_41 (by decide) (fun c1 => ?_) (fun c1 => ?_)
  · have h := h.1 c1
    refine r_aload_n (pc := 70) C dX11_undo_70 0 rfl ?_
    obtain ⟨o_v0, h⟩ := h
    refine r_callVi0 (pc := 71) C (rest := []) (a := v0) o_v0 [] yV_X11_granted g_1800 (c_X11_granted h) dX11_undo_71 rfl rfl (Nat.le_of_ble_eq_true rfl) ⟨by decide, by decide⟩ ⟨by decide, by decide⟩ ⟨rfl, rfl⟩ (fun x4 S2 h g3 => ?_)
    have bx4 := h.1
    have h := h.2 g3 bx4
    have o_v0 := gr_ob g3 o_v0
    exact r_zret (pc := 74) C E ht dX11_undo_74 (by decide) (by decide) h.1 h.2
  · have h := h.2 c1
    refine r_aload_n (pc := 44) C dX11_undo_44 0 rfl ?_
    obtain ⟨o_v0, h⟩ := h
    obtain ⟨a5, ea5, h⟩ := h
    refine r_getr (pc := 45) C fL_X11_31 dX11_undo_45 o_v0 ea5 ?_
    refine r_iload_n (pc := 48) C dX11_undo_48 1 rfl ?_
    refine r_aload_n (pc := 49) C dX11_undo_49 0 rfl ?_
    obtain ⟨a6, ea6, h⟩ := h
    refine r_getr (pc := 50) C fL_X11_34 dX11_undo_50 o_v0 ea6 ?_
    refine r_bipush (pc := 53) C (v := (7 : Int32)) dX11_undo_53 (by decide) ?_
    refine r_aload_n (pc := 55) C dX11_undo_55 0 rfl ?_
    refine r_geti (pc := 56) C fL_X11_340 dX11_undo_56 o_v0 ?_
    refine r_topi (fun x7 ex7 => ?_)
    have h := h x7 ex7
    refine r_imul (pc := 59) C dX11_undo_59 ?_
    refine r_iload_n (pc := 60) C dX11_undo_60 1 rfl ?_
    refine r_iadd (pc := 61) C dX11_undo_61 ?_
    obtain ⟨o_a6, h⟩ := h
    refine r_topi (fun x9 ex9 => ?_)
    have h := h x9 ex9
    obtain ⟨i8, h⟩ := h
    refine r_lald (pc := 62) C dX11_undo_62 o_a6 i8 ?_
    refine r_topl (fun x10 ex10 => ?_)
    have h := h x10 ex10
    obtain ⟨o_a5, h⟩ := h
    obtain ⟨i11, h⟩ := h
    refine r_last (pc := 63) C dX11_undo_63 o_a5 i11 ?_
    refine r_heap (fun S12 eS12 => ?_)
    have h := h S12 eS12
    have o_a5 := ob_J eS12 o_a5
    have o_a6 := ob_J eS12 o_a6
    have o_v0 := ob_J eS12 o_v0
    obtain ⟨x13, ex13⟩ : ∃ z : Int32, z = v1 + (1 : Int32) := ⟨_, rfl⟩
    have h := h x13 ex13
    refine r_iinc (pc := 64) C (v := x13) (lv' := [(1, .int x13), (0, .ref v0)]) dX11_undo_64 1 rfl ex13.symm (by decide) rfl ?_
    refine r_goto (pc := 67) C (tgt := 38) dX11_undo_67 (by decide) ?_
    exact r_sub [1, 0] rfl (hX38 v0 x13 S12 h)
theorem T_X11_undo_38 {X : CX} {Q : Int32 → HS → Prop} (C : Cx X cX11_undo RX11 2 rm_X11_undo) (E : ReI X rm_X11_undo (fun r S => bl r ∧ Q r S)) (ht : (xh X).sig.returnType = (some .boolean)) (hn : (xh X).name = yX11_undo.name) {v0 : Nat} {v1 : Int32} {S : HS} (h : P_X11_undo_38 Q v0 v1 S) : WS X 2 0 0 38 [(0, .ref v0), (1, .int v1)] [] S :=
  h (fun v0 v1 S => WS X 2 0 0 38 [(0, .ref v0), (1, .int v1)] [] S) (fun v0 v1 S hh => TB_X11_undo_38 C E ht hn (fun v0 v1 S z => z) hh)
def P_X11_undo_0 (Q : Int32 → HS → Prop) (v0 : Nat) (S : HS) : Prop := ob S v0 11 ∧ (∀ S1 : HS, S1 = sI S v0 0 (0 : Int32) → (P_X11_isDay v0 (fun x4 S2 => Gr S1 S2 → bl x4 → (((x4 = 0) → (P_X11_undo_19 Q v0 S2)) ∧ ((¬ x4 = 0) → (∀ x6 : Int32, x6 = fI S2 v0 24 → (((¬ x6 = 0) → (∀ x8 : Int32, x8 = fI S2 v0 24 → (∀ x9 : Int32, x9 = x8 - (1 : Int32) → (∀ S10 : HS, S10 = sI S2 v0 24 x9 → (P_X11_undo_38 Q v0 (0 : Int32) S10))))) ∧ ((x6 = 0) → (P_X11_undo_19 Q v0 S2))))))) S1))
set_option maxRecDepth 20000 in
set_option maxHeartbeats 4000000 in
theorem T_X11_undo_0 {X : CX} {Q : Int32 → HS → Prop} (C : Cx X cX11_undo RX11 2 rm_X11_undo) (E : ReI X rm_X11_undo (fun r S => bl r ∧ Q r S)) (ht : (xh X).sig.returnType = (some .boolean)) (hn : (xh X).name = yX11_undo.name) {v0 : Nat} {S : HS} (h : P_X11_undo_0 Q v0 S) : WS X 2 0 0 0 [(0, .ref v0)] [] S := by
  refine r_aload_n (pc := 0) C dX11_undo_0 0 rfl ?_
  refine r_iconst (pc := 1) C (v := (0 : Int32)) dX11_undo_1 (by decide) ?_
  obtain ⟨o_v0, h⟩ := h
  refine r_puti (pc := 2) C pfL_X11_40 dX11_undo_2 o_v0 ?_
  refine r_heap (fun S1 eS1 => ?_)
  have h := h S1 eS1
  have o_v0 := ob_I eS1 o_v0
  refine r_aload_n (pc := 5) C dX11_undo_5 0 rfl ?_
  refine r_callVi0 (pc := 6) C (rest := []) (a := v0) o_v0 [] yV_X11_isDay g_1779 (c_X11_isDay h) dX11_undo_6 rfl rfl (Nat.le_of_ble_eq_true rfl) ⟨by decide, by decide⟩ ⟨by decide, by decide⟩ ⟨rfl, rfl⟩ (fun x4 S2 h g3 => ?_)
  have bx4 := h.1
  have h := h.2 g3 bx4
  have o_v0 := gr_ob g3 o_v0
  refine r_if_eq (pc := 9) C (tgt := 19) dX11_undo_9 (by decide) (fun c5 => ?_) (fun c5 => ?_)
  · have h := h.1 c5
    exact r_sub [0] rfl (T_X11_undo_19 C E ht hn h)
  · have h := h.2 c5
    refine r_aload_n (pc := 12) C dX11_undo_12 0 rfl ?_
    refine r_geti (pc := 13) C fL_X11_340 dX11_undo_13 o_v0 ?_
    refine r_topi (fun x6 ex6 => ?_)
    have h := h x6 ex6
    refine r_if_ne (pc := 16) C (tgt := 26) dX11_undo_16 (by decide) (fun c7 => ?_) (fun c7 => ?_)
    · have h := h.1 c7
      refine r_aload_n (pc := 26) C dX11_undo_26 0 rfl ?_
      refine r_dup (pc := 27) C dX11_undo_27 rfl ?_
      refine r_geti (pc := 28) C fL_X11_340 dX11_undo_28 o_v0 ?_
      refine r_topi (fun x8 ex8 => ?_)
      have h := h x8 ex8
      refine r_iconst (pc := 31) C (v := (1 : Int32)) dX11_undo_31 (by decide) ?_
      refine r_isub (pc := 32) C dX11_undo_32 ?_
      refine r_topi (fun x9 ex9 => ?_)
      have h := h x9 ex9
      refine r_puti (pc := 33) C pfL_X11_340 dX11_undo_33 o_v0 ?_
      refine r_heap (fun S10 eS10 => ?_)
      have h := h S10 eS10
      have o_v0 := ob_I eS10 o_v0
      refine r_iconst (pc := 36) C (v := (0 : Int32)) dX11_undo_36 (by decide) ?_
      refine r_istore_n (pc := 37) C dX11_undo_37 rfl (by decide) (lv' := [(1, .int (0 : Int32)), (0, .ref v0)]) rfl ?_
      exact r_sub [1, 0] rfl (T_X11_undo_38 C E ht hn h)
    · have h := h.2 c7
      exact r_sub [0] rfl (T_X11_undo_19 C E ht hn h)
def P_X11_undo (v0 : Nat) (Q : Int32 → HS → Prop) (S : HS) : Prop := P_X11_undo_0 Q v0 S
theorem c_X11_undo {l : Launch} {Ee : EE} {S : HS} {v0 : Nat} {Q : Int32 → HS → Prop} (h : P_X11_undo v0 Q S) : MI l yX11_undo cX11_undo 2 (some .boolean) rm_X11_undo Ee S [.ref v0] (fun r S => bl r ∧ Q r S) :=
  openI (by decide) (Nat.le_of_ble_eq_true rfl) (fun X C E ht hn hE hl => by subst hE; exact r_sub [0] rfl (T_X11_undo_0 C E ht hn h))
def rm_X11_walker : Room := { frames := 1, cells := 0, slots := 0, locals := 22 }
def P_X11_walker_23 (Q : Int32 → HS → Prop) (v0 : Nat) (S : HS) : Prop := ob S v0 11 ∧ (P_X11_refused v0 (1 : Int32) (fun x3 S1 => Gr S S1 → (Q x3 S1)) S)
set_option maxRecDepth 20000 in
set_option maxHeartbeats 4000000 in
theorem T_X11_walker_23 {X : CX} {Q : Int32 → HS → Prop} (C : Cx X cX11_walker RX11 3 rm_X11_walker) (E : ReI X rm_X11_walker Q) (ht : (xh X).sig.returnType = (some .int)) (hn : (xh X).name = yX11_walker.name) {v0 : Nat} {S : HS} (h : P_X11_walker_23 Q v0 S) : WS X 3 0 0 23 [(0, .ref v0)] [] S := by
  refine r_aload_n (pc := 23) C dX11_walker_23 0 rfl ?_
  refine r_iconst (pc := 24) C (v := (1 : Int32)) dX11_walker_24 (by decide) ?_
  obtain ⟨o_v0, h⟩ := h
  refine r_callVi0 (pc := 25) C (rest := []) (a := v0) o_v0 [.int (1 : Int32)] yV_X11_refused g_1250 (c_X11_refused h) dX11_walker_25 rfl rfl (Nat.le_of_ble_eq_true rfl) ⟨by decide, by decide⟩ ⟨by decide, by decide⟩ ⟨rfl, rfl⟩ (fun x3 S1 h g2 => ?_)
  have h := h g2
  have o_v0 := gr_ob g2 o_v0
  exact r_iret (pc := 28) C E ht dX11_walker_28 (by decide) (by decide) h
def P_X11_walker_0 (Q : Int32 → HS → Prop) (v0 : Nat) (v1 : Int32) (v2 : Int32) (S : HS) : Prop := ob S v0 11 ∧ (∀ S1 : HS, S1 = sI S v0 0 (0 : Int32) → (P_X11_isWalker v0 v1 (fun x4 S2 => Gr S1 S2 → bl x4 → (((x4 = 0) → (P_X11_walker_23 Q v0 S2)) ∧ ((¬ x4 = 0) → (P_X11_in v2 (0 : Int32) (6 : Int32) (fun x8 S6 => Gr S2 S6 → bl x8 → (((¬ x8 = 0) → ((v2.toInt < 0 ∨ 5 < v2.toInt → (∃ a11 : Nat, fR S6 v0 3 = some a11 ∧ (ob S6 a11 10 ∧ (∃ a12 : Nat, fR S6 a11 25 = some a12 ∧ (ob S6 a12 13 ∧ (vp_in v1 (hN S6 a12) ∧ ∀ x14 : Int32, x14 = fI S6 a12 v1.toNatClampNeg → (P_X11_good v0 x14 (fun x17 S15 => Gr S6 S15 → (Q x17 S15)) S6))))))) ∧ (v2.toInt = 0 → (∃ a18 : Nat, fR S6 v0 3 = some a18 ∧ (ob S6 a18 10 ∧ (∃ a19 : Nat, fR S6 a18 19 = some a19 ∧ (ob S6 a19 13 ∧ (vp_in v1 (hN S6 a19) ∧ ∀ x21 : Int32, x21 = fI S6 a19 v1.toNatClampNeg → (P_X11_good v0 x21 (fun x24 S22 => Gr S6 S22 → (Q x24 S22)) S6))))))) ∧ (v2.toInt = 1 → (∃ a25 : Nat, fR S6 v0 3 = some a25 ∧ (ob S6 a25 10 ∧ (∃ a26 : Nat, fR S6 a25 20 = some a26 ∧ (ob S6 a26 13 ∧ (vp_in v1 (hN S6 a26) ∧ ∀ x28 : Int32, x28 = fI S6 a26 v1.toNatClampNeg → (P_X11_good v0 x28 (fun x31 S29 => Gr S6 S29 → (Q x31 S29)) S6))))))) ∧ (v2.toInt = 2 → (∃ a32 : Nat, fR S6 v0 3 = some a32 ∧ (ob S6 a32 10 ∧ (∃ a33 : Nat, fR S6 a32 21 = some a33 ∧ (ob S6 a33 13 ∧ (vp_in v1 (hN S6 a33) ∧ ∀ x35 : Int32, x35 = fI S6 a33 v1.toNatClampNeg → (P_X11_good v0 x35 (fun x38 S36 => Gr S6 S36 → (Q x38 S36)) S6))))))) ∧ (v2.toInt = 3 → (∃ a39 : Nat, fR S6 v0 3 = some a39 ∧ (ob S6 a39 10 ∧ (∃ a40 : Nat, fR S6 a39 22 = some a40 ∧ (ob S6 a40 13 ∧ (vp_in v1 (hN S6 a40) ∧ ∀ x42 : Int32, x42 = fI S6 a40 v1.toNatClampNeg → (P_X11_good v0 x42 (fun x45 S43 => Gr S6 S43 → (Q x45 S43)) S6))))))) ∧ (v2.toInt = 4 → (∃ a46 : Nat, fR S6 v0 3 = some a46 ∧ (ob S6 a46 10 ∧ (∃ a47 : Nat, fR S6 a46 23 = some a47 ∧ (ob S6 a47 13 ∧ (vp_in v1 (hN S6 a47) ∧ ∀ x49 : Int32, x49 = fI S6 a47 v1.toNatClampNeg → (P_X11_good v0 x49 (fun x52 S50 => Gr S6 S50 → (Q x52 S50)) S6))))))) ∧ (v2.toInt = 5 → (∃ a53 : Nat, fR S6 v0 3 = some a53 ∧ (ob S6 a53 10 ∧ (∃ a54 : Nat, fR S6 a53 24 = some a54 ∧ (ob S6 a54 13 ∧ (vp_in v1 (hN S6 a54) ∧ ∀ x56 : Int32, x56 = fI S6 a54 v1.toNatClampNeg → (P_X11_good v0 x56 (fun x59 S57 => Gr S6 S57 → (Q x59 S57)) S6))))))))) ∧ ((x8 = 0) → (P_X11_walker_23 Q v0 S6)))) S2)))) S1))
set_option maxRecDepth 20000 in
set_option maxHeartbeats 4000000 in
theorem T_X11_walker_0 {X : CX} {Q : Int32 → HS → Prop} (C : Cx X cX11_walker RX11 3 rm_X11_walker) (E : ReI X rm_X11_walker Q) (ht : (xh X).sig.returnType = (some .int)) (hn : (xh X).name = yX11_walker.name) {v0 : Nat} {v1 : Int32} {v2 : Int32} {S : HS} (h : P_X11_walker_0 Q v0 v1 v2 S) : WS X 3 0 0 0 [(0, .ref v0), (1, .int v1), (2, .int v2)] [] S := by
  refine r_aload_n (pc := 0) C dX11_walker_0 0 rfl ?_
  refine r_iconst (pc := 1) C (v := (0 : Int32)) dX11_walker_1 (by decide) ?_
  obtain ⟨o_v0, h⟩ := h
  refine r_puti (pc := 2) C pfL_X11_40 dX11_walker_2 o_v0 ?_
  refine r_heap (fun S1 eS1 => ?_)
  have h := h S1 eS1
  have o_v0 := ob_I eS1 o_v0
  refine r_aload_n (pc := 5) C dX11_walker_5 0 rfl ?_
  refine r_iload_n (pc := 6) C dX11_walker_6 1 rfl ?_
  refine r_callVi0 (pc := 7) C (rest := []) (a := v0) o_v0 [.int v1] yV_X11_isWalker g_1538 (c_X11_isWalker h) dX11_walker_7 rfl rfl (Nat.le_of_ble_eq_true rfl) ⟨by decide, by decide⟩ ⟨by decide, by decide⟩ ⟨rfl, rfl⟩ (fun x4 S2 h g3 => ?_)
  have bx4 := h.1
  have h := h.2 g3 bx4
  have o_v0 := gr_ob g3 o_v0
  refine r_if_eq (pc := 10) C (tgt := 23) dX11_walker_10 (by decide) (fun c5 => ?_) (fun c5 => ?_)
  · have h := h.1 c5
    exact r_sub [0] rfl (T_X11_walker_23 C E ht hn h)
  · have h := h.2 c5
    refine r_iload_n (pc := 13) C dX11_walker_13 2 rfl ?_
    refine r_iconst (pc := 14) C (v := (0 : Int32)) dX11_walker_14 (by decide) ?_
    refine r_bipush (pc := 15) C (v := (6 : Int32)) dX11_walker_15 (by decide) ?_
    refine r_callSi0 (pc := 17) C (rest := []) rfl [.int v2, .int (0 : Int32), .int (6 : Int32)] yS_X11_in g_1434 (c_X11_in h) dX11_walker_17 rfl rfl (Nat.le_of_ble_eq_true rfl) ⟨by decide, by decide⟩ ⟨by decide, by decide⟩ ⟨rfl, rfl⟩ (fun x8 S6 h g7 => ?_)
    have bx8 := h.1
    have h := h.2 g7 bx8
    have o_v0 := gr_ob g7 o_v0
    refine r_if_ne (pc := 20) C (tgt := 29) dX11_walker_20 (by decide) (fun c9 => ?_) (fun c9 => ?_)
    · have h := h.1 c9
      refine r_iload_n (pc := 29) C dX11_walker_29 2 rfl ?_
      refine r_table (pc := 30) C (tgt := 152) dX11_walker_30 (by decide) (fun c10 => ?_) (fun j hj hx => ?_)
      · have h := h.1 c10
        refine r_aload_n (pc := 152) C dX11_walker_152 0 rfl ?_
        refine r_aload_n (pc := 153) C dX11_walker_153 0 rfl ?_
        obtain ⟨a11, ea11, h⟩ := h
        refine r_getr (pc := 154) C fL_X11_338 dX11_walker_154 o_v0 ea11 ?_
        obtain ⟨o_a11, h⟩ := h
        obtain ⟨a12, ea12, h⟩ := h
        refine r_getNr (pc := 157) C fN_X11_320 dX11_walker_157 o_a11 ea12 ?_
        refine r_iload_n (pc := 160) C dX11_walker_160 1 rfl ?_
        obtain ⟨o_a12, h⟩ := h
        obtain ⟨i13, h⟩ := h
        refine r_iald (pc := 161) C dX11_walker_161 o_a12 i13 ?_
        refine r_topi (fun x14 ex14 => ?_)
        have h := h x14 ex14
        refine r_callVi0 (pc := 162) C (rest := []) (a := v0) o_v0 [.int x14] yV_X11_good g_1518 (c_X11_good h) dX11_walker_162 rfl rfl (Nat.le_of_ble_eq_true rfl) ⟨by decide, by decide⟩ ⟨by decide, by decide⟩ ⟨rfl, rfl⟩ (fun x17 S15 h g16 => ?_)
        have h := h g16
        have o_a11 := gr_ob g16 o_a11
        have o_a12 := gr_ob g16 o_a12
        have o_v0 := gr_ob g16 o_v0
        exact r_iret (pc := 165) C E ht dX11_walker_165 (by decide) (by decide) h
      · match j, hj, hx with
        | 0, _, hx =>
          refine ⟨38, 68, rfl, by decide, ?_⟩
          have h := h.2.1 (by simpa using hx)
          refine r_aload_n (pc := 68) C dX11_walker_68 0 rfl ?_
          refine r_aload_n (pc := 69) C dX11_walker_69 0 rfl ?_
          obtain ⟨a18, ea18, h⟩ := h
          refine r_getr (pc := 70) C fL_X11_338 dX11_walker_70 o_v0 ea18 ?_
          obtain ⟨o_a18, h⟩ := h
          obtain ⟨a19, ea19, h⟩ := h
          refine r_getNr (pc := 73) C fN_X11_302 dX11_walker_73 o_a18 ea19 ?_
          refine r_iload_n (pc := 76) C dX11_walker_76 1 rfl ?_
          obtain ⟨o_a19, h⟩ := h
          obtain ⟨i20, h⟩ := h
          refine r_iald (pc := 77) C dX11_walker_77 o_a19 i20 ?_
          refine r_topi (fun x21 ex21 => ?_)
          have h := h x21 ex21
          refine r_callVi0 (pc := 78) C (rest := []) (a := v0) o_v0 [.int x21] yV_X11_good g_1518 (c_X11_good h) dX11_walker_78 rfl rfl (Nat.le_of_ble_eq_true rfl) ⟨by decide, by decide⟩ ⟨by decide, by decide⟩ ⟨rfl, rfl⟩ (fun x24 S22 h g23 => ?_)
          have h := h g23
          have o_a18 := gr_ob g23 o_a18
          have o_a19 := gr_ob g23 o_a19
          have o_v0 := gr_ob g23 o_v0
          exact r_iret (pc := 81) C E ht dX11_walker_81 (by decide) (by decide) h
        | 1, _, hx =>
          refine ⟨52, 82, rfl, by decide, ?_⟩
          have h := h.2.2.1 (by simpa using hx)
          refine r_aload_n (pc := 82) C dX11_walker_82 0 rfl ?_
          refine r_aload_n (pc := 83) C dX11_walker_83 0 rfl ?_
          obtain ⟨a25, ea25, h⟩ := h
          refine r_getr (pc := 84) C fL_X11_338 dX11_walker_84 o_v0 ea25 ?_
          obtain ⟨o_a25, h⟩ := h
          obtain ⟨a26, ea26, h⟩ := h
          refine r_getNr (pc := 87) C fN_X11_305 dX11_walker_87 o_a25 ea26 ?_
          refine r_iload_n (pc := 90) C dX11_walker_90 1 rfl ?_
          obtain ⟨o_a26, h⟩ := h
          obtain ⟨i27, h⟩ := h
          refine r_iald (pc := 91) C dX11_walker_91 o_a26 i27 ?_
          refine r_topi (fun x28 ex28 => ?_)
          have h := h x28 ex28
          refine r_callVi0 (pc := 92) C (rest := []) (a := v0) o_v0 [.int x28] yV_X11_good g_1518 (c_X11_good h) dX11_walker_92 rfl rfl (Nat.le_of_ble_eq_true rfl) ⟨by decide, by decide⟩ ⟨by decide, by decide⟩ ⟨rfl, rfl⟩ (fun x31 S29 h g30 => ?_)
          have h := h g30
          have o_a25 := gr_ob g30 o_a25
          have o_a26 := gr_ob g30 o_a26
          have o_v0 := gr_ob g30 o_v0
          exact r_iret (pc := 95) C E ht dX11_walker_95 (by decide) (by decide) h
        | 2, _, hx =>
          refine ⟨66, 96, rfl, by decide, ?_⟩
          have h := h.2.2.2.1 (by simpa using hx)
          refine r_aload_n (pc := 96) C dX11_walker_96 0 rfl ?_
          refine r_aload_n (pc := 97) C dX11_walker_97 0 rfl ?_
          obtain ⟨a32, ea32, h⟩ := h
          refine r_getr (pc := 98) C fL_X11_338 dX11_walker_98 o_v0 ea32 ?_
          obtain ⟨o_a32, h⟩ := h
          obtain ⟨a33, ea33, h⟩ := h
          refine r_getNr (pc := 101) C fN_X11_308 dX11_walker_101 o_a32 ea33 ?_
          refine r_iload_n (pc := 104) C dX11_walker_104 1 rfl ?_
          obtain ⟨o_a33, h⟩ := h
          obtain ⟨i34, h⟩ := h
          refine r_iald (pc := 105) C dX11_walker_105 o_a33 i34 ?_
          refine r_topi (fun x35 ex35 => ?_)
          have h := h x35 ex35
          refine r_callVi0 (pc := 106) C (rest := []) (a := v0) o_v0 [.int x35] yV_X11_good g_1518 (c_X11_good h) dX11_walker_106 rfl rfl (Nat.le_of_ble_eq_true rfl) ⟨by decide, by decide⟩ ⟨by decide, by decide⟩ ⟨rfl, rfl⟩ (fun x38 S36 h g37 => ?_)
          have h := h g37
          have o_a32 := gr_ob g37 o_a32
          have o_a33 := gr_ob g37 o_a33
          have o_v0 := gr_ob g37 o_v0
          exact r_iret (pc := 109) C E ht dX11_walker_109 (by decide) (by decide) h
        | 3, _, hx =>
          refine ⟨80, 110, rfl, by decide, ?_⟩
          have h := h.2.2.2.2.1 (by simpa using hx)
          refine r_aload_n (pc := 110) C dX11_walker_110 0 rfl ?_
          refine r_aload_n (pc := 111) C dX11_walker_111 0 rfl ?_
          obtain ⟨a39, ea39, h⟩ := h
          refine r_getr (pc := 112) C fL_X11_338 dX11_walker_112 o_v0 ea39 ?_
          obtain ⟨o_a39, h⟩ := h
          obtain ⟨a40, ea40, h⟩ := h
          refine r_getNr (pc := 115) C fN_X11_311 dX11_walker_115 o_a39 ea40 ?_
          refine r_iload_n (pc := 118) C dX11_walker_118 1 rfl ?_
          obtain ⟨o_a40, h⟩ := h
          obtain ⟨i41, h⟩ := h
          refine r_iald (pc := 119) C dX11_walker_119 o_a40 i41 ?_
          refine r_topi (fun x42 ex42 => ?_)
          have h := h x42 ex42
          refine r_callVi0 (pc := 120) C (rest := []) (a := v0) o_v0 [.int x42] yV_X11_good g_1518 (c_X11_good h) dX11_walker_120 rfl rfl (Nat.le_of_ble_eq_true rfl) ⟨by decide, by decide⟩ ⟨by decide, by decide⟩ ⟨rfl, rfl⟩ (fun x45 S43 h g44 => ?_)
          have h := h g44
          have o_a39 := gr_ob g44 o_a39
          have o_a40 := gr_ob g44 o_a40
          have o_v0 := gr_ob g44 o_v0
          exact r_iret (pc := 123) C E ht dX11_walker_123 (by decide) (by decide) h
        | 4, _, hx =>
          refine ⟨94, 124, rfl, by decide, ?_⟩
          have h := h.2.2.2.2.2.1 (by simpa using hx)
          refine r_aload_n (pc := 124) C dX11_walker_124 0 rfl ?_
          refine r_aload_n (pc := 125) C dX11_walker_125 0 rfl ?_
          obtain ⟨a46, ea46, h⟩ := h
          refine r_getr (pc := 126) C fL_X11_338 dX11_walker_126 o_v0 ea46 ?_
          obtain ⟨o_a46, h⟩ := h
          obtain ⟨a47, ea47, h⟩ := h
          refine r_getNr (pc := 129) C fN_X11_314 dX11_walker_129 o_a46 ea47 ?_
          refine r_iload_n (pc := 132) C dX11_walker_132 1 rfl ?_
          obtain ⟨o_a47, h⟩ := h
          obtain ⟨i48, h⟩ := h
          refine r_iald (pc := 133) C dX11_walker_133 o_a47 i48 ?_
          refine r_topi (fun x49 ex49 => ?_)
          have h := h x49 ex49
          refine r_callVi0 (pc := 134) C (rest := []) (a := v0) o_v0 [.int x49] yV_X11_good g_1518 (c_X11_good h) dX11_walker_134 rfl rfl (Nat.le_of_ble_eq_true rfl) ⟨by decide, by decide⟩ ⟨by decide, by decide⟩ ⟨rfl, rfl⟩ (fun x52 S50 h g51 => ?_)
          have h := h g51
          have o_a46 := gr_ob g51 o_a46
          have o_a47 := gr_ob g51 o_a47
          have o_v0 := gr_ob g51 o_v0
          exact r_iret (pc := 137) C E ht dX11_walker_137 (by decide) (by decide) h
        | 5, _, hx =>
          refine ⟨108, 138, rfl, by decide, ?_⟩
          have h := h.2.2.2.2.2.2 (by simpa using hx)
          refine r_aload_n (pc := 138) C dX11_walker_138 0 rfl ?_
          refine r_aload_n (pc := 139) C dX11_walker_139 0 rfl ?_
          obtain ⟨a53, ea53, h⟩ := h
          refine r_getr (pc := 140) C fL_X11_338 dX11_walker_140 o_v0 ea53 ?_
          obtain ⟨o_a53, h⟩ := h
          obtain ⟨a54, ea54, h⟩ := h
          refine r_getNr (pc := 143) C fN_X11_317 dX11_walker_143 o_a53 ea54 ?_
          refine r_iload_n (pc := 146) C dX11_walker_146 1 rfl ?_
          obtain ⟨o_a54, h⟩ := h
          obtain ⟨i55, h⟩ := h
          refine r_iald (pc := 147) C dX11_walker_147 o_a54 i55 ?_
          refine r_topi (fun x56 ex56 => ?_)
          have h := h x56 ex56
          refine r_callVi0 (pc := 148) C (rest := []) (a := v0) o_v0 [.int x56] yV_X11_good g_1518 (c_X11_good h) dX11_walker_148 rfl rfl (Nat.le_of_ble_eq_true rfl) ⟨by decide, by decide⟩ ⟨by decide, by decide⟩ ⟨rfl, rfl⟩ (fun x59 S57 h g58 => ?_)
          have h := h g58
          have o_a53 := gr_ob g58 o_a53
          have o_a54 := gr_ob g58 o_a54
          have o_v0 := gr_ob g58 o_v0
          exact r_iret (pc := 151) C E ht dX11_walker_151 (by decide) (by decide) h
        | j + 6, hj, _ => exact absurd hj (by omega)
    · have h := h.2 c9
      exact r_sub [0] rfl (T_X11_walker_23 C E ht hn h)
def P_X11_walker (v0 : Nat) (v1 : Int32) (v2 : Int32) (Q : Int32 → HS → Prop) (S : HS) : Prop := P_X11_walker_0 Q v0 v1 v2 S
theorem c_X11_walker {l : Launch} {Ee : EE} {S : HS} {v0 : Nat} {v1 : Int32} {v2 : Int32} {Q : Int32 → HS → Prop} (h : P_X11_walker v0 v1 v2 Q S) : MI l yX11_walker cX11_walker 3 (some .int) rm_X11_walker Ee S [.ref v0, .int v1, .int v2] Q :=
  openI (by decide) (Nat.le_of_ble_eq_true rfl) (fun X C E ht hn hE hl => by subst hE; exact r_sub [0, 1, 2] rfl (T_X11_walker_0 C E ht hn h))
def rm_X11_wet : Room := { frames := 6, cells := 0, slots := 0, locals := 163 }
def P_X11_wet_0 (Q : Int64 → HS → Prop) (v0 : Nat) (v1 : Int32) (v2 : Int32) (v3 : Int32) (v4 : Int32) (v5 : Int32) (v6 : Int32) (S : HS) : Prop := ob S v0 11 ∧ (∀ S1 : HS, S1 = sI S v0 0 (0 : Int32) → (P_X11_refuses v0 v1 v2 v3 v4 v5 (fun x4 S2 => Gr S1 S2 → (((x4 ≤ 0) → (P_X11_wetOf v0 v1 v2 v3 v4 v5 (fun x8 S6 => Gr S2 S6 → (P_X11_told v0 x8 (2520 : Int64) v6 (fun x11 S9 => Gr S6 S9 → (Q x11 S9)) S6)) S2)) ∧ ((¬ x4 ≤ 0) → (P_X11_refused v0 x4 (fun x14 S12 => Gr S2 S12 → (Q x14.toInt64 S12)) S2)))) S1))
set_option maxRecDepth 20000 in
set_option maxHeartbeats 4000000 in
theorem T_X11_wet_0 {X : CX} {Q : Int64 → HS → Prop} (C : Cx X cX11_wet RX11 8 rm_X11_wet) (E : ReJ X rm_X11_wet Q) (ht : (xh X).sig.returnType = (some .long)) (hn : (xh X).name = yX11_wet.name) {v0 : Nat} {v1 : Int32} {v2 : Int32} {v3 : Int32} {v4 : Int32} {v5 : Int32} {v6 : Int32} {S : HS} (h : P_X11_wet_0 Q v0 v1 v2 v3 v4 v5 v6 S) : WS X 8 0 0 0 [(0, .ref v0), (1, .int v1), (2, .int v2), (3, .int v3), (4, .int v4), (5, .int v5), (6, .int v6)] [] S := by
  refine r_aload_n (pc := 0) C dX11_wet_0 0 rfl ?_
  refine r_iconst (pc := 1) C (v := (0 : Int32)) dX11_wet_1 (by decide) ?_
  obtain ⟨o_v0, h⟩ := h
  refine r_puti (pc := 2) C pfL_X11_40 dX11_wet_2 o_v0 ?_
  refine r_heap (fun S1 eS1 => ?_)
  have h := h S1 eS1
  have o_v0 := ob_I eS1 o_v0
  refine r_aload_n (pc := 5) C dX11_wet_5 0 rfl ?_
  refine r_iload_n (pc := 6) C dX11_wet_6 1 rfl ?_
  refine r_iload_n (pc := 7) C dX11_wet_7 2 rfl ?_
  refine r_iload_n (pc := 8) C dX11_wet_8 3 rfl ?_
  refine r_iload (pc := 9) C dX11_wet_9 4 rfl ?_
  refine r_iload (pc := 11) C dX11_wet_11 5 rfl ?_
  refine r_callVi0 (pc := 13) C (rest := []) (a := v0) o_v0 [.int v1, .int v2, .int v3, .int v4, .int v5] yV_X11_refuses g_1534 (c_X11_refuses h) dX11_wet_13 rfl rfl (Nat.le_of_ble_eq_true rfl) ⟨by decide, by decide⟩ ⟨by decide, by decide⟩ ⟨rfl, rfl⟩ (fun x4 S2 h g3 => ?_)
  have h := h g3
  have o_v0 := gr_ob g3 o_v0
  refine r_istore (pc := 16) C dX11_wet_16 (by decide) (lv' := [(7, .int x4), (0, .ref v0), (1, .int v1), (2, .int v2), (3, .int v3), (4, .int v4), (5, .int v5), (6, .int v6)]) rfl ?_
  refine r_iload (pc := 18) C dX11_wet_18 0 rfl ?_
  refine r_if_le (pc := 20) C (tgt := 33) dX11_wet_20 (by decide) (fun c5 => ?_) (fun c5 => ?_)
  · have h := h.1 c5
    refine r_aload_n (pc := 33) C dX11_wet_33 1 rfl ?_
    refine r_aload_n (pc := 34) C dX11_wet_34 1 rfl ?_
    refine r_iload_n (pc := 35) C dX11_wet_35 2 rfl ?_
    refine r_iload_n (pc := 36) C dX11_wet_36 3 rfl ?_
    refine r_iload_n (pc := 37) C dX11_wet_37 4 rfl ?_
    refine r_iload (pc := 38) C dX11_wet_38 5 rfl ?_
    refine r_iload (pc := 40) C dX11_wet_40 6 rfl ?_
    refine r_callVl0 (pc := 42) C (rest := [.ref v0]) (a := v0) o_v0 [.int v1, .int v2, .int v3, .int v4, .int v5] yV_X11_wetOf g_1594 (c_X11_wetOf h) dX11_wet_42 rfl rfl (Nat.le_of_ble_eq_true rfl) ⟨by decide, by decide⟩ ⟨by decide, by decide⟩ ⟨rfl, rfl⟩ (fun x8 S6 h g7 => ?_)
    have h := h g7
    have o_v0 := gr_ob g7 o_v0
    refine r_ldc2 (pc := 45) C (v := (2520 : Int64)) dX11_wet_45 g_1585 ?_
    refine r_iload (pc := 48) C dX11_wet_48 7 rfl ?_
    refine r_callVl0 (pc := 50) C (rest := []) (a := v0) o_v0 [.long x8, .long (2520 : Int64), .int v6] yV_X11_told g_1586 (c_X11_told h) dX11_wet_50 rfl rfl (Nat.le_of_ble_eq_true rfl) ⟨by decide, by decide⟩ ⟨by decide, by decide⟩ ⟨rfl, rfl⟩ (fun x11 S9 h g10 => ?_)
    have h := h g10
    have o_v0 := gr_ob g10 o_v0
    exact r_lret (pc := 53) C E ht dX11_wet_53 (by decide) (by decide) h
  · have h := h.2 c5
    refine r_aload_n (pc := 23) C dX11_wet_23 1 rfl ?_
    refine r_iload (pc := 24) C dX11_wet_24 0 rfl ?_
    refine r_callVi0 (pc := 26) C (rest := []) (a := v0) o_v0 [.int x4] yV_X11_refused g_1250 (c_X11_refused h) dX11_wet_26 rfl rfl (Nat.le_of_ble_eq_true rfl) ⟨by decide, by decide⟩ ⟨by decide, by decide⟩ ⟨rfl, rfl⟩ (fun x14 S12 h g13 => ?_)
    have h := h g13
    have o_v0 := gr_ob g13 o_v0
    refine r_i2l (pc := 29) C dX11_wet_29 ?_
    refine r_goto (pc := 30) C (tgt := 53) dX11_wet_30 (by decide) ?_
    exact r_lret (pc := 53) C E ht dX11_wet_53 (by decide) (by decide) h
def P_X11_wet (v0 : Nat) (v1 : Int32) (v2 : Int32) (v3 : Int32) (v4 : Int32) (v5 : Int32) (v6 : Int32) (Q : Int64 → HS → Prop) (S : HS) : Prop := P_X11_wet_0 Q v0 v1 v2 v3 v4 v5 v6 S
theorem c_X11_wet {l : Launch} {Ee : EE} {S : HS} {v0 : Nat} {v1 : Int32} {v2 : Int32} {v3 : Int32} {v4 : Int32} {v5 : Int32} {v6 : Int32} {Q : Int64 → HS → Prop} (h : P_X11_wet v0 v1 v2 v3 v4 v5 v6 Q S) : MJ l yX11_wet cX11_wet 8 (some .long) rm_X11_wet Ee S [.ref v0, .int v1, .int v2, .int v3, .int v4, .int v5, .int v6] Q :=
  openJ (by decide) (Nat.le_of_ble_eq_true rfl) (fun X C E ht hn hE hl => by subst hE; exact r_sub [0, 1, 2, 3, 4, 5, 6] rfl (T_X11_wet_0 C E ht hn h))
def rm_X11_wetness : Room := { frames := 2, cells := 0, slots := 0, locals := 52 }
def P_X11_wetness_41 (Q : Int64 → HS → Prop) (v1 : Int32) (s0 : Nat) (s1 : Int64) (S : HS) : Prop := ob S s0 11 ∧ (P_X11_told s0 s1 (2520 : Int64) v1 (fun x3 S1 => Gr S S1 → (Q x3 S1)) S)
set_option maxRecDepth 20000 in
set_option maxHeartbeats 4000000 in
theorem T_X11_wetness_41 {X : CX} {Q : Int64 → HS → Prop} (C : Cx X cX11_wetness RX11 4 rm_X11_wetness) (E : ReJ X rm_X11_wetness Q) (ht : (xh X).sig.returnType = (some .long)) (hn : (xh X).name = yX11_wetness.name) {v1 : Int32} {s0 : Nat} {s1 : Int64} {S : HS} (h : P_X11_wetness_41 Q v1 s0 s1 S) : WS X 4 0 0 41 [(1, .int v1)] [.long s1, .ref s0] S := by
  refine r_ldc2 (pc := 41) C (v := (2520 : Int64)) dX11_wetness_41 g_1585 ?_
  refine r_iload_n (pc := 44) C dX11_wetness_44 0 rfl ?_
  obtain ⟨o_s0, h⟩ := h
  refine r_callVl0 (pc := 45) C (rest := []) (a := s0) o_s0 [.long s1, .long (2520 : Int64), .int v1] yV_X11_told g_1586 (c_X11_told h) dX11_wetness_45 rfl rfl (Nat.le_of_ble_eq_true rfl) ⟨by decide, by decide⟩ ⟨by decide, by decide⟩ ⟨rfl, rfl⟩ (fun x3 S1 h g2 => ?_)
  have h := h g2
  have o_s0 := gr_ob g2 o_s0
  exact r_lret (pc := 48) C E ht dX11_wetness_48 (by decide) (by decide) h
def P_X11_wetness_0 (Q : Int64 → HS → Prop) (v0 : Nat) (v1 : Int32) (S : HS) : Prop := ob S v0 11 ∧ (∀ S1 : HS, S1 = sI S v0 0 (0 : Int32) → (P_X11_isDay v0 (fun x4 S2 => Gr S1 S2 → bl x4 → (((¬ x4 = 0) → (P_X11_gotInAll v0 (fun x8 S6 => Gr S2 S6 → (P_X11_holds v0 (fun x11 S9 => Gr S6 S9 → (∀ x12 : Int64, x12 = x8 - x11 → (((0 ≤ (lg_cmp x12 (0 : Int64))) → (P_X11_wetness_41 Q v1 v0 x12 S9)) ∧ ((¬ 0 ≤ (lg_cmp x12 (0 : Int64))) → (P_X11_wetness_41 Q v1 v0 (0 : Int64) S9))))) S6)) S2)) ∧ ((x4 = 0) → (P_X11_refused v0 (1 : Int32) (fun x16 S14 => Gr S2 S14 → (Q x16.toInt64 S14)) S2)))) S1))
set_option maxRecDepth 20000 in
set_option maxHeartbeats 4000000 in
theorem T_X11_wetness_0 {X : CX} {Q : Int64 → HS → Prop} (C : Cx X cX11_wetness RX11 4 rm_X11_wetness) (E : ReJ X rm_X11_wetness Q) (ht : (xh X).sig.returnType = (some .long)) (hn : (xh X).name = yX11_wetness.name) {v0 : Nat} {v1 : Int32} {S : HS} (h : P_X11_wetness_0 Q v0 v1 S) : WS X 4 0 0 0 [(0, .ref v0), (1, .int v1)] [] S := by
  refine r_aload_n (pc := 0) C dX11_wetness_0 0 rfl ?_
  refine r_iconst (pc := 1) C (v := (0 : Int32)) dX11_wetness_1 (by decide) ?_
  obtain ⟨o_v0, h⟩ := h
  refine r_puti (pc := 2) C pfL_X11_40 dX11_wetness_2 o_v0 ?_
  refine r_heap (fun S1 eS1 => ?_)
  have h := h S1 eS1
  have o_v0 := ob_I eS1 o_v0
  refine r_aload_n (pc := 5) C dX11_wetness_5 0 rfl ?_
  refine r_callVi0 (pc := 6) C (rest := []) (a := v0) o_v0 [] yV_X11_isDay g_1779 (c_X11_isDay h) dX11_wetness_6 rfl rfl (Nat.le_of_ble_eq_true rfl) ⟨by decide, by decide⟩ ⟨by decide, by decide⟩ ⟨rfl, rfl⟩ (fun x4 S2 h g3 => ?_)
  have bx4 := h.1
  have h := h.2 g3 bx4
  have o_v0 := gr_ob g3 o_v0
  refine r_if_ne (pc := 9) C (tgt := 19) dX11_wetness_9 (by decide) (fun c5 => ?_) (fun c5 => ?_)
  · have h := h.1 c5
    refine r_aload_n (pc := 19) C dX11_wetness_19 0 rfl ?_
    refine r_callVl0 (pc := 20) C (rest := []) (a := v0) o_v0 [] yV_X11_gotInAll g_1812 (c_X11_gotInAll h) dX11_wetness_20 rfl rfl (Nat.le_of_ble_eq_true rfl) ⟨by decide, by decide⟩ ⟨by decide, by decide⟩ ⟨rfl, rfl⟩ (fun x8 S6 h g7 => ?_)
    have h := h g7
    have o_v0 := gr_ob g7 o_v0
    refine r_aload_n (pc := 23) C dX11_wetness_23 0 rfl ?_
    refine r_callVl0 (pc := 24) C (rest := [.long x8]) (a := v0) o_v0 [] yV_X11_holds g_1816 (c_X11_holds h) dX11_wetness_24 rfl rfl (Nat.le_of_ble_eq_true rfl) ⟨by decide, by decide⟩ ⟨by decide, by decide⟩ ⟨rfl, rfl⟩ (fun x11 S9 h g10 => ?_)
    have h := h g10
    have o_v0 := gr_ob g10 o_v0
    refine r_lsub (pc := 27) C dX11_wetness_27 ?_
    refine r_topl (fun x12 ex12 => ?_)
    have h := h x12 ex12
    refine r_lstore_n (pc := 28) C dX11_wetness_28 rfl (by decide) (lv' := [(2, .long x12), (0, .ref v0), (1, .int v1)]) rfl ?_
    refine r_aload_n (pc := 29) C dX11_wetness_29 1 rfl ?_
    refine r_lload_n (pc := 30) C dX11_wetness_30 0 rfl ?_
    refine r_lconst (pc := 31) C (v := (0 : Int64)) dX11_wetness_31 (by decide) ?_
    refine r_lcmp (pc := 32) C dX11_wetness_32 ?_
    refine r_if_ge (pc := 33) C (tgt := 40) dX11_wetness_33 (by decide) (fun c13 => ?_) (fun c13 => ?_)
    · have h := h.1 c13
      refine r_lload_n (pc := 40) C dX11_wetness_40 0 rfl ?_
      exact r_sub [2] rfl (T_X11_wetness_41 C E ht hn h)
    · have h := h.2 c13
      refine r_lconst (pc := 36) C (v := (0 : Int64)) dX11_wetness_36 (by decide) ?_
      refine r_goto (pc := 37) C (tgt := 41) dX11_wetness_37 (by decide) ?_
      exact r_sub [2] rfl (T_X11_wetness_41 C E ht hn h)
  · have h := h.2 c5
    refine r_aload_n (pc := 12) C dX11_wetness_12 0 rfl ?_
    refine r_iconst (pc := 13) C (v := (1 : Int32)) dX11_wetness_13 (by decide) ?_
    refine r_callVi0 (pc := 14) C (rest := []) (a := v0) o_v0 [.int (1 : Int32)] yV_X11_refused g_1250 (c_X11_refused h) dX11_wetness_14 rfl rfl (Nat.le_of_ble_eq_true rfl) ⟨by decide, by decide⟩ ⟨by decide, by decide⟩ ⟨rfl, rfl⟩ (fun x16 S14 h g15 => ?_)
    have h := h g15
    have o_v0 := gr_ob g15 o_v0
    refine r_i2l (pc := 17) C dX11_wetness_17 ?_
    exact r_lret (pc := 18) C E ht dX11_wetness_18 (by decide) (by decide) h
def P_X11_wetness (v0 : Nat) (v1 : Int32) (Q : Int64 → HS → Prop) (S : HS) : Prop := P_X11_wetness_0 Q v0 v1 S
theorem c_X11_wetness {l : Launch} {Ee : EE} {S : HS} {v0 : Nat} {v1 : Int32} {Q : Int64 → HS → Prop} (h : P_X11_wetness v0 v1 Q S) : MJ l yX11_wetness cX11_wetness 4 (some .long) rm_X11_wetness Ee S [.ref v0, .int v1] Q :=
  openJ (by decide) (Nat.le_of_ble_eq_true rfl) (fun X C E ht hn hE hl => by subst hE; exact r_sub [0, 1] rfl (T_X11_wetness_0 C E ht hn h))
