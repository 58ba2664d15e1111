section
def rm_X11_round : Room := { frames := 8, cells := 0, slots := 0, locals := 213 }
def P_X11_round_29 (Q : Int64 → HS → Prop) (v0 : Nat) (S : HS) : Prop := ob S v0 11 ∧ (P_X11_refused v0 (1 : Int32) (fun x3 S1 => Gr S S1 → (Q x3.toInt64 S1)) S)
set_option maxRecDepth 20000 in
set_option maxHeartbeats 4000000 in
theorem T_X11_round_29 {X : CX} {Q : Int64 → HS → Prop} (C : Cx X cX11_round RX11 5 rm_X11_round) (E : ReJ X rm_X11_round Q) (ht : (xh X).sig.returnType = (some .long)) (hn : (xh X).name = yX11_round.name) {v0 : Nat} {S : HS} (h : P_X11_round_29 Q v0 S) : WS X 5 0 0 29 [(0, .ref v0)] [] S := by
  refine r_aload_n (pc := 29) C dX11_round_29 0 rfl ?_
  refine r_iconst (pc := 30) C (v := (1 : Int32)) dX11_round_30 (by decide) ?_
  obtain ⟨o_v0, h⟩ := h
  refine r_callVi0 (pc := 31) C (rest := []) (a := v0) o_v0 [.int (1 : Int32)] yV_X11_refused g_1250 (c_X11_refused h) dX11_round_31 rfl rfl (Nat.le_of_ble_eq_true rfl) ⟨by decide, by decide⟩ ⟨by decide, by decide⟩ ⟨rfl, rfl⟩ (fun x3 S1 h g2 => ?_)
  have h := h g2
  have o_v0 := gr_ob g2 o_v0
  refine r_i2l (pc := 34) C dX11_round_34 ?_
  exact r_lret (pc := 35) C E ht dX11_round_35 (by decide) (by decide) h
def P_X11_round_0 (Q : Int64 → HS → Prop) (v0 : Nat) (v1 : Int32) (v2 : Int32) (v3 : Int32) (v4 : Int32) (S : HS) : Prop := ob S v0 11 ∧ (∀ S1 : HS, S1 = sI S v0 0 (0 : Int32) → (P_X11_isWalker v0 v1 (fun x4 S2 => Gr S1 S2 → bl x4 → (((x4 = 0) → (P_X11_round_29 Q v0 S2)) ∧ ((¬ x4 = 0) → (P_X11_isRoad v0 v2 (fun x8 S6 => Gr S2 S6 → bl x8 → (((x8 = 0) → (P_X11_round_29 Q v0 S6)) ∧ ((¬ x8 = 0) → (P_X11_isHour v0 v3 (fun x12 S10 => Gr S6 S10 → bl x12 → (((¬ x12 = 0) → (P_X11_wetAtBest v0 v1 v2 (0 : Int32) v3 (fun x16 S14 => Gr S10 S14 → (P_X11_wetAtBest v0 v1 v2 (1 : Int32) v3 (fun x19 S17 => Gr S14 S17 → (P_X11_told v0 (x16 + x19) (2520 : Int64) v4 (fun x22 S20 => Gr S17 S20 → (Q x22 S20)) S17)) S14)) S10)) ∧ ((x12 = 0) → (P_X11_round_29 Q v0 S10)))) S6)))) S2)))) S1))
set_option maxRecDepth 20000 in
set_option maxHeartbeats 4000000 in
theorem T_X11_round_0 {X : CX} {Q : Int64 → HS → Prop} (C : Cx X cX11_round RX11 5 rm_X11_round) (E : ReJ X rm_X11_round Q) (ht : (xh X).sig.returnType = (some .long)) (hn : (xh X).name = yX11_round.name) {v0 : Nat} {v1 : Int32} {v2 : Int32} {v3 : Int32} {v4 : Int32} {S : HS} (h : P_X11_round_0 Q v0 v1 v2 v3 v4 S) : WS X 5 0 0 0 [(0, .ref v0), (1, .int v1), (2, .int v2), (3, .int v3), (4, .int v4)] [] S := by
  refine r_aload_n (pc := 0) C dX11_round_0 0 rfl ?_
  refine r_iconst (pc := 1) C (v := (0 : Int32)) dX11_round_1 (by decide) ?_
  obtain ⟨o_v0, h⟩ := h
  refine r_puti (pc := 2) C pfL_X11_40 dX11_round_2 o_v0 ?_
  refine r_heap (fun S1 eS1 => ?_)
  have h := h S1 eS1
  have o_v0 := ob_I eS1 o_v0
  refine r_aload_n (pc := 5) C dX11_round_5 0 rfl ?_
  refine r_iload_n (pc := 6) C dX11_round_6 1 rfl ?_
  refine r_callVi0 (pc := 7) C (rest := []) (a := v0) o_v0 [.int v1] yV_X11_isWalker g_1538 (c_X11_isWalker h) dX11_round_7 rfl rfl (Nat.le_of_ble_eq_true rfl) ⟨by decide, by decide⟩ ⟨by decide, by decide⟩ ⟨rfl, rfl⟩ (fun x4 S2 h g3 => ?_)
  have bx4 := h.1
  have h := h.2 g3 bx4
  have o_v0 := gr_ob g3 o_v0
  refine r_if_eq (pc := 10) C (tgt := 29) dX11_round_10 (by decide) (fun c5 => ?_) (fun c5 => ?_)
  · have h := h.1 c5
    exact r_sub [0] rfl (T_X11_round_29 C E ht hn h)
  · have h := h.2 c5
    refine r_aload_n (pc := 13) C dX11_round_13 0 rfl ?_
    refine r_iload_n (pc := 14) C dX11_round_14 2 rfl ?_
    refine r_callVi0 (pc := 15) C (rest := []) (a := v0) o_v0 [.int v2] yV_X11_isRoad g_1542 (c_X11_isRoad h) dX11_round_15 rfl rfl (Nat.le_of_ble_eq_true rfl) ⟨by decide, by decide⟩ ⟨by decide, by decide⟩ ⟨rfl, rfl⟩ (fun x8 S6 h g7 => ?_)
    have bx8 := h.1
    have h := h.2 g7 bx8
    have o_v0 := gr_ob g7 o_v0
    refine r_if_eq (pc := 18) C (tgt := 29) dX11_round_18 (by decide) (fun c9 => ?_) (fun c9 => ?_)
    · have h := h.1 c9
      exact r_sub [0] rfl (T_X11_round_29 C E ht hn h)
    · have h := h.2 c9
      refine r_aload_n (pc := 21) C dX11_round_21 0 rfl ?_
      refine r_iload_n (pc := 22) C dX11_round_22 3 rfl ?_
      refine r_callVi0 (pc := 23) C (rest := []) (a := v0) o_v0 [.int v3] yV_X11_isHour g_1546 (c_X11_isHour h) dX11_round_23 rfl rfl (Nat.le_of_ble_eq_true rfl) ⟨by decide, by decide⟩ ⟨by decide, by decide⟩ ⟨rfl, rfl⟩ (fun x12 S10 h g11 => ?_)
      have bx12 := h.1
      have h := h.2 g11 bx12
      have o_v0 := gr_ob g11 o_v0
      refine r_if_ne (pc := 26) C (tgt := 36) dX11_round_26 (by decide) (fun c13 => ?_) (fun c13 => ?_)
      · have h := h.1 c13
        refine r_aload_n (pc := 36) C dX11_round_36 0 rfl ?_
        refine r_aload_n (pc := 37) C dX11_round_37 0 rfl ?_
        refine r_iload_n (pc := 38) C dX11_round_38 1 rfl ?_
        refine r_iload_n (pc := 39) C dX11_round_39 2 rfl ?_
        refine r_iconst (pc := 40) C (v := (0 : Int32)) dX11_round_40 (by decide) ?_
        refine r_iload_n (pc := 41) C dX11_round_41 3 rfl ?_
        refine r_callVl0 (pc := 42) C (rest := [.ref v0]) (a := v0) o_v0 [.int v1, .int v2, .int (0 : Int32), .int v3] yV_X11_wetAtBest g_1647 (c_X11_wetAtBest h) dX11_round_42 rfl rfl (Nat.le_of_ble_eq_true rfl) ⟨by decide, by decide⟩ ⟨by decide, by decide⟩ ⟨rfl, rfl⟩ (fun x16 S14 h g15 => ?_)
        have h := h g15
        have o_v0 := gr_ob g15 o_v0
        refine r_aload_n (pc := 45) C dX11_round_45 0 rfl ?_
        refine r_iload_n (pc := 46) C dX11_round_46 1 rfl ?_
        refine r_iload_n (pc := 47) C dX11_round_47 2 rfl ?_
        refine r_iconst (pc := 48) C (v := (1 : Int32)) dX11_round_48 (by decide) ?_
        refine r_iload_n (pc := 49) C dX11_round_49 3 rfl ?_
        refine r_callVl0 (pc := 50) C (rest := [.long x16, .ref v0]) (a := v0) o_v0 [.int v1, .int v2, .int (1 : Int32), .int v3] yV_X11_wetAtBest g_1647 (c_X11_wetAtBest h) dX11_round_50 rfl rfl (Nat.le_of_ble_eq_true rfl) ⟨by decide, by decide⟩ ⟨by decide, by decide⟩ ⟨rfl, rfl⟩ (fun x19 S17 h g18 => ?_)
        have h := h g18
        have o_v0 := gr_ob g18 o_v0
        refine r_ladd (pc := 53) C dX11_round_53 ?_
        refine r_ldc2 (pc := 54) C (v := (2520 : Int64)) dX11_round_54 g_1585 ?_
        refine r_iload (pc := 57) C dX11_round_57 4 rfl ?_
        refine r_callVl0 (pc := 59) C (rest := []) (a := v0) o_v0 [.long (x16 + x19), .long (2520 : Int64), .int v4] yV_X11_told g_1586 (c_X11_told h) dX11_round_59 rfl rfl (Nat.le_of_ble_eq_true rfl) ⟨by decide, by decide⟩ ⟨by decide, by decide⟩ ⟨rfl, rfl⟩ (fun x22 S20 h g21 => ?_)
        have h := h g21
        have o_v0 := gr_ob g21 o_v0
        exact r_lret (pc := 62) C E ht dX11_round_62 (by decide) (by decide) h
      · have h := h.2 c13
        exact r_sub [0] rfl (T_X11_round_29 C E ht hn h)
def P_X11_round (v0 : Nat) (v1 : Int32) (v2 : Int32) (v3 : Int32) (v4 : Int32) (Q : Int64 → HS → Prop) (S : HS) : Prop := P_X11_round_0 Q v0 v1 v2 v3 v4 S
theorem c_X11_round {l : Launch} {Ee : EE} {S : HS} {v0 : Nat} {v1 : Int32} {v2 : Int32} {v3 : Int32} {v4 : Int32} {Q : Int64 → HS → Prop} (h : P_X11_round v0 v1 v2 v3 v4 Q S) : MJ l yX11_round cX11_round 5 (some .long) rm_X11_round Ee S [.ref v0, .int v1, .int v2, .int v3, .int v4] Q :=
  openJ (by decide) (Nat.le_of_ble_eq_true rfl) (fun X C E ht hn hE hl => by subst hE; exact r_sub [0, 1, 2, 3, 4] rfl (T_X11_round_0 C E ht hn h))
def rm_X11_saves : Room := { frames := 7, cells := 0, slots := 0, locals := 189 }
def P_X11_saves_39 (Q : Int64 → HS → Prop) (v0 : Nat) (S : HS) : Prop := ob S v0 11 ∧ (P_X11_refused v0 (1 : Int32) (fun x3 S1 => Gr S S1 → (Q x3.toInt64 S1)) S)
set_option maxRecDepth 20000 in
set_option maxHeartbeats 4000000 in
theorem T_X11_saves_39 {X : CX} {Q : Int64 → HS → Prop} (C : Cx X cX11_saves RX11 6 rm_X11_saves) (E : ReJ X rm_X11_saves Q) (ht : (xh X).sig.returnType = (some .long)) (hn : (xh X).name = yX11_saves.name) {v0 : Nat} {S : HS} (h : P_X11_saves_39 Q v0 S) : WS X 6 0 0 39 [(0, .ref v0)] [] S := by
  refine r_aload_n (pc := 39) C dX11_saves_39 0 rfl ?_
  refine r_iconst (pc := 40) C (v := (1 : Int32)) dX11_saves_40 (by decide) ?_
  obtain ⟨o_v0, h⟩ := h
  refine r_callVi0 (pc := 41) C (rest := []) (a := v0) o_v0 [.int (1 : Int32)] yV_X11_refused g_1250 (c_X11_refused h) dX11_saves_41 rfl rfl (Nat.le_of_ble_eq_true rfl) ⟨by decide, by decide⟩ ⟨by decide, by decide⟩ ⟨rfl, rfl⟩ (fun x3 S1 h g2 => ?_)
  have h := h g2
  have o_v0 := gr_ob g2 o_v0
  refine r_i2l (pc := 44) C dX11_saves_44 ?_
  exact r_lret (pc := 45) C E ht dX11_saves_45 (by decide) (by decide) h
def P_X11_saves_0 (Q : Int64 → HS → Prop) (v0 : Nat) (v1 : Int32) (v2 : Int32) (v3 : Int32) (v4 : Int32) (v5 : Int32) (S : HS) : Prop := ob S v0 11 ∧ (∀ S1 : HS, S1 = sI S v0 0 (0 : Int32) → (P_X11_isWalker v0 v1 (fun x4 S2 => Gr S1 S2 → bl x4 → (((x4 = 0) → (P_X11_saves_39 Q v0 S2)) ∧ ((¬ x4 = 0) → (P_X11_isRoad v0 v2 (fun x8 S6 => Gr S2 S6 → bl x8 → (((x8 = 0) → (P_X11_saves_39 Q v0 S6)) ∧ ((¬ x8 = 0) → (P_X11_in v3 (0 : Int32) (1 : Int32) (fun x12 S10 => Gr S6 S10 → bl x12 → (((x12 = 0) → (P_X11_saves_39 Q v0 S10)) ∧ ((¬ x12 = 0) → (P_X11_isHour v0 v4 (fun x16 S14 => Gr S10 S14 → bl x16 → (((¬ x16 = 0) → (∃ a18 : Nat, fR S14 v0 3 = some a18 ∧ (ob S14 a18 10 ∧ (∃ a19 : Nat, fR S14 a18 24 = some a19 ∧ (ob S14 a19 13 ∧ (vp_in v1 (hN S14 a19) ∧ ∀ x21 : Int32, x21 = fI S14 a19 v1.toNatClampNeg → (P_X11_wetOf v0 v1 v2 v3 v4 x21 (fun x24 S22 => Gr S14 S22 → (P_X11_bestOf v0 v1 v2 v3 v4 (fun x27 S25 => Gr S22 S25 → (P_X11_wetOf v0 v1 v2 v3 v4 x27 (fun x30 S28 => Gr S25 S28 → (P_X11_told v0 (x24 - x30) (2520 : Int64) v5 (fun x33 S31 => Gr S28 S31 → (Q x33 S31)) S28)) S25)) S22)) S14))))))) ∧ ((x16 = 0) → (P_X11_saves_39 Q v0 S14)))) S10)))) S6)))) S2)))) S1))
set_option maxRecDepth 20000 in
set_option maxHeartbeats 4000000 in
theorem T_X11_saves_0 {X : CX} {Q : Int64 → HS → Prop} (C : Cx X cX11_saves RX11 6 rm_X11_saves) (E : ReJ X rm_X11_saves Q) (ht : (xh X).sig.returnType = (some .long)) (hn : (xh X).name = yX11_saves.name) {v0 : Nat} {v1 : Int32} {v2 : Int32} {v3 : Int32} {v4 : Int32} {v5 : Int32} {S : HS} (h : P_X11_saves_0 Q v0 v1 v2 v3 v4 v5 S) : WS X 6 0 0 0 [(0, .ref v0), (1, .int v1), (2, .int v2), (3, .int v3), (4, .int v4), (5, .int v5)] [] S := by
  refine r_aload_n (pc := 0) C dX11_saves_0 0 rfl ?_
  refine r_iconst (pc := 1) C (v := (0 : Int32)) dX11_saves_1 (by decide) ?_
  obtain ⟨o_v0, h⟩ := h
  refine r_puti (pc := 2) C pfL_X11_40 dX11_saves_2 o_v0 ?_
  refine r_heap (fun S1 eS1 => ?_)
  have h := h S1 eS1
  have o_v0 := ob_I eS1 o_v0
  refine r_aload_n (pc := 5) C dX11_saves_5 0 rfl ?_
  refine r_iload_n (pc := 6) C dX11_saves_6 1 rfl ?_
  refine r_callVi0 (pc := 7) C (rest := []) (a := v0) o_v0 [.int v1] yV_X11_isWalker g_1538 (c_X11_isWalker h) dX11_saves_7 rfl rfl (Nat.le_of_ble_eq_true rfl) ⟨by decide, by decide⟩ ⟨by decide, by decide⟩ ⟨rfl, rfl⟩ (fun x4 S2 h g3 => ?_)
  have bx4 := h.1
  have h := h.2 g3 bx4
  have o_v0 := gr_ob g3 o_v0
  refine r_if_eq (pc := 10) C (tgt := 39) dX11_saves_10 (by decide) (fun c5 => ?_) (fun c5 => ?_)
  · have h := h.1 c5
    exact r_sub [0] rfl (T_X11_saves_39 C E ht hn h)
  · have h := h.2 c5
    refine r_aload_n (pc := 13) C dX11_saves_13 0 rfl ?_
    refine r_iload_n (pc := 14) C dX11_saves_14 2 rfl ?_
    refine r_callVi0 (pc := 15) C (rest := []) (a := v0) o_v0 [.int v2] yV_X11_isRoad g_1542 (c_X11_isRoad h) dX11_saves_15 rfl rfl (Nat.le_of_ble_eq_true rfl) ⟨by decide, by decide⟩ ⟨by decide, by decide⟩ ⟨rfl, rfl⟩ (fun x8 S6 h g7 => ?_)
    have bx8 := h.1
    have h := h.2 g7 bx8
    have o_v0 := gr_ob g7 o_v0
    refine r_if_eq (pc := 18) C (tgt := 39) dX11_saves_18 (by decide) (fun c9 => ?_) (fun c9 => ?_)
    · have h := h.1 c9
      exact r_sub [0] rfl (T_X11_saves_39 C E ht hn h)
    · have h := h.2 c9
      refine r_iload_n (pc := 21) C dX11_saves_21 3 rfl ?_
      refine r_iconst (pc := 22) C (v := (0 : Int32)) dX11_saves_22 (by decide) ?_
      refine r_iconst (pc := 23) C (v := (1 : Int32)) dX11_saves_23 (by decide) ?_
      refine r_callSi0 (pc := 24) C (rest := []) rfl [.int v3, .int (0 : Int32), .int (1 : Int32)] yS_X11_in g_1434 (c_X11_in h) dX11_saves_24 rfl rfl (Nat.le_of_ble_eq_true rfl) ⟨by decide, by decide⟩ ⟨by decide, by decide⟩ ⟨rfl, rfl⟩ (fun x12 S10 h g11 => ?_)
      have bx12 := h.1
      have h := h.2 g11 bx12
      have o_v0 := gr_ob g11 o_v0
      refine r_if_eq (pc := 27) C (tgt := 39) dX11_saves_27 (by decide) (fun c13 => ?_) (fun c13 => ?_)
      · have h := h.1 c13
        exact r_sub [0] rfl (T_X11_saves_39 C E ht hn h)
      · have h := h.2 c13
        refine r_aload_n (pc := 30) C dX11_saves_30 0 rfl ?_
        refine r_iload (pc := 31) C dX11_saves_31 4 rfl ?_
        refine r_callVi0 (pc := 33) C (rest := []) (a := v0) o_v0 [.int v4] yV_X11_isHour g_1546 (c_X11_isHour h) dX11_saves_33 rfl rfl (Nat.le_of_ble_eq_true rfl) ⟨by decide, by decide⟩ ⟨by decide, by decide⟩ ⟨rfl, rfl⟩ (fun x16 S14 h g15 => ?_)
        have bx16 := h.1
        have h := h.2 g15 bx16
        have o_v0 := gr_ob g15 o_v0
        refine r_if_ne (pc := 36) C (tgt := 46) dX11_saves_36 (by decide) (fun c17 => ?_) (fun c17 => ?_)
        · have h := h.1 c17
          refine r_aload_n (pc := 46) C dX11_saves_46 0 rfl ?_
          refine r_aload_n (pc := 47) C dX11_saves_47 0 rfl ?_
          refine r_iload_n (pc := 48) C dX11_saves_48 1 rfl ?_
          refine r_iload_n (pc := 49) C dX11_saves_49 2 rfl ?_
          refine r_iload_n (pc := 50) C dX11_saves_50 3 rfl ?_
          refine r_iload (pc := 51) C dX11_saves_51 4 rfl ?_
          refine r_aload_n (pc := 53) C dX11_saves_53 0 rfl ?_
          obtain ⟨a18, ea18, h⟩ := h
          refine r_getr (pc := 54) C fL_X11_338 dX11_saves_54 o_v0 ea18 ?_
          obtain ⟨o_a18, h⟩ := h
          obtain ⟨a19, ea19, h⟩ := h
          refine r_getNr (pc := 57) C fN_X11_317 dX11_saves_57 o_a18 ea19 ?_
          refine r_iload_n (pc := 60) C dX11_saves_60 1 rfl ?_
          obtain ⟨o_a19, h⟩ := h
          obtain ⟨i20, h⟩ := h
          refine r_iald (pc := 61) C dX11_saves_61 o_a19 i20 ?_
          refine r_topi (fun x21 ex21 => ?_)
          have h := h x21 ex21
          refine r_callVl0 (pc := 62) C (rest := [.ref v0]) (a := v0) o_v0 [.int v1, .int v2, .int v3, .int v4, .int x21] yV_X11_wetOf g_1594 (c_X11_wetOf h) dX11_saves_62 rfl rfl (Nat.le_of_ble_eq_true rfl) ⟨by decide, by decide⟩ ⟨by decide, by decide⟩ ⟨rfl, rfl⟩ (fun x24 S22 h g23 => ?_)
          have h := h g23
          have o_a18 := gr_ob g23 o_a18
          have o_a19 := gr_ob g23 o_a19
          have o_v0 := gr_ob g23 o_v0
          refine r_aload_n (pc := 65) C dX11_saves_65 0 rfl ?_
          refine r_iload_n (pc := 66) C dX11_saves_66 1 rfl ?_
          refine r_iload_n (pc := 67) C dX11_saves_67 2 rfl ?_
          refine r_iload_n (pc := 68) C dX11_saves_68 3 rfl ?_
          refine r_iload (pc := 69) C dX11_saves_69 4 rfl ?_
          refine r_aload_n (pc := 71) C dX11_saves_71 0 rfl ?_
          refine r_iload_n (pc := 72) C dX11_saves_72 1 rfl ?_
          refine r_iload_n (pc := 73) C dX11_saves_73 2 rfl ?_
          refine r_iload_n (pc := 74) C dX11_saves_74 3 rfl ?_
          refine r_iload (pc := 75) C dX11_saves_75 4 rfl ?_
          refine r_callVi0 (pc := 77) C (rest := [.int v4, .int v3, .int v2, .int v1, .ref v0, .long x24, .ref v0]) (a := v0) o_v0 [.int v1, .int v2, .int v3, .int v4] yV_X11_bestOf g_1627 (c_X11_bestOf h) dX11_saves_77 rfl rfl (Nat.le_of_ble_eq_true rfl) ⟨by decide, by decide⟩ ⟨by decide, by decide⟩ ⟨rfl, rfl⟩ (fun x27 S25 h g26 => ?_)
          have h := h g26
          have o_a18 := gr_ob g26 o_a18
          have o_a19 := gr_ob g26 o_a19
          have o_v0 := gr_ob g26 o_v0
          refine r_callVl0 (pc := 80) C (rest := [.long x24, .ref v0]) (a := v0) o_v0 [.int v1, .int v2, .int v3, .int v4, .int x27] yV_X11_wetOf g_1594 (c_X11_wetOf h) dX11_saves_80 rfl rfl (Nat.le_of_ble_eq_true rfl) ⟨by decide, by decide⟩ ⟨by decide, by decide⟩ ⟨rfl, rfl⟩ (fun x30 S28 h g29 => ?_)
          have h := h g29
          have o_a18 := gr_ob g29 o_a18
          have o_a19 := gr_ob g29 o_a19
          have o_v0 := gr_ob g29 o_v0
          refine r_lsub (pc := 83) C dX11_saves_83 ?_
          refine r_ldc2 (pc := 84) C (v := (2520 : Int64)) dX11_saves_84 g_1585 ?_
          refine r_iload (pc := 87) C dX11_saves_87 5 rfl ?_
          refine r_callVl0 (pc := 89) C (rest := []) (a := v0) o_v0 [.long (x24 - x30), .long (2520 : Int64), .int v5] yV_X11_told g_1586 (c_X11_told h) dX11_saves_89 rfl rfl (Nat.le_of_ble_eq_true rfl) ⟨by decide, by decide⟩ ⟨by decide, by decide⟩ ⟨rfl, rfl⟩ (fun x33 S31 h g32 => ?_)
          have h := h g32
          have o_a18 := gr_ob g32 o_a18
          have o_a19 := gr_ob g32 o_a19
          have o_v0 := gr_ob g32 o_v0
          exact r_lret (pc := 92) C E ht dX11_saves_92 (by decide) (by decide) h
        · have h := h.2 c17
          exact r_sub [0] rfl (T_X11_saves_39 C E ht hn h)
def P_X11_saves (v0 : Nat) (v1 : Int32) (v2 : Int32) (v3 : Int32) (v4 : Int32) (v5 : Int32) (Q : Int64 → HS → Prop) (S : HS) : Prop := P_X11_saves_0 Q v0 v1 v2 v3 v4 v5 S
theorem c_X11_saves {l : Launch} {Ee : EE} {S : HS} {v0 : Nat} {v1 : Int32} {v2 : Int32} {v3 : Int32} {v4 : Int32} {v5 : Int32} {Q : Int64 → HS → Prop} (h : P_X11_saves v0 v1 v2 v3 v4 v5 Q S) : MJ l yX11_saves cX11_saves 6 (some .long) rm_X11_saves Ee S [.ref v0, .int v1, .int v2, .int v3, .int v4, .int v5] Q :=
  openJ (by decide) (Nat.le_of_ble_eq_true rfl) (fun X C E ht hn hE hl => by subst hE; exact r_sub [0, 1, 2, 3, 4, 5] rfl (T_X11_saves_0 C E ht hn h))
def rm_X11_size : Room := { frames := 1, cells := 0, slots := 0, locals := 22 }
def P_X11_size_0 (Q : Int32 → HS → Prop) (v0 : Nat) (v1 : Int32) (S : HS) : Prop := ob S v0 11 ∧ (∀ S1 : HS, S1 = sI S v0 0 (0 : Int32) → (((¬ v1 = (11 : Int32)) → (P_X11_in v1 (0 : Int32) (10 : Int32) (fun x5 S3 => Gr S1 S3 → bl x5 → (((¬ x5 = 0) → ((fR S3 v0 3 = none → (Q (0 : Int32) S3)) ∧ (∀ a7 : Nat, fR S3 v0 3 = some a7 → ((v1.toInt < 0 ∨ 9 < v1.toInt → (∀ x10 : Int32, x10 = fI S3 v0 25 → (Q x10 S3))) ∧ (v1.toInt = 0 → (∃ a11 : Nat, fR S3 v0 3 = some a11 ∧ (ob S3 a11 10 ∧ (∀ x12 : Int32, x12 = fI S3 a11 0 → (Q x12 S3))))) ∧ (v1.toInt = 1 → (∃ a13 : Nat, fR S3 v0 3 = some a13 ∧ (ob S3 a13 10 ∧ (∀ x14 : Int32, x14 = fI S3 a13 1 → (Q x14 S3))))) ∧ (v1.toInt = 2 → (∃ a15 : Nat, fR S3 v0 3 = some a15 ∧ (ob S3 a15 10 ∧ (∀ x16 : Int32, x16 = fI S3 a15 2 → (Q x16 S3))))) ∧ (v1.toInt = 3 → (∃ a17 : Nat, fR S3 v0 3 = some a17 ∧ (ob S3 a17 10 ∧ (∀ x18 : Int32, x18 = fI S3 a17 3 → (Q x18 S3))))) ∧ (v1.toInt = 4 → (∃ a19 : Nat, fR S3 v0 3 = some a19 ∧ (ob S3 a19 10 ∧ (∀ x20 : Int32, x20 = fI S3 a19 4 → (Q x20 S3))))) ∧ (v1.toInt = 5 → (∃ a21 : Nat, fR S3 v0 3 = some a21 ∧ (ob S3 a21 10 ∧ (∀ x22 : Int32, x22 = fI S3 a21 5 → (Q x22 S3))))) ∧ (v1.toInt = 6 → (∀ x23 : Int32, x23 = fI S3 v0 19 → (Q x23 S3))) ∧ (v1.toInt = 7 → (P_X11_isDay v0 (fun x26 S24 => Gr S3 S24 → bl x26 → (((x26 = 0) → (Q (-2 : Int32) S24)) ∧ ((¬ x26 = 0) → (∃ a28 : Nat, fR S24 v0 21 = some a28 ∧ (ob S24 a28 14 ∧ (vp_in (0 : Int32) (hN S24 a28) ∧ ∀ x30 : Int64, x30 = fJ S24 a28 (0 : Int32).toNatClampNeg → (Q x30.toInt32 S24))))))) S3)) ∧ (v1.toInt = 8 → (P_X11_isDay v0 (fun x33 S31 => Gr S3 S31 → bl x33 → (((x33 = 0) → (Q (0 : Int32) S31)) ∧ ((¬ x33 = 0) → (∃ a35 : Nat, fR S31 v0 21 = some a35 ∧ (ob S31 a35 14 ∧ (vp_in (1 : Int32) (hN S31 a35) ∧ ∀ x37 : Int64, x37 = fJ S31 a35 (1 : Int32).toNatClampNeg → (Q x37.toInt32 S31))))))) S3)) ∧ (v1.toInt = 9 → (∀ x38 : Int32, x38 = fI S3 v0 24 → (Q x38 S3))))))) ∧ ((x5 = 0) → (Q (-1 : Int32) S3)))) S1)) ∧ ((v1 = (11 : Int32)) → (∀ x39 : Int32, x39 = fI S1 v0 6 → (Q x39 S1)))))
set_option maxRecDepth 20000 in
set_option maxHeartbeats 4000000 in
theorem T_X11_size_0 {X : CX} {Q : Int32 → HS → Prop} (C : Cx X cX11_size RX11 2 rm_X11_size) (E : ReI X rm_X11_size Q) (ht : (xh X).sig.returnType = (some .int)) (hn : (xh X).name = yX11_size.name) {v0 : Nat} {v1 : Int32} {S : HS} (h : P_X11_size_0 Q v0 v1 S) : WS X 2 0 0 0 [(0, .ref v0), (1, .int v1)] [] S := by
  refine r_aload_n (pc := 0) C dX11_size_0 0 rfl ?_
  refine r_iconst (pc := 1) C (v := (0 : Int32)) dX11_size_1 (by decide) ?_
  obtain ⟨o_v0, h⟩ := h
  refine r_puti (pc := 2) C pfL_X11_40 dX11_size_2 o_v0 ?_
  refine r_heap (fun S1 eS1 => ?_)
  have h := h S1 eS1
  have o_v0 := ob_I eS1 o_v0
  refine r_iload_n (pc := 5) C dX11_size_5 1 rfl ?_
  refine r_bipush (pc := 6) C (v := (11 : Int32)) dX11_size_6 (by decide) ?_
  refine r_icmp_ne (pc := 8) C (tgt := 16) dX11_size_8 (by decide) (fun c2 => ?_) (fun c2 => ?_)
  · have h := h.1 c2
    refine r_iload_n (pc := 16) C dX11_size_16 1 rfl ?_
    refine r_iconst (pc := 17) C (v := (0 : Int32)) dX11_size_17 (by decide) ?_
    refine r_bipush (pc := 18) C (v := (10 : Int32)) dX11_size_18 (by decide) ?_
    refine r_callSi0 (pc := 20) C (rest := []) rfl [.int v1, .int (0 : Int32), .int (10 : Int32)] yS_X11_in g_1434 (c_X11_in h) dX11_size_20 rfl rfl (Nat.le_of_ble_eq_true rfl) ⟨by decide, by decide⟩ ⟨by decide, by decide⟩ ⟨rfl, rfl⟩ (fun x5 S3 h g4 => ?_)
    have bx5 := h.1
    have h := h.2 g4 bx5
    have o_v0 := gr_ob g4 o_v0
    refine r_if_ne (pc := 23) C (tgt := 28) dX11_size_23 (by decide) (fun c6 => ?_) (fun c6 => ?_)
    · have h := h.1 c6
      refine r_aload_n (pc := 28) C dX11_size_28 0 rfl ?_
      rcases e8 : fR S3 v0 3 with _ | a7
      · refine r_get0 (pc := 29) C fL_X11_338 dX11_size_29 o_v0 e8 ?_
        refine r_ifnonnull0 (pc := 32) C dX11_size_32 ?_
        have h := h.1 e8
        refine r_iconst (pc := 35) C (v := (0 : Int32)) dX11_size_35 (by decide) ?_
        exact r_iret (pc := 36) C E ht dX11_size_36 (by decide) (by decide) h
      · refine r_getr (pc := 29) C fL_X11_338 dX11_size_29 o_v0 e8 ?_
        refine r_ifnonnull (pc := 32) C (tgt := 37) dX11_size_32 (by decide) ?_
        have h := h.2 a7 e8
        refine r_iload_n (pc := 37) C dX11_size_37 1 rfl ?_
        refine r_table (pc := 38) C (tgt := 189) dX11_size_38 (by decide) (fun c9 => ?_) (fun j hj hx => ?_)
        · have h := h.1 c9
          refine r_aload_n (pc := 189) C dX11_size_189 0 rfl ?_
          refine r_geti (pc := 190) C fL_X11_343 dX11_size_190 o_v0 ?_
          refine r_topi (fun x10 ex10 => ?_)
          have h := h x10 ex10
          exact r_iret (pc := 193) C E ht dX11_size_193 (by decide) (by decide) h
        · match j, hj, hx with
          | 0, _, hx =>
            refine ⟨54, 92, rfl, by decide, ?_⟩
            have h := h.2.1 (by simpa using hx)
            refine r_aload_n (pc := 92) C dX11_size_92 0 rfl ?_
            obtain ⟨a11, ea11, h⟩ := h
            refine r_getr (pc := 93) C fL_X11_338 dX11_size_93 o_v0 ea11 ?_
            obtain ⟨o_a11, h⟩ := h
            refine r_getNi (pc := 96) C fN_X11_151 dX11_size_96 o_a11 ?_
            refine r_topi (fun x12 ex12 => ?_)
            have h := h x12 ex12
            exact r_iret (pc := 99) C E ht dX11_size_99 (by decide) (by decide) h
          | 1, _, hx =>
            refine ⟨62, 100, rfl, by decide, ?_⟩
            have h := h.2.2.1 (by simpa using hx)
            refine r_aload_n (pc := 100) C dX11_size_100 0 rfl ?_
            obtain ⟨a13, ea13, h⟩ := h
            refine r_getr (pc := 101) C fL_X11_338 dX11_size_101 o_v0 ea13 ?_
            obtain ⟨o_a13, h⟩ := h
            refine r_getNi (pc := 104) C fN_X11_219 dX11_size_104 o_a13 ?_
            refine r_topi (fun x14 ex14 => ?_)
            have h := h x14 ex14
            exact r_iret (pc := 107) C E ht dX11_size_107 (by decide) (by decide) h
          | 2, _, hx =>
            refine ⟨70, 108, rfl, by decide, ?_⟩
            have h := h.2.2.2.1 (by simpa using hx)
            refine r_aload_n (pc := 108) C dX11_size_108 0 rfl ?_
            obtain ⟨a15, ea15, h⟩ := h
            refine r_getr (pc := 109) C fL_X11_338 dX11_size_109 o_v0 ea15 ?_
            obtain ⟨o_a15, h⟩ := h
            refine r_getNi (pc := 112) C fN_X11_190 dX11_size_112 o_a15 ?_
            refine r_topi (fun x16 ex16 => ?_)
            have h := h x16 ex16
            exact r_iret (pc := 115) C E ht dX11_size_115 (by decide) (by decide) h
          | 3, _, hx =>
            refine ⟨78, 116, rfl, by decide, ?_⟩
            have h := h.2.2.2.2.1 (by simpa using hx)
            refine r_aload_n (pc := 116) C dX11_size_116 0 rfl ?_
            obtain ⟨a17, ea17, h⟩ := h
            refine r_getr (pc := 117) C fL_X11_338 dX11_size_117 o_v0 ea17 ?_
            obtain ⟨o_a17, h⟩ := h
            refine r_getNi (pc := 120) C fN_X11_264 dX11_size_120 o_a17 ?_
            refine r_topi (fun x18 ex18 => ?_)
            have h := h x18 ex18
            exact r_iret (pc := 123) C E ht dX11_size_123 (by decide) (by decide) h
          | 4, _, hx =>
            refine ⟨86, 124, rfl, by decide, ?_⟩
            have h := h.2.2.2.2.2.1 (by simpa using hx)
            refine r_aload_n (pc := 124) C dX11_size_124 0 rfl ?_
            obtain ⟨a19, ea19, h⟩ := h
            refine r_getr (pc := 125) C fL_X11_338 dX11_size_125 o_v0 ea19 ?_
            obtain ⟨o_a19, h⟩ := h
            refine r_getNi (pc := 128) C fN_X11_193 dX11_size_128 o_a19 ?_
            refine r_topi (fun x20 ex20 => ?_)
            have h := h x20 ex20
            exact r_iret (pc := 131) C E ht dX11_size_131 (by decide) (by decide) h
          | 5, _, hx =>
            refine ⟨94, 132, rfl, by decide, ?_⟩
            have h := h.2.2.2.2.2.2.1 (by simpa using hx)
            refine r_aload_n (pc := 132) C dX11_size_132 0 rfl ?_
            obtain ⟨a21, ea21, h⟩ := h
            refine r_getr (pc := 133) C fL_X11_338 dX11_size_133 o_v0 ea21 ?_
            obtain ⟨o_a21, h⟩ := h
            refine r_getNi (pc := 136) C fN_X11_323 dX11_size_136 o_a21 ?_
            refine r_topi (fun x22 ex22 => ?_)
            have h := h x22 ex22
            exact r_iret (pc := 139) C E ht dX11_size_139 (by decide) (by decide) h
          | 6, _, hx =>
            refine ⟨102, 140, rfl, by decide, ?_⟩
            have h := h.2.2.2.2.2.2.2.1 (by simpa using hx)
            refine r_aload_n (pc := 140) C dX11_size_140 0 rfl ?_
            refine r_geti (pc := 141) C fL_X11_28 dX11_size_141 o_v0 ?_
            refine r_topi (fun x23 ex23 => ?_)
            have h := h x23 ex23
            exact r_iret (pc := 144) C E ht dX11_size_144 (by decide) (by decide) h
          | 7, _, hx =>
            refine ⟨107, 145, rfl, by decide, ?_⟩
            have h := h.2.2.2.2.2.2.2.2.1 (by simpa using hx)
            refine r_aload_n (pc := 145) C dX11_size_145 0 rfl ?_
            refine r_callVi0 (pc := 146) C (rest := []) (a := v0) o_v0 [] yV_X11_isDay g_1779 (c_X11_isDay h) dX11_size_146 rfl rfl (Nat.le_of_ble_eq_true rfl) ⟨by decide, by decide⟩ ⟨by decide, by decide⟩ ⟨rfl, rfl⟩ (fun x26 S24 h g25 => ?_)
            have bx26 := h.1
            have h := h.2 g25 bx26
            have o_v0 := gr_ob g25 o_v0
            refine r_if_eq (pc := 149) C (tgt := 162) dX11_size_149 (by decide) (fun c27 => ?_) (fun c27 => ?_)
            · have h := h.1 c27
              refine r_bipush (pc := 162) C (v := (-2 : Int32)) dX11_size_162 (by decide) ?_
              exact r_iret (pc := 164) C E ht dX11_size_164 (by decide) (by decide) h
            · have h := h.2 c27
              refine r_aload_n (pc := 152) C dX11_size_152 0 rfl ?_
              obtain ⟨a28, ea28, h⟩ := h
              refine r_getr (pc := 153) C fL_X11_31 dX11_size_153 o_v0 ea28 ?_
              refine r_iconst (pc := 156) C (v := (0 : Int32)) dX11_size_156 (by decide) ?_
              obtain ⟨o_a28, h⟩ := h
              obtain ⟨i29, h⟩ := h
              refine r_lald (pc := 157) C dX11_size_157 o_a28 i29 ?_
              refine r_topl (fun x30 ex30 => ?_)
              have h := h x30 ex30
              refine r_l2i (pc := 158) C dX11_size_158 ?_
              refine r_goto (pc := 159) C (tgt := 164) dX11_size_159 (by decide) ?_
              exact r_iret (pc := 164) C E ht dX11_size_164 (by decide) (by decide) h
          | 8, _, hx =>
            refine ⟨127, 165, rfl, by decide, ?_⟩
            have h := h.2.2.2.2.2.2.2.2.2.1 (by simpa using hx)
            refine r_aload_n (pc := 165) C dX11_size_165 0 rfl ?_
            refine r_callVi0 (pc := 166) C (rest := []) (a := v0) o_v0 [] yV_X11_isDay g_1779 (c_X11_isDay h) dX11_size_166 rfl rfl (Nat.le_of_ble_eq_true rfl) ⟨by decide, by decide⟩ ⟨by decide, by decide⟩ ⟨rfl, rfl⟩ (fun x33 S31 h g32 => ?_)
            have bx33 := h.1
            have h := h.2 g32 bx33
            have o_v0 := gr_ob g32 o_v0
            refine r_if_eq (pc := 169) C (tgt := 182) dX11_size_169 (by decide) (fun c34 => ?_) (fun c34 => ?_)
            · have h := h.1 c34
              refine r_iconst (pc := 182) C (v := (0 : Int32)) dX11_size_182 (by decide) ?_
              exact r_iret (pc := 183) C E ht dX11_size_183 (by decide) (by decide) h
            · have h := h.2 c34
              refine r_aload_n (pc := 172) C dX11_size_172 0 rfl ?_
              obtain ⟨a35, ea35, h⟩ := h
              refine r_getr (pc := 173) C fL_X11_31 dX11_size_173 o_v0 ea35 ?_
              refine r_iconst (pc := 176) C (v := (1 : Int32)) dX11_size_176 (by decide) ?_
              obtain ⟨o_a35, h⟩ := h
              obtain ⟨i36, h⟩ := h
              refine r_lald (pc := 177) C dX11_size_177 o_a35 i36 ?_
              refine r_topl (fun x37 ex37 => ?_)
              have h := h x37 ex37
              refine r_l2i (pc := 178) C dX11_size_178 ?_
              refine r_goto (pc := 179) C (tgt := 183) dX11_size_179 (by decide) ?_
              exact r_iret (pc := 183) C E ht dX11_size_183 (by decide) (by decide) h
          | 9, _, hx =>
            refine ⟨146, 184, rfl, by decide, ?_⟩
            have h := h.2.2.2.2.2.2.2.2.2.2 (by simpa using hx)
            refine r_aload_n (pc := 184) C dX11_size_184 0 rfl ?_
            refine r_geti (pc := 185) C fL_X11_340 dX11_size_185 o_v0 ?_
            refine r_topi (fun x38 ex38 => ?_)
            have h := h x38 ex38
            exact r_iret (pc := 188) C E ht dX11_size_188 (by decide) (by decide) h
          | j + 10, hj, _ => exact absurd hj (by omega)
    · have h := h.2 c6
      refine r_iconst (pc := 26) C (v := (-1 : Int32)) dX11_size_26 (by decide) ?_
      exact r_iret (pc := 27) C E ht dX11_size_27 (by decide) (by decide) h
  · have h := h.2 c2
    refine r_aload_n (pc := 11) C dX11_size_11 0 rfl ?_
    refine r_geti (pc := 12) C fL_X11_331 dX11_size_12 o_v0 ?_
    refine r_topi (fun x39 ex39 => ?_)
    have h := h x39 ex39
    exact r_iret (pc := 15) C E ht dX11_size_15 (by decide) (by decide) h
def P_X11_size (v0 : Nat) (v1 : Int32) (Q : Int32 → HS → Prop) (S : HS) : Prop := P_X11_size_0 Q v0 v1 S
theorem c_X11_size {l : Launch} {Ee : EE} {S : HS} {v0 : Nat} {v1 : Int32} {Q : Int32 → HS → Prop} (h : P_X11_size v0 v1 Q S) : MI l yX11_size cX11_size 2 (some .int) rm_X11_size Ee S [.ref v0, .int v1] Q :=
  openI (by decide) (Nat.le_of_ble_eq_true rfl) (fun X C E ht hn hE hl => by subst hE; exact r_sub [0, 1] rfl (T_X11_size_0 C E ht hn h))
def rm_X11_soaked : Room := { frames := 1, cells := 0, slots := 0, locals := 23 }
def P_X11_soaked_57 (Q : Int32 → HS → Prop) (s0 : Nat) (s1 : Int32) (S : HS) : Prop := ob S s0 11 ∧ (P_X11_good s0 s1 (fun x3 S1 => Gr S S1 → (Q x3 S1)) S)
set_option maxRecDepth 20000 in
set_option maxHeartbeats 4000000 in
theorem T_X11_soaked_57 {X : CX} {Q : Int32 → HS → Prop} (C : Cx X cX11_soaked RX11 1 rm_X11_soaked) (E : ReI X rm_X11_soaked Q) (ht : (xh X).sig.returnType = (some .int)) (hn : (xh X).name = yX11_soaked.name) {s0 : Nat} {s1 : Int32} {S : HS} (h : P_X11_soaked_57 Q s0 s1 S) : WS X 1 0 0 57 [] [.int s1, .ref s0] S := by
  obtain ⟨o_s0, h⟩ := h
  refine r_callVi0 (pc := 57) C (rest := []) (a := s0) o_s0 [.int s1] yV_X11_good g_1518 (c_X11_good h) dX11_soaked_57 rfl rfl (Nat.le_of_ble_eq_true rfl) ⟨by decide, by decide⟩ ⟨by decide, by decide⟩ ⟨rfl, rfl⟩ (fun x3 S1 h g2 => ?_)
  have h := h g2
  have o_s0 := gr_ob g2 o_s0
  exact r_iret (pc := 60) C E ht dX11_soaked_60 (by decide) (by decide) h
def P_X11_soaked_0 (Q : Int32 → HS → Prop) (v0 : Nat) (S : HS) : Prop := ob S v0 11 ∧ (∀ S1 : HS, S1 = sI S v0 0 (0 : Int32) → (P_X11_isDay v0 (fun x4 S2 => Gr S1 S2 → bl x4 → (((¬ x4 = 0) → (∃ a6 : Nat, fR S2 v0 3 = some a6 ∧ (ob S2 a6 10 ∧ (∃ a7 : Nat, fR S2 a6 19 = some a7 ∧ (∀ x8 : Int32, x8 = fI S2 v0 19 → (ob S2 a7 13 ∧ (vp_in x8 (hN S2 a7) ∧ ∀ x10 : Int32, x10 = fI S2 a7 x8.toNatClampNeg → (((x10 = (2 : Int32)) → (P_X11_gotInAll v0 (fun x14 S12 => Gr S2 S12 → (P_X11_holds v0 (fun x17 S15 => Gr S12 S15 → ((((lg_cmp x14 x17) ≤ 0) → (P_X11_soaked_57 Q v0 (0 : Int32) S15)) ∧ ((¬ (lg_cmp x14 x17) ≤ 0) → (P_X11_soaked_57 Q v0 (1 : Int32) S15)))) S12)) S2)) ∧ ((¬ x10 = (2 : Int32)) → (P_X11_soaked_57 Q v0 (-2 : Int32) S2)))))))))) ∧ ((x4 = 0) → (P_X11_refused v0 (1 : Int32) (fun x21 S19 => Gr S2 S19 → (Q x21 S19)) S2)))) S1))
set_option maxRecDepth 20000 in
set_option maxHeartbeats 4000000 in
theorem T_X11_soaked_0 {X : CX} {Q : Int32 → HS → Prop} (C : Cx X cX11_soaked RX11 1 rm_X11_soaked) (E : ReI X rm_X11_soaked Q) (ht : (xh X).sig.returnType = (some .int)) (hn : (xh X).name = yX11_soaked.name) {v0 : Nat} {S : HS} (h : P_X11_soaked_0 Q v0 S) : WS X 1 0 0 0 [(0, .ref v0)] [] S := by
  refine r_aload_n (pc := 0) C dX11_soaked_0 0 rfl ?_
  refine r_iconst (pc := 1) C (v := (0 : Int32)) dX11_soaked_1 (by decide) ?_
  obtain ⟨o_v0, h⟩ := h
  refine r_puti (pc := 2) C pfL_X11_40 dX11_soaked_2 o_v0 ?_
  refine r_heap (fun S1 eS1 => ?_)
  have h := h S1 eS1
  have o_v0 := ob_I eS1 o_v0
  refine r_aload_n (pc := 5) C dX11_soaked_5 0 rfl ?_
  refine r_callVi0 (pc := 6) C (rest := []) (a := v0) o_v0 [] yV_X11_isDay g_1779 (c_X11_isDay h) dX11_soaked_6 rfl rfl (Nat.le_of_ble_eq_true rfl) ⟨by decide, by decide⟩ ⟨by decide, by decide⟩ ⟨rfl, rfl⟩ (fun x4 S2 h g3 => ?_)
  have bx4 := h.1
  have h := h.2 g3 bx4
  have o_v0 := gr_ob g3 o_v0
  refine r_if_ne (pc := 9) C (tgt := 18) dX11_soaked_9 (by decide) (fun c5 => ?_) (fun c5 => ?_)
  · have h := h.1 c5
    refine r_aload_n (pc := 18) C dX11_soaked_18 0 rfl ?_
    refine r_aload_n (pc := 19) C dX11_soaked_19 0 rfl ?_
    obtain ⟨a6, ea6, h⟩ := h
    refine r_getr (pc := 20) C fL_X11_338 dX11_soaked_20 o_v0 ea6 ?_
    obtain ⟨o_a6, h⟩ := h
    obtain ⟨a7, ea7, h⟩ := h
    refine r_getNr (pc := 23) C fN_X11_302 dX11_soaked_23 o_a6 ea7 ?_
    refine r_aload_n (pc := 26) C dX11_soaked_26 0 rfl ?_
    refine r_geti (pc := 27) C fL_X11_28 dX11_soaked_27 o_v0 ?_
    refine r_topi (fun x8 ex8 => ?_)
    have h := h x8 ex8
    obtain ⟨o_a7, h⟩ := h
    obtain ⟨i9, h⟩ := h
    refine r_iald (pc := 30) C dX11_soaked_30 o_a7 i9 ?_
    refine r_topi (fun x10 ex10 => ?_)
    have h := h x10 ex10
    refine r_iconst (pc := 31) C (v := (2 : Int32)) dX11_soaked_31 (by decide) ?_
    refine r_icmp_eq (pc := 32) C (tgt := 40) dX11_soaked_32 (by decide) (fun c11 => ?_) (fun c11 => ?_)
    · have h := h.1 c11
      refine r_aload_n (pc := 40) C dX11_soaked_40 0 rfl ?_
      refine r_callVl0 (pc := 41) C (rest := [.ref v0]) (a := v0) o_v0 [] yV_X11_gotInAll g_1812 (c_X11_gotInAll h) dX11_soaked_41 rfl rfl (Nat.le_of_ble_eq_true rfl) ⟨by decide, by decide⟩ ⟨by decide, by decide⟩ ⟨rfl, rfl⟩ (fun x14 S12 h g13 => ?_)
      have h := h g13
      have o_a6 := gr_ob g13 o_a6
      have o_a7 := gr_ob g13 o_a7
      have o_v0 := gr_ob g13 o_v0
      refine r_aload_n (pc := 44) C dX11_soaked_44 0 rfl ?_
      refine r_callVl0 (pc := 45) C (rest := [.long x14, .ref v0]) (a := v0) o_v0 [] yV_X11_holds g_1816 (c_X11_holds h) dX11_soaked_45 rfl rfl (Nat.le_of_ble_eq_true rfl) ⟨by decide, by decide⟩ ⟨by decide, by decide⟩ ⟨rfl, rfl⟩ (fun x17 S15 h g16 => ?_)
      have h := h g16
      have o_a6 := gr_ob g16 o_a6
      have o_a7 := gr_ob g16 o_a7
      have o_v0 := gr_ob g16 o_v0
      refine r_lcmp (pc := 48) C dX11_soaked_48 ?_
      refine r_if_le (pc := 49) C (tgt := 56) dX11_soaked_49 (by decide) (fun c18 => ?_) (fun c18 => ?_)
      · have h := h.1 c18
        refine r_iconst (pc := 56) C (v := (0 : Int32)) dX11_soaked_56 (by decide) ?_
        exact r_sub [] rfl (T_X11_soaked_57 C E ht hn h)
      · have h := h.2 c18
        refine r_iconst (pc := 52) C (v := (1 : Int32)) dX11_soaked_52 (by decide) ?_
        refine r_goto (pc := 53) C (tgt := 57) dX11_soaked_53 (by decide) ?_
        exact r_sub [] rfl (T_X11_soaked_57 C E ht hn h)
    · have h := h.2 c11
      refine r_bipush (pc := 35) C (v := (-2 : Int32)) dX11_soaked_35 (by decide) ?_
      refine r_goto (pc := 37) C (tgt := 57) dX11_soaked_37 (by decide) ?_
      exact r_sub [] rfl (T_X11_soaked_57 C E ht hn h)
  · have h := h.2 c5
    refine r_aload_n (pc := 12) C dX11_soaked_12 0 rfl ?_
    refine r_iconst (pc := 13) C (v := (1 : Int32)) dX11_soaked_13 (by decide) ?_
    refine r_callVi0 (pc := 14) C (rest := []) (a := v0) o_v0 [.int (1 : Int32)] yV_X11_refused g_1250 (c_X11_refused h) dX11_soaked_14 rfl rfl (Nat.le_of_ble_eq_true rfl) ⟨by decide, by decide⟩ ⟨by decide, by decide⟩ ⟨rfl, rfl⟩ (fun x21 S19 h g20 => ?_)
    have h := h g20
    have o_v0 := gr_ob g20 o_v0
    exact r_iret (pc := 17) C E ht dX11_soaked_17 (by decide) (by decide) h
def P_X11_soaked (v0 : Nat) (Q : Int32 → HS → Prop) (S : HS) : Prop := P_X11_soaked_0 Q v0 S
theorem c_X11_soaked {l : Launch} {Ee : EE} {S : HS} {v0 : Nat} {Q : Int32 → HS → Prop} (h : P_X11_soaked v0 Q S) : MI l yX11_soaked cX11_soaked 1 (some .int) rm_X11_soaked Ee S [.ref v0] Q :=
  openI (by decide) (Nat.le_of_ble_eq_true rfl) (fun X C E ht hn hE hl => by subst hE; exact r_sub [0] rfl (T_X11_soaked_0 C E ht hn h))
def rm_X11_stay : Room := { frames := 2, cells := 0, slots := 0, locals := 43 }
def P_X11_stay_133 (Q : Int32 → HS → Prop) (X84 : Nat → Int32 → Int32 → Int32 → HS → Prop) (v0 : Nat) (v1 : Int32) (v2 : Int32) (v3 : Int32) (S : HS) : Prop := ob S v0 11 ∧ (∃ a1 : Nat, fR S v0 21 = some a1 ∧ (ob S a1 14 ∧ (vp_in (1 : Int32) (hN S a1) ∧ ∀ x3 : Int64, x3 = fJ S a1 (1 : Int32).toNatClampNeg → (∀ x5 : Int64, x5 = x3 + (1 : Int64) → (vp_in (1 : Int32) (hN S a1) ∧ (∀ S6 : HS, S6 = sJ S a1 (1 : Int32).toNatClampNeg x5 → (∀ x7 : Int32, x7 = v3 + (1 : Int32) → (X84 v0 v1 v2 x7 S6))))))))
set_option maxRecDepth 20000 in
set_option maxHeartbeats 4000000 in
theorem T_X11_stay_133 {X : CX} {Q : Int32 → HS → Prop} (C : Cx X cX11_stay RX11 4 rm_X11_stay) (E : ReI X rm_X11_stay (fun r S => bl r ∧ Q r S)) (ht : (xh X).sig.returnType = (some .boolean)) (hn : (xh X).name = yX11_stay.name) {X84 : Nat → Int32 → Int32 → Int32 → HS → Prop} (hX84 : ∀ (v0 : Nat) (v1 : Int32) (v2 : Int32) (v3 : Int32) (S : HS), X84 v0 v1 v2 v3 S → WS X 4 0 0 84 [(0, .ref v0), (1, .int v1), (2, .int v2), (3, .int v3)] [] S) {v0 : Nat} {v1 : Int32} {v2 : Int32} {v3 : Int32} {S : HS} (h : P_X11_stay_133 Q X84 v0 v1 v2 v3 S) : WS X 4 0 0 133 [(0, .ref v0), (1, .int v1), (2, .int v2), (3, .int v3)] [] S := by
  refine r_aload_n (pc := 133) C dX11_stay_133 0 rfl ?_
  obtain ⟨o_v0, h⟩ := h
  obtain ⟨a1, ea1, h⟩ := h
  refine r_getr (pc := 134) C fL_X11_31 dX11_stay_134 o_v0 ea1 ?_
  refine r_iconst (pc := 137) C (v := (1 : Int32)) dX11_stay_137 (by decide) ?_
  refine r_dup2 (pc := 138) C dX11_stay_138 rfl rfl ?_
  obtain ⟨o_a1, h⟩ := h
  obtain ⟨i2, h⟩ := h
  refine r_lald (pc := 139) C dX11_stay_139 o_a1 i2 ?_
  refine r_topl (fun x3 ex3 => ?_)
  have h := h x3 ex3
  refine r_lconst (pc := 140) C (v := (1 : Int64)) dX11_stay_140 (by decide) ?_
  refine r_ladd (pc := 141) C dX11_stay_141 ?_
  refine r_topl (fun x5 ex5 => ?_)
  have h := h x5 ex5
  obtain ⟨i4, h⟩ := h
  refine r_last (pc := 142) C dX11_stay_142 o_a1 i4 ?_
  refine r_heap (fun S6 eS6 => ?_)
  have h := h S6 eS6
  have o_a1 := ob_J eS6 o_a1
  have o_v0 := ob_J eS6 o_v0
  obtain ⟨x7, ex7⟩ : ∃ z : Int32, z = v3 + (1 : Int32) := ⟨_, rfl⟩
  have h := h x7 ex7
  refine r_iinc (pc := 143) C (v := x7) (lv' := [(3, .int x7), (0, .ref v0), (1, .int v1), (2, .int v2)]) dX11_stay_143 3 rfl ex7.symm (by decide) rfl ?_
  refine r_goto (pc := 146) C (tgt := 84) dX11_stay_146 (by decide) ?_
  exact r_sub [1, 2, 3, 0] rfl (hX84 v0 v1 v2 x7 S6 h)
def B_X11_stay_84 (Q : Int32 → HS → Prop) (X84 : Nat → Int32 → Int32 → Int32 → HS → Prop) (v0 : Nat) (v1 : Int32) (v2 : Int32) (v3 : Int32) (S : HS) : Prop := ((v1 ≤ v3) → (ob S v0 11 ∧ (P_X11_granted v0 (fun x4 S2 => Gr S S2 → bl x4 → (bl x4 ∧ Q x4 S2)) S))) ∧ ((¬ v1 ≤ v3) → (ob S v0 11 ∧ (∃ a5 : Nat, fR S v0 3 = some a5 ∧ (ob S a5 10 ∧ (∃ a6 : Nat, fR S a5 18 = some a6 ∧ (ob S a6 15 ∧ (vp_in v2 (hN S a6) ∧ ∀ x8 : Int32, x8 = fI S a6 v2.toNatClampNeg → (((¬ x8 = 0) → (P_X11_stay_133 Q X84 v0 v1 v2 v3 S)) ∧ ((x8 = 0) → (∃ a10 : Nat, fR S v0 21 = some a10 ∧ (ob S a10 14 ∧ (vp_in (1 : Int32) (hN S a10) ∧ ∀ x12 : Int64, x12 = fJ S a10 (1 : Int32).toNatClampNeg → (P_X11_rainsIn v0 x12.toInt32 (fun x15 S13 => Gr S S13 → bl x15 → (((x15 = 0) → (P_X11_stay_133 Q X84 v0 v1 v2 v3 S13)) ∧ ((¬ x15 = 0) → (∃ a17 : Nat, fR S13 v0 21 = some a17 ∧ (ob S13 a17 14 ∧ (vp_in (2 : Int32) (hN S13 a17) ∧ ∀ x19 : Int64, x19 = fJ S13 a17 (2 : Int32).toNatClampNeg → (∀ x20 : Int32, x20 = fI S13 v0 19 → (P_X11_drips v0 x20 v2 (fun x23 S21 => Gr S13 S21 → (∀ x25 : Int64, x25 = x19 + x23 → (vp_in (2 : Int32) (hN S21 a17) ∧ (∀ S26 : HS, S26 = sJ S21 a17 (2 : Int32).toNatClampNeg x25 → (P_X11_stay_133 Q X84 v0 v1 v2 v3 S26))))) S13)))))))) S)))))))))))))
def P_X11_stay_84 (Q : Int32 → HS → Prop) (v0 : Nat) (v1 : Int32) (v2 : Int32) (v3 : Int32) (S : HS) : Prop := ∀ X84 : Nat → Int32 → Int32 → Int32 → HS → Prop, (∀ (v0 : Nat) (v1 : Int32) (v2 : Int32) (v3 : Int32) (S : HS), B_X11_stay_84 Q X84 v0 v1 v2 v3 S → X84 v0 v1 v2 v3 S) → X84 v0 v1 v2 v3 S
set_option maxRecDepth 20000 in
set_option maxHeartbeats 4000000 in
theorem TB_X11_stay_84 {X : CX} {Q : Int32 → HS → Prop} (C : Cx X cX11_stay RX11 4 rm_X11_stay) (E : ReI X rm_X11_stay (fun r S => bl r ∧ Q r S)) (ht : (xh X).sig.returnType = (some .boolean)) (hn : (xh X).name = yX11_stay.name) {X84 : Nat → Int32 → Int32 → Int32 → HS → Prop} (hX84 : ∀ (v0 : Nat) (v1 : Int32) (v2 : Int32) (v3 : Int32) (S : HS), X84 v0 v1 v2 v3 S → WS X 4 0 0 84 [(0, .ref v0), (1, .int v1), (2, .int v2), (3, .int v3)] [] S) {v0 : Nat} {v1 : Int32} {v2 : Int32} {v3 : Int32} {S : HS} (h : B_X11_stay_84 Q X84 v0 v1 v2 v3 S) : WS X 4 0 0 84 [(0, .ref v0), (1, .int v1), (2, .int v2), (3, .int v3)] [] S := by
  refine r_iload_n (pc := 84) C dX11_stay_84 3 rfl ?_
  refine r_iload_n (pc := 85) C dX11_stay_85 1 rfl ?_
  refine r_icmp_ge (pc := 86) C (tgt := 149) dX11_stay_86 (by decide) (fun c1 => ?_) (fun c1 => ?_)
  · have h := h.1 c1
    refine r_aload_n (pc := 149) C dX11_stay_149 0 rfl ?_
    obtain ⟨o_v0, h⟩ := h
    refine r_callVi0 (pc := 150) C (rest := []) (a := v0) o_v0 [] yV_X11_granted g_1800 (c_X11_granted h) dX11_stay_150 rfl rfl (Nat.le_of_ble_eq_true rfl) ⟨by decide, by decide⟩ ⟨by decide, by decide⟩ ⟨rfl, rfl⟩ (fun x4 S2 h g3 => ?_)
    have bx4 := h.1
    have h := h.2 g3 bx4
    have o_v0 := gr_ob g3 o_v0
    exact r_zret (pc := 153) C E ht dX11_stay_153 (by decide) (by decide) h.1 h.2
  · have h := h.2 c1
    refine r_aload_n (pc := 89) C dX11_stay_89 0 rfl ?_
    obtain ⟨o_v0, h⟩ := h
    obtain ⟨a5, ea5, h⟩ := h
    refine r_getr (pc := 90) C fL_X11_338 dX11_stay_90 o_v0 ea5 ?_
    obtain ⟨o_a5, h⟩ := h
    obtain ⟨a6, ea6, h⟩ := h
    refine r_getNr (pc := 93) C fN_X11_258 dX11_stay_93 o_a5 ea6 ?_
    refine r_iload_n (pc := 96) C dX11_stay_96 2 rfl ?_
    obtain ⟨o_a6, h⟩ := h
    obtain ⟨i7, h⟩ := h
    refine r_zald (pc := 97) C dX11_stay_97 o_a6 i7 ?_
    refine r_topi (fun x8 ex8 => ?_)
    have h := h x8 ex8
    refine r_if_ne (pc := 98) C (tgt := 133) dX11_stay_98 (by decide) (fun c9 => ?_) (fun c9 => ?_)
    · have h := h.1 c9
      exact r_sub [0, 1, 2, 3] rfl (T_X11_stay_133 C E ht hn hX84 h)
    · have h := h.2 c9
      refine r_aload_n (pc := 101) C dX11_stay_101 0 rfl ?_
      refine r_aload_n (pc := 102) C dX11_stay_102 0 rfl ?_
      obtain ⟨a10, ea10, h⟩ := h
      refine r_getr (pc := 103) C fL_X11_31 dX11_stay_103 o_v0 ea10 ?_
      refine r_iconst (pc := 106) C (v := (1 : Int32)) dX11_stay_106 (by decide) ?_
      obtain ⟨o_a10, h⟩ := h
      obtain ⟨i11, h⟩ := h
      refine r_lald (pc := 107) C dX11_stay_107 o_a10 i11 ?_
      refine r_topl (fun x12 ex12 => ?_)
      have h := h x12 ex12
      refine r_l2i (pc := 108) C dX11_stay_108 ?_
      refine r_callVi0 (pc := 109) C (rest := []) (a := v0) o_v0 [.int x12.toInt32] yV_X11_rainsIn g_1787 (c_X11_rainsIn h) dX11_stay_109 rfl rfl (Nat.le_of_ble_eq_true rfl) ⟨by decide, by decide⟩ ⟨by decide, by decide⟩ ⟨rfl, rfl⟩ (fun x15 S13 h g14 => ?_)
      have bx15 := h.1
      have h := h.2 g14 bx15
      have o_a10 := gr_ob g14 o_a10
      have o_a5 := gr_ob g14 o_a5
      have o_a6 := gr_ob g14 o_a6
      have o_v0 := gr_ob g14 o_v0
      refine r_if_eq (pc := 112) C (tgt := 133) dX11_stay_112 (by decide) (fun c16 => ?_) (fun c16 => ?_)
      · have h := h.1 c16
        exact r_sub [0, 1, 2, 3] rfl (T_X11_stay_133 C E ht hn hX84 h)
      · have h := h.2 c16
        refine r_aload_n (pc := 115) C dX11_stay_115 0 rfl ?_
        obtain ⟨a17, ea17, h⟩ := h
        refine r_getr (pc := 116) C fL_X11_31 dX11_stay_116 o_v0 ea17 ?_
        refine r_iconst (pc := 119) C (v := (2 : Int32)) dX11_stay_119 (by decide) ?_
        refine r_dup2 (pc := 120) C dX11_stay_120 rfl rfl ?_
        obtain ⟨o_a17, h⟩ := h
        obtain ⟨i18, h⟩ := h
        refine r_lald (pc := 121) C dX11_stay_121 o_a17 i18 ?_
        refine r_topl (fun x19 ex19 => ?_)
        have h := h x19 ex19
        refine r_aload_n (pc := 122) C dX11_stay_122 0 rfl ?_
        refine r_aload_n (pc := 123) C dX11_stay_123 0 rfl ?_
        refine r_geti (pc := 124) C fL_X11_28 dX11_stay_124 o_v0 ?_
        refine r_topi (fun x20 ex20 => ?_)
        have h := h x20 ex20
        refine r_iload_n (pc := 127) C dX11_stay_127 2 rfl ?_
        refine r_callVl0 (pc := 128) C (rest := [.long x19, .int (2 : Int32), .ref a17]) (a := v0) o_v0 [.int x20, .int v2] yV_X11_drips g_1723 (c_X11_drips h) dX11_stay_128 rfl rfl (Nat.le_of_ble_eq_true rfl) ⟨by decide, by decide⟩ ⟨by decide, by decide⟩ ⟨rfl, rfl⟩ (fun x23 S21 h g22 => ?_)
        have h := h g22
        have o_a10 := gr_ob g22 o_a10
        have o_a17 := gr_ob g22 o_a17
        have o_a5 := gr_ob g22 o_a5
        have o_a6 := gr_ob g22 o_a6
        have o_v0 := gr_ob g22 o_v0
        refine r_ladd (pc := 131) C dX11_stay_131 ?_
        refine r_topl (fun x25 ex25 => ?_)
        have h := h x25 ex25
        obtain ⟨i24, h⟩ := h
        refine r_last (pc := 132) C dX11_stay_132 o_a17 i24 ?_
        refine r_heap (fun S26 eS26 => ?_)
        have h := h S26 eS26
        have o_a10 := ob_J eS26 o_a10
        have o_a17 := ob_J eS26 o_a17
        have o_a5 := ob_J eS26 o_a5
        have o_a6 := ob_J eS26 o_a6
        have o_v0 := ob_J eS26 o_v0
        exact r_sub [0, 1, 2, 3] rfl (T_X11_stay_133 C E ht hn hX84 h)
theorem T_X11_stay_84 {X : CX} {Q : Int32 → HS → Prop} (C : Cx X cX11_stay RX11 4 rm_X11_stay) (E : ReI X rm_X11_stay (fun r S => bl r ∧ Q r S)) (ht : (xh X).sig.returnType = (some .boolean)) (hn : (xh X).name = yX11_stay.name) {v0 : Nat} {v1 : Int32} {v2 : Int32} {v3 : Int32} {S : HS} (h : P_X11_stay_84 Q v0 v1 v2 v3 S) : WS X 4 0 0 84 [(0, .ref v0), (1, .int v1), (2, .int v2), (3, .int v3)] [] S :=
  h (fun v0 v1 v2 v3 S => WS X 4 0 0 84 [(0, .ref v0), (1, .int v1), (2, .int v2), (3, .int v3)] [] S) (fun v0 v1 v2 v3 S hh => TB_X11_stay_84 C E ht hn (fun v0 v1 v2 v3 S z => z) hh)
def P_X11_stay_0 (Q : Int32 → HS → Prop) (v0 : Nat) (v1 : Int32) (S : HS) : Prop := ob S v0 11 ∧ (∀ S1 : HS, S1 = sI S v0 0 (0 : Int32) → (P_X11_isDay v0 (fun x4 S2 => Gr S1 S2 → bl x4 → (((¬ x4 = 0) → (P_X11_in v1 (1 : Int32) (60 : Int32) (fun x8 S6 => Gr S2 S6 → bl x8 → (((¬ x8 = 0) → (∃ a10 : Nat, fR S6 v0 21 = some a10 ∧ (ob S6 a10 14 ∧ (vp_in (0 : Int32) (hN S6 a10) ∧ ∀ x12 : Int64, x12 = fJ S6 a10 (0 : Int32).toNatClampNeg → (∀ x13 : Int32, x13 = x12.toInt32 → (P_X11_canWait v0 x13 (fun x16 S14 => Gr S6 S14 → bl x16 → (((¬ x16 = 0) → (∃ a18 : Nat, fR S14 v0 21 = some a18 ∧ (ob S14 a18 14 ∧ (vp_in (1 : Int32) (hN S14 a18) ∧ ∀ x20 : Int64, x20 = fJ S14 a18 (1 : Int32).toNatClampNeg → ((((lg_cmp (x20 + v1.toInt64) (999 : Int64)) ≤ 0) → (P_X11_keeps v0 (fun S22 => Gr S14 S22 → (P_X11_stay_84 Q v0 v1 x13 (0 : Int32) S22)) S14)) ∧ ((¬ (lg_cmp (x20 + v1.toInt64) (999 : Int64)) ≤ 0) → (P_X11_denied v0 (3 : Int32) (fun x27 S25 => Gr S14 S25 → bl x27 → (bl x27 ∧ Q x27 S25)) S14))))))) ∧ ((x16 = 0) → (P_X11_denied v0 (5 : Int32) (fun x30 S28 => Gr S14 S28 → bl x30 → (bl x30 ∧ Q x30 S28)) S14)))) S6)))))) ∧ ((x8 = 0) → (P_X11_denied v0 (2 : Int32) (fun x33 S31 => Gr S6 S31 → bl x33 → (bl x33 ∧ Q x33 S31)) S6)))) S2)) ∧ ((x4 = 0) → (P_X11_denied v0 (1 : Int32) (fun x36 S34 => Gr S2 S34 → bl x36 → (bl x36 ∧ Q x36 S34)) S2)))) S1))
set_option maxRecDepth 20000 in
set_option maxHeartbeats 4000000 in
theorem T_X11_stay_0 {X : CX} {Q : Int32 → HS → Prop} (C : Cx X cX11_stay RX11 4 rm_X11_stay) (E : ReI X rm_X11_stay (fun r S => bl r ∧ Q r S)) (ht : (xh X).sig.returnType = (some .boolean)) (hn : (xh X).name = yX11_stay.name) {v0 : Nat} {v1 : Int32} {S : HS} (h : P_X11_stay_0 Q v0 v1 S) : WS X 4 0 0 0 [(0, .ref v0), (1, .int v1)] [] S := by
  refine r_aload_n (pc := 0) C dX11_stay_0 0 rfl ?_
  refine r_iconst (pc := 1) C (v := (0 : Int32)) dX11_stay_1 (by decide) ?_
  obtain ⟨o_v0, h⟩ := h
  refine r_puti (pc := 2) C pfL_X11_40 dX11_stay_2 o_v0 ?_
  refine r_heap (fun S1 eS1 => ?_)
  have h := h S1 eS1
  have o_v0 := ob_I eS1 o_v0
  refine r_aload_n (pc := 5) C dX11_stay_5 0 rfl ?_
  refine r_callVi0 (pc := 6) C (rest := []) (a := v0) o_v0 [] yV_X11_isDay g_1779 (c_X11_isDay h) dX11_stay_6 rfl rfl (Nat.le_of_ble_eq_true rfl) ⟨by decide, by decide⟩ ⟨by decide, by decide⟩ ⟨rfl, rfl⟩ (fun x4 S2 h g3 => ?_)
  have bx4 := h.1
  have h := h.2 g3 bx4
  have o_v0 := gr_ob g3 o_v0
  refine r_if_ne (pc := 9) C (tgt := 18) dX11_stay_9 (by decide) (fun c5 => ?_) (fun c5 => ?_)
  · have h := h.1 c5
    refine r_iload_n (pc := 18) C dX11_stay_18 1 rfl ?_
    refine r_iconst (pc := 19) C (v := (1 : Int32)) dX11_stay_19 (by decide) ?_
    refine r_bipush (pc := 20) C (v := (60 : Int32)) dX11_stay_20 (by decide) ?_
    refine r_callSi0 (pc := 22) C (rest := []) rfl [.int v1, .int (1 : Int32), .int (60 : Int32)] yS_X11_in g_1434 (c_X11_in h) dX11_stay_22 rfl rfl (Nat.le_of_ble_eq_true rfl) ⟨by decide, by decide⟩ ⟨by decide, by decide⟩ ⟨rfl, rfl⟩ (fun x8 S6 h g7 => ?_)
    have bx8 := h.1
    have h := h.2 g7 bx8
    have o_v0 := gr_ob g7 o_v0
    refine r_if_ne (pc := 25) C (tgt := 34) dX11_stay_25 (by decide) (fun c9 => ?_) (fun c9 => ?_)
    · have h := h.1 c9
      refine r_aload_n (pc := 34) C dX11_stay_34 0 rfl ?_
      obtain ⟨a10, ea10, h⟩ := h
      refine r_getr (pc := 35) C fL_X11_31 dX11_stay_35 o_v0 ea10 ?_
      refine r_iconst (pc := 38) C (v := (0 : Int32)) dX11_stay_38 (by decide) ?_
      obtain ⟨o_a10, h⟩ := h
      obtain ⟨i11, h⟩ := h
      refine r_lald (pc := 39) C dX11_stay_39 o_a10 i11 ?_
      refine r_topl (fun x12 ex12 => ?_)
      have h := h x12 ex12
      refine r_l2i (pc := 40) C dX11_stay_40 ?_
      refine r_topi (fun x13 ex13 => ?_)
      have h := h x13 ex13
      refine r_istore_n (pc := 41) C dX11_stay_41 rfl (by decide) (lv' := [(2, .int x13), (0, .ref v0), (1, .int v1)]) rfl ?_
      refine r_aload_n (pc := 42) C dX11_stay_42 1 rfl ?_
      refine r_iload_n (pc := 43) C dX11_stay_43 0 rfl ?_
      refine r_callVi0 (pc := 44) C (rest := []) (a := v0) o_v0 [.int x13] yV_X11_canWait g_1715 (c_X11_canWait h) dX11_stay_44 rfl rfl (Nat.le_of_ble_eq_true rfl) ⟨by decide, by decide⟩ ⟨by decide, by decide⟩ ⟨rfl, rfl⟩ (fun x16 S14 h g15 => ?_)
      have bx16 := h.1
      have h := h.2 g15 bx16
      have o_a10 := gr_ob g15 o_a10
      have o_v0 := gr_ob g15 o_v0
      refine r_if_ne (pc := 47) C (tgt := 56) dX11_stay_47 (by decide) (fun c17 => ?_) (fun c17 => ?_)
      · have h := h.1 c17
        refine r_aload_n (pc := 56) C dX11_stay_56 1 rfl ?_
        obtain ⟨a18, ea18, h⟩ := h
        refine r_getr (pc := 57) C fL_X11_31 dX11_stay_57 o_v0 ea18 ?_
        refine r_iconst (pc := 60) C (v := (1 : Int32)) dX11_stay_60 (by decide) ?_
        obtain ⟨o_a18, h⟩ := h
        obtain ⟨i19, h⟩ := h
        refine r_lald (pc := 61) C dX11_stay_61 o_a18 i19 ?_
        refine r_topl (fun x20 ex20 => ?_)
        have h := h x20 ex20
        refine r_iload_n (pc := 62) C dX11_stay_62 2 rfl ?_
        refine r_i2l (pc := 63) C dX11_stay_63 ?_
        refine r_ladd (pc := 64) C dX11_stay_64 ?_
        refine r_ldc2 (pc := 65) C (v := (999 : Int64)) dX11_stay_65 g_1799 ?_
        refine r_lcmp (pc := 68) C dX11_stay_68 ?_
        refine r_if_le (pc := 69) C (tgt := 78) dX11_stay_69 (by decide) (fun c21 => ?_) (fun c21 => ?_)
        · have h := h.1 c21
          refine r_aload_n (pc := 78) C dX11_stay_78 1 rfl ?_
          refine r_callVv0 (pc := 79) C (rest := []) (a := v0) o_v0 [] yV_X11_keeps g_1783 (c_X11_keeps h) dX11_stay_79 rfl rfl (Nat.le_of_ble_eq_true rfl) ⟨by decide, by decide⟩ ⟨by decide, by decide⟩ ⟨rfl, rfl⟩ (fun S22 h g23 => ?_)
          have h := h g23
          have o_a10 := gr_ob g23 o_a10
          have o_a18 := gr_ob g23 o_a18
          have o_v0 := gr_ob g23 o_v0
          refine r_iconst (pc := 82) C (v := (0 : Int32)) dX11_stay_82 (by decide) ?_
          refine r_istore_n (pc := 83) C dX11_stay_83 rfl (by decide) (lv' := [(3, .int (0 : Int32)), (2, .int x13), (0, .ref v0), (1, .int v1)]) rfl ?_
          exact r_sub [2, 3, 1, 0] rfl (T_X11_stay_84 C E ht hn h)
        · have h := h.2 c21
          refine r_aload_n (pc := 72) C dX11_stay_72 1 rfl ?_
          refine r_iconst (pc := 73) C (v := (3 : Int32)) dX11_stay_73 (by decide) ?_
          refine r_callVi0 (pc := 74) C (rest := []) (a := v0) o_v0 [.int (3 : Int32)] yV_X11_denied g_1795 (c_X11_denied h) dX11_stay_74 rfl rfl (Nat.le_of_ble_eq_true rfl) ⟨by decide, by decide⟩ ⟨by decide, by decide⟩ ⟨rfl, rfl⟩ (fun x27 S25 h g26 => ?_)
          have bx27 := h.1
          have h := h.2 g26 bx27
          have o_a10 := gr_ob g26 o_a10
          have o_a18 := gr_ob g26 o_a18
          have o_v0 := gr_ob g26 o_v0
          exact r_zret (pc := 77) C E ht dX11_stay_77 (by decide) (by decide) h.1 h.2
      · have h := h.2 c17
        refine r_aload_n (pc := 50) C dX11_stay_50 1 rfl ?_
        refine r_iconst (pc := 51) C (v := (5 : Int32)) dX11_stay_51 (by decide) ?_
        refine r_callVi0 (pc := 52) C (rest := []) (a := v0) o_v0 [.int (5 : Int32)] yV_X11_denied g_1795 (c_X11_denied h) dX11_stay_52 rfl rfl (Nat.le_of_ble_eq_true rfl) ⟨by decide, by decide⟩ ⟨by decide, by decide⟩ ⟨rfl, rfl⟩ (fun x30 S28 h g29 => ?_)
        have bx30 := h.1
        have h := h.2 g29 bx30
        have o_a10 := gr_ob g29 o_a10
        have o_v0 := gr_ob g29 o_v0
        exact r_zret (pc := 55) C E ht dX11_stay_55 (by decide) (by decide) h.1 h.2
    · have h := h.2 c9
      refine r_aload_n (pc := 28) C dX11_stay_28 0 rfl ?_
      refine r_iconst (pc := 29) C (v := (2 : Int32)) dX11_stay_29 (by decide) ?_
      refine r_callVi0 (pc := 30) C (rest := []) (a := v0) o_v0 [.int (2 : Int32)] yV_X11_denied g_1795 (c_X11_denied h) dX11_stay_30 rfl rfl (Nat.le_of_ble_eq_true rfl) ⟨by decide, by decide⟩ ⟨by decide, by decide⟩ ⟨rfl, rfl⟩ (fun x33 S31 h g32 => ?_)
      have bx33 := h.1
      have h := h.2 g32 bx33
      have o_v0 := gr_ob g32 o_v0
      exact r_zret (pc := 33) C E ht dX11_stay_33 (by decide) (by decide) h.1 h.2
  · have h := h.2 c5
    refine r_aload_n (pc := 12) C dX11_stay_12 0 rfl ?_
    refine r_iconst (pc := 13) C (v := (1 : Int32)) dX11_stay_13 (by decide) ?_
    refine r_callVi0 (pc := 14) C (rest := []) (a := v0) o_v0 [.int (1 : Int32)] yV_X11_denied g_1795 (c_X11_denied h) dX11_stay_14 rfl rfl (Nat.le_of_ble_eq_true rfl) ⟨by decide, by decide⟩ ⟨by decide, by decide⟩ ⟨rfl, rfl⟩ (fun x36 S34 h g35 => ?_)
    have bx36 := h.1
    have h := h.2 g35 bx36
    have o_v0 := gr_ob g35 o_v0
    exact r_zret (pc := 17) C E ht dX11_stay_17 (by decide) (by decide) h.1 h.2
def P_X11_stay (v0 : Nat) (v1 : Int32) (Q : Int32 → HS → Prop) (S : HS) : Prop := P_X11_stay_0 Q v0 v1 S
theorem c_X11_stay {l : Launch} {Ee : EE} {S : HS} {v0 : Nat} {v1 : Int32} {Q : Int32 → HS → Prop} (h : P_X11_stay v0 v1 Q S) : MI l yX11_stay cX11_stay 4 (some .boolean) rm_X11_stay Ee S [.ref v0, .int v1] (fun r S => bl r ∧ Q r S) :=
  openI (by decide) (Nat.le_of_ble_eq_true rfl) (fun X C E ht hn hE hl => by subst hE; exact r_sub [0, 1] rfl (T_X11_stay_0 C E ht hn h))
def rm_X11_stepOf : Room := { frames := 1, cells := 0, slots := 0, locals := 22 }
def P_X11_stepOf_117 (Q : Int32 → HS → Prop) (X9 : Nat → Int32 → Int32 → Int32 → Int32 → HS → Prop) (v0 : Nat) (v4 : Int32) (v6 : Int32) (v7 : Int32) (s0 : Int32) (S : HS) : Prop := X9 v0 v4 s0 v6 v7 S
set_option maxRecDepth 20000 in
set_option maxHeartbeats 4000000 in
theorem T_X11_stepOf_117 {X : CX} {Q : Int32 → HS → Prop} (C : Cx X cX11_stepOf RX11 9 rm_X11_stepOf) (E : ReI X rm_X11_stepOf Q) (ht : (xh X).sig.returnType = (some .int)) (hn : (xh X).name = yX11_stepOf.name) {X9 : Nat → Int32 → Int32 → Int32 → Int32 → HS → Prop} (hX9 : ∀ (v0 : Nat) (v4 : Int32) (v5 : Int32) (v6 : Int32) (v7 : Int32) (S : HS), X9 v0 v4 v5 v6 v7 S → WS X 9 0 0 9 [(0, .ref v0), (4, .int v4), (5, .int v5), (6, .int v6), (7, .int v7)] [] S) {v0 : Nat} {v4 : Int32} {v6 : Int32} {v7 : Int32} {s0 : Int32} {S : HS} (h : P_X11_stepOf_117 Q X9 v0 v4 v6 v7 s0 S) : WS X 9 0 0 117 [(0, .ref v0), (4, .int v4), (6, .int v6), (7, .int v7)] [.int s0] S := by
  refine r_istore (pc := 117) C dX11_stepOf_117 (by decide) (lv' := [(5, .int s0), (0, .ref v0), (4, .int v4), (6, .int v6), (7, .int v7)]) rfl ?_
  refine r_goto (pc := 119) C (tgt := 9) dX11_stepOf_119 (by decide) ?_
  exact r_sub [1, 2, 0, 3, 4] rfl (hX9 v0 v4 s0 v6 v7 S h)
def P_X11_stepOf_82 (Q : Int32 → HS → Prop) (X9 : Nat → Int32 → Int32 → Int32 → Int32 → HS → Prop) (v0 : Nat) (v4 : Int32) (v5 : Int32) (v7 : Int32) (v8 : Int32) (s0 : Int32) (s1 : Int32) (S : HS) : Prop := ∀ x1 : Int32, x1 = s0 + s1 → (((¬ v8 = (-2 : Int32)) → (ob S v0 11 ∧ (∃ a3 : Nat, fR S v0 3 = some a3 ∧ (∀ x4 : Int32, x4 = v8 / (100 : Int32) → (∀ x5 : Int32, x5 = v8 / (10 : Int32) → (∀ x6 : Int32, x6 = x5 - x5 / (10 : Int32) * (10 : Int32) → (ob S a3 10 ∧ (P_X10_ends a3 x4 x6 (fun x9 S7 => Gr S S7 → (P_X11_stepOf_117 Q X9 v0 v4 x1 v7 x9 S7)) S)))))))) ∧ ((v8 = (-2 : Int32)) → (P_X11_stepOf_117 Q X9 v0 v4 x1 v7 v5 S)))
set_option maxRecDepth 20000 in
set_option maxHeartbeats 4000000 in
theorem T_X11_stepOf_82 {X : CX} {Q : Int32 → HS → Prop} (C : Cx X cX11_stepOf RX11 9 rm_X11_stepOf) (E : ReI X rm_X11_stepOf Q) (ht : (xh X).sig.returnType = (some .int)) (hn : (xh X).name = yX11_stepOf.name) {X9 : Nat → Int32 → Int32 → Int32 → Int32 → HS → Prop} (hX9 : ∀ (v0 : Nat) (v4 : Int32) (v5 : Int32) (v6 : Int32) (v7 : Int32) (S : HS), X9 v0 v4 v5 v6 v7 S → WS X 9 0 0 9 [(0, .ref v0), (4, .int v4), (5, .int v5), (6, .int v6), (7, .int v7)] [] S) {v0 : Nat} {v4 : Int32} {v5 : Int32} {v7 : Int32} {v8 : Int32} {s0 : Int32} {s1 : Int32} {S : HS} (h : P_X11_stepOf_82 Q X9 v0 v4 v5 v7 v8 s0 s1 S) : WS X 9 0 0 82 [(0, .ref v0), (4, .int v4), (5, .int v5), (7, .int v7), (8, .int v8)] [.int s1, .int s0] S := by
  refine r_iadd (pc := 82) C dX11_stepOf_82 ?_
  refine r_topi (fun x1 ex1 => ?_)
  have h := h x1 ex1
  refine r_istore (pc := 83) C dX11_stepOf_83 (by decide) (lv' := [(6, .int x1), (0, .ref v0), (4, .int v4), (5, .int v5), (7, .int v7), (8, .int v8)]) rfl ?_
  refine r_iload (pc := 85) C dX11_stepOf_85 5 rfl ?_
  refine r_bipush (pc := 87) C (v := (-2 : Int32)) dX11_stepOf_87 (by decide) ?_
  refine r_icmp_ne (pc := 89) C (tgt := 97) dX11_stepOf_89 (by decide) (fun c2 => ?_) (fun c2 => ?_)
  · have h := h.1 c2
    refine r_aload_n (pc := 97) C dX11_stepOf_97 1 rfl ?_
    obtain ⟨o_v0, h⟩ := h
    obtain ⟨a3, ea3, h⟩ := h
    refine r_getr (pc := 98) C fL_X11_338 dX11_stepOf_98 o_v0 ea3 ?_
    refine r_iload (pc := 101) C dX11_stepOf_101 5 rfl ?_
    refine r_bipush (pc := 103) C (v := (100 : Int32)) dX11_stepOf_103 (by decide) ?_
    refine r_idiv (pc := 105) C dX11_stepOf_105 (by decide) ?_
    refine r_topi (fun x4 ex4 => ?_)
    have h := h x4 ex4
    refine r_iload (pc := 106) C dX11_stepOf_106 5 rfl ?_
    refine r_bipush (pc := 108) C (v := (10 : Int32)) dX11_stepOf_108 (by decide) ?_
    refine r_idiv (pc := 110) C dX11_stepOf_110 (by decide) ?_
    refine r_topi (fun x5 ex5 => ?_)
    have h := h x5 ex5
    refine r_bipush (pc := 111) C (v := (10 : Int32)) dX11_stepOf_111 (by decide) ?_
    refine r_irem (pc := 113) C dX11_stepOf_113 (by decide) ?_
    refine r_topi (fun x6 ex6 => ?_)
    have h := h x6 ex6
    obtain ⟨o_a3, h⟩ := h
    refine r_callVi0 (pc := 114) C (rest := []) (a := a3) o_a3 [.int x4, .int x6] yV_X10_ends g_1699 (c_X10_ends h) dX11_stepOf_114 rfl rfl (Nat.le_of_ble_eq_true rfl) ⟨by decide, by decide⟩ ⟨by decide, by decide⟩ ⟨rfl, rfl⟩ (fun x9 S7 h g8 => ?_)
    have h := h g8
    have o_a3 := gr_ob g8 o_a3
    have o_v0 := gr_ob g8 o_v0
    exact r_sub [1, 2, 0, 4] rfl (T_X11_stepOf_117 C E ht hn hX9 h)
  · have h := h.2 c2
    refine r_iload (pc := 92) C dX11_stepOf_92 3 rfl ?_
    refine r_goto (pc := 94) C (tgt := 117) dX11_stepOf_94 (by decide) ?_
    exact r_sub [1, 2, 0, 4] rfl (T_X11_stepOf_117 C E ht hn hX9 h)
def B_X11_stepOf_9 (Q : Int32 → HS → Prop) (X9 : Nat → Int32 → Int32 → Int32 → Int32 → HS → Prop) (v0 : Nat) (v4 : Int32) (v5 : Int32) (v6 : Int32) (v7 : Int32) (S : HS) : Prop := ob S v0 11 ∧ (∃ a1 : Nat, fR S v0 18 = some a1 ∧ (P_X11_spotOf v5 v6 (fun x4 S2 => Gr S S2 → (ob S2 a1 13 ∧ (vp_in x4 (hN S2 a1) ∧ ∀ x6 : Int32, x6 = fI S2 a1 x4.toNatClampNeg → (((x6 = (-1 : Int32)) → (((0 ≤ v4) → (Q (-1 : Int32) S2)) ∧ ((¬ 0 ≤ v4) → (Q v7 S2)))) ∧ ((¬ x6 = (-1 : Int32)) → (∃ a9 : Nat, fR S2 v0 18 = some a9 ∧ (P_X11_spotOf v5 v6 (fun x12 S10 => Gr S2 S10 → (ob S10 a9 13 ∧ (vp_in x12 (hN S10 a9) ∧ ∀ x14 : Int32, x14 = fI S10 a9 x12.toNatClampNeg → (((¬ v7 = v4) → (∀ x16 : Int32, x16 = v7 + (1 : Int32) → (((¬ x14 = (-2 : Int32)) → (∃ a18 : Nat, fR S10 v0 3 = some a18 ∧ (∀ x19 : Int32, x19 = x14 / (100 : Int32) → (∀ x20 : Int32, x20 = x14 - x14 / (10 : Int32) * (10 : Int32) → (ob S10 a18 10 ∧ (P_X10_minutes a18 x19 x20 (fun x23 S21 => Gr S10 S21 → (P_X11_stepOf_82 Q X9 v0 v4 v5 x16 x14 v6 x23 S21)) S10)))))) ∧ ((x14 = (-2 : Int32)) → (P_X11_stepOf_82 Q X9 v0 v4 v5 x16 x14 v6 (1 : Int32) S10))))) ∧ ((v7 = v4) → (Q x14 S10)))))) S2))))))) S))
def P_X11_stepOf_9 (Q : Int32 → HS → Prop) (v0 : Nat) (v4 : Int32) (v5 : Int32) (v6 : Int32) (v7 : Int32) (S : HS) : Prop := ∀ X9 : Nat → Int32 → Int32 → Int32 → Int32 → HS → Prop, (∀ (v0 : Nat) (v4 : Int32) (v5 : Int32) (v6 : Int32) (v7 : Int32) (S : HS), B_X11_stepOf_9 Q X9 v0 v4 v5 v6 v7 S → X9 v0 v4 v5 v6 v7 S) → X9 v0 v4 v5 v6 v7 S
set_option maxRecDepth 20000 in
set_option maxHeartbeats 4000000 in
theorem TB_X11_stepOf_9 {X : CX} {Q : Int32 → HS → Prop} (C : Cx X cX11_stepOf RX11 9 rm_X11_stepOf) (E : ReI X rm_X11_stepOf Q) (ht : (xh X).sig.returnType = (some .int)) (hn : (xh X).name = yX11_stepOf.name) {X9 : Nat → Int32 → Int32 → Int32 → Int32 → HS → Prop} (hX9 : ∀ (v0 : Nat) (v4 : Int32) (v5 : Int32) (v6 : Int32) (v7 : Int32) (S : HS), X9 v0 v4 v5 v6 v7 S → WS X 9 0 0 9 [(0, .ref v0), (4, .int v4), (5, .int v5), (6, .int v6), (7, .int v7)] [] S) {v0 : Nat} {v4 : Int32} {v5 : Int32} {v6 : Int32} {v7 : Int32} {S : HS} (h : B_X11_stepOf_9 Q X9 v0 v4 v5 v6 v7 S) : WS X 9 0 0 9 [(0, .ref v0), (4, .int v4), (5, .int v5), (6, .int v6), (7, .int v7)] [] S := by
  refine r_aload_n (pc := 9) C dX11_stepOf_9 0 rfl ?_
  obtain ⟨o_v0, h⟩ := h
  obtain ⟨a1, ea1, h⟩ := h
  refine r_getr (pc := 10) C fL_X11_25 dX11_stepOf_10 o_v0 ea1 ?_
  refine r_iload (pc := 13) C dX11_stepOf_13 2 rfl ?_
  refine r_iload (pc := 15) C dX11_stepOf_15 3 rfl ?_
  refine r_callSi0 (pc := 17) C (rest := [.ref a1]) rfl [.int v5, .int v6] yS_X11_spotOf g_1687 (c_X11_spotOf h) dX11_stepOf_17 rfl rfl (Nat.le_of_ble_eq_true rfl) ⟨by decide, by decide⟩ ⟨by decide, by decide⟩ ⟨rfl, rfl⟩ (fun x4 S2 h g3 => ?_)
  have h := h g3
  have o_v0 := gr_ob g3 o_v0
  obtain ⟨o_a1, h⟩ := h
  obtain ⟨i5, h⟩ := h
  refine r_iald (pc := 20) C dX11_stepOf_20 o_a1 i5 ?_
  refine r_topi (fun x6 ex6 => ?_)
  have h := h x6 ex6
  refine r_iconst (pc := 21) C (v := (-1 : Int32)) dX11_stepOf_21 (by decide) ?_
  refine r_icmp_eq (pc := 22) C (tgt := 122) dX11_stepOf_22 (by decide) (fun c7 => ?_) (fun c7 => ?_)
  · have h := h.1 c7
    refine r_iload (pc := 122) C dX11_stepOf_122 1 rfl ?_
    refine r_if_ge (pc := 124) C (tgt := 132) dX11_stepOf_124 (by decide) (fun c8 => ?_) (fun c8 => ?_)
    · have h := h.1 c8
      refine r_iconst (pc := 132) C (v := (-1 : Int32)) dX11_stepOf_132 (by decide) ?_
      exact r_iret (pc := 133) C E ht dX11_stepOf_133 (by decide) (by decide) h
    · have h := h.2 c8
      refine r_iload (pc := 127) C dX11_stepOf_127 4 rfl ?_
      refine r_goto (pc := 129) C (tgt := 133) dX11_stepOf_129 (by decide) ?_
      exact r_iret (pc := 133) C E ht dX11_stepOf_133 (by decide) (by decide) h
  · have h := h.2 c7
    refine r_aload_n (pc := 25) C dX11_stepOf_25 0 rfl ?_
    obtain ⟨a9, ea9, h⟩ := h
    refine r_getr (pc := 26) C fL_X11_25 dX11_stepOf_26 o_v0 ea9 ?_
    refine r_iload (pc := 29) C dX11_stepOf_29 2 rfl ?_
    refine r_iload (pc := 31) C dX11_stepOf_31 3 rfl ?_
    refine r_callSi0 (pc := 33) C (rest := [.ref a9]) rfl [.int v5, .int v6] yS_X11_spotOf g_1687 (c_X11_spotOf h) dX11_stepOf_33 rfl rfl (Nat.le_of_ble_eq_true rfl) ⟨by decide, by decide⟩ ⟨by decide, by decide⟩ ⟨rfl, rfl⟩ (fun x12 S10 h g11 => ?_)
    have h := h g11
    have o_a1 := gr_ob g11 o_a1
    have o_v0 := gr_ob g11 o_v0
    obtain ⟨o_a9, h⟩ := h
    obtain ⟨i13, h⟩ := h
    refine r_iald (pc := 36) C dX11_stepOf_36 o_a9 i13 ?_
    refine r_topi (fun x14 ex14 => ?_)
    have h := h x14 ex14
    refine r_istore (pc := 37) C dX11_stepOf_37 (by decide) (lv' := [(8, .int x14), (0, .ref v0), (4, .int v4), (5, .int v5), (6, .int v6), (7, .int v7)]) rfl ?_
    refine r_iload (pc := 39) C dX11_stepOf_39 5 rfl ?_
    refine r_iload (pc := 41) C dX11_stepOf_41 2 rfl ?_
    refine r_icmp_ne (pc := 43) C (tgt := 49) dX11_stepOf_43 (by decide) (fun c15 => ?_) (fun c15 => ?_)
    · have h := h.1 c15
      obtain ⟨x16, ex16⟩ : ∃ z : Int32, z = v7 + (1 : Int32) := ⟨_, rfl⟩
      have h := h x16 ex16
      refine r_iinc (pc := 49) C (v := x16) (lv' := [(7, .int x16), (8, .int x14), (0, .ref v0), (4, .int v4), (5, .int v5), (6, .int v6)]) dX11_stepOf_49 5 rfl ex16.symm (by decide) rfl ?_
      refine r_iload (pc := 52) C dX11_stepOf_52 5 rfl ?_
      refine r_iload (pc := 54) C dX11_stepOf_54 1 rfl ?_
      refine r_bipush (pc := 56) C (v := (-2 : Int32)) dX11_stepOf_56 (by decide) ?_
      refine r_icmp_ne (pc := 58) C (tgt := 65) dX11_stepOf_58 (by decide) (fun c17 => ?_) (fun c17 => ?_)
      · have h := h.1 c17
        refine r_aload_n (pc := 65) C dX11_stepOf_65 2 rfl ?_
        obtain ⟨a18, ea18, h⟩ := h
        refine r_getr (pc := 66) C fL_X11_338 dX11_stepOf_66 o_v0 ea18 ?_
        refine r_iload (pc := 69) C dX11_stepOf_69 1 rfl ?_
        refine r_bipush (pc := 71) C (v := (100 : Int32)) dX11_stepOf_71 (by decide) ?_
        refine r_idiv (pc := 73) C dX11_stepOf_73 (by decide) ?_
        refine r_topi (fun x19 ex19 => ?_)
        have h := h x19 ex19
        refine r_iload (pc := 74) C dX11_stepOf_74 1 rfl ?_
        refine r_bipush (pc := 76) C (v := (10 : Int32)) dX11_stepOf_76 (by decide) ?_
        refine r_irem (pc := 78) C dX11_stepOf_78 (by decide) ?_
        refine r_topi (fun x20 ex20 => ?_)
        have h := h x20 ex20
        obtain ⟨o_a18, h⟩ := h
        refine r_callVi0 (pc := 79) C (rest := [.int v6]) (a := a18) o_a18 [.int x19, .int x20] yV_X10_minutes g_1607 (c_X10_minutes h) dX11_stepOf_79 rfl rfl (Nat.le_of_ble_eq_true rfl) ⟨by decide, by decide⟩ ⟨by decide, by decide⟩ ⟨rfl, rfl⟩ (fun x23 S21 h g22 => ?_)
        have h := h g22
        have o_a1 := gr_ob g22 o_a1
        have o_a18 := gr_ob g22 o_a18
        have o_a9 := gr_ob g22 o_a9
        have o_v0 := gr_ob g22 o_v0
        exact r_sub [2, 3, 4, 0, 1] rfl (T_X11_stepOf_82 C E ht hn hX9 h)
      · have h := h.2 c17
        refine r_iconst (pc := 61) C (v := (1 : Int32)) dX11_stepOf_61 (by decide) ?_
        refine r_goto (pc := 62) C (tgt := 82) dX11_stepOf_62 (by decide) ?_
        exact r_sub [2, 3, 4, 0, 1] rfl (T_X11_stepOf_82 C E ht hn hX9 h)
    · have h := h.2 c15
      refine r_iload (pc := 46) C dX11_stepOf_46 0 rfl ?_
      exact r_iret (pc := 48) C E ht dX11_stepOf_48 (by decide) (by decide) h
theorem T_X11_stepOf_9 {X : CX} {Q : Int32 → HS → Prop} (C : Cx X cX11_stepOf RX11 9 rm_X11_stepOf) (E : ReI X rm_X11_stepOf Q) (ht : (xh X).sig.returnType = (some .int)) (hn : (xh X).name = yX11_stepOf.name) {v0 : Nat} {v4 : Int32} {v5 : Int32} {v6 : Int32} {v7 : Int32} {S : HS} (h : P_X11_stepOf_9 Q v0 v4 v5 v6 v7 S) : WS X 9 0 0 9 [(0, .ref v0), (4, .int v4), (5, .int v5), (6, .int v6), (7, .int v7)] [] S :=
  h (fun v0 v4 v5 v6 v7 S => WS X 9 0 0 9 [(0, .ref v0), (4, .int v4), (5, .int v5), (6, .int v6), (7, .int v7)] [] S) (fun v0 v4 v5 v6 v7 S hh => TB_X11_stepOf_9 C E ht hn (fun v0 v4 v5 v6 v7 S z => z) hh)
def P_X11_stepOf_0 (Q : Int32 → HS → Prop) (v0 : Nat) (v2 : Int32) (v3 : Int32) (v4 : Int32) (S : HS) : Prop := P_X11_stepOf_9 Q v0 v4 v2 v3 (0 : Int32) S
set_option maxRecDepth 20000 in
set_option maxHeartbeats 4000000 in
theorem T_X11_stepOf_0 {X : CX} {Q : Int32 → HS → Prop} (C : Cx X cX11_stepOf RX11 9 rm_X11_stepOf) (E : ReI X rm_X11_stepOf Q) (ht : (xh X).sig.returnType = (some .int)) (hn : (xh X).name = yX11_stepOf.name) {v0 : Nat} {v2 : Int32} {v3 : Int32} {v4 : Int32} {S : HS} (h : P_X11_stepOf_0 Q v0 v2 v3 v4 S) : WS X 9 0 0 0 [(0, .ref v0), (2, .int v2), (3, .int v3), (4, .int v4)] [] S := by
  refine r_iload_n (pc := 0) C dX11_stepOf_0 1 rfl ?_
  refine r_istore (pc := 1) C dX11_stepOf_1 (by decide) (lv' := [(5, .int v2), (0, .ref v0), (2, .int v2), (3, .int v3), (4, .int v4)]) rfl ?_
  refine r_iload_n (pc := 3) C dX11_stepOf_3 3 rfl ?_
  refine r_istore (pc := 4) C dX11_stepOf_4 (by decide) (lv' := [(6, .int v3), (5, .int v2), (0, .ref v0), (2, .int v2), (3, .int v3), (4, .int v4)]) rfl ?_
  refine r_iconst (pc := 6) C (v := (0 : Int32)) dX11_stepOf_6 (by decide) ?_
  refine r_istore (pc := 7) C dX11_stepOf_7 (by decide) (lv' := [(7, .int (0 : Int32)), (6, .int v3), (5, .int v2), (0, .ref v0), (2, .int v2), (3, .int v3), (4, .int v4)]) rfl ?_
  exact r_sub [3, 6, 2, 1, 0] rfl (T_X11_stepOf_9 C E ht hn h)
def P_X11_stepOf (v0 : Nat) (v1 : Int32) (v2 : Int32) (v3 : Int32) (v4 : Int32) (Q : Int32 → HS → Prop) (S : HS) : Prop := P_X11_stepOf_0 Q v0 v2 v3 v4 S
theorem c_X11_stepOf {l : Launch} {Ee : EE} {S : HS} {v0 : Nat} {v1 : Int32} {v2 : Int32} {v3 : Int32} {v4 : Int32} {Q : Int32 → HS → Prop} (h : P_X11_stepOf v0 v1 v2 v3 v4 Q S) : MI l yX11_stepOf cX11_stepOf 9 (some .int) rm_X11_stepOf Ee S [.ref v0, .int v1, .int v2, .int v3, .int v4] Q :=
  openI (by decide) (Nat.le_of_ble_eq_true rfl) (fun X C E ht hn hE hl => by subst hE; exact r_sub [0, 2, 3, 4] rfl (T_X11_stepOf_0 C E ht hn h))
def rm_X11_step : Room := { frames := 10, cells := 0, slots := 0, locals := 268 }
def P_X11_step_49 (Q : Int32 → HS → Prop) (v0 : Nat) (s0 : Int32) (S : HS) : Prop := ((¬ s0 = (-1 : Int32)) → (ob S v0 11 ∧ (P_X11_good v0 s0 (fun x4 S2 => Gr S S2 → (Q x4 S2)) S))) ∧ ((s0 = (-1 : Int32)) → (ob S v0 11 ∧ (P_X11_refused v0 (1 : Int32) (fun x7 S5 => Gr S S5 → (Q x7 S5)) S)))
set_option maxRecDepth 20000 in
set_option maxHeartbeats 4000000 in
theorem T_X11_step_49 {X : CX} {Q : Int32 → HS → Prop} (C : Cx X cX11_step RX11 9 rm_X11_step) (E : ReI X rm_X11_step Q) (ht : (xh X).sig.returnType = (some .int)) (hn : (xh X).name = yX11_step.name) {v0 : Nat} {s0 : Int32} {S : HS} (h : P_X11_step_49 Q v0 s0 S) : WS X 9 0 0 49 [(0, .ref v0)] [.int s0] S := by
  refine r_istore (pc := 49) C dX11_step_49 (by decide) (lv' := [(8, .int s0), (0, .ref v0)]) rfl ?_
  refine r_iload (pc := 51) C dX11_step_51 0 rfl ?_
  refine r_iconst (pc := 53) C (v := (-1 : Int32)) dX11_step_53 (by decide) ?_
  refine r_icmp_ne (pc := 54) C (tgt := 65) dX11_step_54 (by decide) (fun c1 => ?_) (fun c1 => ?_)
  · have h := h.1 c1
    refine r_aload_n (pc := 65) C dX11_step_65 1 rfl ?_
    refine r_iload (pc := 66) C dX11_step_66 0 rfl ?_
    obtain ⟨o_v0, h⟩ := h
    refine r_callVi0 (pc := 68) C (rest := []) (a := v0) o_v0 [.int s0] yV_X11_good g_1518 (c_X11_good h) dX11_step_68 rfl rfl (Nat.le_of_ble_eq_true rfl) ⟨by decide, by decide⟩ ⟨by decide, by decide⟩ ⟨rfl, rfl⟩ (fun x4 S2 h g3 => ?_)
    have h := h g3
    have o_v0 := gr_ob g3 o_v0
    exact r_iret (pc := 71) C E ht dX11_step_71 (by decide) (by decide) h
  · have h := h.2 c1
    refine r_aload_n (pc := 57) C dX11_step_57 1 rfl ?_
    refine r_iconst (pc := 58) C (v := (1 : Int32)) dX11_step_58 (by decide) ?_
    obtain ⟨o_v0, h⟩ := h
    refine r_callVi0 (pc := 59) C (rest := []) (a := v0) o_v0 [.int (1 : Int32)] yV_X11_refused g_1250 (c_X11_refused h) dX11_step_59 rfl rfl (Nat.le_of_ble_eq_true rfl) ⟨by decide, by decide⟩ ⟨by decide, by decide⟩ ⟨rfl, rfl⟩ (fun x7 S5 h g6 => ?_)
    have h := h g6
    have o_v0 := gr_ob g6 o_v0
    refine r_goto (pc := 62) C (tgt := 71) dX11_step_62 (by decide) ?_
    exact r_iret (pc := 71) C E ht dX11_step_71 (by decide) (by decide) h
def P_X11_step_0 (Q : Int32 → HS → Prop) (v0 : Nat) (v1 : Int32) (v2 : Int32) (v3 : Int32) (v4 : Int32) (v5 : Int32) (v6 : Int32) (S : HS) : Prop := ob S v0 11 ∧ (∀ S1 : HS, S1 = sI S v0 0 (0 : Int32) → (P_X11_refusesWay v0 v1 v2 v3 v4 v5 (fun x4 S2 => Gr S1 S2 → (((x4 ≤ 0) → (((0 ≤ v6) → (P_X11_stepOf v0 v1 v2 v4 v6 (fun x9 S7 => Gr S2 S7 → (P_X11_step_49 Q v0 x9 S7)) S2)) ∧ ((¬ 0 ≤ v6) → (P_X11_step_49 Q v0 (-1 : Int32) S2)))) ∧ ((¬ x4 ≤ 0) → (P_X11_refused v0 x4 (fun x12 S10 => Gr S2 S10 → (Q x12 S10)) S2)))) S1))
set_option maxRecDepth 20000 in
set_option maxHeartbeats 4000000 in
theorem T_X11_step_0 {X : CX} {Q : Int32 → HS → Prop} (C : Cx X cX11_step RX11 9 rm_X11_step) (E : ReI X rm_X11_step Q) (ht : (xh X).sig.returnType = (some .int)) (hn : (xh X).name = yX11_step.name) {v0 : Nat} {v1 : Int32} {v2 : Int32} {v3 : Int32} {v4 : Int32} {v5 : Int32} {v6 : Int32} {S : HS} (h : P_X11_step_0 Q v0 v1 v2 v3 v4 v5 v6 S) : WS X 9 0 0 0 [(0, .ref v0), (1, .int v1), (2, .int v2), (3, .int v3), (4, .int v4), (5, .int v5), (6, .int v6)] [] S := by
  refine r_aload_n (pc := 0) C dX11_step_0 0 rfl ?_
  refine r_iconst (pc := 1) C (v := (0 : Int32)) dX11_step_1 (by decide) ?_
  obtain ⟨o_v0, h⟩ := h
  refine r_puti (pc := 2) C pfL_X11_40 dX11_step_2 o_v0 ?_
  refine r_heap (fun S1 eS1 => ?_)
  have h := h S1 eS1
  have o_v0 := ob_I eS1 o_v0
  refine r_aload_n (pc := 5) C dX11_step_5 0 rfl ?_
  refine r_iload_n (pc := 6) C dX11_step_6 1 rfl ?_
  refine r_iload_n (pc := 7) C dX11_step_7 2 rfl ?_
  refine r_iload_n (pc := 8) C dX11_step_8 3 rfl ?_
  refine r_iload (pc := 9) C dX11_step_9 4 rfl ?_
  refine r_iload (pc := 11) C dX11_step_11 5 rfl ?_
  refine r_callVi0 (pc := 13) C (rest := []) (a := v0) o_v0 [.int v1, .int v2, .int v3, .int v4, .int v5] yV_X11_refusesWay g_1675 (c_X11_refusesWay h) dX11_step_13 rfl rfl (Nat.le_of_ble_eq_true rfl) ⟨by decide, by decide⟩ ⟨by decide, by decide⟩ ⟨rfl, rfl⟩ (fun x4 S2 h g3 => ?_)
  have h := h g3
  have o_v0 := gr_ob g3 o_v0
  refine r_istore (pc := 16) C dX11_step_16 (by decide) (lv' := [(7, .int x4), (0, .ref v0), (1, .int v1), (2, .int v2), (3, .int v3), (4, .int v4), (5, .int v5), (6, .int v6)]) rfl ?_
  refine r_iload (pc := 18) C dX11_step_18 0 rfl ?_
  refine r_if_le (pc := 20) C (tgt := 30) dX11_step_20 (by decide) (fun c5 => ?_) (fun c5 => ?_)
  · have h := h.1 c5
    refine r_iload (pc := 30) C dX11_step_30 7 rfl ?_
    refine r_if_ge (pc := 32) C (tgt := 39) dX11_step_32 (by decide) (fun c6 => ?_) (fun c6 => ?_)
    · have h := h.1 c6
      refine r_aload_n (pc := 39) C dX11_step_39 1 rfl ?_
      refine r_iload_n (pc := 40) C dX11_step_40 2 rfl ?_
      refine r_iload_n (pc := 41) C dX11_step_41 3 rfl ?_
      refine r_iload (pc := 42) C dX11_step_42 5 rfl ?_
      refine r_iload (pc := 44) C dX11_step_44 7 rfl ?_
      refine r_callVi0 (pc := 46) C (rest := []) (a := v0) o_v0 [.int v1, .int v2, .int v4, .int v6] yV_X11_stepOf g_1735 (c_X11_stepOf h) dX11_step_46 rfl rfl (Nat.le_of_ble_eq_true rfl) ⟨by decide, by decide⟩ ⟨by decide, by decide⟩ ⟨rfl, rfl⟩ (fun x9 S7 h g8 => ?_)
      have h := h g8
      have o_v0 := gr_ob g8 o_v0
      exact r_sub [1] rfl (T_X11_step_49 C E ht hn h)
    · have h := h.2 c6
      refine r_iconst (pc := 35) C (v := (-1 : Int32)) dX11_step_35 (by decide) ?_
      refine r_goto (pc := 36) C (tgt := 49) dX11_step_36 (by decide) ?_
      exact r_sub [1] rfl (T_X11_step_49 C E ht hn h)
  · have h := h.2 c5
    refine r_aload_n (pc := 23) C dX11_step_23 1 rfl ?_
    refine r_iload (pc := 24) C dX11_step_24 0 rfl ?_
    refine r_callVi0 (pc := 26) C (rest := []) (a := v0) o_v0 [.int x4] yV_X11_refused g_1250 (c_X11_refused h) dX11_step_26 rfl rfl (Nat.le_of_ble_eq_true rfl) ⟨by decide, by decide⟩ ⟨by decide, by decide⟩ ⟨rfl, rfl⟩ (fun x12 S10 h g11 => ?_)
    have h := h g11
    have o_v0 := gr_ob g11 o_v0
    exact r_iret (pc := 29) C E ht dX11_step_29 (by decide) (by decide) h
def P_X11_step (v0 : Nat) (v1 : Int32) (v2 : Int32) (v3 : Int32) (v4 : Int32) (v5 : Int32) (v6 : Int32) (Q : Int32 → HS → Prop) (S : HS) : Prop := P_X11_step_0 Q v0 v1 v2 v3 v4 v5 v6 S
theorem c_X11_step {l : Launch} {Ee : EE} {S : HS} {v0 : Nat} {v1 : Int32} {v2 : Int32} {v3 : Int32} {v4 : Int32} {v5 : Int32} {v6 : Int32} {Q : Int32 → HS → Prop} (h : P_X11_step v0 v1 v2 v3 v4 v5 v6 Q S) : MI l yX11_step cX11_step 9 (some .int) rm_X11_step Ee S [.ref v0, .int v1, .int v2, .int v3, .int v4, .int v5, .int v6] Q :=
  openI (by decide) (Nat.le_of_ble_eq_true rfl) (fun X C E ht hn hE hl => by subst hE; exact r_sub [0, 1, 2, 3, 4, 5, 6] rfl (T_X11_step_0 C E ht hn h))
def rm_X11_steps : Room := { frames := 10, cells := 0, slots := 0, locals := 268 }
def P_X11_steps_0 (Q : Int32 → HS → Prop) (v0 : Nat) (v1 : Int32) (v2 : Int32) (v3 : Int32) (v4 : Int32) (v5 : Int32) (S : HS) : Prop := ob S v0 11 ∧ (∀ S1 : HS, S1 = sI S v0 0 (0 : Int32) → (P_X11_refusesWay v0 v1 v2 v3 v4 v5 (fun x4 S2 => Gr S1 S2 → (((x4 ≤ 0) → (P_X11_stepOf v0 v1 v2 v4 (-1 : Int32) (fun x8 S6 => Gr S2 S6 → (P_X11_good v0 x8 (fun x11 S9 => Gr S6 S9 → (Q x11 S9)) S6)) S2)) ∧ ((¬ x4 ≤ 0) → (P_X11_refused v0 x4 (fun x14 S12 => Gr S2 S12 → (Q x14 S12)) S2)))) S1))
set_option maxRecDepth 20000 in
set_option maxHeartbeats 4000000 in
theorem T_X11_steps_0 {X : CX} {Q : Int32 → HS → Prop} (C : Cx X cX11_steps RX11 7 rm_X11_steps) (E : ReI X rm_X11_steps Q) (ht : (xh X).sig.returnType = (some .int)) (hn : (xh X).name = yX11_steps.name) {v0 : Nat} {v1 : Int32} {v2 : Int32} {v3 : Int32} {v4 : Int32} {v5 : Int32} {S : HS} (h : P_X11_steps_0 Q v0 v1 v2 v3 v4 v5 S) : WS X 7 0 0 0 [(0, .ref v0), (1, .int v1), (2, .int v2), (3, .int v3), (4, .int v4), (5, .int v5)] [] S := by
  refine r_aload_n (pc := 0) C dX11_steps_0 0 rfl ?_
  refine r_iconst (pc := 1) C (v := (0 : Int32)) dX11_steps_1 (by decide) ?_
  obtain ⟨o_v0, h⟩ := h
  refine r_puti (pc := 2) C pfL_X11_40 dX11_steps_2 o_v0 ?_
  refine r_heap (fun S1 eS1 => ?_)
  have h := h S1 eS1
  have o_v0 := ob_I eS1 o_v0
  refine r_aload_n (pc := 5) C dX11_steps_5 0 rfl ?_
  refine r_iload_n (pc := 6) C dX11_steps_6 1 rfl ?_
  refine r_iload_n (pc := 7) C dX11_steps_7 2 rfl ?_
  refine r_iload_n (pc := 8) C dX11_steps_8 3 rfl ?_
  refine r_iload (pc := 9) C dX11_steps_9 4 rfl ?_
  refine r_iload (pc := 11) C dX11_steps_11 5 rfl ?_
  refine r_callVi0 (pc := 13) C (rest := []) (a := v0) o_v0 [.int v1, .int v2, .int v3, .int v4, .int v5] yV_X11_refusesWay g_1675 (c_X11_refusesWay h) dX11_steps_13 rfl rfl (Nat.le_of_ble_eq_true rfl) ⟨by decide, by decide⟩ ⟨by decide, by decide⟩ ⟨rfl, rfl⟩ (fun x4 S2 h g3 => ?_)
  have h := h g3
  have o_v0 := gr_ob g3 o_v0
  refine r_istore (pc := 16) C dX11_steps_16 (by decide) (lv' := [(6, .int x4), (0, .ref v0), (1, .int v1), (2, .int v2), (3, .int v3), (4, .int v4), (5, .int v5)]) rfl ?_
  refine r_iload (pc := 18) C dX11_steps_18 0 rfl ?_
  refine r_if_le (pc := 20) C (tgt := 32) dX11_steps_20 (by decide) (fun c5 => ?_) (fun c5 => ?_)
  · have h := h.1 c5
    refine r_aload_n (pc := 32) C dX11_steps_32 1 rfl ?_
    refine r_aload_n (pc := 33) C dX11_steps_33 1 rfl ?_
    refine r_iload_n (pc := 34) C dX11_steps_34 2 rfl ?_
    refine r_iload_n (pc := 35) C dX11_steps_35 3 rfl ?_
    refine r_iload (pc := 36) C dX11_steps_36 5 rfl ?_
    refine r_iconst (pc := 38) C (v := (-1 : Int32)) dX11_steps_38 (by decide) ?_
    refine r_callVi0 (pc := 39) C (rest := [.ref v0]) (a := v0) o_v0 [.int v1, .int v2, .int v4, .int (-1 : Int32)] yV_X11_stepOf g_1735 (c_X11_stepOf h) dX11_steps_39 rfl rfl (Nat.le_of_ble_eq_true rfl) ⟨by decide, by decide⟩ ⟨by decide, by decide⟩ ⟨rfl, rfl⟩ (fun x8 S6 h g7 => ?_)
    have h := h g7
    have o_v0 := gr_ob g7 o_v0
    refine r_callVi0 (pc := 42) C (rest := []) (a := v0) o_v0 [.int x8] yV_X11_good g_1518 (c_X11_good h) dX11_steps_42 rfl rfl (Nat.le_of_ble_eq_true rfl) ⟨by decide, by decide⟩ ⟨by decide, by decide⟩ ⟨rfl, rfl⟩ (fun x11 S9 h g10 => ?_)
    have h := h g10
    have o_v0 := gr_ob g10 o_v0
    exact r_iret (pc := 45) C E ht dX11_steps_45 (by decide) (by decide) h
  · have h := h.2 c5
    refine r_aload_n (pc := 23) C dX11_steps_23 1 rfl ?_
    refine r_iload (pc := 24) C dX11_steps_24 0 rfl ?_
    refine r_callVi0 (pc := 26) C (rest := []) (a := v0) o_v0 [.int x4] yV_X11_refused g_1250 (c_X11_refused h) dX11_steps_26 rfl rfl (Nat.le_of_ble_eq_true rfl) ⟨by decide, by decide⟩ ⟨by decide, by decide⟩ ⟨rfl, rfl⟩ (fun x14 S12 h g13 => ?_)
    have h := h g13
    have o_v0 := gr_ob g13 o_v0
    refine r_goto (pc := 29) C (tgt := 45) dX11_steps_29 (by decide) ?_
    exact r_iret (pc := 45) C E ht dX11_steps_45 (by decide) (by decide) h
def P_X11_steps (v0 : Nat) (v1 : Int32) (v2 : Int32) (v3 : Int32) (v4 : Int32) (v5 : Int32) (Q : Int32 → HS → Prop) (S : HS) : Prop := P_X11_steps_0 Q v0 v1 v2 v3 v4 v5 S
theorem c_X11_steps {l : Launch} {Ee : EE} {S : HS} {v0 : Nat} {v1 : Int32} {v2 : Int32} {v3 : Int32} {v4 : Int32} {v5 : Int32} {Q : Int32 → HS → Prop} (h : P_X11_steps v0 v1 v2 v3 v4 v5 Q S) : MI l yX11_steps cX11_steps 7 (some .int) rm_X11_steps Ee S [.ref v0, .int v1, .int v2, .int v3, .int v4, .int v5] Q :=
  openI (by decide) (Nat.le_of_ble_eq_true rfl) (fun X C E ht hn hE hl => by subst hE; exact r_sub [0, 1, 2, 3, 4, 5] rfl (T_X11_steps_0 C E ht hn h))
def rm_X11_there : Room := { frames := 10, cells := 0, slots := 0, locals := 268 }
def P_X11_there_0 (Q : Int32 → HS → Prop) (v0 : Nat) (v1 : Int32) (v2 : Int32) (v3 : Int32) (v4 : Int32) (v5 : Int32) (S : HS) : Prop := ob S v0 11 ∧ (∀ S1 : HS, S1 = sI S v0 0 (0 : Int32) → (P_X11_refusesWay v0 v1 v2 v3 v4 v5 (fun x4 S2 => Gr S1 S2 → (((x4 ≤ 0) → (∃ a6 : Nat, fR S2 v0 17 = some a6 ∧ (P_X11_spotOf v2 v4 (fun x9 S7 => Gr S2 S7 → (ob S7 a6 13 ∧ (vp_in x9 (hN S7 a6) ∧ ∀ x11 : Int32, x11 = fI S7 a6 x9.toNatClampNeg → (P_X11_good v0 x11 (fun x14 S12 => Gr S7 S12 → (Q x14 S12)) S7)))) S2))) ∧ ((¬ x4 ≤ 0) → (P_X11_refused v0 x4 (fun x17 S15 => Gr S2 S15 → (Q x17 S15)) S2)))) S1))
set_option maxRecDepth 20000 in
set_option maxHeartbeats 4000000 in
theorem T_X11_there_0 {X : CX} {Q : Int32 → HS → Prop} (C : Cx X cX11_there RX11 7 rm_X11_there) (E : ReI X rm_X11_there Q) (ht : (xh X).sig.returnType = (some .int)) (hn : (xh X).name = yX11_there.name) {v0 : Nat} {v1 : Int32} {v2 : Int32} {v3 : Int32} {v4 : Int32} {v5 : Int32} {S : HS} (h : P_X11_there_0 Q v0 v1 v2 v3 v4 v5 S) : WS X 7 0 0 0 [(0, .ref v0), (1, .int v1), (2, .int v2), (3, .int v3), (4, .int v4), (5, .int v5)] [] S := by
  refine r_aload_n (pc := 0) C dX11_there_0 0 rfl ?_
  refine r_iconst (pc := 1) C (v := (0 : Int32)) dX11_there_1 (by decide) ?_
  obtain ⟨o_v0, h⟩ := h
  refine r_puti (pc := 2) C pfL_X11_40 dX11_there_2 o_v0 ?_
  refine r_heap (fun S1 eS1 => ?_)
  have h := h S1 eS1
  have o_v0 := ob_I eS1 o_v0
  refine r_aload_n (pc := 5) C dX11_there_5 0 rfl ?_
  refine r_iload_n (pc := 6) C dX11_there_6 1 rfl ?_
  refine r_iload_n (pc := 7) C dX11_there_7 2 rfl ?_
  refine r_iload_n (pc := 8) C dX11_there_8 3 rfl ?_
  refine r_iload (pc := 9) C dX11_there_9 4 rfl ?_
  refine r_iload (pc := 11) C dX11_there_11 5 rfl ?_
  refine r_callVi0 (pc := 13) C (rest := []) (a := v0) o_v0 [.int v1, .int v2, .int v3, .int v4, .int v5] yV_X11_refusesWay g_1675 (c_X11_refusesWay h) dX11_there_13 rfl rfl (Nat.le_of_ble_eq_true rfl) ⟨by decide, by decide⟩ ⟨by decide, by decide⟩ ⟨rfl, rfl⟩ (fun x4 S2 h g3 => ?_)
  have h := h g3
  have o_v0 := gr_ob g3 o_v0
  refine r_istore (pc := 16) C dX11_there_16 (by decide) (lv' := [(6, .int x4), (0, .ref v0), (1, .int v1), (2, .int v2), (3, .int v3), (4, .int v4), (5, .int v5)]) rfl ?_
  refine r_iload (pc := 18) C dX11_there_18 0 rfl ?_
  refine r_if_le (pc := 20) C (tgt := 32) dX11_there_20 (by decide) (fun c5 => ?_) (fun c5 => ?_)
  · have h := h.1 c5
    refine r_aload_n (pc := 32) C dX11_there_32 1 rfl ?_
    refine r_aload_n (pc := 33) C dX11_there_33 1 rfl ?_
    obtain ⟨a6, ea6, h⟩ := h
    refine r_getr (pc := 34) C fL_X11_21 dX11_there_34 o_v0 ea6 ?_
    refine r_iload_n (pc := 37) C dX11_there_37 3 rfl ?_
    refine r_iload (pc := 38) C dX11_there_38 5 rfl ?_
    refine r_callSi0 (pc := 40) C (rest := [.ref a6, .ref v0]) rfl [.int v2, .int v4] yS_X11_spotOf g_1687 (c_X11_spotOf h) dX11_there_40 rfl rfl (Nat.le_of_ble_eq_true rfl) ⟨by decide, by decide⟩ ⟨by decide, by decide⟩ ⟨rfl, rfl⟩ (fun x9 S7 h g8 => ?_)
    have h := h g8
    have o_v0 := gr_ob g8 o_v0
    obtain ⟨o_a6, h⟩ := h
    obtain ⟨i10, h⟩ := h
    refine r_iald (pc := 43) C dX11_there_43 o_a6 i10 ?_
    refine r_topi (fun x11 ex11 => ?_)
    have h := h x11 ex11
    refine r_callVi0 (pc := 44) C (rest := []) (a := v0) o_v0 [.int x11] yV_X11_good g_1518 (c_X11_good h) dX11_there_44 rfl rfl (Nat.le_of_ble_eq_true rfl) ⟨by decide, by decide⟩ ⟨by decide, by decide⟩ ⟨rfl, rfl⟩ (fun x14 S12 h g13 => ?_)
    have h := h g13
    have o_a6 := gr_ob g13 o_a6
    have o_v0 := gr_ob g13 o_v0
    exact r_iret (pc := 47) C E ht dX11_there_47 (by decide) (by decide) h
  · have h := h.2 c5
    refine r_aload_n (pc := 23) C dX11_there_23 1 rfl ?_
    refine r_iload (pc := 24) C dX11_there_24 0 rfl ?_
    refine r_callVi0 (pc := 26) C (rest := []) (a := v0) o_v0 [.int x4] yV_X11_refused g_1250 (c_X11_refused h) dX11_there_26 rfl rfl (Nat.le_of_ble_eq_true rfl) ⟨by decide, by decide⟩ ⟨by decide, by decide⟩ ⟨rfl, rfl⟩ (fun x17 S15 h g16 => ?_)
    have h := h g16
    have o_v0 := gr_ob g16 o_v0
    refine r_goto (pc := 29) C (tgt := 47) dX11_there_29 (by decide) ?_
    exact r_iret (pc := 47) C E ht dX11_there_47 (by decide) (by decide) h
def P_X11_there (v0 : Nat) (v1 : Int32) (v2 : Int32) (v3 : Int32) (v4 : Int32) (v5 : Int32) (Q : Int32 → HS → Prop) (S : HS) : Prop := P_X11_there_0 Q v0 v1 v2 v3 v4 v5 S
theorem c_X11_there {l : Launch} {Ee : EE} {S : HS} {v0 : Nat} {v1 : Int32} {v2 : Int32} {v3 : Int32} {v4 : Int32} {v5 : Int32} {Q : Int32 → HS → Prop} (h : P_X11_there v0 v1 v2 v3 v4 v5 Q S) : MI l yX11_there cX11_there 7 (some .int) rm_X11_there Ee S [.ref v0, .int v1, .int v2, .int v3, .int v4, .int v5] Q :=
  openI (by decide) (Nat.le_of_ble_eq_true rfl) (fun X C E ht hn hE hl => by subst hE; exact r_sub [0, 1, 2, 3, 4, 5] rfl (T_X11_there_0 C E ht hn h))
def rm_X11_trouble : Room := { frames := 0, cells := 0, slots := 0, locals := 0 }
def P_X11_trouble_0 (Q : Int32 → HS → Prop) (v0 : Nat) (S : HS) : Prop := ob S v0 11 ∧ (∀ S1 : HS, S1 = sI S v0 0 (0 : Int32) → (∀ x2 : Int32, x2 = fI S1 v0 1 → (Q x2 S1)))
set_option maxRecDepth 20000 in
set_option maxHeartbeats 4000000 in
theorem T_X11_trouble_0 {X : CX} {Q : Int32 → HS → Prop} (C : Cx X cX11_trouble RX11 1 rm_X11_trouble) (E : ReI X rm_X11_trouble Q) (ht : (xh X).sig.returnType = (some .int)) (hn : (xh X).name = yX11_trouble.name) {v0 : Nat} {S : HS} (h : P_X11_trouble_0 Q v0 S) : WS X 1 0 0 0 [(0, .ref v0)] [] S := by
  refine r_aload_n (pc := 0) C dX11_trouble_0 0 rfl ?_
  refine r_iconst (pc := 1) C (v := (0 : Int32)) dX11_trouble_1 (by decide) ?_
  obtain ⟨o_v0, h⟩ := h
  refine r_puti (pc := 2) C pfL_X11_40 dX11_trouble_2 o_v0 ?_
  refine r_heap (fun S1 eS1 => ?_)
  have h := h S1 eS1
  have o_v0 := ob_I eS1 o_v0
  refine r_aload_n (pc := 5) C dX11_trouble_5 0 rfl ?_
  refine r_geti (pc := 6) C fL_X11_43 dX11_trouble_6 o_v0 ?_
  refine r_topi (fun x2 ex2 => ?_)
  have h := h x2 ex2
  exact r_iret (pc := 9) C E ht dX11_trouble_9 (by decide) (by decide) h
def P_X11_trouble (v0 : Nat) (Q : Int32 → HS → Prop) (S : HS) : Prop := P_X11_trouble_0 Q v0 S
theorem c_X11_trouble {l : Launch} {Ee : EE} {S : HS} {v0 : Nat} {Q : Int32 → HS → Prop} (h : P_X11_trouble v0 Q S) : MI l yX11_trouble cX11_trouble 1 (some .int) rm_X11_trouble Ee S [.ref v0] Q :=
  openI (by decide) (Nat.le_of_ble_eq_true rfl) (fun X C E ht hn hE hl => by subst hE; exact r_sub [0] rfl (T_X11_trouble_0 C E ht hn h))
def rm_X11_undo : Room := { frames := 2, cells := 0, slots := 0, locals := 42 }
def P_X11_undo_19 (Q : Int32 → HS → Prop) (v0 : Nat) (S : HS) : Prop := ob S v0 11 ∧ (P_X11_denied v0 (6 : Int32) (fun x3 S1 => Gr S S1 → bl x3 → (bl x3 ∧ Q x3 S1)) S)
set_option maxRecDepth 20000 in
set_option maxHeartbeats 4000000 in
theorem T_X11_undo_19 {X : CX} {Q : Int32 → HS → Prop} (C : Cx X cX11_undo RX11 2 rm_X11_undo) (E : ReI X rm_X11_undo (fun r S => bl r ∧ Q r S)) (ht : (xh X).sig.returnType = (some .boolean)) (hn : (xh X).name = yX11_undo.name) {v0 : Nat} {S : HS} (h : P_X11_undo_19 Q v0 S) : WS X 2 0 0 19 [(0, .ref v0)] [] S := by
  refine r_aload_n (pc := 19) C dX11_undo_19 0 rfl ?_
  refine r_bipush (pc := 20) C (v := (6 : Int32)) dX11_undo_20 (by decide) ?_
  obtain ⟨o_v0, h⟩ := h
  refine r_callVi0 (pc := 22) C (rest := []) (a := v0) o_v0 [.int (6 : Int32)] yV_X11_denied g_1795 (c_X11_denied h) dX11_undo_22 rfl rfl (Nat.le_of_ble_eq_true rfl) ⟨by decide, by decide⟩ ⟨by decide, by decide⟩ ⟨rfl, rfl⟩ (fun x3 S1 h g2 => ?_)
  have bx3 := h.1
  have h := h.2 g2 bx3
  have o_v0 := gr_ob g2 o_v0
  exact r_zret (pc := 25) C E ht dX11_undo_25 (by decide) (by decide) h.1 h.2
def B_X11_undo_38 (Q : Int32 → HS → Prop) (X38 : Nat → Int32 → HS → Prop) (v0 : Nat) (v1 : Int32) (S : HS) : Prop := (((7 : Int32) ≤ v1) → (ob S v0 11 ∧ (P_X11_granted v0 (fun x4 S2 => Gr S S2 → bl x4 → (bl x4 ∧ Q x4 S2)) S))) ∧ ((¬ (7 : Int32) ≤ v1) → (ob S v0 11 ∧ (∃ a5 : Nat, fR S v0 21 = some a5 ∧ (∃ a6 : Nat, fR S v0 22 = some a6 ∧ (∀ x7 : Int32, x7 = fI S v0 24 → (ob S a6 14 ∧ (∀ x9 : Int32, x9 = ((7 : Int32) * x7) + v1 → (vp_in x9 (hN S a6) ∧ ∀ x10 : Int64, x10 = fJ S a6 x9.toNatClampNeg → (ob S a5 14 ∧ (vp_in v1 (hN S a5) ∧ (∀ S12 : HS, S12 = sJ S a5 v1.toNatClampNeg x10 → (∀ x13 : Int32, x13 = v1 + (1 : Int32) → (X38 v0 x13 S12)))))))))))))
def P_X11_undo_38 (Q : Int32 → HS → Prop) (v0 : Nat) (v1 : Int32) (S : HS) : Prop := ∀ X38 : Nat → Int32 → HS → Prop, (∀ (v0 : Nat) (v1 : Int32) (S : HS), B_X11_undo_38 Q X38 v0 v1 S → X38 v0 v1 S) → X38 v0 v1 S
set_option maxRecDepth 20000 in
set_option maxHeartbeats 4000000 in
theorem TB_X11_undo_38 {X : CX} {Q : Int32 → HS → Prop} (C : Cx X cX11_undo RX11 2 rm_X11_undo) (E : ReI X rm_X11_undo (fun r S => bl r ∧ Q r S)) (ht : (xh X).sig.returnType = (some .boolean)) (hn : (xh X).name = yX11_undo.name) {X38 : Nat → Int32 → HS → Prop} (hX38 : ∀ (v0 : Nat) (v1 : Int32) (S : HS), X38 v0 v1 S → WS X 2 0 0 38 [(0, .ref v0), (1, .int v1)] [] S) {v0 : Nat} {v1 : Int32} {S : HS} (h : B_X11_undo_38 Q X38 v0 v1 S) : WS X 2 0 0 38 [(0, .ref v0), (1, .int v1)] [] S := by
  refine r_iload_n (pc := 38) C dX11_undo_38 1 rfl ?_
  refine r_bipush (pc := 39) C (v := (7 : Int32)) dX11_undo_39 (by decide) ?_
  refine r_icmp_ge (pc := 41) C (tgt := 70) dX11_undo_41 (by decide) (fun c1 => ?_) (fun c1 => ?_)
  · have h := h.1 c1
    refine r_aload_n (pc := 70) C dX11_undo_70 0 rfl ?_
    obtain ⟨o_v0, h⟩ := h
    refine r_callVi0 (pc := 71) C (rest := []) (a := v0) o_v0 [] yV_X11_granted g_1800 (c_X11_granted h) dX11_undo_71 rfl rfl (Nat.le_of_ble_eq_true rfl) ⟨by decide, by decide⟩ ⟨by decide, by decide⟩ ⟨rfl, rfl⟩ (fun x4 S2 h g3 => ?_)
    have bx4 := h.1
    have h := h.2 g3 bx4
    have o_v0 := gr_ob g3 o_v0
    exact r_zret (pc := 74) C E ht dX11_undo_74 (by decide) (by decide) h.1 h.2
  · have h := h.2 c1
    refine r_aload_n (pc := 44) C dX11_undo_44 0 rfl ?_
    obtain ⟨o_v0, h⟩ := h
    obtain ⟨a5, ea5, h⟩ := h
    refine r_getr (pc := 45) C fL_X11_31 dX11_undo_45 o_v0 ea5 ?_
    refine r_iload_n (pc := 48) C dX11_undo_48 1 rfl ?_
    refine r_aload_n (pc := 49) C dX11_undo_49 0 rfl ?_
    obtain ⟨a6, ea6, h⟩ := h
    refine r_getr (pc := 50) C fL_X11_34 dX11_undo_50 o_v0 ea6 ?_
    refine r_bipush (pc := 53) C (v := (7 : Int32)) dX11_undo_53 (by decide) ?_
    refine r_aload_n (pc := 55) C dX11_undo_55 0 rfl ?_
    refine r_geti (pc := 56) C fL_X11_340 dX11_undo_56 o_v0 ?_
    refine r_topi (fun x7 ex7 => ?_)
    have h := h x7 ex7
    refine r_imul (pc := 59) C dX11_undo_59 ?_
    refine r_iload_n (pc := 60) C dX11_undo_60 1 rfl ?_
    refine r_iadd (pc := 61) C dX11_undo_61 ?_
    obtain ⟨o_a6, h⟩ := h
    refine r_topi (fun x9 ex9 => ?_)
    have h := h x9 ex9
    obtain ⟨i8, h⟩ := h
    refine r_lald (pc := 62) C dX11_undo_62 o_a6 i8 ?_
    refine r_topl (fun x10 ex10 => ?_)
    have h := h x10 ex10
    obtain ⟨o_a5, h⟩ := h
    obtain ⟨i11, h⟩ := h
    refine r_last (pc := 63) C dX11_undo_63 o_a5 i11 ?_
    refine r_heap (fun S12 eS12 => ?_)
    have h := h S12 eS12
    have o_a5 := ob_J eS12 o_a5
    have o_a6 := ob_J eS12 o_a6
    have o_v0 := ob_J eS12 o_v0
    obtain ⟨x13, ex13⟩ : ∃ z : Int32, z = v1 + (1 : Int32) := ⟨_, rfl⟩
    have h := h x13 ex13
    refine r_iinc (pc := 64) C (v := x13) (lv' := [(1, .int x13), (0, .ref v0)]) dX11_undo_64 1 rfl ex13.symm (by decide) rfl ?_
    refine r_goto (pc := 67) C (tgt := 38) dX11_undo_67 (by decide) ?_
    exact r_sub [1, 0] rfl (hX38 v0 x13 S12 h)
theorem T_X11_undo_38 {X : CX} {Q : Int32 → HS → Prop} (C : Cx X cX11_undo RX11 2 rm_X11_undo) (E : ReI X rm_X11_undo (fun r S => bl r ∧ Q r S)) (ht : (xh X).sig.returnType = (some .boolean)) (hn : (xh X).name = yX11_undo.name) {v0 : Nat} {v1 : Int32} {S : HS} (h : P_X11_undo_38 Q v0 v1 S) : WS X 2 0 0 38 [(0, .ref v0), (1, .int v1)] [] S :=
  h (fun v0 v1 S => WS X 2 0 0 38 [(0, .ref v0), (1, .int v1)] [] S) (fun v0 v1 S hh => TB_X11_undo_38 C E ht hn (fun v0 v1 S z => z) hh)
def P_X11_undo_0 (Q : Int32 → HS → Prop) (v0 : Nat) (S : HS) : Prop := ob S v0 11 ∧ (∀ S1 : HS, S1 = sI S v0 0 (0 : Int32) → (P_X11_isDay v0 (fun x4 S2 => Gr S1 S2 → bl x4 → (((x4 = 0) → (P_X11_undo_19 Q v0 S2)) ∧ ((¬ x4 = 0) → (∀ x6 : Int32, x6 = fI S2 v0 24 → (((¬ x6 = 0) → (∀ x8 : Int32, x8 = fI S2 v0 24 → (∀ x9 : Int32, x9 = x8 - (1 : Int32) → (∀ S10 : HS, S10 = sI S2 v0 24 x9 → (P_X11_undo_38 Q v0 (0 : Int32) S10))))) ∧ ((x6 = 0) → (P_X11_undo_19 Q v0 S2))))))) S1))
set_option maxRecDepth 20000 in
set_option maxHeartbeats 4000000 in
theorem T_X11_undo_0 {X : CX} {Q : Int32 → HS → Prop} (C : Cx X cX11_undo RX11 2 rm_X11_undo) (E : ReI X rm_X11_undo (fun r S => bl r ∧ Q r S)) (ht : (xh X).sig.returnType = (some .boolean)) (hn : (xh X).name = yX11_undo.name) {v0 : Nat} {S : HS} (h : P_X11_undo_0 Q v0 S) : WS X 2 0 0 0 [(0, .ref v0)] [] S := by
  refine r_aload_n (pc := 0) C dX11_undo_0 0 rfl ?_
  refine r_iconst (pc := 1) C (v := (0 : Int32)) dX11_undo_1 (by decide) ?_
  obtain ⟨o_v0, h⟩ := h
  refine r_puti (pc := 2) C pfL_X11_40 dX11_undo_2 o_v0 ?_
  refine r_heap (fun S1 eS1 => ?_)
  have h := h S1 eS1
  have o_v0 := ob_I eS1 o_v0
  refine r_aload_n (pc := 5) C dX11_undo_5 0 rfl ?_
  refine r_callVi0 (pc := 6) C (rest := []) (a := v0) o_v0 [] yV_X11_isDay g_1779 (c_X11_isDay h) dX11_undo_6 rfl rfl (Nat.le_of_ble_eq_true rfl) ⟨by decide, by decide⟩ ⟨by decide, by decide⟩ ⟨rfl, rfl⟩ (fun x4 S2 h g3 => ?_)
  have bx4 := h.1
  have h := h.2 g3 bx4
  have o_v0 := gr_ob g3 o_v0
  refine r_if_eq (pc := 9) C (tgt := 19) dX11_undo_9 (by decide) (fun c5 => ?_) (fun c5 => ?_)
  · have h := h.1 c5
    exact r_sub [0] rfl (T_X11_undo_19 C E ht hn h)
  · have h := h.2 c5
    refine r_aload_n (pc := 12) C dX11_undo_12 0 rfl ?_
    refine r_geti (pc := 13) C fL_X11_340 dX11_undo_13 o_v0 ?_
    refine r_topi (fun x6 ex6 => ?_)
    have h := h x6 ex6
    refine r_if_ne (pc := 16) C (tgt := 26) dX11_undo_16 (by decide) (fun c7 => ?_) (fun c7 => ?_)
    · have h := h.1 c7
      refine r_aload_n (pc := 26) C dX11_undo_26 0 rfl ?_
      refine r_dup (pc := 27) C dX11_undo_27 rfl ?_
      refine r_geti (pc := 28) C fL_X11_340 dX11_undo_28 o_v0 ?_
      refine r_topi (fun x8 ex8 => ?_)
      have h := h x8 ex8
      refine r_iconst (pc := 31) C (v := (1 : Int32)) dX11_undo_31 (by decide) ?_
      refine r_isub (pc := 32) C dX11_undo_32 ?_
      refine r_topi (fun x9 ex9 => ?_)
      have h := h x9 ex9
      refine r_puti (pc := 33) C pfL_X11_340 dX11_undo_33 o_v0 ?_
      refine r_heap (fun S10 eS10 => ?_)
      have h := h S10 eS10
      have o_v0 := ob_I eS10 o_v0
      refine r_iconst (pc := 36) C (v := (0 : Int32)) dX11_undo_36 (by decide) ?_
      refine r_istore_n (pc := 37) C dX11_undo_37 rfl (by decide) (lv' := [(1, .int (0 : Int32)), (0, .ref v0)]) rfl ?_
      exact r_sub [1, 0] rfl (T_X11_undo_38 C E ht hn h)
    · have h := h.2 c7
      exact r_sub [0] rfl (T_X11_undo_19 C E ht hn h)
def P_X11_undo (v0 : Nat) (Q : Int32 → HS → Prop) (S : HS) : Prop := P_X11_undo_0 Q v0 S
theorem c_X11_undo {l : Launch} {Ee : EE} {S : HS} {v0 : Nat} {Q : Int32 → HS → Prop} (h : P_X11_undo v0 Q S) : MI l yX11_undo cX11_undo 2 (some .boolean) rm_X11_undo Ee S [.ref v0] (fun r S => bl r ∧ Q r S) :=
  openI (by decide) (Nat.le_of_ble_eq_true rfl) (fun X C E ht hn hE hl => by subst hE; exact r_sub [0] rfl (T_X11_undo_0 C E ht hn h))
def rm_X11_walker : Room := { frames := 1, cells := 0, slots := 0, locals := 22 }
def P_X11_walker_23 (Q : Int32 → HS → Prop) (v0 : Nat) (S : HS) : Prop := ob S v0 11 ∧ (P_X11_refused v0 (1 : Int32) (fun x3 S1 => Gr S S1 → (Q x3 S1)) S)
set_option maxRecDepth 20000 in
set_option maxHeartbeats 4000000 in
theorem T_X11_walker_23 {X : CX} {Q : Int32 → HS → Prop} (C : Cx X cX11_walker RX11 3 rm_X11_walker) (E : ReI X rm_X11_walker Q) (ht : (xh X).sig.returnType = (some .int)) (hn : (xh X).name = yX11_walker.name) {v0 : Nat} {S : HS} (h : P_X11_walker_23 Q v0 S) : WS X 3 0 0 23 [(0, .ref v0)] [] S := by
  refine r_aload_n (pc := 23) C dX11_walker_23 0 rfl ?_
  refine r_iconst (pc := 24) C (v := (1 : Int32)) dX11_walker_24 (by decide) ?_
  obtain ⟨o_v0, h⟩ := h
  refine r_callVi0 (pc := 25) C (rest := []) (a := v0) o_v0 [.int (1 : Int32)] yV_X11_refused g_1250 (c_X11_refused h) dX11_walker_25 rfl rfl (Nat.le_of_ble_eq_true rfl) ⟨by decide, by decide⟩ ⟨by decide, by decide⟩ ⟨rfl, rfl⟩ (fun x3 S1 h g2 => ?_)
  have h := h g2
  have o_v0 := gr_ob g2 o_v0
  exact r_iret (pc := 28) C E ht dX11_walker_28 (by decide) (by decide) h
def P_X11_walker_0 (Q : Int32 → HS → Prop) (v0 : Nat) (v1 : Int32) (v2 : Int32) (S : HS) : Prop := ob S v0 11 ∧ (∀ S1 : HS, S1 = sI S v0 0 (0 : Int32) → (P_X11_isWalker v0 v1 (fun x4 S2 => Gr S1 S2 → bl x4 → (((x4 = 0) → (P_X11_walker_23 Q v0 S2)) ∧ ((¬ x4 = 0) → (P_X11_in v2 (0 : Int32) (6 : Int32) (fun x8 S6 => Gr S2 S6 → bl x8 → (((¬ x8 = 0) → ((v2.toInt < 0 ∨ 5 < v2.toInt → (∃ a11 : Nat, fR S6 v0 3 = some a11 ∧ (ob S6 a11 10 ∧ (∃ a12 : Nat, fR S6 a11 25 = some a12 ∧ (ob S6 a12 13 ∧ (vp_in v1 (hN S6 a12) ∧ ∀ x14 : Int32, x14 = fI S6 a12 v1.toNatClampNeg → (P_X11_good v0 x14 (fun x17 S15 => Gr S6 S15 → (Q x17 S15)) S6))))))) ∧ (v2.toInt = 0 → (∃ a18 : Nat, fR S6 v0 3 = some a18 ∧ (ob S6 a18 10 ∧ (∃ a19 : Nat, fR S6 a18 19 = some a19 ∧ (ob S6 a19 13 ∧ (vp_in v1 (hN S6 a19) ∧ ∀ x21 : Int32, x21 = fI S6 a19 v1.toNatClampNeg → (P_X11_good v0 x21 (fun x24 S22 => Gr S6 S22 → (Q x24 S22)) S6))))))) ∧ (v2.toInt = 1 → (∃ a25 : Nat, fR S6 v0 3 = some a25 ∧ (ob S6 a25 10 ∧ (∃ a26 : Nat, fR S6 a25 20 = some a26 ∧ (ob S6 a26 13 ∧ (vp_in v1 (hN S6 a26) ∧ ∀ x28 : Int32, x28 = fI S6 a26 v1.toNatClampNeg → (P_X11_good v0 x28 (fun x31 S29 => Gr S6 S29 → (Q x31 S29)) S6))))))) ∧ (v2.toInt = 2 → (∃ a32 : Nat, fR S6 v0 3 = some a32 ∧ (ob S6 a32 10 ∧ (∃ a33 : Nat, fR S6 a32 21 = some a33 ∧ (ob S6 a33 13 ∧ (vp_in v1 (hN S6 a33) ∧ ∀ x35 : Int32, x35 = fI S6 a33 v1.toNatClampNeg → (P_X11_good v0 x35 (fun x38 S36 => Gr S6 S36 → (Q x38 S36)) S6))))))) ∧ (v2.toInt = 3 → (∃ a39 : Nat, fR S6 v0 3 = some a39 ∧ (ob S6 a39 10 ∧ (∃ a40 : Nat, fR S6 a39 22 = some a40 ∧ (ob S6 a40 13 ∧ (vp_in v1 (hN S6 a40) ∧ ∀ x42 : Int32, x42 = fI S6 a40 v1.toNatClampNeg → (P_X11_good v0 x42 (fun x45 S43 => Gr S6 S43 → (Q x45 S43)) S6))))))) ∧ (v2.toInt = 4 → (∃ a46 : Nat, fR S6 v0 3 = some a46 ∧ (ob S6 a46 10 ∧ (∃ a47 : Nat, fR S6 a46 23 = some a47 ∧ (ob S6 a47 13 ∧ (vp_in v1 (hN S6 a47) ∧ ∀ x49 : Int32, x49 = fI S6 a47 v1.toNatClampNeg → (P_X11_good v0 x49 (fun x52 S50 => Gr S6 S50 → (Q x52 S50)) S6))))))) ∧ (v2.toInt = 5 → (∃ a53 : Nat, fR S6 v0 3 = some a53 ∧ (ob S6 a53 10 ∧ (∃ a54 : Nat, fR S6 a53 24 = some a54 ∧ (ob S6 a54 13 ∧ (vp_in v1 (hN S6 a54) ∧ ∀ x56 : Int32, x56 = fI S6 a54 v1.toNatClampNeg → (P_X11_good v0 x56 (fun x59 S57 => Gr S6 S57 → (Q x59 S57)) S6))))))))) ∧ ((x8 = 0) → (P_X11_walker_23 Q v0 S6)))) S2)))) S1))
set_option maxRecDepth 20000 in
set_option maxHeartbeats 4000000 in
theorem T_X11_walker_0 {X : CX} {Q : Int32 → HS → Prop} (C : Cx X cX11_walker RX11 3 rm_X11_walker) (E : ReI X rm_X11_walker Q) (ht : (xh X).sig.returnType = (some .int)) (hn : (xh X).name = yX11_walker.name) {v0 : Nat} {v1 : Int32} {v2 : Int32} {S : HS} (h : P_X11_walker_0 Q v0 v1 v2 S) : WS X 3 0 0 0 [(0, .ref v0), (1, .int v1), (2, .int v2)] [] S := by
  refine r_aload_n (pc := 0) C dX11_walker_0 0 rfl ?_
  refine r_iconst (pc := 1) C (v := (0 : Int32)) dX11_walker_1 (by decide) ?_
  obtain ⟨o_v0, h⟩ := h
  refine r_puti (pc := 2) C pfL_X11_40 dX11_walker_2 o_v0 ?_
  refine r_heap (fun S1 eS1 => ?_)
  have h := h S1 eS1
  have o_v0 := ob_I eS1 o_v0
  refine r_aload_n (pc := 5) C dX11_walker_5 0 rfl ?_
  refine r_iload_n (pc := 6) C dX11_walker_6 1 rfl ?_
  refine r_callVi0 (pc := 7) C (rest := []) (a := v0) o_v0 [.int v1] yV_X11_isWalker g_1538 (c_X11_isWalker h) dX11_walker_7 rfl rfl (Nat.le_of_ble_eq_true rfl) ⟨by decide, by decide⟩ ⟨by decide, by decide⟩ ⟨rfl, rfl⟩ (fun x4 S2 h g3 => ?_)
  have bx4 := h.1
  have h := h.2 g3 bx4
  have o_v0 := gr_ob g3 o_v0
  refine r_if_eq (pc := 10) C (tgt := 23) dX11_walker_10 (by decide) (fun c5 => ?_) (fun c5 => ?_)
  · have h := h.1 c5
    exact r_sub [0] rfl (T_X11_walker_23 C E ht hn h)
  · have h := h.2 c5
    refine r_iload_n (pc := 13) C dX11_walker_13 2 rfl ?_
    refine r_iconst (pc := 14) C (v := (0 : Int32)) dX11_walker_14 (by decide) ?_
    refine r_bipush (pc := 15) C (v := (6 : Int32)) dX11_walker_15 (by decide) ?_
    refine r_callSi0 (pc := 17) C (rest := []) rfl [.int v2, .int (0 : Int32), .int (6 : Int32)] yS_X11_in g_1434 (c_X11_in h) dX11_walker_17 rfl rfl (Nat.le_of_ble_eq_true rfl) ⟨by decide, by decide⟩ ⟨by decide, by decide⟩ ⟨rfl, rfl⟩ (fun x8 S6 h g7 => ?_)
    have bx8 := h.1
    have h := h.2 g7 bx8
    have o_v0 := gr_ob g7 o_v0
    refine r_if_ne (pc := 20) C (tgt := 29) dX11_walker_20 (by decide) (fun c9 => ?_) (fun c9 => ?_)
    · have h := h.1 c9
      refine r_iload_n (pc := 29) C dX11_walker_29 2 rfl ?_
      refine r_table (pc := 30) C (tgt := 152) dX11_walker_30 (by decide) (fun c10 => ?_) (fun j hj hx => ?_)
      · have h := h.1 c10
        refine r_aload_n (pc := 152) C dX11_walker_152 0 rfl ?_
        refine r_aload_n (pc := 153) C dX11_walker_153 0 rfl ?_
        obtain ⟨a11, ea11, h⟩ := h
        refine r_getr (pc := 154) C fL_X11_338 dX11_walker_154 o_v0 ea11 ?_
        obtain ⟨o_a11, h⟩ := h
        obtain ⟨a12, ea12, h⟩ := h
        refine r_getNr (pc := 157) C fN_X11_320 dX11_walker_157 o_a11 ea12 ?_
        refine r_iload_n (pc := 160) C dX11_walker_160 1 rfl ?_
        obtain ⟨o_a12, h⟩ := h
        obtain ⟨i13, h⟩ := h
        refine r_iald (pc := 161) C dX11_walker_161 o_a12 i13 ?_
        refine r_topi (fun x14 ex14 => ?_)
        have h := h x14 ex14
        refine r_callVi0 (pc := 162) C (rest := []) (a := v0) o_v0 [.int x14] yV_X11_good g_1518 (c_X11_good h) dX11_walker_162 rfl rfl (Nat.le_of_ble_eq_true rfl) ⟨by decide, by decide⟩ ⟨by decide, by decide⟩ ⟨rfl, rfl⟩ (fun x17 S15 h g16 => ?_)
        have h := h g16
        have o_a11 := gr_ob g16 o_a11
        have o_a12 := gr_ob g16 o_a12
        have o_v0 := gr_ob g16 o_v0
        exact r_iret (pc := 165) C E ht dX11_walker_165 (by decide) (by decide) h
      · match j, hj, hx with
        | 0, _, hx =>
          refine ⟨38, 68, rfl, by decide, ?_⟩
          have h := h.2.1 (by simpa using hx)
          refine r_aload_n (pc := 68) C dX11_walker_68 0 rfl ?_
          refine r_aload_n (pc := 69) C dX11_walker_69 0 rfl ?_
          obtain ⟨a18, ea18, h⟩ := h
          refine r_getr (pc := 70) C fL_X11_338 dX11_walker_70 o_v0 ea18 ?_
          obtain ⟨o_a18, h⟩ := h
          obtain ⟨a19, ea19, h⟩ := h
          refine r_getNr (pc := 73) C fN_X11_302 dX11_walker_73 o_a18 ea19 ?_
          refine r_iload_n (pc := 76) C dX11_walker_76 1 rfl ?_
          obtain ⟨o_a19, h⟩ := h
          obtain ⟨i20, h⟩ := h
          refine r_iald (pc := 77) C dX11_walker_77 o_a19 i20 ?_
          refine r_topi (fun x21 ex21 => ?_)
          have h := h x21 ex21
          refine r_callVi0 (pc := 78) C (rest := []) (a := v0) o_v0 [.int x21] yV_X11_good g_1518 (c_X11_good h) dX11_walker_78 rfl rfl (Nat.le_of_ble_eq_true rfl) ⟨by decide, by decide⟩ ⟨by decide, by decide⟩ ⟨rfl, rfl⟩ (fun x24 S22 h g23 => ?_)
          have h := h g23
          have o_a18 := gr_ob g23 o_a18
          have o_a19 := gr_ob g23 o_a19
          have o_v0 := gr_ob g23 o_v0
          exact r_iret (pc := 81) C E ht dX11_walker_81 (by decide) (by decide) h
        | 1, _, hx =>
          refine ⟨52, 82, rfl, by decide, ?_⟩
          have h := h.2.2.1 (by simpa using hx)
          refine r_aload_n (pc := 82) C dX11_walker_82 0 rfl ?_
          refine r_aload_n (pc := 83) C dX11_walker_83 0 rfl ?_
          obtain ⟨a25, ea25, h⟩ := h
          refine r_getr (pc := 84) C fL_X11_338 dX11_walker_84 o_v0 ea25 ?_
          obtain ⟨o_a25, h⟩ := h
          obtain ⟨a26, ea26, h⟩ := h
          refine r_getNr (pc := 87) C fN_X11_305 dX11_walker_87 o_a25 ea26 ?_
          refine r_iload_n (pc := 90) C dX11_walker_90 1 rfl ?_
          obtain ⟨o_a26, h⟩ := h
          obtain ⟨i27, h⟩ := h
          refine r_iald (pc := 91) C dX11_walker_91 o_a26 i27 ?_
          refine r_topi (fun x28 ex28 => ?_)
          have h := h x28 ex28
          refine r_callVi0 (pc := 92) C (rest := []) (a := v0) o_v0 [.int x28] yV_X11_good g_1518 (c_X11_good h) dX11_walker_92 rfl rfl (Nat.le_of_ble_eq_true rfl) ⟨by decide, by decide⟩ ⟨by decide, by decide⟩ ⟨rfl, rfl⟩ (fun x31 S29 h g30 => ?_)
          have h := h g30
          have o_a25 := gr_ob g30 o_a25
          have o_a26 := gr_ob g30 o_a26
          have o_v0 := gr_ob g30 o_v0
          exact r_iret (pc := 95) C E ht dX11_walker_95 (by decide) (by decide) h
        | 2, _, hx =>
          refine ⟨66, 96, rfl, by decide, ?_⟩
          have h := h.2.2.2.1 (by simpa using hx)
          refine r_aload_n (pc := 96) C dX11_walker_96 0 rfl ?_
          refine r_aload_n (pc := 97) C dX11_walker_97 0 rfl ?_
          obtain ⟨a32, ea32, h⟩ := h
          refine r_getr (pc := 98) C fL_X11_338 dX11_walker_98 o_v0 ea32 ?_
          obtain ⟨o_a32, h⟩ := h
          obtain ⟨a33, ea33, h⟩ := h
          refine r_getNr (pc := 101) C fN_X11_308 dX11_walker_101 o_a32 ea33 ?_
          refine r_iload_n (pc := 104) C dX11_walker_104 1 rfl ?_
          obtain ⟨o_a33, h⟩ := h
          obtain ⟨i34, h⟩ := h
          refine r_iald (pc := 105) C dX11_walker_105 o_a33 i34 ?_
          refine r_topi (fun x35 ex35 => ?_)
          have h := h x35 ex35
          refine r_callVi0 (pc := 106) C (rest := []) (a := v0) o_v0 [.int x35] yV_X11_good g_1518 (c_X11_good h) dX11_walker_106 rfl rfl (Nat.le_of_ble_eq_true rfl) ⟨by decide, by decide⟩ ⟨by decide, by decide⟩ ⟨rfl, rfl⟩ (fun x38 S36 h g37 => ?_)
          have h := h g37
          have o_a32 := gr_ob g37 o_a32
          have o_a33 := gr_ob g37 o_a33
          have o_v0 := gr_ob g37 o_v0
          exact r_iret (pc := 109) C E ht dX11_walker_109 (by decide) (by decide) h
        | 3, _, hx =>
          refine ⟨80, 110, rfl, by decide, ?_⟩
          have h := h.2.2.2.2.1 (by simpa using hx)
          refine r_aload_n (pc := 110) C dX11_walker_110 0 rfl ?_
          refine r_aload_n (pc := 111) C dX11_walker_111 0 rfl ?_
          obtain ⟨a39, ea39, h⟩ := h
          refine r_getr (pc := 112) C fL_X11_338 dX11_walker_112 o_v0 ea39 ?_
          obtain ⟨o_a39, h⟩ := h
          obtain ⟨a40, ea40, h⟩ := h
          refine r_getNr (pc := 115) C fN_X11_311 dX11_walker_115 o_a39 ea40 ?_
          refine r_iload_n (pc := 118) C dX11_walker_118 1 rfl ?_
          obtain ⟨o_a40, h⟩ := h
          obtain ⟨i41, h⟩ := h
          refine r_iald (pc := 119) C dX11_walker_119 o_a40 i41 ?_
          refine r_topi (fun x42 ex42 => ?_)
          have h := h x42 ex42
          refine r_callVi0 (pc := 120) C (rest := []) (a := v0) o_v0 [.int x42] yV_X11_good g_1518 (c_X11_good h) dX11_walker_120 rfl rfl (Nat.le_of_ble_eq_true rfl) ⟨by decide, by decide⟩ ⟨by decide, by decide⟩ ⟨rfl, rfl⟩ (fun x45 S43 h g44 => ?_)
          have h := h g44
          have o_a39 := gr_ob g44 o_a39
          have o_a40 := gr_ob g44 o_a40
          have o_v0 := gr_ob g44 o_v0
          exact r_iret (pc := 123) C E ht dX11_walker_123 (by decide) (by decide) h
        | 4, _, hx =>
          refine ⟨94, 124, rfl, by decide, ?_⟩
          have h := h.2.2.2.2.2.1 (by simpa using hx)
          refine r_aload_n (pc := 124) C dX11_walker_124 0 rfl ?_
          refine r_aload_n (pc := 125) C dX11_walker_125 0 rfl ?_
          obtain ⟨a46, ea46, h⟩ := h
          refine r_getr (pc := 126) C fL_X11_338 dX11_walker_126 o_v0 ea46 ?_
          obtain ⟨o_a46, h⟩ := h
          obtain ⟨a47, ea47, h⟩ := h
          refine r_getNr (pc := 129) C fN_X11_314 dX11_walker_129 o_a46 ea47 ?_
          refine r_iload_n (pc := 132) C dX11_walker_132 1 rfl ?_
          obtain ⟨o_a47, h⟩ := h
          obtain ⟨i48, h⟩ := h
          refine r_iald (pc := 133) C dX11_walker_133 o_a47 i48 ?_
          refine r_topi (fun x49 ex49 => ?_)
          have h := h x49 ex49
          refine r_callVi0 (pc := 134) C (rest := []) (a := v0) o_v0 [.int x49] yV_X11_good g_1518 (c_X11_good h) dX11_walker_134 rfl rfl (Nat.le_of_ble_eq_true rfl) ⟨by decide, by decide⟩ ⟨by decide, by decide⟩ ⟨rfl, rfl⟩ (fun x52 S50 h g51 => ?_)
          have h := h g51
          have o_a46 := gr_ob g51 o_a46
          have o_a47 := gr_ob g51 o_a47
          have o_v0 := gr_ob g51 o_v0
          exact r_iret (pc := 137) C E ht dX11_walker_137 (by decide) (by decide) h
        | 5, _, hx =>
          refine ⟨108, 138, rfl, by decide, ?_⟩
          have h := h.2.2.2.2.2.2 (by simpa using hx)
          refine r_aload_n (pc := 138) C dX11_walker_138 0 rfl ?_
          refine r_aload_n (pc := 139) C dX11_walker_139 0 rfl ?_
          obtain ⟨a53, ea53, h⟩ := h
          refine r_getr (pc := 140) C fL_X11_338 dX11_walker_140 o_v0 ea53 ?_
          obtain ⟨o_a53, h⟩ := h
          obtain ⟨a54, ea54, h⟩ := h
          refine r_getNr (pc := 143) C fN_X11_317 dX11_walker_143 o_a53 ea54 ?_
          refine r_iload_n (pc := 146) C dX11_walker_146 1 rfl ?_
          obtain ⟨o_a54, h⟩ := h
          obtain ⟨i55, h⟩ := h
          refine r_iald (pc := 147) C dX11_walker_147 o_a54 i55 ?_
          refine r_topi (fun x56 ex56 => ?_)
          have h := h x56 ex56
          refine r_callVi0 (pc := 148) C (rest := []) (a := v0) o_v0 [.int x56] yV_X11_good g_1518 (c_X11_good h) dX11_walker_148 rfl rfl (Nat.le_of_ble_eq_true rfl) ⟨by decide, by decide⟩ ⟨by decide, by decide⟩ ⟨rfl, rfl⟩ (fun x59 S57 h g58 => ?_)
          have h := h g58
          have o_a53 := gr_ob g58 o_a53
          have o_a54 := gr_ob g58 o_a54
          have o_v0 := gr_ob g58 o_v0
          exact r_iret (pc := 151) C E ht dX11_walker_151 (by decide) (by decide) h
        | j + 6, hj, _ => exact absurd hj (by omega)
    · have h := h.2 c9
      exact r_sub [0] rfl (T_X11_walker_23 C E ht hn h)
def P_X11_walker (v0 : Nat) (v1 : Int32) (v2 : Int32) (Q : Int32 → HS → Prop) (S : HS) : Prop := P_X11_walker_0 Q v0 v1 v2 S
theorem c_X11_walker {l : Launch} {Ee : EE} {S : HS} {v0 : Nat} {v1 : Int32} {v2 : Int32} {Q : Int32 → HS → Prop} (h : P_X11_walker v0 v1 v2 Q S) : MI l yX11_walker cX11_walker 3 (some .int) rm_X11_walker Ee S [.ref v0, .int v1, .int v2] Q :=
  openI (by decide) (Nat.le_of_ble_eq_true rfl) (fun X C E ht hn hE hl => by subst hE; exact r_sub [0, 1, 2] rfl (T_X11_walker_0 C E ht hn h))
def rm_X11_wet : Room := { frames := 6, cells := 0, slots := 0, locals := 163 }
def P_X11_wet_0 (Q : Int64 → HS → Prop) (v0 : Nat) (v1 : Int32) (v2 : Int32) (v3 : Int32) (v4 : Int32) (v5 : Int32) (v6 : Int32) (S : HS) : Prop := ob S v0 11 ∧ (∀ S1 : HS, S1 = sI S v0 0 (0 : Int32) → (P_X11_refuses v0 v1 v2 v3 v4 v5 (fun x4 S2 => Gr S1 S2 → (((x4 ≤ 0) → (P_X11_wetOf v0 v1 v2 v3 v4 v5 (fun x8 S6 => Gr S2 S6 → (P_X11_told v0 x8 (2520 : Int64) v6 (fun x11 S9 => Gr S6 S9 → (Q x11 S9)) S6)) S2)) ∧ ((¬ x4 ≤ 0) → (P_X11_refused v0 x4 (fun x14 S12 => Gr S2 S12 → (Q x14.toInt64 S12)) S2)))) S1))
set_option maxRecDepth 20000 in
set_option maxHeartbeats 4000000 in
theorem T_X11_wet_0 {X : CX} {Q : Int64 → HS → Prop} (C : Cx X cX11_wet RX11 8 rm_X11_wet) (E : ReJ X rm_X11_wet Q) (ht : (xh X).sig.returnType = (some .long)) (hn : (xh X).name = yX11_wet.name) {v0 : Nat} {v1 : Int32} {v2 : Int32} {v3 : Int32} {v4 : Int32} {v5 : Int32} {v6 : Int32} {S : HS} (h : P_X11_wet_0 Q v0 v1 v2 v3 v4 v5 v6 S) : WS X 8 0 0 0 [(0, .ref v0), (1, .int v1), (2, .int v2), (3, .int v3), (4, .int v4), (5, .int v5), (6, .int v6)] [] S := by
  refine r_aload_n (pc := 0) C dX11_wet_0 0 rfl ?_
  refine r_iconst (pc := 1) C (v := (0 : Int32)) dX11_wet_1 (by decide) ?_
  obtain ⟨o_v0, h⟩ := h
  refine r_puti (pc := 2) C pfL_X11_40 dX11_wet_2 o_v0 ?_
  refine r_heap (fun S1 eS1 => ?_)
  have h := h S1 eS1
  have o_v0 := ob_I eS1 o_v0
  refine r_aload_n (pc := 5) C dX11_wet_5 0 rfl ?_
  refine r_iload_n (pc := 6) C dX11_wet_6 1 rfl ?_
  refine r_iload_n (pc := 7) C dX11_wet_7 2 rfl ?_
  refine r_iload_n (pc := 8) C dX11_wet_8 3 rfl ?_
  refine r_iload (pc := 9) C dX11_wet_9 4 rfl ?_
  refine r_iload (pc := 11) C dX11_wet_11 5 rfl ?_
  refine r_callVi0 (pc := 13) C (rest := []) (a := v0) o_v0 [.int v1, .int v2, .int v3, .int v4, .int v5] yV_X11_refuses g_1534 (c_X11_refuses h) dX11_wet_13 rfl rfl (Nat.le_of_ble_eq_true rfl) ⟨by decide, by decide⟩ ⟨by decide, by decide⟩ ⟨rfl, rfl⟩ (fun x4 S2 h g3 => ?_)
  have h := h g3
  have o_v0 := gr_ob g3 o_v0
  refine r_istore (pc := 16) C dX11_wet_16 (by decide) (lv' := [(7, .int x4), (0, .ref v0), (1, .int v1), (2, .int v2), (3, .int v3), (4, .int v4), (5, .int v5), (6, .int v6)]) rfl ?_
  refine r_iload (pc := 18) C dX11_wet_18 0 rfl ?_
  refine r_if_le (pc := 20) C (tgt := 33) dX11_wet_20 (by decide) (fun c5 => ?_) (fun c5 => ?_)
  · have h := h.1 c5
    refine r_aload_n (pc := 33) C dX11_wet_33 1 rfl ?_
    refine r_aload_n (pc := 34) C dX11_wet_34 1 rfl ?_
    refine r_iload_n (pc := 35) C dX11_wet_35 2 rfl ?_
    refine r_iload_n (pc := 36) C dX11_wet_36 3 rfl ?_
    refine r_iload_n (pc := 37) C dX11_wet_37 4 rfl ?_
    refine r_iload (pc := 38) C dX11_wet_38 5 rfl ?_
    refine r_iload (pc := 40) C dX11_wet_40 6 rfl ?_
    refine r_callVl0 (pc := 42) C (rest := [.ref v0]) (a := v0) o_v0 [.int v1, .int v2, .int v3, .int v4, .int v5] yV_X11_wetOf g_1594 (c_X11_wetOf h) dX11_wet_42 rfl rfl (Nat.le_of_ble_eq_true rfl) ⟨by decide, by decide⟩ ⟨by decide, by decide⟩ ⟨rfl, rfl⟩ (fun x8 S6 h g7 => ?_)
    have h := h g7
    have o_v0 := gr_ob g7 o_v0
    refine r_ldc2 (pc := 45) C (v := (2520 : Int64)) dX11_wet_45 g_1585 ?_
    refine r_iload (pc := 48) C dX11_wet_48 7 rfl ?_
    refine r_callVl0 (pc := 50) C (rest := []) (a := v0) o_v0 [.long x8, .long (2520 : Int64), .int v6] yV_X11_told g_1586 (c_X11_told h) dX11_wet_50 rfl rfl (Nat.le_of_ble_eq_true rfl) ⟨by decide, by decide⟩ ⟨by decide, by decide⟩ ⟨rfl, rfl⟩ (fun x11 S9 h g10 => ?_)
    have h := h g10
    have o_v0 := gr_ob g10 o_v0
    exact r_lret (pc := 53) C E ht dX11_wet_53 (by decide) (by decide) h
  · have h := h.2 c5
    refine r_aload_n (pc := 23) C dX11_wet_23 1 rfl ?_
    refine r_iload (pc := 24) C dX11_wet_24 0 rfl ?_
    refine r_callVi0 (pc := 26) C (rest := []) (a := v0) o_v0 [.int x4] yV_X11_refused g_1250 (c_X11_refused h) dX11_wet_26 rfl rfl (Nat.le_of_ble_eq_true rfl) ⟨by decide, by decide⟩ ⟨by decide, by decide⟩ ⟨rfl, rfl⟩ (fun x14 S12 h g13 => ?_)
    have h := h g13
    have o_v0 := gr_ob g13 o_v0
    refine r_i2l (pc := 29) C dX11_wet_29 ?_
    refine r_goto (pc := 30) C (tgt := 53) dX11_wet_30 (by decide) ?_
    exact r_lret (pc := 53) C E ht dX11_wet_53 (by decide) (by decide) h
def P_X11_wet (v0 : Nat) (v1 : Int32) (v2 : Int32) (v3 : Int32) (v4 : Int32) (v5 : Int32) (v6 : Int32) (Q : Int64 → HS → Prop) (S : HS) : Prop := P_X11_wet_0 Q v0 v1 v2 v3 v4 v5 v6 S
theorem c_X11_wet {l : Launch} {Ee : EE} {S : HS} {v0 : Nat} {v1 : Int32} {v2 : Int32} {v3 : Int32} {v4 : Int32} {v5 : Int32} {v6 : Int32} {Q : Int64 → HS → Prop} (h : P_X11_wet v0 v1 v2 v3 v4 v5 v6 Q S) : MJ l yX11_wet cX11_wet 8 (some .long) rm_X11_wet Ee S [.ref v0, .int v1, .int v2, .int v3, .int v4, .int v5, .int v6] Q :=
  openJ (by decide) (Nat.le_of_ble_eq_true rfl) (fun X C E ht hn hE hl => by subst hE; exact r_sub [0, 1, 2, 3, 4, 5, 6] rfl (T_X11_wet_0 C E ht hn h))
def rm_X11_wetness : Room := { frames := 2, cells := 0, slots := 0, locals := 52 }
def P_X11_wetness_41 (Q : Int64 → HS → Prop) (v1 : Int32) (s0 : Nat) (s1 : Int64) (S : HS) : Prop := ob S s0 11 ∧ (P_X11_told s0 s1 (2520 : Int64) v1 (fun x3 S1 => Gr S S1 → (Q x3 S1)) S)
set_option maxRecDepth 20000 in
set_option maxHeartbeats 4000000 in
theorem T_X11_wetness_41 {X : CX} {Q : Int64 → HS → Prop} (C : Cx X cX11_wetness RX11 4 rm_X11_wetness) (E : ReJ X rm_X11_wetness Q) (ht : (xh X).sig.returnType = (some .long)) (hn : (xh X).name = yX11_wetness.name) {v1 : Int32} {s0 : Nat} {s1 : Int64} {S : HS} (h : P_X11_wetness_41 Q v1 s0 s1 S) : WS X 4 0 0 41 [(1, .int v1)] [.long s1, .ref s0] S := by
  refine r_ldc2 (pc := 41) C (v := (2520 : Int64)) dX11_wetness_41 g_1585 ?_
  refine r_iload_n (pc := 44) C dX11_wetness_44 0 rfl ?_
  obtain ⟨o_s0, h⟩ := h
  refine r_callVl0 (pc := 45) C (rest := []) (a := s0) o_s0 [.long s1, .long (2520 : Int64), .int v1] yV_X11_told g_1586 (c_X11_told h) dX11_wetness_45 rfl rfl (Nat.le_of_ble_eq_true rfl) ⟨by decide, by decide⟩ ⟨by decide, by decide⟩ ⟨rfl, rfl⟩ (fun x3 S1 h g2 => ?_)
  have h := h g2
  have o_s0 := gr_ob g2 o_s0
  exact r_lret (pc := 48) C E ht dX11_wetness_48 (by decide) (by decide) h
def P_X11_wetness_0 (Q : Int64 → HS → Prop) (v0 : Nat) (v1 : Int32) (S : HS) : Prop := ob S v0 11 ∧ (∀ S1 : HS, S1 = sI S v0 0 (0 : Int32) → (P_X11_isDay v0 (fun x4 S2 => Gr S1 S2 → bl x4 → (((¬ x4 = 0) → (P_X11_gotInAll v0 (fun x8 S6 => Gr S2 S6 → (P_X11_holds v0 (fun x11 S9 => Gr S6 S9 → (∀ x12 : Int64, x12 = x8 - x11 → (((0 ≤ (lg_cmp x12 (0 : Int64))) → (P_X11_wetness_41 Q v1 v0 x12 S9)) ∧ ((¬ 0 ≤ (lg_cmp x12 (0 : Int64))) → (P_X11_wetness_41 Q v1 v0 (0 : Int64) S9))))) S6)) S2)) ∧ ((x4 = 0) → (P_X11_refused v0 (1 : Int32) (fun x16 S14 => Gr S2 S14 → (Q x16.toInt64 S14)) S2)))) S1))
set_option maxRecDepth 20000 in
set_option maxHeartbeats 4000000 in
theorem T_X11_wetness_0 {X : CX} {Q : Int64 → HS → Prop} (C : Cx X cX11_wetness RX11 4 rm_X11_wetness) (E : ReJ X rm_X11_wetness Q) (ht : (xh X).sig.returnType = (some .long)) (hn : (xh X).name = yX11_wetness.name) {v0 : Nat} {v1 : Int32} {S : HS} (h : P_X11_wetness_0 Q v0 v1 S) : WS X 4 0 0 0 [(0, .ref v0), (1, .int v1)] [] S := by
  refine r_aload_n (pc := 0) C dX11_wetness_0 0 rfl ?_
  refine r_iconst (pc := 1) C (v := (0 : Int32)) dX11_wetness_1 (by decide) ?_
  obtain ⟨o_v0, h⟩ := h
  refine r_puti (pc := 2) C pfL_X11_40 dX11_wetness_2 o_v0 ?_
  refine r_heap (fun S1 eS1 => ?_)
  have h := h S1 eS1
  have o_v0 := ob_I eS1 o_v0
  refine r_aload_n (pc := 5) C dX11_wetness_5 0 rfl ?_
  refine r_callVi0 (pc := 6) C (rest := []) (a := v0) o_v0 [] yV_X11_isDay g_1779 (c_X11_isDay h) dX11_wetness_6 rfl rfl (Nat.le_of_ble_eq_true rfl) ⟨by decide, by decide⟩ ⟨by decide, by decide⟩ ⟨rfl, rfl⟩ (fun x4 S2 h g3 => ?_)
  have bx4 := h.1
  have h := h.2 g3 bx4
  have o_v0 := gr_ob g3 o_v0
  refine r_if_ne (pc := 9) C (tgt := 19) dX11_wetness_9 (by decide) (fun c5 => ?_) (fun c5 => ?_)
  · have h := h.1 c5
    refine r_aload_n (pc := 19) C dX11_wetness_19 0 rfl ?_
    refine r_callVl0 (pc := 20) C (rest := []) (a := v0) o_v0 [] yV_X11_gotInAll g_1812 (c_X11_gotInAll h) dX11_wetness_20 rfl rfl (Nat.le_of_ble_eq_true rfl) ⟨by decide, by decide⟩ ⟨by decide, by decide⟩ ⟨rfl, rfl⟩ (fun x8 S6 h g7 => ?_)
    have h := h g7
    have o_v0 := gr_ob g7 o_v0
    refine r_aload_n (pc := 23) C dX11_wetness_23 0 rfl ?_
    refine r_callVl0 (pc := 24) C (rest := [.long x8]) (a := v0) o_v0 [] yV_X11_holds g_1816 (c_X11_holds h) dX11_wetness_24 rfl rfl (Nat.le_of_ble_eq_true rfl) ⟨by decide, by decide⟩ ⟨by decide, by decide⟩ ⟨rfl, rfl⟩ (fun x11 S9 h g10 => ?_)
    have h := h g10
    have o_v0 := gr_ob g10 o_v0
    refine r_lsub (pc := 27) C dX11_wetness_27 ?_
    refine r_topl (fun x12 ex12 => ?_)
    have h := h x12 ex12
    refine r_lstore_n (pc := 28) C dX11_wetness_28 rfl (by decide) (lv' := [(2, .long x12), (0, .ref v0), (1, .int v1)]) rfl ?_
    refine r_aload_n (pc := 29) C dX11_wetness_29 1 rfl ?_
    refine r_lload_n (pc := 30) C dX11_wetness_30 0 rfl ?_
    refine r_lconst (pc := 31) C (v := (0 : Int64)) dX11_wetness_31 (by decide) ?_
    refine r_lcmp (pc := 32) C dX11_wetness_32 ?_
    refine r_if_ge (pc := 33) C (tgt := 40) dX11_wetness_33 (by decide) (fun c13 => ?_) (fun c13 => ?_)
    · have h := h.1 c13
      refine r_lload_n (pc := 40) C dX11_wetness_40 0 rfl ?_
      exact r_sub [2] rfl (T_X11_wetness_41 C E ht hn h)
    · have h := h.2 c13
      refine r_lconst (pc := 36) C (v := (0 : Int64)) dX11_wetness_36 (by decide) ?_
      refine r_goto (pc := 37) C (tgt := 41) dX11_wetness_37 (by decide) ?_
      exact r_sub [2] rfl (T_X11_wetness_41 C E ht hn h)
  · have h := h.2 c5
    refine r_aload_n (pc := 12) C dX11_wetness_12 0 rfl ?_
    refine r_iconst (pc := 13) C (v := (1 : Int32)) dX11_wetness_13 (by decide) ?_
    refine r_callVi0 (pc := 14) C (rest := []) (a := v0) o_v0 [.int (1 : Int32)] yV_X11_refused g_1250 (c_X11_refused h) dX11_wetness_14 rfl rfl (Nat.le_of_ble_eq_true rfl) ⟨by decide, by decide⟩ ⟨by decide, by decide⟩ ⟨rfl, rfl⟩ (fun x16 S14 h g15 => ?_)
    have h := h g15
    have o_v0 := gr_ob g15 o_v0
    refine r_i2l (pc := 17) C dX11_wetness_17 ?_
    exact r_lret (pc := 18) C E ht dX11_wetness_18 (by decide) (by decide) h
def P_X11_wetness (v0 : Nat) (v1 : Int32) (Q : Int64 → HS → Prop) (S : HS) : Prop := P_X11_wetness_0 Q v0 v1 S
theorem c_X11_wetness {l : Launch} {Ee : EE} {S : HS} {v0 : Nat} {v1 : Int32} {Q : Int64 → HS → Prop} (h : P_X11_wetness v0 v1 Q S) : MJ l yX11_wetness cX11_wetness 4 (some .long) rm_X11_wetness Ee S [.ref v0, .int v1] Q :=
  openJ (by decide) (Nat.le_of_ble_eq_true rfl) (fun X C E ht hn hE hl => by subst hE; exact r_sub [0, 1] rfl (T_X11_wetness_0 C E ht hn h))
end
section
def rm_X11_where : Room := { frames := 0, cells := 0, slots := 0, locals := 0 }
def P_X11_where_0 (Q : Int32 → HS → Prop) (v0 : Nat) (S : HS) : Prop := ob S v0 11 ∧ (∀ S1 : HS, S1 = sI S v0 0 (0 : Int32) → (∀ x2 : Int32, x2 = fI S1 v0 2 → (Q x2 S1)))
set_option maxRecDepth 20000 in
set_option maxHeartbeats 4000000 in
theorem T_X11_where_0 {X : CX} {Q : Int32 → HS → Prop} (C : Cx X cX11_where RX11 1 rm_X11_where) (E : ReI X rm_X11_where Q) (ht : (xh X).sig.returnType = (some .int)) (hn : (xh X).name = yX11_where.name) {v0 : Nat} {S : HS} (h : P_X11_where_0 Q v0 S) : WS X 1 0 0 0 [(0, .ref v0)] [] S := by
  refine r_aload_n (pc := 0) C dX11_where_0 0 rfl ?_
  refine r_iconst (pc := 1) C (v := (0 : Int32)) dX11_where_1 (by decide) ?_
  obtain ⟨o_v0, h⟩ := h
  refine r_puti (pc := 2) C pfL_X11_40 dX11_where_2 o_v0 ?_
  refine r_heap (fun S1 eS1 => ?_)
  have h := h S1 eS1
  have o_v0 := ob_I eS1 o_v0
  refine r_aload_n (pc := 5) C dX11_where_5 0 rfl ?_
  refine r_geti (pc := 6) C fL_X11_9 dX11_where_6 o_v0 ?_
  refine r_topi (fun x2 ex2 => ?_)
  have h := h x2 ex2
  exact r_iret (pc := 9) C E ht dX11_where_9 (by decide) (by decide) h
def P_X11_where (v0 : Nat) (Q : Int32 → HS → Prop) (S : HS) : Prop := P_X11_where_0 Q v0 S
theorem c_X11_where {l : Launch} {Ee : EE} {S : HS} {v0 : Nat} {Q : Int32 → HS → Prop} (h : P_X11_where v0 Q S) : MI l yX11_where cX11_where 1 (some .int) rm_X11_where Ee S [.ref v0] Q :=
  openI (by decide) (Nat.le_of_ble_eq_true rfl) (fun X C E ht hn hE hl => by subst hE; exact r_sub [0] rfl (T_X11_where_0 C E ht hn h))
def rm_X11_world : Room := { frames := 12, cells := 25, slots := 225, locals := 280 }
def P_X11_world_17 (Q : Int32 → HS → Prop) (v0 : Nat) (S : HS) : Prop := ob S v0 11 ∧ (P_X11_refused v0 (2 : Int32) (fun x3 S1 => Gr S S1 → (Q x3 S1)) S)
set_option maxRecDepth 20000 in
set_option maxHeartbeats 4000000 in
theorem T_X11_world_17 {X : CX} {Q : Int32 → HS → Prop} (C : Cx X cX11_world RX11 2 rm_X11_world) (E : ReI X rm_X11_world Q) (ht : (xh X).sig.returnType = (some .int)) (hn : (xh X).name = yX11_world.name) {v0 : Nat} {S : HS} (h : P_X11_world_17 Q v0 S) : WS X 2 0 0 17 [(0, .ref v0)] [] S := by
  refine r_aload_n (pc := 17) C dX11_world_17 0 rfl ?_
  refine r_iconst (pc := 18) C (v := (2 : Int32)) dX11_world_18 (by decide) ?_
  obtain ⟨o_v0, h⟩ := h
  refine r_callVi0 (pc := 19) C (rest := []) (a := v0) o_v0 [.int (2 : Int32)] yV_X11_refused g_1250 (c_X11_refused h) dX11_world_19 rfl rfl (Nat.le_of_ble_eq_true rfl) ⟨by decide, by decide⟩ ⟨by decide, by decide⟩ ⟨rfl, rfl⟩ (fun x3 S1 h g2 => ?_)
  have h := h g2
  have o_v0 := gr_ob g2 o_v0
  exact r_iret (pc := 22) C E ht dX11_world_22 (by decide) (by decide) h
def P_X11_world_0 (Q : Int32 → HS → Prop) (v0 : Nat) (v1 : Int32) (S : HS) : Prop := ob S v0 11 ∧ (∀ S1 : HS, S1 = sI S v0 0 (0 : Int32) → (((v1 < 0) → (P_X11_world_17 Q v0 S1)) ∧ ((¬ v1 < 0) → (∀ x3 : Int32, x3 = fI S1 v0 6 → (((v1 ≤ x3) → (∀ S5 : HS, S5 = sI S1 v0 7 v1 → (∀ S6 : HS, S6 = sI S5 v0 6 (0 : Int32) → (∀ S7 : HS, S7 = sI S6 v0 8 (0 : Int32) → (∀ S8 : HS, S8 = sI S7 v0 13 (0 : Int32) → (∀ a9 : Nat, a9 ∉ hL S8 → ∀ S10 : HS, S10 = nW S8 a9 10 0 → (P_X10_init a9 (fun S11 => Gr S10 S11 → (∀ S14 : HS, S14 = sR S11 v0 4 (some a9) → (∀ S15 : HS, S15 = sI S14 v0 9 (0 : Int32) → (P_X11_goesOn v0 (fun S16 => Gr S15 S16 → (P_X11_readAll v0 (fun S19 => Gr S16 S19 → (∀ x22 : Int32, x22 = fI S19 v0 13 → (((x22 ≤ 0) → (∃ a24 : Nat, fR S19 v0 4 = some a24 ∧ (∀ S25 : HS, S25 = sR S19 v0 3 (some a24) → (∀ S26 : HS, S26 = sI S25 v0 19 (-2 : Int32) → (∀ S27 : HS, S27 = sI S26 v0 24 (0 : Int32) → (∀ S28 : HS, S28 = sI S27 v0 25 (0 : Int32) → (∃ a29 : Nat, fR S28 v0 3 = some a29 ∧ (ob S28 a29 10 ∧ (∀ x30 : Int32, x30 = fI S28 a29 4 → (P_X11_good v0 x30 (fun x33 S31 => Gr S28 S31 → (Q x33 S31)) S28)))))))))) ∧ ((¬ x22 ≤ 0) → (∀ S34 : HS, S34 = sI S19 v0 1 (4 : Int32) → (∀ x35 : Int32, x35 = fI S34 v0 14 → (∀ S36 : HS, S36 = sI S34 v0 2 x35 → (Q (-1 : Int32) S36)))))))) S16)) S15)))) S10))))))) ∧ ((¬ v1 ≤ x3) → (P_X11_world_17 Q v0 S1)))))))
set_option maxRecDepth 20000 in
set_option maxHeartbeats 4000000 in
theorem T_X11_world_0 {X : CX} {Q : Int32 → HS → Prop} (C : Cx X cX11_world RX11 2 rm_X11_world) (E : ReI X rm_X11_world Q) (ht : (xh X).sig.returnType = (some .int)) (hn : (xh X).name = yX11_world.name) {v0 : Nat} {v1 : Int32} {S : HS} (h : P_X11_world_0 Q v0 v1 S) : WS X 2 0 0 0 [(0, .ref v0), (1, .int v1)] [] S := by
  refine r_aload_n (pc := 0) C dX11_world_0 0 rfl ?_
  refine r_iconst (pc := 1) C (v := (0 : Int32)) dX11_world_1 (by decide) ?_
  obtain ⟨o_v0, h⟩ := h
  refine r_puti (pc := 2) C pfL_X11_40 dX11_world_2 o_v0 ?_
  refine r_heap (fun S1 eS1 => ?_)
  have h := h S1 eS1
  have o_v0 := ob_I eS1 o_v0
  refine r_iload_n (pc := 5) C dX11_world_5 1 rfl ?_
  refine r_if_lt (pc := 6) C (tgt := 17) dX11_world_6 (by decide) (fun c2 => ?_) (fun c2 => ?_)
  · have h := h.1 c2
    exact r_sub [0] rfl (T_X11_world_17 C E ht hn h)
  · have h := h.2 c2
    refine r_iload_n (pc := 9) C dX11_world_9 1 rfl ?_
    refine r_aload_n (pc := 10) C dX11_world_10 0 rfl ?_
    refine r_geti (pc := 11) C fL_X11_331 dX11_world_11 o_v0 ?_
    refine r_topi (fun x3 ex3 => ?_)
    have h := h x3 ex3
    refine r_icmp_le (pc := 14) C (tgt := 23) dX11_world_14 (by decide) (fun c4 => ?_) (fun c4 => ?_)
    · have h := h.1 c4
      refine r_aload_n (pc := 23) C dX11_world_23 0 rfl ?_
      refine r_iload_n (pc := 24) C dX11_world_24 1 rfl ?_
      refine r_puti (pc := 25) C pfL_X11_53 dX11_world_25 o_v0 ?_
      refine r_heap (fun S5 eS5 => ?_)
      have h := h S5 eS5
      have o_v0 := ob_I eS5 o_v0
      refine r_aload_n (pc := 28) C dX11_world_28 0 rfl ?_
      refine r_iconst (pc := 29) C (v := (0 : Int32)) dX11_world_29 (by decide) ?_
      refine r_puti (pc := 30) C pfL_X11_331 dX11_world_30 o_v0 ?_
      refine r_heap (fun S6 eS6 => ?_)
      have h := h S6 eS6
      have o_v0 := ob_I eS6 o_v0
      refine r_aload_n (pc := 33) C dX11_world_33 0 rfl ?_
      refine r_iconst (pc := 34) C (v := (0 : Int32)) dX11_world_34 (by decide) ?_
      refine r_puti (pc := 35) C pfL_X11_71 dX11_world_35 o_v0 ?_
      refine r_heap (fun S7 eS7 => ?_)
      have h := h S7 eS7
      have o_v0 := ob_I eS7 o_v0
      refine r_aload_n (pc := 38) C dX11_world_38 0 rfl ?_
      refine r_iconst (pc := 39) C (v := (0 : Int32)) dX11_world_39 (by decide) ?_
      refine r_puti (pc := 40) C pfL_X11_97 dX11_world_40 o_v0 ?_
      refine r_heap (fun S8 eS8 => ?_)
      have h := h S8 eS8
      have o_v0 := ob_I eS8 o_v0
      refine r_aload_n (pc := 43) C dX11_world_43 0 rfl ?_
      refine r_new (pc := 44) C nc_X11_152 dX11_world_44 (by decide) (by decide) (fun a9 q37 => ?_)
      refine r_heap (fun S10 eS10 => ?_)
      have h := h a9 q37 S10 eS10
      have g38 := gr_of_new eS10 q37
      have o_a9 := ob_of_new eS10
      have o_v0 := gr_ob g38 o_v0
      refine r_dup (pc := 47) C dX11_world_47 rfl ?_
      refine r_callNv (pc := 48) C (rest := [.ref a9, .ref v0]) (a := a9) [] yI_X10_init (List.mem_of_getElem? (i := 7) rfl) (c_X10_init h) dX11_world_48 rfl rfl (Nat.le_of_ble_eq_true rfl) ⟨by decide, by decide⟩ ⟨by decide, by decide⟩ (fun S11 h g12 => ?_)
      have h := h g12
      have o_a9 := gr_ob g12 o_a9
      have o_v0 := gr_ob g12 o_v0
      refine r_putr (pc := 51) C pfL_X11_147 dX11_world_51 o_v0 ?_
      refine r_heap (fun S14 eS14 => ?_)
      have h := h S14 eS14
      have o_a9 := ob_R eS14 o_a9
      have o_v0 := ob_R eS14 o_v0
      refine r_aload_n (pc := 54) C dX11_world_54 0 rfl ?_
      refine r_iconst (pc := 55) C (v := (0 : Int32)) dX11_world_55 (by decide) ?_
      refine r_puti (pc := 56) C pfL_X11_68 dX11_world_56 o_v0 ?_
      refine r_heap (fun S15 eS15 => ?_)
      have h := h S15 eS15
      have o_a9 := ob_I eS15 o_a9
      have o_v0 := ob_I eS15 o_v0
      refine r_aload_n (pc := 59) C dX11_world_59 0 rfl ?_
      refine r_callVv0 (pc := 60) C (rest := []) (a := v0) o_v0 [] yV_X11_goesOn g_1380 (c_X11_goesOn h) dX11_world_60 rfl rfl (Nat.le_of_ble_eq_true rfl) ⟨by decide, by decide⟩ ⟨by decide, by decide⟩ ⟨rfl, rfl⟩ (fun S16 h g17 => ?_)
      have h := h g17
      have o_a9 := gr_ob g17 o_a9
      have o_v0 := gr_ob g17 o_v0
      refine r_aload_n (pc := 63) C dX11_world_63 0 rfl ?_
      refine r_callVv0 (pc := 64) C (rest := []) (a := v0) o_v0 [] yV_X11_readAll g_1395 (c_X11_readAll h) dX11_world_64 rfl rfl (Nat.le_of_ble_eq_true rfl) ⟨by decide, by decide⟩ ⟨by decide, by decide⟩ ⟨rfl, rfl⟩ (fun S19 h g20 => ?_)
      have h := h g20
      have o_a9 := gr_ob g20 o_a9
      have o_v0 := gr_ob g20 o_v0
      refine r_aload_n (pc := 67) C dX11_world_67 0 rfl ?_
      refine r_geti (pc := 68) C fL_X11_97 dX11_world_68 o_v0 ?_
      refine r_topi (fun x22 ex22 => ?_)
      have h := h x22 ex22
      refine r_if_le (pc := 71) C (tgt := 89) dX11_world_71 (by decide) (fun c23 => ?_) (fun c23 => ?_)
      · have h := h.1 c23
        refine r_aload_n (pc := 89) C dX11_world_89 0 rfl ?_
        refine r_aload_n (pc := 90) C dX11_world_90 0 rfl ?_
        obtain ⟨a24, ea24, h⟩ := h
        refine r_getr (pc := 91) C fL_X11_147 dX11_world_91 o_v0 ea24 ?_
        refine r_putr (pc := 94) C pfL_X11_338 dX11_world_94 o_v0 ?_
        refine r_heap (fun S25 eS25 => ?_)
        have h := h S25 eS25
        have o_a9 := ob_R eS25 o_a9
        have o_v0 := ob_R eS25 o_v0
        refine r_aload_n (pc := 97) C dX11_world_97 0 rfl ?_
        refine r_bipush (pc := 98) C (v := (-2 : Int32)) dX11_world_98 (by decide) ?_
        refine r_puti (pc := 100) C pfL_X11_28 dX11_world_100 o_v0 ?_
        refine r_heap (fun S26 eS26 => ?_)
        have h := h S26 eS26
        have o_a9 := ob_I eS26 o_a9
        have o_v0 := ob_I eS26 o_v0
        refine r_aload_n (pc := 103) C dX11_world_103 0 rfl ?_
        refine r_iconst (pc := 104) C (v := (0 : Int32)) dX11_world_104 (by decide) ?_
        refine r_puti (pc := 105) C pfL_X11_340 dX11_world_105 o_v0 ?_
        refine r_heap (fun S27 eS27 => ?_)
        have h := h S27 eS27
        have o_a9 := ob_I eS27 o_a9
        have o_v0 := ob_I eS27 o_v0
        refine r_aload_n (pc := 108) C dX11_world_108 0 rfl ?_
        refine r_iconst (pc := 109) C (v := (0 : Int32)) dX11_world_109 (by decide) ?_
        refine r_puti (pc := 110) C pfL_X11_343 dX11_world_110 o_v0 ?_
        refine r_heap (fun S28 eS28 => ?_)
        have h := h S28 eS28
        have o_a9 := ob_I eS28 o_a9
        have o_v0 := ob_I eS28 o_v0
        refine r_aload_n (pc := 113) C dX11_world_113 0 rfl ?_
        refine r_aload_n (pc := 114) C dX11_world_114 0 rfl ?_
        obtain ⟨a29, ea29, h⟩ := h
        refine r_getr (pc := 115) C fL_X11_338 dX11_world_115 o_v0 ea29 ?_
        obtain ⟨o_a29, h⟩ := h
        refine r_getNi (pc := 118) C fN_X11_193 dX11_world_118 o_a29 ?_
        refine r_topi (fun x30 ex30 => ?_)
        have h := h x30 ex30
        refine r_callVi0 (pc := 121) C (rest := []) (a := v0) o_v0 [.int x30] yV_X11_good g_1518 (c_X11_good h) dX11_world_121 rfl rfl (Nat.le_of_ble_eq_true rfl) ⟨by decide, by decide⟩ ⟨by decide, by decide⟩ ⟨rfl, rfl⟩ (fun x33 S31 h g32 => ?_)
        have h := h g32
        have o_a29 := gr_ob g32 o_a29
        have o_a9 := gr_ob g32 o_a9
        have o_v0 := gr_ob g32 o_v0
        exact r_iret (pc := 124) C E ht dX11_world_124 (by decide) (by decide) h
      · have h := h.2 c23
        refine r_aload_n (pc := 74) C dX11_world_74 0 rfl ?_
        refine r_iconst (pc := 75) C (v := (4 : Int32)) dX11_world_75 (by decide) ?_
        refine r_puti (pc := 76) C pfL_X11_43 dX11_world_76 o_v0 ?_
        refine r_heap (fun S34 eS34 => ?_)
        have h := h S34 eS34
        have o_a9 := ob_I eS34 o_a9
        have o_v0 := ob_I eS34 o_v0
        refine r_aload_n (pc := 79) C dX11_world_79 0 rfl ?_
        refine r_aload_n (pc := 80) C dX11_world_80 0 rfl ?_
        refine r_geti (pc := 81) C fL_X11_100 dX11_world_81 o_v0 ?_
        refine r_topi (fun x35 ex35 => ?_)
        have h := h x35 ex35
        refine r_puti (pc := 84) C pfL_X11_9 dX11_world_84 o_v0 ?_
        refine r_heap (fun S36 eS36 => ?_)
        have h := h S36 eS36
        have o_a9 := ob_I eS36 o_a9
        have o_v0 := ob_I eS36 o_v0
        refine r_iconst (pc := 87) C (v := (-1 : Int32)) dX11_world_87 (by decide) ?_
        exact r_iret (pc := 88) C E ht dX11_world_88 (by decide) (by decide) h
    · have h := h.2 c4
      exact r_sub [0] rfl (T_X11_world_17 C E ht hn h)
def P_X11_world (v0 : Nat) (v1 : Int32) (Q : Int32 → HS → Prop) (S : HS) : Prop := P_X11_world_0 Q v0 v1 S
theorem c_X11_world {l : Launch} {Ee : EE} {S : HS} {v0 : Nat} {v1 : Int32} {Q : Int32 → HS → Prop} (h : P_X11_world v0 v1 Q S) : MI l yX11_world cX11_world 2 (some .int) rm_X11_world Ee S [.ref v0, .int v1] Q :=
  openI (by decide) (Nat.le_of_ble_eq_true rfl) (fun X C E ht hn hE hl => by subst hE; exact r_sub [0, 1] rfl (T_X11_world_0 C E ht hn h))
def rm_X11_worst : Room := { frames := 6, cells := 0, slots := 0, locals := 163 }
def P_X11_worst_39 (Q : Int32 → HS → Prop) (v0 : Nat) (S : HS) : Prop := ob S v0 11 ∧ (P_X11_refused v0 (1 : Int32) (fun x3 S1 => Gr S S1 → (Q x3 S1)) S)
set_option maxRecDepth 20000 in
set_option maxHeartbeats 4000000 in
theorem T_X11_worst_39 {X : CX} {Q : Int32 → HS → Prop} (C : Cx X cX11_worst RX11 7 rm_X11_worst) (E : ReI X rm_X11_worst Q) (ht : (xh X).sig.returnType = (some .int)) (hn : (xh X).name = yX11_worst.name) {v0 : Nat} {S : HS} (h : P_X11_worst_39 Q v0 S) : WS X 7 0 0 39 [(0, .ref v0)] [] S := by
  refine r_aload_n (pc := 39) C dX11_worst_39 0 rfl ?_
  refine r_iconst (pc := 40) C (v := (1 : Int32)) dX11_worst_40 (by decide) ?_
  obtain ⟨o_v0, h⟩ := h
  refine r_callVi0 (pc := 41) C (rest := []) (a := v0) o_v0 [.int (1 : Int32)] yV_X11_refused g_1250 (c_X11_refused h) dX11_worst_41 rfl rfl (Nat.le_of_ble_eq_true rfl) ⟨by decide, by decide⟩ ⟨by decide, by decide⟩ ⟨rfl, rfl⟩ (fun x3 S1 h g2 => ?_)
  have h := h g2
  have o_v0 := gr_ob g2 o_v0
  exact r_iret (pc := 44) C E ht dX11_worst_44 (by decide) (by decide) h
def P_X11_worst_106 (Q : Int32 → HS → Prop) (X62 : Nat → Int32 → Int32 → Int32 → Int32 → Int32 → Int32 → HS → Prop) (v0 : Nat) (v1 : Int32) (v2 : Int32) (v3 : Int32) (v4 : Int32) (v5 : Int32) (v6 : Int32) (S : HS) : Prop := ∀ x1 : Int32, x1 = v6 + (1 : Int32) → (X62 v0 v1 v2 v3 v4 v5 x1 S)
set_option maxRecDepth 20000 in
set_option maxHeartbeats 4000000 in
theorem T_X11_worst_106 {X : CX} {Q : Int32 → HS → Prop} (C : Cx X cX11_worst RX11 7 rm_X11_worst) (E : ReI X rm_X11_worst Q) (ht : (xh X).sig.returnType = (some .int)) (hn : (xh X).name = yX11_worst.name) {X62 : Nat → Int32 → Int32 → Int32 → Int32 → Int32 → Int32 → HS → Prop} (hX62 : ∀ (v0 : Nat) (v1 : Int32) (v2 : Int32) (v3 : Int32) (v4 : Int32) (v5 : Int32) (v6 : Int32) (S : HS), X62 v0 v1 v2 v3 v4 v5 v6 S → WS X 7 0 0 62 [(0, .ref v0), (1, .int v1), (2, .int v2), (3, .int v3), (4, .int v4), (5, .int v5), (6, .int v6)] [] S) {v0 : Nat} {v1 : Int32} {v2 : Int32} {v3 : Int32} {v4 : Int32} {v5 : Int32} {v6 : Int32} {S : HS} (h : P_X11_worst_106 Q X62 v0 v1 v2 v3 v4 v5 v6 S) : WS X 7 0 0 106 [(0, .ref v0), (1, .int v1), (2, .int v2), (3, .int v3), (4, .int v4), (5, .int v5), (6, .int v6)] [] S := by
  obtain ⟨x1, ex1⟩ : ∃ z : Int32, z = v6 + (1 : Int32) := ⟨_, rfl⟩
  have h := h x1 ex1
  refine r_iinc (pc := 106) C (v := x1) (lv' := [(6, .int x1), (0, .ref v0), (1, .int v1), (2, .int v2), (3, .int v3), (4, .int v4), (5, .int v5)]) dX11_worst_106 6 rfl ex1.symm (by decide) rfl ?_
  refine r_goto (pc := 109) C (tgt := 62) dX11_worst_109 (by decide) ?_
  exact r_sub [1, 2, 3, 4, 5, 6, 0] rfl (hX62 v0 v1 v2 v3 v4 v5 x1 S h)
def B_X11_worst_62 (Q : Int32 → HS → Prop) (X62 : Nat → Int32 → Int32 → Int32 → Int32 → Int32 → Int32 → HS → Prop) (v0 : Nat) (v1 : Int32) (v2 : Int32) (v3 : Int32) (v4 : Int32) (v5 : Int32) (v6 : Int32) (S : HS) : Prop := ob S v0 11 ∧ (∃ a1 : Nat, fR S v0 3 = some a1 ∧ (ob S a1 10 ∧ (∃ a2 : Nat, fR S a1 25 = some a2 ∧ (ob S a2 13 ∧ (vp_in v1 (hN S a2) ∧ ∀ x4 : Int32, x4 = fI S a2 v1.toNatClampNeg → (((x4 < v6) → (P_X11_good v0 v5 (fun x8 S6 => Gr S S6 → (Q x8 S6)) S)) ∧ ((¬ x4 < v6) → (P_X11_wetOf v0 v1 v2 v3 v4 v6 (fun x11 S9 => Gr S S9 → (P_X11_wetOf v0 v1 v2 v3 v4 v5 (fun x14 S12 => Gr S9 S12 → ((((lg_cmp x11 x14) ≤ 0) → (P_X11_worst_106 Q X62 v0 v1 v2 v3 v4 v5 v6 S12)) ∧ ((¬ (lg_cmp x11 x14) ≤ 0) → (P_X11_worst_106 Q X62 v0 v1 v2 v3 v4 v6 v6 S12)))) S9)) S))))))))
def P_X11_worst_62 (Q : Int32 → HS → Prop) (v0 : Nat) (v1 : Int32) (v2 : Int32) (v3 : Int32) (v4 : Int32) (v5 : Int32) (v6 : Int32) (S : HS) : Prop := ∀ X62 : Nat → Int32 → Int32 → Int32 → Int32 → Int32 → Int32 → HS → Prop, (∀ (v0 : Nat) (v1 : Int32) (v2 : Int32) (v3 : Int32) (v4 : Int32) (v5 : Int32) (v6 : Int32) (S : HS), B_X11_worst_62 Q X62 v0 v1 v2 v3 v4 v5 v6 S → X62 v0 v1 v2 v3 v4 v5 v6 S) → X62 v0 v1 v2 v3 v4 v5 v6 S
set_option maxRecDepth 20000 in
set_option maxHeartbeats 4000000 in
theorem TB_X11_worst_62 {X : CX} {Q : Int32 → HS → Prop} (C : Cx X cX11_worst RX11 7 rm_X11_worst) (E : ReI X rm_X11_worst Q) (ht : (xh X).sig.returnType = (some .int)) (hn : (xh X).name = yX11_worst.name) {X62 : Nat → Int32 → Int32 → Int32 → Int32 → Int32 → Int32 → HS → Prop} (hX62 : ∀ (v0 : Nat) (v1 : Int32) (v2 : Int32) (v3 : Int32) (v4 : Int32) (v5 : Int32) (v6 : Int32) (S : HS), X62 v0 v1 v2 v3 v4 v5 v6 S → WS X 7 0 0 62 [(0, .ref v0), (1, .int v1), (2, .int v2), (3, .int v3), (4, .int v4), (5, .int v5), (6, .int v6)] [] S) {v0 : Nat} {v1 : Int32} {v2 : Int32} {v3 : Int32} {v4 : Int32} {v5 : Int32} {v6 : Int32} {S : HS} (h : B_X11_worst_62 Q X62 v0 v1 v2 v3 v4 v5 v6 S) : WS X 7 0 0 62 [(0, .ref v0), (1, .int v1), (2, .int v2), (3, .int v3), (4, .int v4), (5, .int v5), (6, .int v6)] [] S := by
  refine r_iload (pc := 62) C dX11_worst_62 6 rfl ?_
  refine r_aload_n (pc := 64) C dX11_worst_64 0 rfl ?_
  obtain ⟨o_v0, h⟩ := h
  obtain ⟨a1, ea1, h⟩ := h
  refine r_getr (pc := 65) C fL_X11_338 dX11_worst_65 o_v0 ea1 ?_
  obtain ⟨o_a1, h⟩ := h
  obtain ⟨a2, ea2, h⟩ := h
  refine r_getNr (pc := 68) C fN_X11_320 dX11_worst_68 o_a1 ea2 ?_
  refine r_iload_n (pc := 71) C dX11_worst_71 1 rfl ?_
  obtain ⟨o_a2, h⟩ := h
  obtain ⟨i3, h⟩ := h
  refine r_iald (pc := 72) C dX11_worst_72 o_a2 i3 ?_
  refine r_topi (fun x4 ex4 => ?_)
  have h := h x4 ex4
  refine r_icmp_gt (pc := 73) C (tgt := 112) dX11_worst_73 (by decide) (fun c5 => ?_) (fun c5 => ?_)
  · have h := h.1 c5
    refine r_aload_n (pc := 112) C dX11_worst_112 0 rfl ?_
    refine r_iload (pc := 113) C dX11_worst_113 5 rfl ?_
    refine r_callVi0 (pc := 115) C (rest := []) (a := v0) o_v0 [.int v5] yV_X11_good g_1518 (c_X11_good h) dX11_worst_115 rfl rfl (Nat.le_of_ble_eq_true rfl) ⟨by decide, by decide⟩ ⟨by decide, by decide⟩ ⟨rfl, rfl⟩ (fun x8 S6 h g7 => ?_)
    have h := h g7
    have o_a1 := gr_ob g7 o_a1
    have o_a2 := gr_ob g7 o_a2
    have o_v0 := gr_ob g7 o_v0
    exact r_iret (pc := 118) C E ht dX11_worst_118 (by decide) (by decide) h
  · have h := h.2 c5
    refine r_aload_n (pc := 76) C dX11_worst_76 0 rfl ?_
    refine r_iload_n (pc := 77) C dX11_worst_77 1 rfl ?_
    refine r_iload_n (pc := 78) C dX11_worst_78 2 rfl ?_
    refine r_iload_n (pc := 79) C dX11_worst_79 3 rfl ?_
    refine r_iload (pc := 80) C dX11_worst_80 4 rfl ?_
    refine r_iload (pc := 82) C dX11_worst_82 6 rfl ?_
    refine r_callVl0 (pc := 84) C (rest := []) (a := v0) o_v0 [.int v1, .int v2, .int v3, .int v4, .int v6] yV_X11_wetOf g_1594 (c_X11_wetOf h) dX11_worst_84 rfl rfl (Nat.le_of_ble_eq_true rfl) ⟨by decide, by decide⟩ ⟨by decide, by decide⟩ ⟨rfl, rfl⟩ (fun x11 S9 h g10 => ?_)
    have h := h g10
    have o_a1 := gr_ob g10 o_a1
    have o_a2 := gr_ob g10 o_a2
    have o_v0 := gr_ob g10 o_v0
    refine r_aload_n (pc := 87) C dX11_worst_87 0 rfl ?_
    refine r_iload_n (pc := 88) C dX11_worst_88 1 rfl ?_
    refine r_iload_n (pc := 89) C dX11_worst_89 2 rfl ?_
    refine r_iload_n (pc := 90) C dX11_worst_90 3 rfl ?_
    refine r_iload (pc := 91) C dX11_worst_91 4 rfl ?_
    refine r_iload (pc := 93) C dX11_worst_93 5 rfl ?_
    refine r_callVl0 (pc := 95) C (rest := [.long x11]) (a := v0) o_v0 [.int v1, .int v2, .int v3, .int v4, .int v5] yV_X11_wetOf g_1594 (c_X11_wetOf h) dX11_worst_95 rfl rfl (Nat.le_of_ble_eq_true rfl) ⟨by decide, by decide⟩ ⟨by decide, by decide⟩ ⟨rfl, rfl⟩ (fun x14 S12 h g13 => ?_)
    have h := h g13
    have o_a1 := gr_ob g13 o_a1
    have o_a2 := gr_ob g13 o_a2
    have o_v0 := gr_ob g13 o_v0
    refine r_lcmp (pc := 98) C dX11_worst_98 ?_
    refine r_if_le (pc := 99) C (tgt := 106) dX11_worst_99 (by decide) (fun c15 => ?_) (fun c15 => ?_)
    · have h := h.1 c15
      exact r_sub [0, 1, 2, 3, 4, 5, 6] rfl (T_X11_worst_106 C E ht hn hX62 h)
    · have h := h.2 c15
      refine r_iload (pc := 102) C dX11_worst_102 6 rfl ?_
      refine r_istore (pc := 104) C dX11_worst_104 (by decide) (lv' := [(5, .int v6), (0, .ref v0), (1, .int v1), (2, .int v2), (3, .int v3), (4, .int v4), (6, .int v6)]) rfl ?_
      exact r_sub [1, 2, 3, 4, 5, 0, 6] rfl (T_X11_worst_106 C E ht hn hX62 h)
theorem T_X11_worst_62 {X : CX} {Q : Int32 → HS → Prop} (C : Cx X cX11_worst RX11 7 rm_X11_worst) (E : ReI X rm_X11_worst Q) (ht : (xh X).sig.returnType = (some .int)) (hn : (xh X).name = yX11_worst.name) {v0 : Nat} {v1 : Int32} {v2 : Int32} {v3 : Int32} {v4 : Int32} {v5 : Int32} {v6 : Int32} {S : HS} (h : P_X11_worst_62 Q v0 v1 v2 v3 v4 v5 v6 S) : WS X 7 0 0 62 [(0, .ref v0), (1, .int v1), (2, .int v2), (3, .int v3), (4, .int v4), (5, .int v5), (6, .int v6)] [] S :=
  h (fun v0 v1 v2 v3 v4 v5 v6 S => WS X 7 0 0 62 [(0, .ref v0), (1, .int v1), (2, .int v2), (3, .int v3), (4, .int v4), (5, .int v5), (6, .int v6)] [] S) (fun v0 v1 v2 v3 v4 v5 v6 S hh => TB_X11_worst_62 C E ht hn (fun v0 v1 v2 v3 v4 v5 v6 S z => z) hh)
def P_X11_worst_0 (Q : Int32 → HS → Prop) (v0 : Nat) (v1 : Int32) (v2 : Int32) (v3 : Int32) (v4 : Int32) (S : HS) : Prop := ob S v0 11 ∧ (∀ S1 : HS, S1 = sI S v0 0 (0 : Int32) → (P_X11_isWalker v0 v1 (fun x4 S2 => Gr S1 S2 → bl x4 → (((x4 = 0) → (P_X11_worst_39 Q v0 S2)) ∧ ((¬ x4 = 0) → (P_X11_isRoad v0 v2 (fun x8 S6 => Gr S2 S6 → bl x8 → (((x8 = 0) → (P_X11_worst_39 Q v0 S6)) ∧ ((¬ x8 = 0) → (P_X11_in v3 (0 : Int32) (1 : Int32) (fun x12 S10 => Gr S6 S10 → bl x12 → (((x12 = 0) → (P_X11_worst_39 Q v0 S10)) ∧ ((¬ x12 = 0) → (P_X11_isHour v0 v4 (fun x16 S14 => Gr S10 S14 → bl x16 → (((¬ x16 = 0) → (∃ a18 : Nat, fR S14 v0 3 = some a18 ∧ (ob S14 a18 10 ∧ (∃ a19 : Nat, fR S14 a18 24 = some a19 ∧ (ob S14 a19 13 ∧ (vp_in v1 (hN S14 a19) ∧ ∀ x21 : Int32, x21 = fI S14 a19 v1.toNatClampNeg → (∀ x22 : Int32, x22 = x21 + (1 : Int32) → (P_X11_worst_62 Q v0 v1 v2 v3 v4 x21 x22 S14)))))))) ∧ ((x16 = 0) → (P_X11_worst_39 Q v0 S14)))) S10)))) S6)))) S2)))) S1))
set_option maxRecDepth 20000 in
set_option maxHeartbeats 4000000 in
theorem T_X11_worst_0 {X : CX} {Q : Int32 → HS → Prop} (C : Cx X cX11_worst RX11 7 rm_X11_worst) (E : ReI X rm_X11_worst Q) (ht : (xh X).sig.returnType = (some .int)) (hn : (xh X).name = yX11_worst.name) {v0 : Nat} {v1 : Int32} {v2 : Int32} {v3 : Int32} {v4 : Int32} {S : HS} (h : P_X11_worst_0 Q v0 v1 v2 v3 v4 S) : WS X 7 0 0 0 [(0, .ref v0), (1, .int v1), (2, .int v2), (3, .int v3), (4, .int v4)] [] S := by
  refine r_aload_n (pc := 0) C dX11_worst_0 0 rfl ?_
  refine r_iconst (pc := 1) C (v := (0 : Int32)) dX11_worst_1 (by decide) ?_
  obtain ⟨o_v0, h⟩ := h
  refine r_puti (pc := 2) C pfL_X11_40 dX11_worst_2 o_v0 ?_
  refine r_heap (fun S1 eS1 => ?_)
  have h := h S1 eS1
  have o_v0 := ob_I eS1 o_v0
  refine r_aload_n (pc := 5) C dX11_worst_5 0 rfl ?_
  refine r_iload_n (pc := 6) C dX11_worst_6 1 rfl ?_
  refine r_callVi0 (pc := 7) C (rest := []) (a := v0) o_v0 [.int v1] yV_X11_isWalker g_1538 (c_X11_isWalker h) dX11_worst_7 rfl rfl (Nat.le_of_ble_eq_true rfl) ⟨by decide, by decide⟩ ⟨by decide, by decide⟩ ⟨rfl, rfl⟩ (fun x4 S2 h g3 => ?_)
  have bx4 := h.1
  have h := h.2 g3 bx4
  have o_v0 := gr_ob g3 o_v0
  refine r_if_eq (pc := 10) C (tgt := 39) dX11_worst_10 (by decide) (fun c5 => ?_) (fun c5 => ?_)
  · have h := h.1 c5
    exact r_sub [0] rfl (T_X11_worst_39 C E ht hn h)
  · have h := h.2 c5
    refine r_aload_n (pc := 13) C dX11_worst_13 0 rfl ?_
    refine r_iload_n (pc := 14) C dX11_worst_14 2 rfl ?_
    refine r_callVi0 (pc := 15) C (rest := []) (a := v0) o_v0 [.int v2] yV_X11_isRoad g_1542 (c_X11_isRoad h) dX11_worst_15 rfl rfl (Nat.le_of_ble_eq_true rfl) ⟨by decide, by decide⟩ ⟨by decide, by decide⟩ ⟨rfl, rfl⟩ (fun x8 S6 h g7 => ?_)
    have bx8 := h.1
    have h := h.2 g7 bx8
    have o_v0 := gr_ob g7 o_v0
    refine r_if_eq (pc := 18) C (tgt := 39) dX11_worst_18 (by decide) (fun c9 => ?_) (fun c9 => ?_)
    · have h := h.1 c9
      exact r_sub [0] rfl (T_X11_worst_39 C E ht hn h)
    · have h := h.2 c9
      refine r_iload_n (pc := 21) C dX11_worst_21 3 rfl ?_
      refine r_iconst (pc := 22) C (v := (0 : Int32)) dX11_worst_22 (by decide) ?_
      refine r_iconst (pc := 23) C (v := (1 : Int32)) dX11_worst_23 (by decide) ?_
      refine r_callSi0 (pc := 24) C (rest := []) rfl [.int v3, .int (0 : Int32), .int (1 : Int32)] yS_X11_in g_1434 (c_X11_in h) dX11_worst_24 rfl rfl (Nat.le_of_ble_eq_true rfl) ⟨by decide, by decide⟩ ⟨by decide, by decide⟩ ⟨rfl, rfl⟩ (fun x12 S10 h g11 => ?_)
      have bx12 := h.1
      have h := h.2 g11 bx12
      have o_v0 := gr_ob g11 o_v0
      refine r_if_eq (pc := 27) C (tgt := 39) dX11_worst_27 (by decide) (fun c13 => ?_) (fun c13 => ?_)
      · have h := h.1 c13
        exact r_sub [0] rfl (T_X11_worst_39 C E ht hn h)
      · have h := h.2 c13
        refine r_aload_n (pc := 30) C dX11_worst_30 0 rfl ?_
        refine r_iload (pc := 31) C dX11_worst_31 4 rfl ?_
        refine r_callVi0 (pc := 33) C (rest := []) (a := v0) o_v0 [.int v4] yV_X11_isHour g_1546 (c_X11_isHour h) dX11_worst_33 rfl rfl (Nat.le_of_ble_eq_true rfl) ⟨by decide, by decide⟩ ⟨by decide, by decide⟩ ⟨rfl, rfl⟩ (fun x16 S14 h g15 => ?_)
        have bx16 := h.1
        have h := h.2 g15 bx16
        have o_v0 := gr_ob g15 o_v0
        refine r_if_ne (pc := 36) C (tgt := 45) dX11_worst_36 (by decide) (fun c17 => ?_) (fun c17 => ?_)
        · have h := h.1 c17
          refine r_aload_n (pc := 45) C dX11_worst_45 0 rfl ?_
          obtain ⟨a18, ea18, h⟩ := h
          refine r_getr (pc := 46) C fL_X11_338 dX11_worst_46 o_v0 ea18 ?_
          obtain ⟨o_a18, h⟩ := h
          obtain ⟨a19, ea19, h⟩ := h
          refine r_getNr (pc := 49) C fN_X11_317 dX11_worst_49 o_a18 ea19 ?_
          refine r_iload_n (pc := 52) C dX11_worst_52 1 rfl ?_
          obtain ⟨o_a19, h⟩ := h
          obtain ⟨i20, h⟩ := h
          refine r_iald (pc := 53) C dX11_worst_53 o_a19 i20 ?_
          refine r_topi (fun x21 ex21 => ?_)
          have h := h x21 ex21
          refine r_istore (pc := 54) C dX11_worst_54 (by decide) (lv' := [(5, .int x21), (0, .ref v0), (1, .int v1), (2, .int v2), (3, .int v3), (4, .int v4)]) rfl ?_
          refine r_iload (pc := 56) C dX11_worst_56 0 rfl ?_
          refine r_iconst (pc := 58) C (v := (1 : Int32)) dX11_worst_58 (by decide) ?_
          refine r_iadd (pc := 59) C dX11_worst_59 ?_
          refine r_topi (fun x22 ex22 => ?_)
          have h := h x22 ex22
          refine r_istore (pc := 60) C dX11_worst_60 (by decide) (lv' := [(6, .int x22), (5, .int x21), (0, .ref v0), (1, .int v1), (2, .int v2), (3, .int v3), (4, .int v4)]) rfl ?_
          exact r_sub [2, 3, 4, 5, 6, 1, 0] rfl (T_X11_worst_62 C E ht hn h)
        · have h := h.2 c17
          exact r_sub [0] rfl (T_X11_worst_39 C E ht hn h)
def P_X11_worst (v0 : Nat) (v1 : Int32) (v2 : Int32) (v3 : Int32) (v4 : Int32) (Q : Int32 → HS → Prop) (S : HS) : Prop := P_X11_worst_0 Q v0 v1 v2 v3 v4 S
theorem c_X11_worst {l : Launch} {Ee : EE} {S : HS} {v0 : Nat} {v1 : Int32} {v2 : Int32} {v3 : Int32} {v4 : Int32} {Q : Int32 → HS → Prop} (h : P_X11_worst v0 v1 v2 v3 v4 Q S) : MI l yX11_worst cX11_worst 7 (some .int) rm_X11_worst Ee S [.ref v0, .int v1, .int v2, .int v3, .int v4] Q :=
  openI (by decide) (Nat.le_of_ble_eq_true rfl) (fun X C E ht hn hE hl => by subst hE; exact r_sub [0, 1, 2, 3, 4] rfl (T_X11_worst_0 C E ht hn h))
def rm_X5_turnOf : Room := { frames := 0, cells := 0, slots := 0, locals := 0 }
def P_X5_turnOf_17 (Q : Int32 → HS → Prop) (v2 : Nat) (s0 : Int32) (S : HS) : Prop := ob S v2 3 ∧ (∀ x1 : Int32, x1 = fI S v2 2 → (Q ((x1 - s0) &&& (3 : Int32)) S))
set_option maxRecDepth 20000 in
set_option maxHeartbeats 4000000 in
theorem T_X5_turnOf_17 {X : CX} {Q : Int32 → HS → Prop} (C : Cx X cX5_turnOf RX5 4 rm_X5_turnOf) (E : ReI X rm_X5_turnOf Q) (ht : (xh X).sig.returnType = (some .int)) (hn : (xh X).name = yX5_turnOf.name) {v2 : Nat} {s0 : Int32} {S : HS} (h : P_X5_turnOf_17 Q v2 s0 S) : WS X 4 0 0 17 [(2, .ref v2)] [.int s0] S := by
  refine r_istore_n (pc := 17) C dX5_turnOf_17 rfl (by decide) (lv' := [(3, .int s0), (2, .ref v2)]) rfl ?_
  refine r_aload_n (pc := 18) C dX5_turnOf_18 1 rfl ?_
  obtain ⟨o_v2, h⟩ := h
  refine r_geti (pc := 19) C fL_X5_22 dX5_turnOf_19 o_v2 ?_
  refine r_topi (fun x1 ex1 => ?_)
  have h := h x1 ex1
  refine r_iload_n (pc := 22) C dX5_turnOf_22 0 rfl ?_
  refine r_isub (pc := 23) C dX5_turnOf_23 ?_
  refine r_iconst (pc := 24) C (v := (3 : Int32)) dX5_turnOf_24 (by decide) ?_
  refine r_iand (pc := 25) C dX5_turnOf_25 ?_
  exact r_iret (pc := 26) C E ht dX5_turnOf_26 (by decide) (by decide) h
def P_X5_turnOf_0 (Q : Int32 → HS → Prop) (v0 : Nat) (v1 : Int32) (v2 : Nat) (S : HS) : Prop := ((¬ v1 = 0) → (ob S v0 5 ∧ (∀ x2 : Int32, x2 = fI S v0 2 → (P_X5_turnOf_17 Q v2 (x2 + (2 : Int32)) S)))) ∧ ((v1 = 0) → (ob S v0 5 ∧ (∀ x3 : Int32, x3 = fI S v0 2 → (P_X5_turnOf_17 Q v2 x3 S))))
set_option maxRecDepth 20000 in
set_option maxHeartbeats 4000000 in
theorem T_X5_turnOf_0 {X : CX} {Q : Int32 → HS → Prop} (C : Cx X cX5_turnOf RX5 4 rm_X5_turnOf) (E : ReI X rm_X5_turnOf Q) (ht : (xh X).sig.returnType = (some .int)) (hn : (xh X).name = yX5_turnOf.name) {v0 : Nat} {v1 : Int32} {v2 : Nat} {S : HS} (h : P_X5_turnOf_0 Q v0 v1 v2 S) : WS X 4 0 0 0 [(0, .ref v0), (1, .int v1), (2, .ref v2)] [] S := by
  refine r_iload_n (pc := 0) C dX5_turnOf_0 1 rfl ?_
  refine r_if_ne (pc := 1) C (tgt := 11) dX5_turnOf_1 (by decide) (fun c1 => ?_) (fun c1 => ?_)
  · have h := h.1 c1
    refine r_aload_n (pc := 11) C dX5_turnOf_11 0 rfl ?_
    obtain ⟨o_v0, h⟩ := h
    refine r_geti (pc := 12) C fL_X5_19 dX5_turnOf_12 o_v0 ?_
    refine r_topi (fun x2 ex2 => ?_)
    have h := h x2 ex2
    refine r_iconst (pc := 15) C (v := (2 : Int32)) dX5_turnOf_15 (by decide) ?_
    refine r_iadd (pc := 16) C dX5_turnOf_16 ?_
    exact r_sub [2] rfl (T_X5_turnOf_17 C E ht hn h)
  · have h := h.2 c1
    refine r_aload_n (pc := 4) C dX5_turnOf_4 0 rfl ?_
    obtain ⟨o_v0, h⟩ := h
    refine r_geti (pc := 5) C fL_X5_19 dX5_turnOf_5 o_v0 ?_
    refine r_topi (fun x3 ex3 => ?_)
    have h := h x3 ex3
    refine r_goto (pc := 8) C (tgt := 17) dX5_turnOf_8 (by decide) ?_
    exact r_sub [2] rfl (T_X5_turnOf_17 C E ht hn h)
def P_X5_turnOf (v0 : Nat) (v1 : Int32) (v2 : Nat) (Q : Int32 → HS → Prop) (S : HS) : Prop := P_X5_turnOf_0 Q v0 v1 v2 S
theorem c_X5_turnOf {l : Launch} {Ee : EE} {S : HS} {v0 : Nat} {v1 : Int32} {v2 : Nat} {Q : Int32 → HS → Prop} (h : P_X5_turnOf v0 v1 v2 Q S) : MI l yX5_turnOf cX5_turnOf 4 (some .int) rm_X5_turnOf Ee S [.ref v0, .int v1, .ref v2] Q :=
  openI (by decide) (Nat.le_of_ble_eq_true rfl) (fun X C E ht hn hE hl => by subst hE; exact r_sub [0, 1, 2] rfl (T_X5_turnOf_0 C E ht hn h))
def rm_X5_airAlong : Room := { frames := 1, cells := 0, slots := 0, locals := 23 }
def P_X5_airAlong_0 (Q : Int32 → HS → Prop) (v0 : Nat) (v1 : Int32) (v2 : Nat) (S : HS) : Prop := ob S v0 5 ∧ (P_X5_turnOf v0 v1 v2 (fun x3 S1 => Gr S S1 → (((¬ x3 = 0) → (((¬ x3 = (2 : Int32)) → (Q (0 : Int32) S1)) ∧ ((x3 = (2 : Int32)) → (ob S1 v2 3 ∧ (∀ x6 : Int32, x6 = fI S1 v2 3 → (Q (-x6) S1)))))) ∧ ((x3 = 0) → (ob S1 v2 3 ∧ (∀ x7 : Int32, x7 = fI S1 v2 3 → (Q x7 S1)))))) S)
set_option maxRecDepth 20000 in
set_option maxHeartbeats 4000000 in
theorem T_X5_airAlong_0 {X : CX} {Q : Int32 → HS → Prop} (C : Cx X cX5_airAlong RX5 4 rm_X5_airAlong) (E : ReI X rm_X5_airAlong Q) (ht : (xh X).sig.returnType = (some .int)) (hn : (xh X).name = yX5_airAlong.name) {v0 : Nat} {v1 : Int32} {v2 : Nat} {S : HS} (h : P_X5_airAlong_0 Q v0 v1 v2 S) : WS X 4 0 0 0 [(0, .ref v0), (1, .int v1), (2, .ref v2)] [] S := by
  refine r_aload_n (pc := 0) C dX5_airAlong_0 0 rfl ?_
  refine r_iload_n (pc := 1) C dX5_airAlong_1 1 rfl ?_
  refine r_aload_n (pc := 2) C dX5_airAlong_2 2 rfl ?_
  obtain ⟨o_v0, h⟩ := h
  refine r_callVi0 (pc := 3) C (rest := []) (a := v0) o_v0 [.int v1, .ref v2] yV_X5_turnOf g_704 (c_X5_turnOf h) dX5_airAlong_3 rfl rfl (Nat.le_of_ble_eq_true rfl) ⟨by decide, by decide⟩ ⟨by decide, by decide⟩ ⟨rfl, rfl⟩ (fun x3 S1 h g2 => ?_)
  have h := h g2
  have o_v0 := gr_ob g2 o_v0
  refine r_istore_n (pc := 6) C dX5_airAlong_6 rfl (by decide) (lv' := [(3, .int x3), (0, .ref v0), (1, .int v1), (2, .ref v2)]) rfl ?_
  refine r_iload_n (pc := 7) C dX5_airAlong_7 0 rfl ?_
  refine r_if_ne (pc := 8) C (tgt := 16) dX5_airAlong_8 (by decide) (fun c4 => ?_) (fun c4 => ?_)
  · have h := h.1 c4
    refine r_iload_n (pc := 16) C dX5_airAlong_16 0 rfl ?_
    refine r_iconst (pc := 17) C (v := (2 : Int32)) dX5_airAlong_17 (by decide) ?_
    refine r_icmp_ne (pc := 18) C (tgt := 29) dX5_airAlong_18 (by decide) (fun c5 => ?_) (fun c5 => ?_)
    · have h := h.1 c5
      refine r_iconst (pc := 29) C (v := (0 : Int32)) dX5_airAlong_29 (by decide) ?_
      exact r_iret (pc := 30) C E ht dX5_airAlong_30 (by decide) (by decide) h
    · have h := h.2 c5
      refine r_aload_n (pc := 21) C dX5_airAlong_21 3 rfl ?_
      obtain ⟨o_v2, h⟩ := h
      refine r_geti (pc := 22) C fL_X5_31 dX5_airAlong_22 o_v2 ?_
      refine r_topi (fun x6 ex6 => ?_)
      have h := h x6 ex6
      refine r_ineg (pc := 25) C dX5_airAlong_25 ?_
      refine r_goto (pc := 26) C (tgt := 30) dX5_airAlong_26 (by decide) ?_
      exact r_iret (pc := 30) C E ht dX5_airAlong_30 (by decide) (by decide) h
  · have h := h.2 c4
    refine r_aload_n (pc := 11) C dX5_airAlong_11 3 rfl ?_
    obtain ⟨o_v2, h⟩ := h
    refine r_geti (pc := 12) C fL_X5_31 dX5_airAlong_12 o_v2 ?_
    refine r_topi (fun x7 ex7 => ?_)
    have h := h x7 ex7
    exact r_iret (pc := 15) C E ht dX5_airAlong_15 (by decide) (by decide) h
def P_X5_airAlong (v0 : Nat) (v1 : Int32) (v2 : Nat) (Q : Int32 → HS → Prop) (S : HS) : Prop := P_X5_airAlong_0 Q v0 v1 v2 S
theorem c_X5_airAlong {l : Launch} {Ee : EE} {S : HS} {v0 : Nat} {v1 : Int32} {v2 : Nat} {Q : Int32 → HS → Prop} (h : P_X5_airAlong v0 v1 v2 Q S) : MI l yX5_airAlong cX5_airAlong 4 (some .int) rm_X5_airAlong Ee S [.ref v0, .int v1, .ref v2] Q :=
  openI (by decide) (Nat.le_of_ble_eq_true rfl) (fun X C E ht hn hE hl => by subst hE; exact r_sub [0, 1, 2] rfl (T_X5_airAlong_0 C E ht hn h))
def rm_X1_lay : Room := { frames := 2, cells := 0, slots := 0, locals := 46 }
def P_X1_lay_130 (Q : HS → Prop) (v0 : Nat) (v3 : Nat) (v7 : Int64) (v9 : Int32) (s0 : Nat) (s1 : Int32) (s2 : Int64) (S : HS) : Prop := ob S s0 14 ∧ (vp_in s1 (hN S s0) ∧ (∀ S2 : HS, S2 = sJ S s0 s1.toNatClampNeg s2 → (ob S2 v0 1 ∧ (∃ a3 : Nat, fR S2 v0 1 = some a3 ∧ (((¬ v9 = (3 : Int32)) → (ob S2 a3 14 ∧ (vp_in (4 : Int32) (hN S2 a3) ∧ (∀ S6 : HS, S6 = sJ S2 a3 (4 : Int32).toNatClampNeg (0 : Int64) → (Q S6))))) ∧ ((v9 = (3 : Int32)) → (ob S2 v3 3 ∧ (∀ x7 : Int32, x7 = fI S2 v3 3 → (ob S2 a3 14 ∧ (∀ x9 : Int64, x9 = v7 * x7.toInt64 → (vp_in (4 : Int32) (hN S2 a3) ∧ (∀ S10 : HS, S10 = sJ S2 a3 (4 : Int32).toNatClampNeg x9 → (Q S10)))))))))))))
set_option maxRecDepth 20000 in
set_option maxHeartbeats 4000000 in
theorem T_X1_lay_130 {X : CX} {Q : HS → Prop} (C : Cx X cX1_lay RX1 11 rm_X1_lay) (E : ReV X rm_X1_lay Q) (ht : (xh X).sig.returnType = none) (hn : (xh X).name = yX1_lay.name) {v0 : Nat} {v3 : Nat} {v7 : Int64} {v9 : Int32} {s0 : Nat} {s1 : Int32} {s2 : Int64} {S : HS} (h : P_X1_lay_130 Q v0 v3 v7 v9 s0 s1 s2 S) : WS X 11 0 0 130 [(0, .ref v0), (3, .ref v3), (7, .long v7), (9, .int v9)] [.long s2, .int s1, .ref s0] S := by
  obtain ⟨o_s0, h⟩ := h
  obtain ⟨i1, h⟩ := h
  refine r_last (pc := 130) C dX1_lay_130 o_s0 i1 ?_
  refine r_heap (fun S2 eS2 => ?_)
  have h := h S2 eS2
  have o_s0 := ob_J eS2 o_s0
  refine r_aload_n (pc := 131) C dX1_lay_131 0 rfl ?_
  obtain ⟨o_v0, h⟩ := h
  obtain ⟨a3, ea3, h⟩ := h
  refine r_getr (pc := 132) C fL_X1_15 dX1_lay_132 o_v0 ea3 ?_
  refine r_iconst (pc := 135) C (v := (4 : Int32)) dX1_lay_135 (by decide) ?_
  refine r_iload (pc := 136) C dX1_lay_136 3 rfl ?_
  refine r_iconst (pc := 138) C (v := (3 : Int32)) dX1_lay_138 (by decide) ?_
  refine r_icmp_ne (pc := 139) C (tgt := 153) dX1_lay_139 (by decide) (fun c4 => ?_) (fun c4 => ?_)
  · have h := h.1 c4
    refine r_lconst (pc := 153) C (v := (0 : Int64)) dX1_lay_153 (by decide) ?_
    obtain ⟨o_a3, h⟩ := h
    obtain ⟨i5, h⟩ := h
    refine r_last (pc := 154) C dX1_lay_154 o_a3 i5 ?_
    refine r_heap (fun S6 eS6 => ?_)
    have h := h S6 eS6
    have o_a3 := ob_J eS6 o_a3
    have o_s0 := ob_J eS6 o_s0
    have o_v0 := ob_J eS6 o_v0
    exact r_vret (pc := 155) C E ht dX1_lay_155 (by decide) (by decide) h
  · have h := h.2 c4
    refine r_lload (pc := 142) C dX1_lay_142 2 rfl ?_
    refine r_aload_n (pc := 144) C dX1_lay_144 1 rfl ?_
    obtain ⟨o_v3, h⟩ := h
    refine r_geti (pc := 145) C fL_X1_48 dX1_lay_145 o_v3 ?_
    refine r_topi (fun x7 ex7 => ?_)
    have h := h x7 ex7
    refine r_i2l (pc := 148) C dX1_lay_148 ?_
    refine r_lmul (pc := 149) C dX1_lay_149 ?_
    refine r_goto (pc := 150) C (tgt := 154) dX1_lay_150 (by decide) ?_
    obtain ⟨o_a3, h⟩ := h
    refine r_topl (fun x9 ex9 => ?_)
    have h := h x9 ex9
    obtain ⟨i8, h⟩ := h
    refine r_last (pc := 154) C dX1_lay_154 o_a3 i8 ?_
    refine r_heap (fun S10 eS10 => ?_)
    have h := h S10 eS10
    have o_a3 := ob_J eS10 o_a3
    have o_s0 := ob_J eS10 o_s0
    have o_v0 := ob_J eS10 o_v0
    have o_v3 := ob_J eS10 o_v3
    exact r_vret (pc := 155) C E ht dX1_lay_155 (by decide) (by decide) h
def P_X1_lay_27 (Q : HS → Prop) (v0 : Nat) (v1 : Nat) (v2 : Int32) (v3 : Nat) (v4 : Int32) (s0 : Int64) (S : HS) : Prop := ob S v3 3 ∧ (∀ x1 : Int32, x1 = fI S v3 0 → (∀ x2 : Int64, x2 = x1.toInt64 * s0 → (ob S v1 5 ∧ (P_X5_turnOf v1 v2 v3 (fun x5 S3 => Gr S S3 → (P_X5_airAlong v1 v2 v3 (fun x8 S6 => Gr S3 S6 → (ob S6 v0 1 ∧ (∃ a9 : Nat, fR S6 v0 1 = some a9 ∧ (∀ x10 : Int32, x10 = fI S6 v3 1 → (ob S6 a9 14 ∧ (∀ x12 : Int64, x12 = x2 * x10.toInt64 → (vp_in (0 : Int32) (hN S6 a9) ∧ (∀ S13 : HS, S13 = sJ S6 a9 (0 : Int32).toNatClampNeg x12 → (∃ a14 : Nat, fR S13 v0 1 = some a14 ∧ (∀ x15 : Int32, x15 = (if v4 - x8 < (0 : Int32) then (0 : Int32) else v4 - x8) → (ob S13 a14 14 ∧ (∀ x17 : Int64, x17 = x2 * x15.toInt64 → (vp_in (1 : Int32) (hN S13 a14) ∧ (∀ S18 : HS, S18 = sJ S13 a14 (1 : Int32).toNatClampNeg x17 → (∃ a19 : Nat, fR S18 v0 1 = some a19 ∧ (∀ x20 : Int32, x20 = (if x8 - v4 < (0 : Int32) then (0 : Int32) else x8 - v4) → (ob S18 a19 14 ∧ (∀ x22 : Int64, x22 = x2 * x20.toInt64 → (vp_in (2 : Int32) (hN S18 a19) ∧ (∀ S23 : HS, S23 = sJ S18 a19 (2 : Int32).toNatClampNeg x22 → (∃ a24 : Nat, fR S23 v0 1 = some a24 ∧ (((¬ x5 = (1 : Int32)) → (P_X1_lay_130 Q v0 v3 x2 x5 a24 (3 : Int32) (0 : Int64) S23)) ∧ ((x5 = (1 : Int32)) → (∀ x26 : Int32, x26 = fI S23 v3 3 → (P_X1_lay_130 Q v0 v3 x2 x5 a24 (3 : Int32) (x2 * x26.toInt64) S23))))))))))))))))))))))))) S3)) S))))
set_option maxRecDepth 20000 in
set_option maxHeartbeats 4000000 in
theorem T_X1_lay_27 {X : CX} {Q : HS → Prop} (C : Cx X cX1_lay RX1 11 rm_X1_lay) (E : ReV X rm_X1_lay Q) (ht : (xh X).sig.returnType = none) (hn : (xh X).name = yX1_lay.name) {v0 : Nat} {v1 : Nat} {v2 : Int32} {v3 : Nat} {v4 : Int32} {s0 : Int64} {S : HS} (h : P_X1_lay_27 Q v0 v1 v2 v3 v4 s0 S) : WS X 11 0 0 27 [(0, .ref v0), (1, .ref v1), (2, .int v2), (3, .ref v3), (4, .int v4)] [.long s0] S := by
  refine r_lstore (pc := 27) C dX1_lay_27 (by decide) (lv' := [(5, .long s0), (0, .ref v0), (1, .ref v1), (2, .int v2), (3, .ref v3), (4, .int v4)]) rfl ?_
  refine r_aload_n (pc := 29) C dX1_lay_29 4 rfl ?_
  obtain ⟨o_v3, h⟩ := h
  refine r_geti (pc := 30) C fL_X1_27 dX1_lay_30 o_v3 ?_
  refine r_topi (fun x1 ex1 => ?_)
  have h := h x1 ex1
  refine r_i2l (pc := 33) C dX1_lay_33 ?_
  refine r_lload (pc := 34) C dX1_lay_34 0 rfl ?_
  refine r_lmul (pc := 36) C dX1_lay_36 ?_
  refine r_topl (fun x2 ex2 => ?_)
  have h := h x2 ex2
  refine r_lstore (pc := 37) C dX1_lay_37 (by decide) (lv' := [(7, .long x2), (5, .long s0), (0, .ref v0), (1, .ref v1), (2, .int v2), (3, .ref v3), (4, .int v4)]) rfl ?_
  refine r_aload_n (pc := 39) C dX1_lay_39 3 rfl ?_
  refine r_iload_n (pc := 40) C dX1_lay_40 4 rfl ?_
  refine r_aload_n (pc := 41) C dX1_lay_41 5 rfl ?_
  obtain ⟨o_v1, h⟩ := h
  refine r_callVi0 (pc := 42) C (rest := []) (a := v1) o_v1 [.int v2, .ref v3] yV_X5_turnOf g_696 (c_X5_turnOf h) dX1_lay_42 rfl rfl (Nat.le_of_ble_eq_true rfl) ⟨by decide, by decide⟩ ⟨by decide, by decide⟩ ⟨rfl, rfl⟩ (fun x5 S3 h g4 => ?_)
  have h := h g4
  have o_v1 := gr_ob g4 o_v1
  have o_v3 := gr_ob g4 o_v3
  refine r_istore (pc := 45) C dX1_lay_45 (by decide) (lv' := [(9, .int x5), (7, .long x2), (5, .long s0), (0, .ref v0), (1, .ref v1), (2, .int v2), (3, .ref v3), (4, .int v4)]) rfl ?_
  refine r_aload_n (pc := 47) C dX1_lay_47 4 rfl ?_
  refine r_iload_n (pc := 48) C dX1_lay_48 5 rfl ?_
  refine r_aload_n (pc := 49) C dX1_lay_49 6 rfl ?_
  refine r_callVi0 (pc := 50) C (rest := []) (a := v1) o_v1 [.int v2, .ref v3] yV_X5_airAlong g_700 (c_X5_airAlong h) dX1_lay_50 rfl rfl (Nat.le_of_ble_eq_true rfl) ⟨by decide, by decide⟩ ⟨by decide, by decide⟩ ⟨rfl, rfl⟩ (fun x8 S6 h g7 => ?_)
  have h := h g7
  have o_v1 := gr_ob g7 o_v1
  have o_v3 := gr_ob g7 o_v3
  refine r_istore (pc := 53) C dX1_lay_53 (by decide) (lv' := [(10, .int x8), (9, .int x5), (7, .long x2), (5, .long s0), (0, .ref v0), (1, .ref v1), (2, .int v2), (3, .ref v3), (4, .int v4)]) rfl ?_
  refine r_aload_n (pc := 55) C dX1_lay_55 4 rfl ?_
  obtain ⟨o_v0, h⟩ := h
  obtain ⟨a9, ea9, h⟩ := h
  refine r_getr (pc := 56) C fL_X1_15 dX1_lay_56 o_v0 ea9 ?_
  refine r_iconst (pc := 59) C (v := (0 : Int32)) dX1_lay_59 (by decide) ?_
  refine r_lload (pc := 60) C dX1_lay_60 2 rfl ?_
  refine r_aload_n (pc := 62) C dX1_lay_62 7 rfl ?_
  refine r_geti (pc := 63) C fL_X1_39 dX1_lay_63 o_v3 ?_
  refine r_topi (fun x10 ex10 => ?_)
  have h := h x10 ex10
  refine r_i2l (pc := 66) C dX1_lay_66 ?_
  refine r_lmul (pc := 67) C dX1_lay_67 ?_
  obtain ⟨o_a9, h⟩ := h
  refine r_topl (fun x12 ex12 => ?_)
  have h := h x12 ex12
  obtain ⟨i11, h⟩ := h
  refine r_last (pc := 68) C dX1_lay_68 o_a9 i11 ?_
  refine r_heap (fun S13 eS13 => ?_)
  have h := h S13 eS13
  have o_a9 := ob_J eS13 o_a9
  have o_v0 := ob_J eS13 o_v0
  have o_v1 := ob_J eS13 o_v1
  have o_v3 := ob_J eS13 o_v3
  refine r_aload_n (pc := 69) C dX1_lay_69 4 rfl ?_
  obtain ⟨a14, ea14, h⟩ := h
  refine r_getr (pc := 70) C fL_X1_15 dX1_lay_70 o_v0 ea14 ?_
  refine r_iconst (pc := 73) C (v := (1 : Int32)) dX1_lay_73 (by decide) ?_
  refine r_lload (pc := 74) C dX1_lay_74 2 rfl ?_
  refine r_iload (pc := 76) C dX1_lay_76 8 rfl ?_
  refine r_iload (pc := 78) C dX1_lay_78 0 rfl ?_
  refine r_isub (pc := 80) C dX1_lay_80 ?_
  refine r_iconst (pc := 81) C (v := (0 : Int32)) dX1_lay_81 (by decide) ?_
  refine r_max (pc := 82) C g_705 dX1_lay_82 (by decide) (Nat.le_of_ble_eq_true rfl) (by decide) (by decide) ?_
  refine r_topi (fun x15 ex15 => ?_)
  have h := h x15 ex15
  refine r_i2l (pc := 85) C dX1_lay_85 ?_
  refine r_lmul (pc := 86) C dX1_lay_86 ?_
  obtain ⟨o_a14, h⟩ := h
  refine r_topl (fun x17 ex17 => ?_)
  have h := h x17 ex17
  obtain ⟨i16, h⟩ := h
  refine r_last (pc := 87) C dX1_lay_87 o_a14 i16 ?_
  refine r_heap (fun S18 eS18 => ?_)
  have h := h S18 eS18
  have o_a14 := ob_J eS18 o_a14
  have o_a9 := ob_J eS18 o_a9
  have o_v0 := ob_J eS18 o_v0
  have o_v1 := ob_J eS18 o_v1
  have o_v3 := ob_J eS18 o_v3
  refine r_aload_n (pc := 88) C dX1_lay_88 4 rfl ?_
  obtain ⟨a19, ea19, h⟩ := h
  refine r_getr (pc := 89) C fL_X1_15 dX1_lay_89 o_v0 ea19 ?_
  refine r_iconst (pc := 92) C (v := (2 : Int32)) dX1_lay_92 (by decide) ?_
  refine r_lload (pc := 93) C dX1_lay_93 2 rfl ?_
  refine r_iload (pc := 95) C dX1_lay_95 0 rfl ?_
  refine r_iload (pc := 97) C dX1_lay_97 8 rfl ?_
  refine r_isub (pc := 99) C dX1_lay_99 ?_
  refine r_iconst (pc := 100) C (v := (0 : Int32)) dX1_lay_100 (by decide) ?_
  refine r_max (pc := 101) C g_705 dX1_lay_101 (by decide) (Nat.le_of_ble_eq_true rfl) (by decide) (by decide) ?_
  refine r_topi (fun x20 ex20 => ?_)
  have h := h x20 ex20
  refine r_i2l (pc := 104) C dX1_lay_104 ?_
  refine r_lmul (pc := 105) C dX1_lay_105 ?_
  obtain ⟨o_a19, h⟩ := h
  refine r_topl (fun x22 ex22 => ?_)
  have h := h x22 ex22
  obtain ⟨i21, h⟩ := h
  refine r_last (pc := 106) C dX1_lay_106 o_a19 i21 ?_
  refine r_heap (fun S23 eS23 => ?_)
  have h := h S23 eS23
  have o_a14 := ob_J eS23 o_a14
  have o_a19 := ob_J eS23 o_a19
  have o_a9 := ob_J eS23 o_a9
  have o_v0 := ob_J eS23 o_v0
  have o_v1 := ob_J eS23 o_v1
  have o_v3 := ob_J eS23 o_v3
  refine r_aload_n (pc := 107) C dX1_lay_107 4 rfl ?_
  obtain ⟨a24, ea24, h⟩ := h
  refine r_getr (pc := 108) C fL_X1_15 dX1_lay_108 o_v0 ea24 ?_
  refine r_iconst (pc := 111) C (v := (3 : Int32)) dX1_lay_111 (by decide) ?_
  refine r_iload (pc := 112) C dX1_lay_112 1 rfl ?_
  refine r_iconst (pc := 114) C (v := (1 : Int32)) dX1_lay_114 (by decide) ?_
  refine r_icmp_ne (pc := 115) C (tgt := 129) dX1_lay_115 (by decide) (fun c25 => ?_) (fun c25 => ?_)
  · have h := h.1 c25
    refine r_lconst (pc := 129) C (v := (0 : Int64)) dX1_lay_129 (by decide) ?_
    exact r_sub [4, 7, 2, 1] rfl (T_X1_lay_130 C E ht hn h)
  · have h := h.2 c25
    refine r_lload (pc := 118) C dX1_lay_118 2 rfl ?_
    refine r_aload_n (pc := 120) C dX1_lay_120 7 rfl ?_
    refine r_geti (pc := 121) C fL_X1_48 dX1_lay_121 o_v3 ?_
    refine r_topi (fun x26 ex26 => ?_)
    have h := h x26 ex26
    refine r_i2l (pc := 124) C dX1_lay_124 ?_
    refine r_lmul (pc := 125) C dX1_lay_125 ?_
    refine r_goto (pc := 126) C (tgt := 130) dX1_lay_126 (by decide) ?_
    exact r_sub [4, 7, 2, 1] rfl (T_X1_lay_130 C E ht hn h)
def P_X1_lay_0 (Q : HS → Prop) (v0 : Nat) (v1 : Nat) (v2 : Int32) (v3 : Nat) (v4 : Int32) (S : HS) : Prop := ((v4 ≤ 0) → (P_X1_lay_27 Q v0 v1 v2 v3 v4 (0 : Int64) S)) ∧ ((¬ v4 ≤ 0) → (ob S v1 5 ∧ (∀ x2 : Int32, x2 = fI S v1 3 → (∀ x3 : Int32, x3 = fI S v1 4 → (¬ v4 = 0 ∧ ∀ x5 : Int32, x5 = (2520 : Int32) / v4 → (P_X1_lay_27 Q v0 v1 v2 v3 v4 (((x2 - x3).toInt64) * x5.toInt64) S))))))
set_option maxRecDepth 20000 in
set_option maxHeartbeats 4000000 in
theorem T_X1_lay_0 {X : CX} {Q : HS → Prop} (C : Cx X cX1_lay RX1 11 rm_X1_lay) (E : ReV X rm_X1_lay Q) (ht : (xh X).sig.returnType = none) (hn : (xh X).name = yX1_lay.name) {v0 : Nat} {v1 : Nat} {v2 : Int32} {v3 : Nat} {v4 : Int32} {S : HS} (h : P_X1_lay_0 Q v0 v1 v2 v3 v4 S) : WS X 11 0 0 0 [(0, .ref v0), (1, .ref v1), (2, .int v2), (3, .ref v3), (4, .int v4)] [] S := by
  refine r_iload (pc := 0) C dX1_lay_0 4 rfl ?_
  refine r_if_le (pc := 2) C (tgt := 26) dX1_lay_2 (by decide) (fun c1 => ?_) (fun c1 => ?_)
  · have h := h.1 c1
    refine r_lconst (pc := 26) C (v := (0 : Int64)) dX1_lay_26 (by decide) ?_
    exact r_sub [0, 1, 2, 3, 4] rfl (T_X1_lay_27 C E ht hn h)
  · have h := h.2 c1
    refine r_aload_n (pc := 5) C dX1_lay_5 1 rfl ?_
    obtain ⟨o_v1, h⟩ := h
    refine r_geti (pc := 6) C fL_X1_18 dX1_lay_6 o_v1 ?_
    refine r_topi (fun x2 ex2 => ?_)
    have h := h x2 ex2
    refine r_aload_n (pc := 9) C dX1_lay_9 1 rfl ?_
    refine r_geti (pc := 10) C fL_X1_24 dX1_lay_10 o_v1 ?_
    refine r_topi (fun x3 ex3 => ?_)
    have h := h x3 ex3
    refine r_isub (pc := 13) C dX1_lay_13 ?_
    refine r_i2l (pc := 14) C dX1_lay_14 ?_
    refine r_sipush (pc := 15) C (v := (2520 : Int32)) dX1_lay_15 (by decide) ?_
    refine r_iload (pc := 18) C dX1_lay_18 4 rfl ?_
    obtain ⟨q4, h⟩ := h
    refine r_idiv (pc := 20) C dX1_lay_20 q4 ?_
    refine r_topi (fun x5 ex5 => ?_)
    have h := h x5 ex5
    refine r_i2l (pc := 21) C dX1_lay_21 ?_
    refine r_lmul (pc := 22) C dX1_lay_22 ?_
    refine r_goto (pc := 23) C (tgt := 27) dX1_lay_23 (by decide) ?_
    exact r_sub [0, 1, 2, 3, 4] rfl (T_X1_lay_27 C E ht hn h)
def P_X1_lay (v0 : Nat) (v1 : Nat) (v2 : Int32) (v3 : Nat) (v4 : Int32) (Q : HS → Prop) (S : HS) : Prop := P_X1_lay_0 Q v0 v1 v2 v3 v4 S
theorem c_X1_lay {l : Launch} {Ee : EE} {S : HS} {v0 : Nat} {v1 : Nat} {v2 : Int32} {v3 : Nat} {v4 : Int32} {Q : HS → Prop} (h : P_X1_lay v0 v1 v2 v3 v4 Q S) : MV l yX1_lay cX1_lay 11 none rm_X1_lay Ee S [.ref v0, .ref v1, .int v2, .ref v3, .int v4] Q :=
  openV (by decide) (Nat.le_of_ble_eq_true rfl) (fun X C E ht hn hE hl => by subst hE; exact r_sub [0, 1, 2, 3, 4] rfl (T_X1_lay_0 C E ht hn h))
def rm_X6_shield : Room := { frames := 0, cells := 0, slots := 0, locals := 0 }
def P_X6_shield_0 (Q : Int32 → HS → Prop) (v0 : Nat) (S : HS) : Prop := ob S v0 6 ∧ (∀ x1 : Int32, x1 = fI S v0 0 → (((¬ x1 = (3 : Int32)) → (Q (0 : Int32) S)) ∧ ((x1 = (3 : Int32)) → (∀ x3 : Int32, x3 = fI S v0 1 → (Q x3 S)))))
set_option maxRecDepth 20000 in
set_option maxHeartbeats 4000000 in
theorem T_X6_shield_0 {X : CX} {Q : Int32 → HS → Prop} (C : Cx X cX6_shield RX6 1 rm_X6_shield) (E : ReI X rm_X6_shield Q) (ht : (xh X).sig.returnType = (some .int)) (hn : (xh X).name = yX6_shield.name) {v0 : Nat} {S : HS} (h : P_X6_shield_0 Q v0 S) : WS X 1 0 0 0 [(0, .ref v0)] [] S := by
  refine r_aload_n (pc := 0) C dX6_shield_0 0 rfl ?_
  obtain ⟨o_v0, h⟩ := h
  refine r_geti (pc := 1) C fL_X6_9 dX6_shield_1 o_v0 ?_
  refine r_topi (fun x1 ex1 => ?_)
  have h := h x1 ex1
  refine r_iconst (pc := 4) C (v := (3 : Int32)) dX6_shield_4 (by decide) ?_
  refine r_icmp_ne (pc := 5) C (tgt := 15) dX6_shield_5 (by decide) (fun c2 => ?_) (fun c2 => ?_)
  · have h := h.1 c2
    refine r_iconst (pc := 15) C (v := (0 : Int32)) dX6_shield_15 (by decide) ?_
    exact r_iret (pc := 16) C E ht dX6_shield_16 (by decide) (by decide) h
  · have h := h.2 c2
    refine r_aload_n (pc := 8) C dX6_shield_8 0 rfl ?_
    refine r_geti (pc := 9) C fL_X6_15 dX6_shield_9 o_v0 ?_
    refine r_topi (fun x3 ex3 => ?_)
    have h := h x3 ex3
    refine r_goto (pc := 12) C (tgt := 16) dX6_shield_12 (by decide) ?_
    exact r_iret (pc := 16) C E ht dX6_shield_16 (by decide) (by decide) h
def P_X6_shield (v0 : Nat) (Q : Int32 → HS → Prop) (S : HS) : Prop := P_X6_shield_0 Q v0 S
theorem c_X6_shield {l : Launch} {Ee : EE} {S : HS} {v0 : Nat} {Q : Int32 → HS → Prop} (h : P_X6_shield v0 Q S) : MI l yX6_shield cX6_shield 1 (some .int) rm_X6_shield Ee S [.ref v0] Q :=
  openI (by decide) (Nat.le_of_ble_eq_true rfl) (fun X C E ht hn hE hl => by subst hE; exact r_sub [0] rfl (T_X6_shield_0 C E ht hn h))
def rm_X1_isForward : Room := { frames := 1, cells := 0, slots := 0, locals := 23 }
def P_X1_isForward_0 (Q : Int32 → HS → Prop) (v0 : Nat) (v1 : Nat) (S : HS) : Prop := ob S v0 1 ∧ (∃ a1 : Nat, fR S v0 1 = some a1 ∧ (ob S a1 14 ∧ (vp_in (0 : Int32) (hN S a1) ∧ ∀ x3 : Int64, x3 = fJ S a1 (0 : Int32).toNatClampNeg → (ob S v1 6 ∧ (P_X6_shield v1 (fun x6 S4 => Gr S S4 → (∀ x7 : Int32, x7 = fI S4 v1 2 → (∀ x8 : Int32, x8 = (if x7 < x6 then x7 else x6) → (∀ x9 : Int64, x9 = x3 * x8.toInt64 → (∃ a10 : Nat, fR S4 v0 1 = some a10 ∧ (ob S4 a10 14 ∧ (vp_in (1 : Int32) (hN S4 a10) ∧ ∀ x12 : Int64, x12 = fJ S4 a10 (1 : Int32).toNatClampNeg → (P_X6_shield v1 (fun x15 S13 => Gr S4 S13 → (∀ x16 : Int32, x16 = fI S13 v1 3 → (∀ x17 : Int32, x17 = (if x16 < x15 then x16 else x15) → (∀ x18 : Int64, x18 = x12 * x17.toInt64 → ((((lg_cmp x18 x9) ≤ 0) → (Q (0 : Int32) S13)) ∧ ((¬ (lg_cmp x18 x9) ≤ 0) → (Q (1 : Int32) S13))))))) S4)))))))) S)))))
set_option maxRecDepth 20000 in
set_option maxHeartbeats 4000000 in
theorem T_X1_isForward_0 {X : CX} {Q : Int32 → HS → Prop} (C : Cx X cX1_isForward RX1 6 rm_X1_isForward) (E : ReI X rm_X1_isForward (fun r S => bl r ∧ Q r S)) (ht : (xh X).sig.returnType = (some .boolean)) (hn : (xh X).name = yX1_isForward.name) {v0 : Nat} {v1 : Nat} {S : HS} (h : P_X1_isForward_0 Q v0 v1 S) : WS X 6 0 0 0 [(0, .ref v0), (1, .ref v1)] [] S := by
  refine r_aload_n (pc := 0) C dX1_isForward_0 0 rfl ?_
  obtain ⟨o_v0, h⟩ := h
  obtain ⟨a1, ea1, h⟩ := h
  refine r_getr (pc := 1) C fL_X1_15 dX1_isForward_1 o_v0 ea1 ?_
  refine r_iconst (pc := 4) C (v := (0 : Int32)) dX1_isForward_4 (by decide) ?_
  obtain ⟨o_a1, h⟩ := h
  obtain ⟨i2, h⟩ := h
  refine r_lald (pc := 5) C dX1_isForward_5 o_a1 i2 ?_
  refine r_topl (fun x3 ex3 => ?_)
  have h := h x3 ex3
  refine r_aload_n (pc := 6) C dX1_isForward_6 1 rfl ?_
  obtain ⟨o_v1, h⟩ := h
  refine r_callVi0 (pc := 7) C (rest := [.long x3]) (a := v1) o_v1 [] yV_X6_shield g_716 (c_X6_shield h) dX1_isForward_7 rfl rfl (Nat.le_of_ble_eq_true rfl) ⟨by decide, by decide⟩ ⟨by decide, by decide⟩ ⟨rfl, rfl⟩ (fun x6 S4 h g5 => ?_)
  have h := h g5
  have o_a1 := gr_ob g5 o_a1
  have o_v0 := gr_ob g5 o_v0
  have o_v1 := gr_ob g5 o_v1
  refine r_aload_n (pc := 10) C dX1_isForward_10 1 rfl ?_
  refine r_geti (pc := 11) C fL_X1_57 dX1_isForward_11 o_v1 ?_
  refine r_topi (fun x7 ex7 => ?_)
  have h := h x7 ex7
  refine r_min (pc := 14) C g_720 dX1_isForward_14 (by decide) (Nat.le_of_ble_eq_true rfl) (by decide) (by decide) ?_
  refine r_topi (fun x8 ex8 => ?_)
  have h := h x8 ex8
  refine r_i2l (pc := 17) C dX1_isForward_17 ?_
  refine r_lmul (pc := 18) C dX1_isForward_18 ?_
  refine r_topl (fun x9 ex9 => ?_)
  have h := h x9 ex9
  refine r_lstore_n (pc := 19) C dX1_isForward_19 rfl (by decide) (lv' := [(2, .long x9), (0, .ref v0), (1, .ref v1)]) rfl ?_
  refine r_aload_n (pc := 20) C dX1_isForward_20 1 rfl ?_
  obtain ⟨a10, ea10, h⟩ := h
  refine r_getr (pc := 21) C fL_X1_15 dX1_isForward_21 o_v0 ea10 ?_
  refine r_iconst (pc := 24) C (v := (1 : Int32)) dX1_isForward_24 (by decide) ?_
  obtain ⟨o_a10, h⟩ := h
  obtain ⟨i11, h⟩ := h
  refine r_lald (pc := 25) C dX1_isForward_25 o_a10 i11 ?_
  refine r_topl (fun x12 ex12 => ?_)
  have h := h x12 ex12
  refine r_aload_n (pc := 26) C dX1_isForward_26 2 rfl ?_
  refine r_callVi0 (pc := 27) C (rest := [.long x12]) (a := v1) o_v1 [] yV_X6_shield g_716 (c_X6_shield h) dX1_isForward_27 rfl rfl (Nat.le_of_ble_eq_true rfl) ⟨by decide, by decide⟩ ⟨by decide, by decide⟩ ⟨rfl, rfl⟩ (fun x15 S13 h g14 => ?_)
  have h := h g14
  have o_a1 := gr_ob g14 o_a1
  have o_a10 := gr_ob g14 o_a10
  have o_v0 := gr_ob g14 o_v0
  have o_v1 := gr_ob g14 o_v1
  refine r_aload_n (pc := 30) C dX1_isForward_30 2 rfl ?_
  refine r_geti (pc := 31) C fL_X1_63 dX1_isForward_31 o_v1 ?_
  refine r_topi (fun x16 ex16 => ?_)
  have h := h x16 ex16
  refine r_min (pc := 34) C g_720 dX1_isForward_34 (by decide) (Nat.le_of_ble_eq_true rfl) (by decide) (by decide) ?_
  refine r_topi (fun x17 ex17 => ?_)
  have h := h x17 ex17
  refine r_i2l (pc := 37) C dX1_isForward_37 ?_
  refine r_lmul (pc := 38) C dX1_isForward_38 ?_
  refine r_topl (fun x18 ex18 => ?_)
  have h := h x18 ex18
  refine r_lstore (pc := 39) C dX1_isForward_39 (by decide) (lv' := [(4, .long x18), (2, .long x9), (0, .ref v0), (1, .ref v1)]) rfl ?_
  refine r_lload (pc := 41) C dX1_isForward_41 0 rfl ?_
  refine r_lload_n (pc := 43) C dX1_isForward_43 1 rfl ?_
  refine r_lcmp (pc := 44) C dX1_isForward_44 ?_
  refine r_if_le (pc := 45) C (tgt := 52) dX1_isForward_45 (by decide) (fun c19 => ?_) (fun c19 => ?_)
  · have h := h.1 c19
    refine r_iconst (pc := 52) C (v := (0 : Int32)) dX1_isForward_52 (by decide) ?_
    exact r_zret (pc := 53) C E ht dX1_isForward_53 (by decide) (by decide) (Or.inl rfl) h
  · have h := h.2 c19
    refine r_iconst (pc := 48) C (v := (1 : Int32)) dX1_isForward_48 (by decide) ?_
    refine r_goto (pc := 49) C (tgt := 53) dX1_isForward_49 (by decide) ?_
    exact r_zret (pc := 53) C E ht dX1_isForward_53 (by decide) (by decide) (Or.inr rfl) h
def P_X1_isForward (v0 : Nat) (v1 : Nat) (Q : Int32 → HS → Prop) (S : HS) : Prop := P_X1_isForward_0 Q v0 v1 S
theorem c_X1_isForward {l : Launch} {Ee : EE} {S : HS} {v0 : Nat} {v1 : Nat} {Q : Int32 → HS → Prop} (h : P_X1_isForward v0 v1 Q S) : MI l yX1_isForward cX1_isForward 6 (some .boolean) rm_X1_isForward Ee S [.ref v0, .ref v1] (fun r S => bl r ∧ Q r S) :=
  openI (by decide) (Nat.le_of_ble_eq_true rfl) (fun X C E ht hn hE hl => by subst hE; exact r_sub [0, 1] rfl (T_X1_isForward_0 C E ht hn h))
def rm_X1_soak : Room := { frames := 2, cells := 0, slots := 0, locals := 48 }
def P_X1_soak_35 (Q : Int64 → HS → Prop) (v0 : Nat) (v1 : Nat) (v2 : Int32) (v3 : Int32) (v5 : Int32) (s0 : Int32) (S : HS) : Prop := ob S v0 1 ∧ (∃ a1 : Nat, fR S v0 0 = some a1 ∧ (∃ a2 : Nat, fR S v0 1 = some a2 ∧ (ob S a2 14 ∧ (vp_in (0 : Int32) (hN S a2) ∧ ∀ x4 : Int64, x4 = fJ S a2 (0 : Int32).toNatClampNeg → (ob S v1 6 ∧ (∀ x5 : Int32, x5 = fI S v1 2 → (∀ x6 : Int32, x6 = (if x5 - v5 < (0 : Int32) then (0 : Int32) else x5 - v5) → (ob S a1 14 ∧ (∀ x8 : Int64, x8 = x4 * x6.toInt64 → (vp_in (0 : Int32) (hN S a1) ∧ (∀ S9 : HS, S9 = sJ S a1 (0 : Int32).toNatClampNeg x8 → (∃ a10 : Nat, fR S9 v0 0 = some a10 ∧ (∃ a11 : Nat, fR S9 v0 1 = some a11 ∧ (ob S9 a11 14 ∧ (vp_in (1 : Int32) (hN S9 a11) ∧ ∀ x13 : Int64, x13 = fJ S9 a11 (1 : Int32).toNatClampNeg → (∀ x14 : Int32, x14 = fI S9 v1 3 → (∀ x15 : Int32, x15 = (if (x14 - s0) - v2 < (0 : Int32) then (0 : Int32) else (x14 - s0) - v2) → (ob S9 a10 14 ∧ (∀ x17 : Int64, x17 = x13 * x15.toInt64 → (vp_in (1 : Int32) (hN S9 a10) ∧ (∀ S18 : HS, S18 = sJ S9 a10 (1 : Int32).toNatClampNeg x17 → (∃ a19 : Nat, fR S18 v0 0 = some a19 ∧ (∃ a20 : Nat, fR S18 v0 1 = some a20 ∧ (ob S18 a20 14 ∧ (vp_in (2 : Int32) (hN S18 a20) ∧ ∀ x22 : Int64, x22 = fJ S18 a20 (2 : Int32).toNatClampNeg → (∀ x23 : Int32, x23 = fI S18 v1 3 → (∀ x24 : Int32, x24 = (if x23 - v3 < (0 : Int32) then (0 : Int32) else x23 - v3) → (ob S18 a19 14 ∧ (∀ x26 : Int64, x26 = x22 * x24.toInt64 → (vp_in (2 : Int32) (hN S18 a19) ∧ (∀ S27 : HS, S27 = sJ S18 a19 (2 : Int32).toNatClampNeg x26 → (∃ a28 : Nat, fR S27 v0 0 = some a28 ∧ (∃ a29 : Nat, fR S27 v0 1 = some a29 ∧ (ob S27 a29 14 ∧ (vp_in (3 : Int32) (hN S27 a29) ∧ ∀ x31 : Int64, x31 = fJ S27 a29 (3 : Int32).toNatClampNeg → (∀ x32 : Int32, x32 = fI S27 v1 4 → (ob S27 a28 14 ∧ (∀ x34 : Int64, x34 = x31 * x32.toInt64 → (vp_in (3 : Int32) (hN S27 a28) ∧ (∀ S35 : HS, S35 = sJ S27 a28 (3 : Int32).toNatClampNeg x34 → (∃ a36 : Nat, fR S35 v0 0 = some a36 ∧ (∃ a37 : Nat, fR S35 v0 1 = some a37 ∧ (ob S35 a37 14 ∧ (vp_in (4 : Int32) (hN S35 a37) ∧ ∀ x39 : Int64, x39 = fJ S35 a37 (4 : Int32).toNatClampNeg → (∀ x40 : Int32, x40 = fI S35 v1 4 → (ob S35 a36 14 ∧ (∀ x42 : Int64, x42 = x39 * x40.toInt64 → (vp_in (4 : Int32) (hN S35 a36) ∧ (∀ S43 : HS, S43 = sJ S35 a36 (4 : Int32).toNatClampNeg x42 → (∃ a44 : Nat, fR S43 v0 0 = some a44 ∧ (ob S43 a44 14 ∧ (vp_in (0 : Int32) (hN S43 a44) ∧ ∀ x46 : Int64, x46 = fJ S43 a44 (0 : Int32).toNatClampNeg → (∃ a47 : Nat, fR S43 v0 0 = some a47 ∧ (ob S43 a47 14 ∧ (vp_in (1 : Int32) (hN S43 a47) ∧ ∀ x49 : Int64, x49 = fJ S43 a47 (1 : Int32).toNatClampNeg → (∃ a50 : Nat, fR S43 v0 0 = some a50 ∧ (ob S43 a50 14 ∧ (vp_in (2 : Int32) (hN S43 a50) ∧ ∀ x52 : Int64, x52 = fJ S43 a50 (2 : Int32).toNatClampNeg → (∃ a53 : Nat, fR S43 v0 0 = some a53 ∧ (ob S43 a53 14 ∧ (vp_in (3 : Int32) (hN S43 a53) ∧ ∀ x55 : Int64, x55 = fJ S43 a53 (3 : Int32).toNatClampNeg → (∃ a56 : Nat, fR S43 v0 0 = some a56 ∧ (ob S43 a56 14 ∧ (vp_in (4 : Int32) (hN S43 a56) ∧ ∀ x58 : Int64, x58 = fJ S43 a56 (4 : Int32).toNatClampNeg → (Q ((((x46 + x49) + x52) + x55) + x58) S43)))))))))))))))))))))))))))))))))))))))))))))))))))))))))))))))))
set_option maxRecDepth 20000 in
set_option maxHeartbeats 4000000 in
theorem T_X1_soak_35 {X : CX} {Q : Int64 → HS → Prop} (C : Cx X cX1_soak RX1 7 rm_X1_soak) (E : ReJ X rm_X1_soak Q) (ht : (xh X).sig.returnType = (some .long)) (hn : (xh X).name = yX1_soak.name) {v0 : Nat} {v1 : Nat} {v2 : Int32} {v3 : Int32} {v5 : Int32} {s0 : Int32} {S : HS} (h : P_X1_soak_35 Q v0 v1 v2 v3 v5 s0 S) : WS X 7 0 0 35 [(0, .ref v0), (1, .ref v1), (2, .int v2), (3, .int v3), (5, .int v5)] [.int s0] S := by
  refine r_istore (pc := 35) C dX1_soak_35 (by decide) (lv' := [(6, .int s0), (0, .ref v0), (1, .ref v1), (2, .int v2), (3, .int v3), (5, .int v5)]) rfl ?_
  refine r_aload_n (pc := 37) C dX1_soak_37 1 rfl ?_
  obtain ⟨o_v0, h⟩ := h
  obtain ⟨a1, ea1, h⟩ := h
  refine r_getr (pc := 38) C fL_X1_9 dX1_soak_38 o_v0 ea1 ?_
  refine r_iconst (pc := 41) C (v := (0 : Int32)) dX1_soak_41 (by decide) ?_
  refine r_aload_n (pc := 42) C dX1_soak_42 1 rfl ?_
  obtain ⟨a2, ea2, h⟩ := h
  refine r_getr (pc := 43) C fL_X1_15 dX1_soak_43 o_v0 ea2 ?_
  refine r_iconst (pc := 46) C (v := (0 : Int32)) dX1_soak_46 (by decide) ?_
  obtain ⟨o_a2, h⟩ := h
  obtain ⟨i3, h⟩ := h
  refine r_lald (pc := 47) C dX1_soak_47 o_a2 i3 ?_
  refine r_topl (fun x4 ex4 => ?_)
  have h := h x4 ex4
  refine r_aload_n (pc := 48) C dX1_soak_48 2 rfl ?_
  obtain ⟨o_v1, h⟩ := h
  refine r_geti (pc := 49) C fL_X1_57 dX1_soak_49 o_v1 ?_
  refine r_topi (fun x5 ex5 => ?_)
  have h := h x5 ex5
  refine r_iload (pc := 52) C dX1_soak_52 5 rfl ?_
  refine r_isub (pc := 54) C dX1_soak_54 ?_
  refine r_iconst (pc := 55) C (v := (0 : Int32)) dX1_soak_55 (by decide) ?_
  refine r_max (pc := 56) C g_705 dX1_soak_56 (by decide) (Nat.le_of_ble_eq_true rfl) (by decide) (by decide) ?_
  refine r_topi (fun x6 ex6 => ?_)
  have h := h x6 ex6
  refine r_i2l (pc := 59) C dX1_soak_59 ?_
  refine r_lmul (pc := 60) C dX1_soak_60 ?_
  obtain ⟨o_a1, h⟩ := h
  refine r_topl (fun x8 ex8 => ?_)
  have h := h x8 ex8
  obtain ⟨i7, h⟩ := h
  refine r_last (pc := 61) C dX1_soak_61 o_a1 i7 ?_
  refine r_heap (fun S9 eS9 => ?_)
  have h := h S9 eS9
  have o_a1 := ob_J eS9 o_a1
  have o_a2 := ob_J eS9 o_a2
  have o_v0 := ob_J eS9 o_v0
  have o_v1 := ob_J eS9 o_v1
  refine r_aload_n (pc := 62) C dX1_soak_62 1 rfl ?_
  obtain ⟨a10, ea10, h⟩ := h
  refine r_getr (pc := 63) C fL_X1_9 dX1_soak_63 o_v0 ea10 ?_
  refine r_iconst (pc := 66) C (v := (1 : Int32)) dX1_soak_66 (by decide) ?_
  refine r_aload_n (pc := 67) C dX1_soak_67 1 rfl ?_
  obtain ⟨a11, ea11, h⟩ := h
  refine r_getr (pc := 68) C fL_X1_15 dX1_soak_68 o_v0 ea11 ?_
  refine r_iconst (pc := 71) C (v := (1 : Int32)) dX1_soak_71 (by decide) ?_
  obtain ⟨o_a11, h⟩ := h
  obtain ⟨i12, h⟩ := h
  refine r_lald (pc := 72) C dX1_soak_72 o_a11 i12 ?_
  refine r_topl (fun x13 ex13 => ?_)
  have h := h x13 ex13
  refine r_aload_n (pc := 73) C dX1_soak_73 2 rfl ?_
  refine r_geti (pc := 74) C fL_X1_63 dX1_soak_74 o_v1 ?_
  refine r_topi (fun x14 ex14 => ?_)
  have h := h x14 ex14
  refine r_iload (pc := 77) C dX1_soak_77 0 rfl ?_
  refine r_isub (pc := 79) C dX1_soak_79 ?_
  refine r_iload_n (pc := 80) C dX1_soak_80 3 rfl ?_
  refine r_isub (pc := 81) C dX1_soak_81 ?_
  refine r_iconst (pc := 82) C (v := (0 : Int32)) dX1_soak_82 (by decide) ?_
  refine r_max (pc := 83) C g_705 dX1_soak_83 (by decide) (Nat.le_of_ble_eq_true rfl) (by decide) (by decide) ?_
  refine r_topi (fun x15 ex15 => ?_)
  have h := h x15 ex15
  refine r_i2l (pc := 86) C dX1_soak_86 ?_
  refine r_lmul (pc := 87) C dX1_soak_87 ?_
  obtain ⟨o_a10, h⟩ := h
  refine r_topl (fun x17 ex17 => ?_)
  have h := h x17 ex17
  obtain ⟨i16, h⟩ := h
  refine r_last (pc := 88) C dX1_soak_88 o_a10 i16 ?_
  refine r_heap (fun S18 eS18 => ?_)
  have h := h S18 eS18
  have o_a1 := ob_J eS18 o_a1
  have o_a10 := ob_J eS18 o_a10
  have o_a11 := ob_J eS18 o_a11
  have o_a2 := ob_J eS18 o_a2
  have o_v0 := ob_J eS18 o_v0
  have o_v1 := ob_J eS18 o_v1
  refine r_aload_n (pc := 89) C dX1_soak_89 1 rfl ?_
  obtain ⟨a19, ea19, h⟩ := h
  refine r_getr (pc := 90) C fL_X1_9 dX1_soak_90 o_v0 ea19 ?_
  refine r_iconst (pc := 93) C (v := (2 : Int32)) dX1_soak_93 (by decide) ?_
  refine r_aload_n (pc := 94) C dX1_soak_94 1 rfl ?_
  obtain ⟨a20, ea20, h⟩ := h
  refine r_getr (pc := 95) C fL_X1_15 dX1_soak_95 o_v0 ea20 ?_
  refine r_iconst (pc := 98) C (v := (2 : Int32)) dX1_soak_98 (by decide) ?_
  obtain ⟨o_a20, h⟩ := h
  obtain ⟨i21, h⟩ := h
  refine r_lald (pc := 99) C dX1_soak_99 o_a20 i21 ?_
  refine r_topl (fun x22 ex22 => ?_)
  have h := h x22 ex22
  refine r_aload_n (pc := 100) C dX1_soak_100 2 rfl ?_
  refine r_geti (pc := 101) C fL_X1_63 dX1_soak_101 o_v1 ?_
  refine r_topi (fun x23 ex23 => ?_)
  have h := h x23 ex23
  refine r_iload_n (pc := 104) C dX1_soak_104 4 rfl ?_
  refine r_isub (pc := 105) C dX1_soak_105 ?_
  refine r_iconst (pc := 106) C (v := (0 : Int32)) dX1_soak_106 (by decide) ?_
  refine r_max (pc := 107) C g_705 dX1_soak_107 (by decide) (Nat.le_of_ble_eq_true rfl) (by decide) (by decide) ?_
  refine r_topi (fun x24 ex24 => ?_)
  have h := h x24 ex24
  refine r_i2l (pc := 110) C dX1_soak_110 ?_
  refine r_lmul (pc := 111) C dX1_soak_111 ?_
  obtain ⟨o_a19, h⟩ := h
  refine r_topl (fun x26 ex26 => ?_)
  have h := h x26 ex26
  obtain ⟨i25, h⟩ := h
  refine r_last (pc := 112) C dX1_soak_112 o_a19 i25 ?_
  refine r_heap (fun S27 eS27 => ?_)
  have h := h S27 eS27
  have o_a1 := ob_J eS27 o_a1
  have o_a10 := ob_J eS27 o_a10
  have o_a11 := ob_J eS27 o_a11
  have o_a19 := ob_J eS27 o_a19
  have o_a2 := ob_J eS27 o_a2
  have o_a20 := ob_J eS27 o_a20
  have o_v0 := ob_J eS27 o_v0
  have o_v1 := ob_J eS27 o_v1
  refine r_aload_n (pc := 113) C dX1_soak_113 1 rfl ?_
  obtain ⟨a28, ea28, h⟩ := h
  refine r_getr (pc := 114) C fL_X1_9 dX1_soak_114 o_v0 ea28 ?_
  refine r_iconst (pc := 117) C (v := (3 : Int32)) dX1_soak_117 (by decide) ?_
  refine r_aload_n (pc := 118) C dX1_soak_118 1 rfl ?_
  obtain ⟨a29, ea29, h⟩ := h
  refine r_getr (pc := 119) C fL_X1_15 dX1_soak_119 o_v0 ea29 ?_
  refine r_iconst (pc := 122) C (v := (3 : Int32)) dX1_soak_122 (by decide) ?_
  obtain ⟨o_a29, h⟩ := h
  obtain ⟨i30, h⟩ := h
  refine r_lald (pc := 123) C dX1_soak_123 o_a29 i30 ?_
  refine r_topl (fun x31 ex31 => ?_)
  have h := h x31 ex31
  refine r_aload_n (pc := 124) C dX1_soak_124 2 rfl ?_
  refine r_geti (pc := 125) C fL_X1_78 dX1_soak_125 o_v1 ?_
  refine r_topi (fun x32 ex32 => ?_)
  have h := h x32 ex32
  refine r_i2l (pc := 128) C dX1_soak_128 ?_
  refine r_lmul (pc := 129) C dX1_soak_129 ?_
  obtain ⟨o_a28, h⟩ := h
  refine r_topl (fun x34 ex34 => ?_)
  have h := h x34 ex34
  obtain ⟨i33, h⟩ := h
  refine r_last (pc := 130) C dX1_soak_130 o_a28 i33 ?_
  refine r_heap (fun S35 eS35 => ?_)
  have h := h S35 eS35
  have o_a1 := ob_J eS35 o_a1
  have o_a10 := ob_J eS35 o_a10
  have o_a11 := ob_J eS35 o_a11
  have o_a19 := ob_J eS35 o_a19
  have o_a2 := ob_J eS35 o_a2
  have o_a20 := ob_J eS35 o_a20
  have o_a28 := ob_J eS35 o_a28
  have o_a29 := ob_J eS35 o_a29
  have o_v0 := ob_J eS35 o_v0
  have o_v1 := ob_J eS35 o_v1
  refine r_aload_n (pc := 131) C dX1_soak_131 1 rfl ?_
  obtain ⟨a36, ea36, h⟩ := h
  refine r_getr (pc := 132) C fL_X1_9 dX1_soak_132 o_v0 ea36 ?_
  refine r_iconst (pc := 135) C (v := (4 : Int32)) dX1_soak_135 (by decide) ?_
  refine r_aload_n (pc := 136) C dX1_soak_136 1 rfl ?_
  obtain ⟨a37, ea37, h⟩ := h
  refine r_getr (pc := 137) C fL_X1_15 dX1_soak_137 o_v0 ea37 ?_
  refine r_iconst (pc := 140) C (v := (4 : Int32)) dX1_soak_140 (by decide) ?_
  obtain ⟨o_a37, h⟩ := h
  obtain ⟨i38, h⟩ := h
  refine r_lald (pc := 141) C dX1_soak_141 o_a37 i38 ?_
  refine r_topl (fun x39 ex39 => ?_)
  have h := h x39 ex39
  refine r_aload_n (pc := 142) C dX1_soak_142 2 rfl ?_
  refine r_geti (pc := 143) C fL_X1_78 dX1_soak_143 o_v1 ?_
  refine r_topi (fun x40 ex40 => ?_)
  have h := h x40 ex40
  refine r_i2l (pc := 146) C dX1_soak_146 ?_
  refine r_lmul (pc := 147) C dX1_soak_147 ?_
  obtain ⟨o_a36, h⟩ := h
  refine r_topl (fun x42 ex42 => ?_)
  have h := h x42 ex42
  obtain ⟨i41, h⟩ := h
  refine r_last (pc := 148) C dX1_soak_148 o_a36 i41 ?_
  refine r_heap (fun S43 eS43 => ?_)
  have h := h S43 eS43
  have o_a1 := ob_J eS43 o_a1
  have o_a10 := ob_J eS43 o_a10
  have o_a11 := ob_J eS43 o_a11
  have o_a19 := ob_J eS43 o_a19
  have o_a2 := ob_J eS43 o_a2
  have o_a20 := ob_J eS43 o_a20
  have o_a28 := ob_J eS43 o_a28
  have o_a29 := ob_J eS43 o_a29
  have o_a36 := ob_J eS43 o_a36
  have o_a37 := ob_J eS43 o_a37
  have o_v0 := ob_J eS43 o_v0
  have o_v1 := ob_J eS43 o_v1
  refine r_aload_n (pc := 149) C dX1_soak_149 1 rfl ?_
  obtain ⟨a44, ea44, h⟩ := h
  refine r_getr (pc := 150) C fL_X1_9 dX1_soak_150 o_v0 ea44 ?_
  refine r_iconst (pc := 153) C (v := (0 : Int32)) dX1_soak_153 (by decide) ?_
  obtain ⟨o_a44, h⟩ := h
  obtain ⟨i45, h⟩ := h
  refine r_lald (pc := 154) C dX1_soak_154 o_a44 i45 ?_
  refine r_topl (fun x46 ex46 => ?_)
  have h := h x46 ex46
  refine r_aload_n (pc := 155) C dX1_soak_155 1 rfl ?_
  obtain ⟨a47, ea47, h⟩ := h
  refine r_getr (pc := 156) C fL_X1_9 dX1_soak_156 o_v0 ea47 ?_
  refine r_iconst (pc := 159) C (v := (1 : Int32)) dX1_soak_159 (by decide) ?_
  obtain ⟨o_a47, h⟩ := h
  obtain ⟨i48, h⟩ := h
  refine r_lald (pc := 160) C dX1_soak_160 o_a47 i48 ?_
  refine r_topl (fun x49 ex49 => ?_)
  have h := h x49 ex49
  refine r_ladd (pc := 161) C dX1_soak_161 ?_
  refine r_aload_n (pc := 162) C dX1_soak_162 1 rfl ?_
  obtain ⟨a50, ea50, h⟩ := h
  refine r_getr (pc := 163) C fL_X1_9 dX1_soak_163 o_v0 ea50 ?_
  refine r_iconst (pc := 166) C (v := (2 : Int32)) dX1_soak_166 (by decide) ?_
  obtain ⟨o_a50, h⟩ := h
  obtain ⟨i51, h⟩ := h
  refine r_lald (pc := 167) C dX1_soak_167 o_a50 i51 ?_
  refine r_topl (fun x52 ex52 => ?_)
  have h := h x52 ex52
  refine r_ladd (pc := 168) C dX1_soak_168 ?_
  refine r_aload_n (pc := 169) C dX1_soak_169 1 rfl ?_
  obtain ⟨a53, ea53, h⟩ := h
  refine r_getr (pc := 170) C fL_X1_9 dX1_soak_170 o_v0 ea53 ?_
  refine r_iconst (pc := 173) C (v := (3 : Int32)) dX1_soak_173 (by decide) ?_
  obtain ⟨o_a53, h⟩ := h
  obtain ⟨i54, h⟩ := h
  refine r_lald (pc := 174) C dX1_soak_174 o_a53 i54 ?_
  refine r_topl (fun x55 ex55 => ?_)
  have h := h x55 ex55
  refine r_ladd (pc := 175) C dX1_soak_175 ?_
  refine r_aload_n (pc := 176) C dX1_soak_176 1 rfl ?_
  obtain ⟨a56, ea56, h⟩ := h
  refine r_getr (pc := 177) C fL_X1_9 dX1_soak_177 o_v0 ea56 ?_
  refine r_iconst (pc := 180) C (v := (4 : Int32)) dX1_soak_180 (by decide) ?_
  obtain ⟨o_a56, h⟩ := h
  obtain ⟨i57, h⟩ := h
  refine r_lald (pc := 181) C dX1_soak_181 o_a56 i57 ?_
  refine r_topl (fun x58 ex58 => ?_)
  have h := h x58 ex58
  refine r_ladd (pc := 182) C dX1_soak_182 ?_
  exact r_lret (pc := 183) C E ht dX1_soak_183 (by decide) (by decide) h
def P_X1_soak_20 (Q : Int64 → HS → Prop) (v0 : Nat) (v1 : Nat) (v2 : Int32) (v3 : Int32) (v4 : Int32) (s0 : Int32) (S : HS) : Prop := ((v4 = 0) → (P_X1_soak_35 Q v0 v1 v2 v3 s0 (0 : Int32) S)) ∧ ((¬ v4 = 0) → (ob S v1 6 ∧ (P_X6_shield v1 (fun x4 S2 => Gr S S2 → (P_X1_soak_35 Q v0 v1 v2 v3 s0 x4 S2)) S)))
set_option maxRecDepth 20000 in
set_option maxHeartbeats 4000000 in
theorem T_X1_soak_20 {X : CX} {Q : Int64 → HS → Prop} (C : Cx X cX1_soak RX1 7 rm_X1_soak) (E : ReJ X rm_X1_soak Q) (ht : (xh X).sig.returnType = (some .long)) (hn : (xh X).name = yX1_soak.name) {v0 : Nat} {v1 : Nat} {v2 : Int32} {v3 : Int32} {v4 : Int32} {s0 : Int32} {S : HS} (h : P_X1_soak_20 Q v0 v1 v2 v3 v4 s0 S) : WS X 7 0 0 20 [(0, .ref v0), (1, .ref v1), (2, .int v2), (3, .int v3), (4, .int v4)] [.int s0] S := by
  refine r_istore (pc := 20) C dX1_soak_20 (by decide) (lv' := [(5, .int s0), (0, .ref v0), (1, .ref v1), (2, .int v2), (3, .int v3), (4, .int v4)]) rfl ?_
  refine r_iload (pc := 22) C dX1_soak_22 5 rfl ?_
  refine r_if_eq (pc := 24) C (tgt := 34) dX1_soak_24 (by decide) (fun c1 => ?_) (fun c1 => ?_)
  · have h := h.1 c1
    refine r_iconst (pc := 34) C (v := (0 : Int32)) dX1_soak_34 (by decide) ?_
    exact r_sub [1, 2, 3, 4, 0] rfl (T_X1_soak_35 C E ht hn h)
  · have h := h.2 c1
    refine r_aload_n (pc := 27) C dX1_soak_27 2 rfl ?_
    obtain ⟨o_v1, h⟩ := h
    refine r_callVi0 (pc := 28) C (rest := []) (a := v1) o_v1 [] yV_X6_shield g_716 (c_X6_shield h) dX1_soak_28 rfl rfl (Nat.le_of_ble_eq_true rfl) ⟨by decide, by decide⟩ ⟨by decide, by decide⟩ ⟨rfl, rfl⟩ (fun x4 S2 h g3 => ?_)
    have h := h g3
    have o_v1 := gr_ob g3 o_v1
    refine r_goto (pc := 31) C (tgt := 35) dX1_soak_31 (by decide) ?_
    exact r_sub [1, 2, 3, 4, 0] rfl (T_X1_soak_35 C E ht hn h)
def P_X1_soak_0 (Q : Int64 → HS → Prop) (v0 : Nat) (v1 : Nat) (v2 : Int32) (v3 : Int32) (S : HS) : Prop := ob S v0 1 ∧ (P_X1_isForward v0 v1 (fun x3 S1 => Gr S S1 → bl x3 → (((x3 = 0) → (ob S1 v1 6 ∧ (P_X6_shield v1 (fun x7 S5 => Gr S1 S5 → (P_X1_soak_20 Q v0 v1 v2 v3 x3 x7 S5)) S1))) ∧ ((¬ x3 = 0) → (P_X1_soak_20 Q v0 v1 v2 v3 x3 (0 : Int32) S1)))) S)
set_option maxRecDepth 20000 in
set_option maxHeartbeats 4000000 in
theorem T_X1_soak_0 {X : CX} {Q : Int64 → HS → Prop} (C : Cx X cX1_soak RX1 7 rm_X1_soak) (E : ReJ X rm_X1_soak Q) (ht : (xh X).sig.returnType = (some .long)) (hn : (xh X).name = yX1_soak.name) {v0 : Nat} {v1 : Nat} {v2 : Int32} {v3 : Int32} {S : HS} (h : P_X1_soak_0 Q v0 v1 v2 v3 S) : WS X 7 0 0 0 [(0, .ref v0), (1, .ref v1), (2, .int v2), (3, .int v3)] [] S := by
  refine r_aload_n (pc := 0) C dX1_soak_0 0 rfl ?_
  refine r_aload_n (pc := 1) C dX1_soak_1 1 rfl ?_
  obtain ⟨o_v0, h⟩ := h
  refine r_callVi0 (pc := 2) C (rest := []) (a := v0) o_v0 [.ref v1] yV_X1_isForward g_712 (c_X1_isForward h) dX1_soak_2 rfl rfl (Nat.le_of_ble_eq_true rfl) ⟨by decide, by decide⟩ ⟨by decide, by decide⟩ ⟨rfl, rfl⟩ (fun x3 S1 h g2 => ?_)
  have bx3 := h.1
  have h := h.2 g2 bx3
  have o_v0 := gr_ob g2 o_v0
  refine r_istore (pc := 5) C dX1_soak_5 (by decide) (lv' := [(4, .int x3), (0, .ref v0), (1, .ref v1), (2, .int v2), (3, .int v3)]) rfl ?_
  refine r_iload (pc := 7) C dX1_soak_7 0 rfl ?_
  refine r_if_eq (pc := 9) C (tgt := 16) dX1_soak_9 (by decide) (fun c4 => ?_) (fun c4 => ?_)
  · have h := h.1 c4
    refine r_aload_n (pc := 16) C dX1_soak_16 2 rfl ?_
    obtain ⟨o_v1, h⟩ := h
    refine r_callVi0 (pc := 17) C (rest := []) (a := v1) o_v1 [] yV_X6_shield g_716 (c_X6_shield h) dX1_soak_17 rfl rfl (Nat.le_of_ble_eq_true rfl) ⟨by decide, by decide⟩ ⟨by decide, by decide⟩ ⟨rfl, rfl⟩ (fun x7 S5 h g6 => ?_)
    have h := h g6
    have o_v0 := gr_ob g6 o_v0
    have o_v1 := gr_ob g6 o_v1
    exact r_sub [1, 2, 3, 4, 0] rfl (T_X1_soak_20 C E ht hn h)
  · have h := h.2 c4
    refine r_iconst (pc := 12) C (v := (0 : Int32)) dX1_soak_12 (by decide) ?_
    refine r_goto (pc := 13) C (tgt := 20) dX1_soak_13 (by decide) ?_
    exact r_sub [1, 2, 3, 4, 0] rfl (T_X1_soak_20 C E ht hn h)
def P_X1_soak (v0 : Nat) (v1 : Nat) (v2 : Int32) (v3 : Int32) (Q : Int64 → HS → Prop) (S : HS) : Prop := P_X1_soak_0 Q v0 v1 v2 v3 S
theorem c_X1_soak {l : Launch} {Ee : EE} {S : HS} {v0 : Nat} {v1 : Nat} {v2 : Int32} {v3 : Int32} {Q : Int64 → HS → Prop} (h : P_X1_soak v0 v1 v2 v3 Q S) : MJ l yX1_soak cX1_soak 7 (some .long) rm_X1_soak Ee S [.ref v0, .ref v1, .int v2, .int v3] Q :=
  openJ (by decide) (Nat.le_of_ble_eq_true rfl) (fun X C E ht hn hE hl => by subst hE; exact r_sub [0, 1, 2, 3] rfl (T_X1_soak_0 C E ht hn h))
def rm_X1_wetOf : Room := { frames := 3, cells := 0, slots := 0, locals := 76 }
def P_X1_wetOf_0 (Q : Int64 → HS → Prop) (v0 : Nat) (v1 : Nat) (v2 : Nat) (v3 : Int32) (v4 : Nat) (v5 : Int32) (S : HS) : Prop := ob S v0 1 ∧ (P_X1_lay v0 v2 v3 v4 v5 (fun S1 => Gr S S1 → (P_X1_soak v0 v1 (0 : Int32) (0 : Int32) (fun x6 S4 => Gr S1 S4 → (Q x6 S4)) S1)) S)
set_option maxRecDepth 20000 in
set_option maxHeartbeats 4000000 in
theorem T_X1_wetOf_0 {X : CX} {Q : Int64 → HS → Prop} (C : Cx X cX1_wetOf RX1 6 rm_X1_wetOf) (E : ReJ X rm_X1_wetOf Q) (ht : (xh X).sig.returnType = (some .long)) (hn : (xh X).name = yX1_wetOf.name) {v0 : Nat} {v1 : Nat} {v2 : Nat} {v3 : Int32} {v4 : Nat} {v5 : Int32} {S : HS} (h : P_X1_wetOf_0 Q v0 v1 v2 v3 v4 v5 S) : WS X 6 0 0 0 [(0, .ref v0), (1, .ref v1), (2, .ref v2), (3, .int v3), (4, .ref v4), (5, .int v5)] [] S := by
  refine r_aload_n (pc := 0) C dX1_wetOf_0 0 rfl ?_
  refine r_aload_n (pc := 1) C dX1_wetOf_1 2 rfl ?_
  refine r_iload_n (pc := 2) C dX1_wetOf_2 3 rfl ?_
  refine r_aload (pc := 3) C dX1_wetOf_3 4 rfl ?_
  refine r_iload (pc := 5) C dX1_wetOf_5 5 rfl ?_
  obtain ⟨o_v0, h⟩ := h
  refine r_callVv0 (pc := 7) C (rest := []) (a := v0) o_v0 [.ref v2, .int v3, .ref v4, .int v5] yV_X1_lay g_692 (c_X1_lay h) dX1_wetOf_7 rfl rfl (Nat.le_of_ble_eq_true rfl) ⟨by decide, by decide⟩ ⟨by decide, by decide⟩ ⟨rfl, rfl⟩ (fun S1 h g2 => ?_)
  have h := h g2
  have o_v0 := gr_ob g2 o_v0
  refine r_aload_n (pc := 10) C dX1_wetOf_10 0 rfl ?_
  refine r_aload_n (pc := 11) C dX1_wetOf_11 1 rfl ?_
  refine r_iconst (pc := 12) C (v := (0 : Int32)) dX1_wetOf_12 (by decide) ?_
  refine r_iconst (pc := 13) C (v := (0 : Int32)) dX1_wetOf_13 (by decide) ?_
  refine r_callVl0 (pc := 14) C (rest := []) (a := v0) o_v0 [.ref v1, .int (0 : Int32), .int (0 : Int32)] yV_X1_soak g_708 (c_X1_soak h) dX1_wetOf_14 rfl rfl (Nat.le_of_ble_eq_true rfl) ⟨by decide, by decide⟩ ⟨by decide, by decide⟩ ⟨rfl, rfl⟩ (fun x6 S4 h g5 => ?_)
  have h := h g5
  have o_v0 := gr_ob g5 o_v0
  exact r_lret (pc := 17) C E ht dX1_wetOf_17 (by decide) (by decide) h
def P_X1_wetOf (v0 : Nat) (v1 : Nat) (v2 : Nat) (v3 : Int32) (v4 : Nat) (v5 : Int32) (Q : Int64 → HS → Prop) (S : HS) : Prop := P_X1_wetOf_0 Q v0 v1 v2 v3 v4 v5 S
theorem c_X1_wetOf {l : Launch} {Ee : EE} {S : HS} {v0 : Nat} {v1 : Nat} {v2 : Nat} {v3 : Int32} {v4 : Nat} {v5 : Int32} {Q : Int64 → HS → Prop} (h : P_X1_wetOf v0 v1 v2 v3 v4 v5 Q S) : MJ l yX1_wetOf cX1_wetOf 6 (some .long) rm_X1_wetOf Ee S [.ref v0, .ref v1, .ref v2, .int v3, .ref v4, .int v5] Q :=
  openJ (by decide) (Nat.le_of_ble_eq_true rfl) (fun X C E ht hn hE hl => by subst hE; exact r_sub [0, 1, 2, 3, 4, 5] rfl (T_X1_wetOf_0 C E ht hn h))
def rm_X1_bestSpeed : Room := { frames := 4, cells := 0, slots := 0, locals := 101 }
def P_X1_bestSpeed_55 (Q : Int32 → HS → Prop) (X17 : Nat → Nat → Nat → Int32 → Nat → Int32 → Int64 → Int32 → HS → Prop) (v0 : Nat) (v1 : Nat) (v2 : Nat) (v3 : Int32) (v4 : Nat) (v5 : Int32) (v6 : Int64) (v8 : Int32) (S : HS) : Prop := ∀ x1 : Int32, x1 = v8 + (1 : Int32) → (X17 v0 v1 v2 v3 v4 v5 v6 x1 S)
set_option maxRecDepth 20000 in
set_option maxHeartbeats 4000000 in
theorem T_X1_bestSpeed_55 {X : CX} {Q : Int32 → HS → Prop} (C : Cx X cX1_bestSpeed RX1 11 rm_X1_bestSpeed) (E : ReI X rm_X1_bestSpeed Q) (ht : (xh X).sig.returnType = (some .int)) (hn : (xh X).name = yX1_bestSpeed.name) {X17 : Nat → Nat → Nat → Int32 → Nat → Int32 → Int64 → Int32 → HS → Prop} (hX17 : ∀ (v0 : Nat) (v1 : Nat) (v2 : Nat) (v3 : Int32) (v4 : Nat) (v5 : Int32) (v6 : Int64) (v8 : Int32) (S : HS), X17 v0 v1 v2 v3 v4 v5 v6 v8 S → WS X 11 0 0 17 [(0, .ref v0), (1, .ref v1), (2, .ref v2), (3, .int v3), (4, .ref v4), (5, .int v5), (6, .long v6), (8, .int v8)] [] S) {v0 : Nat} {v1 : Nat} {v2 : Nat} {v3 : Int32} {v4 : Nat} {v5 : Int32} {v6 : Int64} {v8 : Int32} {S : HS} (h : P_X1_bestSpeed_55 Q X17 v0 v1 v2 v3 v4 v5 v6 v8 S) : WS X 11 0 0 55 [(0, .ref v0), (1, .ref v1), (2, .ref v2), (3, .int v3), (4, .ref v4), (5, .int v5), (6, .long v6), (8, .int v8)] [] S := by
  obtain ⟨x1, ex1⟩ : ∃ z : Int32, z = v8 + (1 : Int32) := ⟨_, rfl⟩
  have h := h x1 ex1
  refine r_iinc (pc := 55) C (v := x1) (lv' := [(8, .int x1), (0, .ref v0), (1, .ref v1), (2, .ref v2), (3, .int v3), (4, .ref v4), (5, .int v5), (6, .long v6)]) dX1_bestSpeed_55 7 rfl ex1.symm (by decide) rfl ?_
  refine r_goto (pc := 58) C (tgt := 17) dX1_bestSpeed_58 (by decide) ?_
  exact r_sub [1, 2, 3, 4, 5, 6, 7, 0] rfl (hX17 v0 v1 v2 v3 v4 v5 v6 x1 S h)
def B_X1_bestSpeed_17 (Q : Int32 → HS → Prop) (X17 : Nat → Nat → Nat → Int32 → Nat → Int32 → Int64 → Int32 → HS → Prop) (v0 : Nat) (v1 : Nat) (v2 : Nat) (v3 : Int32) (v4 : Nat) (v5 : Int32) (v6 : Int64) (v8 : Int32) (S : HS) : Prop := ob S v1 6 ∧ (∀ x1 : Int32, x1 = fI S v1 6 → (((x1 < v8) → (Q v5 S)) ∧ ((¬ x1 < v8) → (ob S v0 1 ∧ (P_X1_wetOf v0 v1 v2 v3 v4 v8 (fun x5 S3 => Gr S S3 → (((0 ≤ (lg_cmp x5 v6)) → (P_X1_bestSpeed_55 Q X17 v0 v1 v2 v3 v4 v5 v6 v8 S3)) ∧ ((¬ 0 ≤ (lg_cmp x5 v6)) → (P_X1_bestSpeed_55 Q X17 v0 v1 v2 v3 v4 v8 x5 v8 S3)))) S)))))
def P_X1_bestSpeed_17 (Q : Int32 → HS → Prop) (v0 : Nat) (v1 : Nat) (v2 : Nat) (v3 : Int32) (v4 : Nat) (v5 : Int32) (v6 : Int64) (v8 : Int32) (S : HS) : Prop := ∀ X17 : Nat → Nat → Nat → Int32 → Nat → Int32 → Int64 → Int32 → HS → Prop, (∀ (v0 : Nat) (v1 : Nat) (v2 : Nat) (v3 : Int32) (v4 : Nat) (v5 : Int32) (v6 : Int64) (v8 : Int32) (S : HS), B_X1_bestSpeed_17 Q X17 v0 v1 v2 v3 v4 v5 v6 v8 S → X17 v0 v1 v2 v3 v4 v5 v6 v8 S) → X17 v0 v1 v2 v3 v4 v5 v6 v8 S
set_option maxRecDepth 20000 in
set_option maxHeartbeats 4000000 in
theorem TB_X1_bestSpeed_17 {X : CX} {Q : Int32 → HS → Prop} (C : Cx X cX1_bestSpeed RX1 11 rm_X1_bestSpeed) (E : ReI X rm_X1_bestSpeed Q) (ht : (xh X).sig.returnType = (some .int)) (hn : (xh X).name = yX1_bestSpeed.name) {X17 : Nat → Nat → Nat → Int32 → Nat → Int32 → Int64 → Int32 → HS → Prop} (hX17 : ∀ (v0 : Nat) (v1 : Nat) (v2 : Nat) (v3 : Int32) (v4 : Nat) (v5 : Int32) (v6 : Int64) (v8 : Int32) (S : HS), X17 v0 v1 v2 v3 v4 v5 v6 v8 S → WS X 11 0 0 17 [(0, .ref v0), (1, .ref v1), (2, .ref v2), (3, .int v3), (4, .ref v4), (5, .int v5), (6, .long v6), (8, .int v8)] [] S) {v0 : Nat} {v1 : Nat} {v2 : Nat} {v3 : Int32} {v4 : Nat} {v5 : Int32} {v6 : Int64} {v8 : Int32} {S : HS} (h : B_X1_bestSpeed_17 Q X17 v0 v1 v2 v3 v4 v5 v6 v8 S) : WS X 11 0 0 17 [(0, .ref v0), (1, .ref v1), (2, .ref v2), (3, .int v3), (4, .ref v4), (5, .int v5), (6, .long v6), (8, .int v8)] [] S := by
  refine r_iload (pc := 17) C dX1_bestSpeed_17 7 rfl ?_
  refine r_aload_n (pc := 19) C dX1_bestSpeed_19 1 rfl ?_
  obtain ⟨o_v1, h⟩ := h
  refine r_geti (pc := 20) C fL_X1_86 dX1_bestSpeed_20 o_v1 ?_
  refine r_topi (fun x1 ex1 => ?_)
  have h := h x1 ex1
  refine r_icmp_gt (pc := 23) C (tgt := 61) dX1_bestSpeed_23 (by decide) (fun c2 => ?_) (fun c2 => ?_)
  · have h := h.1 c2
    refine r_iload (pc := 61) C dX1_bestSpeed_61 5 rfl ?_
    exact r_iret (pc := 63) C E ht dX1_bestSpeed_63 (by decide) (by decide) h
  · have h := h.2 c2
    refine r_aload_n (pc := 26) C dX1_bestSpeed_26 0 rfl ?_
    refine r_aload_n (pc := 27) C dX1_bestSpeed_27 1 rfl ?_
    refine r_aload_n (pc := 28) C dX1_bestSpeed_28 2 rfl ?_
    refine r_iload_n (pc := 29) C dX1_bestSpeed_29 3 rfl ?_
    refine r_aload (pc := 30) C dX1_bestSpeed_30 4 rfl ?_
    refine r_iload (pc := 32) C dX1_bestSpeed_32 7 rfl ?_
    obtain ⟨o_v0, h⟩ := h
    refine r_callVl0 (pc := 34) C (rest := []) (a := v0) o_v0 [.ref v1, .ref v2, .int v3, .ref v4, .int v8] yV_X1_wetOf g_765 (c_X1_wetOf h) dX1_bestSpeed_34 rfl rfl (Nat.le_of_ble_eq_true rfl) ⟨by decide, by decide⟩ ⟨by decide, by decide⟩ ⟨rfl, rfl⟩ (fun x5 S3 h g4 => ?_)
    have h := h g4
    have o_v0 := gr_ob g4 o_v0
    have o_v1 := gr_ob g4 o_v1
    refine r_lstore (pc := 37) C dX1_bestSpeed_37 (by decide) (lv' := [(9, .long x5), (0, .ref v0), (1, .ref v1), (2, .ref v2), (3, .int v3), (4, .ref v4), (5, .int v5), (6, .long v6), (8, .int v8)]) rfl ?_
    refine r_lload (pc := 39) C dX1_bestSpeed_39 0 rfl ?_
    refine r_lload (pc := 41) C dX1_bestSpeed_41 7 rfl ?_
    refine r_lcmp (pc := 43) C dX1_bestSpeed_43 ?_
    refine r_if_ge (pc := 44) C (tgt := 55) dX1_bestSpeed_44 (by decide) (fun c6 => ?_) (fun c6 => ?_)
    · have h := h.1 c6
      exact r_sub [1, 2, 3, 4, 5, 6, 7, 8] rfl (T_X1_bestSpeed_55 C E ht hn hX17 h)
    · have h := h.2 c6
      refine r_lload (pc := 47) C dX1_bestSpeed_47 0 rfl ?_
      refine r_lstore (pc := 49) C dX1_bestSpeed_49 (by decide) (lv' := [(6, .long x5), (9, .long x5), (0, .ref v0), (1, .ref v1), (2, .ref v2), (3, .int v3), (4, .ref v4), (5, .int v5), (8, .int v8)]) rfl ?_
      refine r_iload (pc := 51) C dX1_bestSpeed_51 8 rfl ?_
      refine r_istore (pc := 53) C dX1_bestSpeed_53 (by decide) (lv' := [(5, .int v8), (6, .long x5), (9, .long x5), (0, .ref v0), (1, .ref v1), (2, .ref v2), (3, .int v3), (4, .ref v4), (8, .int v8)]) rfl ?_
      exact r_sub [3, 4, 5, 6, 7, 0, 1, 8] rfl (T_X1_bestSpeed_55 C E ht hn hX17 h)
theorem T_X1_bestSpeed_17 {X : CX} {Q : Int32 → HS → Prop} (C : Cx X cX1_bestSpeed RX1 11 rm_X1_bestSpeed) (E : ReI X rm_X1_bestSpeed Q) (ht : (xh X).sig.returnType = (some .int)) (hn : (xh X).name = yX1_bestSpeed.name) {v0 : Nat} {v1 : Nat} {v2 : Nat} {v3 : Int32} {v4 : Nat} {v5 : Int32} {v6 : Int64} {v8 : Int32} {S : HS} (h : P_X1_bestSpeed_17 Q v0 v1 v2 v3 v4 v5 v6 v8 S) : WS X 11 0 0 17 [(0, .ref v0), (1, .ref v1), (2, .ref v2), (3, .int v3), (4, .ref v4), (5, .int v5), (6, .long v6), (8, .int v8)] [] S :=
  h (fun v0 v1 v2 v3 v4 v5 v6 v8 S => WS X 11 0 0 17 [(0, .ref v0), (1, .ref v1), (2, .ref v2), (3, .int v3), (4, .ref v4), (5, .int v5), (6, .long v6), (8, .int v8)] [] S) (fun v0 v1 v2 v3 v4 v5 v6 v8 S hh => TB_X1_bestSpeed_17 C E ht hn (fun v0 v1 v2 v3 v4 v5 v6 v8 S z => z) hh)
def P_X1_bestSpeed_0 (Q : Int32 → HS → Prop) (v0 : Nat) (v1 : Nat) (v2 : Nat) (v3 : Int32) (v4 : Nat) (S : HS) : Prop := ob S v1 6 ∧ (∀ x1 : Int32, x1 = fI S v1 5 → (∀ x2 : Int32, x2 = fI S v1 5 → (P_X1_bestSpeed_17 Q v0 v1 v2 v3 v4 x1 (4611686018427387904 : Int64) x2 S)))
set_option maxRecDepth 20000 in
set_option maxHeartbeats 4000000 in
theorem T_X1_bestSpeed_0 {X : CX} {Q : Int32 → HS → Prop} (C : Cx X cX1_bestSpeed RX1 11 rm_X1_bestSpeed) (E : ReI X rm_X1_bestSpeed Q) (ht : (xh X).sig.returnType = (some .int)) (hn : (xh X).name = yX1_bestSpeed.name) {v0 : Nat} {v1 : Nat} {v2 : Nat} {v3 : Int32} {v4 : Nat} {S : HS} (h : P_X1_bestSpeed_0 Q v0 v1 v2 v3 v4 S) : WS X 11 0 0 0 [(0, .ref v0), (1, .ref v1), (2, .ref v2), (3, .int v3), (4, .ref v4)] [] S := by
  refine r_aload_n (pc := 0) C dX1_bestSpeed_0 1 rfl ?_
  obtain ⟨o_v1, h⟩ := h
  refine r_geti (pc := 1) C fL_X1_81 dX1_bestSpeed_1 o_v1 ?_
  refine r_topi (fun x1 ex1 => ?_)
  have h := h x1 ex1
  refine r_istore (pc := 4) C dX1_bestSpeed_4 (by decide) (lv' := [(5, .int x1), (0, .ref v0), (1, .ref v1), (2, .ref v2), (3, .int v3), (4, .ref v4)]) rfl ?_
  refine r_ldc2 (pc := 6) C (v := (4611686018427387904 : Int64)) dX1_bestSpeed_6 g_764 ?_
  refine r_lstore (pc := 9) C dX1_bestSpeed_9 (by decide) (lv' := [(6, .long (4611686018427387904 : Int64)), (5, .int x1), (0, .ref v0), (1, .ref v1), (2, .ref v2), (3, .int v3), (4, .ref v4)]) rfl ?_
  refine r_aload_n (pc := 11) C dX1_bestSpeed_11 3 rfl ?_
  refine r_geti (pc := 12) C fL_X1_81 dX1_bestSpeed_12 o_v1 ?_
  refine r_topi (fun x2 ex2 => ?_)
  have h := h x2 ex2
  refine r_istore (pc := 15) C dX1_bestSpeed_15 (by decide) (lv' := [(8, .int x2), (6, .long (4611686018427387904 : Int64)), (5, .int x1), (0, .ref v0), (1, .ref v1), (2, .ref v2), (3, .int v3), (4, .ref v4)]) rfl ?_
  exact r_sub [3, 4, 5, 6, 7, 2, 1, 0] rfl (T_X1_bestSpeed_17 C E ht hn h)
def P_X1_bestSpeed (v0 : Nat) (v1 : Nat) (v2 : Nat) (v3 : Int32) (v4 : Nat) (Q : Int32 → HS → Prop) (S : HS) : Prop := P_X1_bestSpeed_0 Q v0 v1 v2 v3 v4 S
theorem c_X1_bestSpeed {l : Launch} {Ee : EE} {S : HS} {v0 : Nat} {v1 : Nat} {v2 : Nat} {v3 : Int32} {v4 : Nat} {Q : Int32 → HS → Prop} (h : P_X1_bestSpeed v0 v1 v2 v3 v4 Q S) : MI l yX1_bestSpeed cX1_bestSpeed 11 (some .int) rm_X1_bestSpeed Ee S [.ref v0, .ref v1, .ref v2, .int v3, .ref v4] Q :=
  openI (by decide) (Nat.le_of_ble_eq_true rfl) (fun X C E ht hn hE hl => by subst hE; exact r_sub [0, 1, 2, 3, 4] rfl (T_X1_bestSpeed_0 C E ht hn h))
def rm_X1_legsOf : Room := { frames := 0, cells := 0, slots := 0, locals := 0 }
def P_X1_legsOf_0 (Q : Int32 → HS → Prop) (v0 : Nat) (S : HS) : Prop := ob S v0 8 ∧ (∀ x1 : Int32, x1 = fI S v0 3 → (∀ x2 : Int32, x2 = fI S v0 1 → (Q (((x1 * (2 : Int32)) * x2) * (9 : Int32)) S)))
set_option maxRecDepth 20000 in
set_option maxHeartbeats 4000000 in
theorem T_X1_legsOf_0 {X : CX} {Q : Int32 → HS → Prop} (C : Cx X cX1_legsOf RX1 1 rm_X1_legsOf) (E : ReI X rm_X1_legsOf Q) (ht : (xh X).sig.returnType = (some .int)) (hn : (xh X).name = yX1_legsOf.name) {v0 : Nat} {S : HS} (h : P_X1_legsOf_0 Q v0 S) : WS X 1 0 0 0 [(0, .ref v0)] [] S := by
  refine r_aload_n (pc := 0) C dX1_legsOf_0 0 rfl ?_
  obtain ⟨o_v0, h⟩ := h
  refine r_geti (pc := 1) C fL_X1_107 dX1_legsOf_1 o_v0 ?_
  refine r_topi (fun x1 ex1 => ?_)
  have h := h x1 ex1
  refine r_iconst (pc := 4) C (v := (2 : Int32)) dX1_legsOf_4 (by decide) ?_
  refine r_imul (pc := 5) C dX1_legsOf_5 ?_
  refine r_aload_n (pc := 6) C dX1_legsOf_6 0 rfl ?_
  refine r_geti (pc := 7) C fL_X1_112 dX1_legsOf_7 o_v0 ?_
  refine r_topi (fun x2 ex2 => ?_)
  have h := h x2 ex2
  refine r_imul (pc := 10) C dX1_legsOf_10 ?_
  refine r_bipush (pc := 11) C (v := (9 : Int32)) dX1_legsOf_11 (by decide) ?_
  refine r_imul (pc := 13) C dX1_legsOf_13 ?_
  exact r_iret (pc := 14) C E ht dX1_legsOf_14 (by decide) (by decide) h
def P_X1_legsOf (v0 : Nat) (Q : Int32 → HS → Prop) (S : HS) : Prop := P_X1_legsOf_0 Q v0 S
theorem c_X1_legsOf {l : Launch} {Ee : EE} {S : HS} {v0 : Nat} {Q : Int32 → HS → Prop} (h : P_X1_legsOf v0 Q S) : MI l yX1_legsOf cX1_legsOf 1 (some .int) rm_X1_legsOf Ee S [.ref v0] Q :=
  openI (by decide) (Nat.le_of_ble_eq_true rfl) (fun X C E ht hn hE hl => by subst hE; exact r_sub [0] rfl (T_X1_legsOf_0 C E ht hn h))
def rm_X6_canGo : Room := { frames := 0, cells := 0, slots := 0, locals := 0 }
def P_X6_canGo_0 (Q : Int32 → HS → Prop) (v0 : Nat) (v1 : Int32) (S : HS) : Prop := ob S v0 6 ∧ (∀ x1 : Int32, x1 = fI S v0 5 → (((v1 < x1) → (Q (0 : Int32) S)) ∧ ((¬ v1 < x1) → (∀ x3 : Int32, x3 = fI S v0 6 → (((x3 < v1) → (Q (0 : Int32) S)) ∧ ((¬ x3 < v1) → (((v1 < (1 : Int32)) → (Q (0 : Int32) S)) ∧ ((¬ v1 < (1 : Int32)) → ((((9 : Int32) < v1) → (Q (0 : Int32) S)) ∧ ((¬ (9 : Int32) < v1) → (Q (1 : Int32) S)))))))))))
set_option maxRecDepth 20000 in
set_option maxHeartbeats 4000000 in
theorem T_X6_canGo_0 {X : CX} {Q : Int32 → HS → Prop} (C : Cx X cX6_canGo RX6 2 rm_X6_canGo) (E : ReI X rm_X6_canGo (fun r S => bl r ∧ Q r S)) (ht : (xh X).sig.returnType = (some .boolean)) (hn : (xh X).name = yX6_canGo.name) {v0 : Nat} {v1 : Int32} {S : HS} (h : P_X6_canGo_0 Q v0 v1 S) : WS X 2 0 0 0 [(0, .ref v0), (1, .int v1)] [] S := by
  refine r_iload_n (pc := 0) C dX6_canGo_0 1 rfl ?_
  refine r_aload_n (pc := 1) C dX6_canGo_1 0 rfl ?_
  obtain ⟨o_v0, h⟩ := h
  refine r_geti (pc := 2) C fL_X6_27 dX6_canGo_2 o_v0 ?_
  refine r_topi (fun x1 ex1 => ?_)
  have h := h x1 ex1
  refine r_icmp_lt (pc := 5) C (tgt := 31) dX6_canGo_5 (by decide) (fun c2 => ?_) (fun c2 => ?_)
  · have h := h.1 c2
    refine r_iconst (pc := 31) C (v := (0 : Int32)) dX6_canGo_31 (by decide) ?_
    exact r_zret (pc := 32) C E ht dX6_canGo_32 (by decide) (by decide) (Or.inl rfl) h
  · have h := h.2 c2
    refine r_iload_n (pc := 8) C dX6_canGo_8 1 rfl ?_
    refine r_aload_n (pc := 9) C dX6_canGo_9 0 rfl ?_
    refine r_geti (pc := 10) C fL_X6_30 dX6_canGo_10 o_v0 ?_
    refine r_topi (fun x3 ex3 => ?_)
    have h := h x3 ex3
    refine r_icmp_gt (pc := 13) C (tgt := 31) dX6_canGo_13 (by decide) (fun c4 => ?_) (fun c4 => ?_)
    · have h := h.1 c4
      refine r_iconst (pc := 31) C (v := (0 : Int32)) dX6_canGo_31 (by decide) ?_
      exact r_zret (pc := 32) C E ht dX6_canGo_32 (by decide) (by decide) (Or.inl rfl) h
    · have h := h.2 c4
      refine r_iload_n (pc := 16) C dX6_canGo_16 1 rfl ?_
      refine r_iconst (pc := 17) C (v := (1 : Int32)) dX6_canGo_17 (by decide) ?_
      refine r_icmp_lt (pc := 18) C (tgt := 31) dX6_canGo_18 (by decide) (fun c5 => ?_) (fun c5 => ?_)
      · have h := h.1 c5
        refine r_iconst (pc := 31) C (v := (0 : Int32)) dX6_canGo_31 (by decide) ?_
        exact r_zret (pc := 32) C E ht dX6_canGo_32 (by decide) (by decide) (Or.inl rfl) h
      · have h := h.2 c5
        refine r_iload_n (pc := 21) C dX6_canGo_21 1 rfl ?_
        refine r_bipush (pc := 22) C (v := (9 : Int32)) dX6_canGo_22 (by decide) ?_
        refine r_icmp_gt (pc := 24) C (tgt := 31) dX6_canGo_24 (by decide) (fun c6 => ?_) (fun c6 => ?_)
        · have h := h.1 c6
          refine r_iconst (pc := 31) C (v := (0 : Int32)) dX6_canGo_31 (by decide) ?_
          exact r_zret (pc := 32) C E ht dX6_canGo_32 (by decide) (by decide) (Or.inl rfl) h
        · have h := h.2 c6
          refine r_iconst (pc := 27) C (v := (1 : Int32)) dX6_canGo_27 (by decide) ?_
          refine r_goto (pc := 28) C (tgt := 32) dX6_canGo_28 (by decide) ?_
          exact r_zret (pc := 32) C E ht dX6_canGo_32 (by decide) (by decide) (Or.inr rfl) h
def P_X6_canGo (v0 : Nat) (v1 : Int32) (Q : Int32 → HS → Prop) (S : HS) : Prop := P_X6_canGo_0 Q v0 v1 S
theorem c_X6_canGo {l : Launch} {Ee : EE} {S : HS} {v0 : Nat} {v1 : Int32} {Q : Int32 → HS → Prop} (h : P_X6_canGo v0 v1 Q S) : MI l yX6_canGo cX6_canGo 2 (some .boolean) rm_X6_canGo Ee S [.ref v0, .int v1] (fun r S => bl r ∧ Q r S) :=
  openI (by decide) (Nat.le_of_ble_eq_true rfl) (fun X C E ht hn hE hl => by subst hE; exact r_sub [0, 1] rfl (T_X6_canGo_0 C E ht hn h))
def rm_X8_hasRoad : Room := { frames := 0, cells := 0, slots := 0, locals := 0 }
def P_X8_hasRoad_0 (Q : Int32 → HS → Prop) (v0 : Nat) (v1 : Int32) (S : HS) : Prop := ((v1 < 0) → (Q (0 : Int32) S)) ∧ ((¬ v1 < 0) → (ob S v0 8 ∧ (∀ x2 : Int32, x2 = fI S v0 3 → (((x2 ≤ v1) → (Q (0 : Int32) S)) ∧ ((¬ x2 ≤ v1) → (∃ a4 : Nat, fR S v0 8 = some a4 ∧ (ob S a4 18 ∧ ((((nI (hN S a4)) ≤ v1) → (Q (0 : Int32) S)) ∧ ((¬ (nI (hN S a4)) ≤ v1) → (Q (1 : Int32) S))))))))))
set_option maxRecDepth 20000 in
set_option maxHeartbeats 4000000 in
theorem T_X8_hasRoad_0 {X : CX} {Q : Int32 → HS → Prop} (C : Cx X cX8_hasRoad RX8 2 rm_X8_hasRoad) (E : ReI X rm_X8_hasRoad (fun r S => bl r ∧ Q r S)) (ht : (xh X).sig.returnType = (some .boolean)) (hn : (xh X).name = yX8_hasRoad.name) {v0 : Nat} {v1 : Int32} {S : HS} (h : P_X8_hasRoad_0 Q v0 v1 S) : WS X 2 0 0 0 [(0, .ref v0), (1, .int v1)] [] S := by
  refine r_iload_n (pc := 0) C dX8_hasRoad_0 1 rfl ?_
  refine r_if_lt (pc := 1) C (tgt := 25) dX8_hasRoad_1 (by decide) (fun c1 => ?_) (fun c1 => ?_)
  · have h := h.1 c1
    refine r_iconst (pc := 25) C (v := (0 : Int32)) dX8_hasRoad_25 (by decide) ?_
    exact r_zret (pc := 26) C E ht dX8_hasRoad_26 (by decide) (by decide) (Or.inl rfl) h
  · have h := h.2 c1
    refine r_iload_n (pc := 4) C dX8_hasRoad_4 1 rfl ?_
    refine r_aload_n (pc := 5) C dX8_hasRoad_5 0 rfl ?_
    obtain ⟨o_v0, h⟩ := h
    refine r_geti (pc := 6) C fL_X8_52 dX8_hasRoad_6 o_v0 ?_
    refine r_topi (fun x2 ex2 => ?_)
    have h := h x2 ex2
    refine r_icmp_ge (pc := 9) C (tgt := 25) dX8_hasRoad_9 (by decide) (fun c3 => ?_) (fun c3 => ?_)
    · have h := h.1 c3
      refine r_iconst (pc := 25) C (v := (0 : Int32)) dX8_hasRoad_25 (by decide) ?_
      exact r_zret (pc := 26) C E ht dX8_hasRoad_26 (by decide) (by decide) (Or.inl rfl) h
    · have h := h.2 c3
      refine r_iload_n (pc := 12) C dX8_hasRoad_12 1 rfl ?_
      refine r_aload_n (pc := 13) C dX8_hasRoad_13 0 rfl ?_
      obtain ⟨a4, ea4, h⟩ := h
      refine r_getr (pc := 14) C fL_X8_23 dX8_hasRoad_14 o_v0 ea4 ?_
      obtain ⟨o_a4, h⟩ := h
      refine r_alen18 (pc := 17) C dX8_hasRoad_17 o_a4 ?_
      refine r_icmp_ge (pc := 18) C (tgt := 25) dX8_hasRoad_18 (by decide) (fun c5 => ?_) (fun c5 => ?_)
      · have h := h.1 c5
        refine r_iconst (pc := 25) C (v := (0 : Int32)) dX8_hasRoad_25 (by decide) ?_
        exact r_zret (pc := 26) C E ht dX8_hasRoad_26 (by decide) (by decide) (Or.inl rfl) h
      · have h := h.2 c5
        refine r_iconst (pc := 21) C (v := (1 : Int32)) dX8_hasRoad_21 (by decide) ?_
        refine r_goto (pc := 22) C (tgt := 26) dX8_hasRoad_22 (by decide) ?_
        exact r_zret (pc := 26) C E ht dX8_hasRoad_26 (by decide) (by decide) (Or.inr rfl) h
def P_X8_hasRoad (v0 : Nat) (v1 : Int32) (Q : Int32 → HS → Prop) (S : HS) : Prop := P_X8_hasRoad_0 Q v0 v1 S
theorem c_X8_hasRoad {l : Launch} {Ee : EE} {S : HS} {v0 : Nat} {v1 : Int32} {Q : Int32 → HS → Prop} (h : P_X8_hasRoad v0 v1 Q S) : MI l yX8_hasRoad cX8_hasRoad 2 (some .boolean) rm_X8_hasRoad Ee S [.ref v0, .int v1] (fun r S => bl r ∧ Q r S) :=
  openI (by decide) (Nat.le_of_ble_eq_true rfl) (fun X C E ht hn hE hl => by subst hE; exact r_sub [0, 1] rfl (T_X8_hasRoad_0 C E ht hn h))
def rm_X8_hasSeen : Room := { frames := 0, cells := 0, slots := 0, locals := 0 }
def P_X8_hasSeen_0 (Q : Int32 → HS → Prop) (v0 : Nat) (v1 : Int32) (S : HS) : Prop := ((v1 < 0) → (Q (0 : Int32) S)) ∧ ((¬ v1 < 0) → (ob S v0 8 ∧ (∀ x2 : Int32, x2 = fI S v0 5 → (((x2 ≤ v1) → (Q (0 : Int32) S)) ∧ ((¬ x2 ≤ v1) → (∃ a4 : Nat, fR S v0 10 = some a4 ∧ (ob S a4 13 ∧ ((((nI (hN S a4)) ≤ v1) → (Q (0 : Int32) S)) ∧ ((¬ (nI (hN S a4)) ≤ v1) → (Q (1 : Int32) S))))))))))
set_option maxRecDepth 20000 in
set_option maxHeartbeats 4000000 in
theorem T_X8_hasSeen_0 {X : CX} {Q : Int32 → HS → Prop} (C : Cx X cX8_hasSeen RX8 2 rm_X8_hasSeen) (E : ReI X rm_X8_hasSeen (fun r S => bl r ∧ Q r S)) (ht : (xh X).sig.returnType = (some .boolean)) (hn : (xh X).name = yX8_hasSeen.name) {v0 : Nat} {v1 : Int32} {S : HS} (h : P_X8_hasSeen_0 Q v0 v1 S) : WS X 2 0 0 0 [(0, .ref v0), (1, .int v1)] [] S := by
  refine r_iload_n (pc := 0) C dX8_hasSeen_0 1 rfl ?_
  refine r_if_lt (pc := 1) C (tgt := 25) dX8_hasSeen_1 (by decide) (fun c1 => ?_) (fun c1 => ?_)
  · have h := h.1 c1
    refine r_iconst (pc := 25) C (v := (0 : Int32)) dX8_hasSeen_25 (by decide) ?_
    exact r_zret (pc := 26) C E ht dX8_hasSeen_26 (by decide) (by decide) (Or.inl rfl) h
  · have h := h.2 c1
    refine r_iload_n (pc := 4) C dX8_hasSeen_4 1 rfl ?_
    refine r_aload_n (pc := 5) C dX8_hasSeen_5 0 rfl ?_
    obtain ⟨o_v0, h⟩ := h
    refine r_geti (pc := 6) C fL_X8_58 dX8_hasSeen_6 o_v0 ?_
    refine r_topi (fun x2 ex2 => ?_)
    have h := h x2 ex2
    refine r_icmp_ge (pc := 9) C (tgt := 25) dX8_hasSeen_9 (by decide) (fun c3 => ?_) (fun c3 => ?_)
    · have h := h.1 c3
      refine r_iconst (pc := 25) C (v := (0 : Int32)) dX8_hasSeen_25 (by decide) ?_
      exact r_zret (pc := 26) C E ht dX8_hasSeen_26 (by decide) (by decide) (Or.inl rfl) h
    · have h := h.2 c3
      refine r_iload_n (pc := 12) C dX8_hasSeen_12 1 rfl ?_
      refine r_aload_n (pc := 13) C dX8_hasSeen_13 0 rfl ?_
      obtain ⟨a4, ea4, h⟩ := h
      refine r_getr (pc := 14) C fL_X8_33 dX8_hasSeen_14 o_v0 ea4 ?_
      obtain ⟨o_a4, h⟩ := h
      refine r_alen13 (pc := 17) C dX8_hasSeen_17 o_a4 ?_
      refine r_icmp_ge (pc := 18) C (tgt := 25) dX8_hasSeen_18 (by decide) (fun c5 => ?_) (fun c5 => ?_)
      · have h := h.1 c5
        refine r_iconst (pc := 25) C (v := (0 : Int32)) dX8_hasSeen_25 (by decide) ?_
        exact r_zret (pc := 26) C E ht dX8_hasSeen_26 (by decide) (by decide) (Or.inl rfl) h
      · have h := h.2 c5
        refine r_iconst (pc := 21) C (v := (1 : Int32)) dX8_hasSeen_21 (by decide) ?_
        refine r_goto (pc := 22) C (tgt := 26) dX8_hasSeen_22 (by decide) ?_
        exact r_zret (pc := 26) C E ht dX8_hasSeen_26 (by decide) (by decide) (Or.inr rfl) h
def P_X8_hasSeen (v0 : Nat) (v1 : Int32) (Q : Int32 → HS → Prop) (S : HS) : Prop := P_X8_hasSeen_0 Q v0 v1 S
theorem c_X8_hasSeen {l : Launch} {Ee : EE} {S : HS} {v0 : Nat} {v1 : Int32} {Q : Int32 → HS → Prop} (h : P_X8_hasSeen v0 v1 Q S) : MI l yX8_hasSeen cX8_hasSeen 2 (some .boolean) rm_X8_hasSeen Ee S [.ref v0, .int v1] (fun r S => bl r ∧ Q r S) :=
  openI (by decide) (Nat.le_of_ble_eq_true rfl) (fun X C E ht hn hE hl => by subst hE; exact r_sub [0, 1] rfl (T_X8_hasSeen_0 C E ht hn h))
def rm_X8_hasWalker : Room := { frames := 0, cells := 0, slots := 0, locals := 0 }
def P_X8_hasWalker_0 (Q : Int32 → HS → Prop) (v0 : Nat) (v1 : Int32) (S : HS) : Prop := ((v1 < 0) → (Q (0 : Int32) S)) ∧ ((¬ v1 < 0) → (ob S v0 8 ∧ (∀ x2 : Int32, x2 = fI S v0 4 → (((x2 ≤ v1) → (Q (0 : Int32) S)) ∧ ((¬ x2 ≤ v1) → (∃ a4 : Nat, fR S v0 9 = some a4 ∧ (ob S a4 19 ∧ ((((nI (hN S a4)) ≤ v1) → (Q (0 : Int32) S)) ∧ ((¬ (nI (hN S a4)) ≤ v1) → (Q (1 : Int32) S))))))))))
set_option maxRecDepth 20000 in
set_option maxHeartbeats 4000000 in
theorem T_X8_hasWalker_0 {X : CX} {Q : Int32 → HS → Prop} (C : Cx X cX8_hasWalker RX8 2 rm_X8_hasWalker) (E : ReI X rm_X8_hasWalker (fun r S => bl r ∧ Q r S)) (ht : (xh X).sig.returnType = (some .boolean)) (hn : (xh X).name = yX8_hasWalker.name) {v0 : Nat} {v1 : Int32} {S : HS} (h : P_X8_hasWalker_0 Q v0 v1 S) : WS X 2 0 0 0 [(0, .ref v0), (1, .int v1)] [] S := by
  refine r_iload_n (pc := 0) C dX8_hasWalker_0 1 rfl ?_
  refine r_if_lt (pc := 1) C (tgt := 25) dX8_hasWalker_1 (by decide) (fun c1 => ?_) (fun c1 => ?_)
  · have h := h.1 c1
    refine r_iconst (pc := 25) C (v := (0 : Int32)) dX8_hasWalker_25 (by decide) ?_
    exact r_zret (pc := 26) C E ht dX8_hasWalker_26 (by decide) (by decide) (Or.inl rfl) h
  · have h := h.2 c1
    refine r_iload_n (pc := 4) C dX8_hasWalker_4 1 rfl ?_
    refine r_aload_n (pc := 5) C dX8_hasWalker_5 0 rfl ?_
    obtain ⟨o_v0, h⟩ := h
    refine r_geti (pc := 6) C fL_X8_55 dX8_hasWalker_6 o_v0 ?_
    refine r_topi (fun x2 ex2 => ?_)
    have h := h x2 ex2
    refine r_icmp_ge (pc := 9) C (tgt := 25) dX8_hasWalker_9 (by decide) (fun c3 => ?_) (fun c3 => ?_)
    · have h := h.1 c3
      refine r_iconst (pc := 25) C (v := (0 : Int32)) dX8_hasWalker_25 (by decide) ?_
      exact r_zret (pc := 26) C E ht dX8_hasWalker_26 (by decide) (by decide) (Or.inl rfl) h
    · have h := h.2 c3
      refine r_iload_n (pc := 12) C dX8_hasWalker_12 1 rfl ?_
      refine r_aload_n (pc := 13) C dX8_hasWalker_13 0 rfl ?_
      obtain ⟨a4, ea4, h⟩ := h
      refine r_getr (pc := 14) C fL_X8_29 dX8_hasWalker_14 o_v0 ea4 ?_
      obtain ⟨o_a4, h⟩ := h
      refine r_alen19 (pc := 17) C dX8_hasWalker_17 o_a4 ?_
      refine r_icmp_ge (pc := 18) C (tgt := 25) dX8_hasWalker_18 (by decide) (fun c5 => ?_) (fun c5 => ?_)
      · have h := h.1 c5
        refine r_iconst (pc := 25) C (v := (0 : Int32)) dX8_hasWalker_25 (by decide) ?_
        exact r_zret (pc := 26) C E ht dX8_hasWalker_26 (by decide) (by decide) (Or.inl rfl) h
      · have h := h.2 c5
        refine r_iconst (pc := 21) C (v := (1 : Int32)) dX8_hasWalker_21 (by decide) ?_
        refine r_goto (pc := 22) C (tgt := 26) dX8_hasWalker_22 (by decide) ?_
        exact r_zret (pc := 26) C E ht dX8_hasWalker_26 (by decide) (by decide) (Or.inr rfl) h
def P_X8_hasWalker (v0 : Nat) (v1 : Int32) (Q : Int32 → HS → Prop) (S : HS) : Prop := P_X8_hasWalker_0 Q v0 v1 S
theorem c_X8_hasWalker {l : Launch} {Ee : EE} {S : HS} {v0 : Nat} {v1 : Int32} {Q : Int32 → HS → Prop} (h : P_X8_hasWalker v0 v1 Q S) : MI l yX8_hasWalker cX8_hasWalker 2 (some .boolean) rm_X8_hasWalker Ee S [.ref v0, .int v1] (fun r S => bl r ∧ Q r S) :=
  openI (by decide) (Nat.le_of_ble_eq_true rfl) (fun X C E ht hn hE hl => by subst hE; exact r_sub [0, 1] rfl (T_X8_hasWalker_0 C E ht hn h))
def rm_X1_fitCode : Room := { frames := 4, cells := 0, slots := 0, locals := 101 }
def B_X1_fitCode_141 (Q : Int32 → HS → Prop) (X141 : Nat → Nat → Int32 → Int32 → Int32 → Int32 → Int32 → HS → Prop) (v0 : Nat) (v1 : Nat) (v2 : Int32) (v4 : Int32) (v5 : Int32) (v6 : Int32) (v8 : Int32) (S : HS) : Prop := (((5 : Int32) ≤ v8) → (∀ x2 : Int32, x2 = v6 / (2 : Int32) → (∀ x3 : Int32, x3 = v6 - v6 / (2 : Int32) * (2 : Int32) → (Q (((((1000 : Int32) * x2) + ((100 : Int32) * x3)) + ((10 : Int32) * v5)) + v4) S)))) ∧ ((¬ (5 : Int32) ≤ v8) → (ob S v0 1 ∧ (∃ a4 : Nat, fR S v0 0 = some a4 ∧ (ob S a4 14 ∧ (vp_in v8 (hN S a4) ∧ ∀ x6 : Int64, x6 = fJ S a4 v8.toNatClampNeg → (ob S v1 8 ∧ (∃ a7 : Nat, fR S v1 11 = some a7 ∧ (ob S a7 13 ∧ (∀ x9 : Int32, x9 = (v2 * (5 : Int32)) + v8 → (vp_in x9 (hN S a7) ∧ ∀ x10 : Int32, x10 = fI S a7 x9.toNatClampNeg → ((((lg_cmp x6 (x10.toInt64 * (2520 : Int64))) = 0) → (∀ x12 : Int32, x12 = v8 + (1 : Int32) → (X141 v0 v1 v2 v4 v5 v6 x12 S))) ∧ ((¬ (lg_cmp x6 (x10.toInt64 * (2520 : Int64))) = 0) → (Q (-1 : Int32) S)))))))))))))
def P_X1_fitCode_141 (Q : Int32 → HS → Prop) (v0 : Nat) (v1 : Nat) (v2 : Int32) (v4 : Int32) (v5 : Int32) (v6 : Int32) (v8 : Int32) (S : HS) : Prop := ∀ X141 : Nat → Nat → Int32 → Int32 → Int32 → Int32 → Int32 → HS → Prop, (∀ (v0 : Nat) (v1 : Nat) (v2 : Int32) (v4 : Int32) (v5 : Int32) (v6 : Int32) (v8 : Int32) (S : HS), B_X1_fitCode_141 Q X141 v0 v1 v2 v4 v5 v6 v8 S → X141 v0 v1 v2 v4 v5 v6 v8 S) → X141 v0 v1 v2 v4 v5 v6 v8 S
set_option maxRecDepth 20000 in
set_option maxHeartbeats 4000000 in
theorem TB_X1_fitCode_141 {X : CX} {Q : Int32 → HS → Prop} (C : Cx X cX1_fitCode RX1 9 rm_X1_fitCode) (E : ReI X rm_X1_fitCode Q) (ht : (xh X).sig.returnType = (some .int)) (hn : (xh X).name = yX1_fitCode.name) {X141 : Nat → Nat → Int32 → Int32 → Int32 → Int32 → Int32 → HS → Prop} (hX141 : ∀ (v0 : Nat) (v1 : Nat) (v2 : Int32) (v4 : Int32) (v5 : Int32) (v6 : Int32) (v8 : Int32) (S : HS), X141 v0 v1 v2 v4 v5 v6 v8 S → WS X 9 0 0 141 [(0, .ref v0), (1, .ref v1), (2, .int v2), (4, .int v4), (5, .int v5), (6, .int v6), (8, .int v8)] [] S) {v0 : Nat} {v1 : Nat} {v2 : Int32} {v4 : Int32} {v5 : Int32} {v6 : Int32} {v8 : Int32} {S : HS} (h : B_X1_fitCode_141 Q X141 v0 v1 v2 v4 v5 v6 v8 S) : WS X 9 0 0 141 [(0, .ref v0), (1, .ref v1), (2, .int v2), (4, .int v4), (5, .int v5), (6, .int v6), (8, .int v8)] [] S := by
  refine r_iload (pc := 141) C dX1_fitCode_141 6 rfl ?_
  refine r_iconst (pc := 143) C (v := (5 : Int32)) dX1_fitCode_143 (by decide) ?_
  refine r_icmp_ge (pc := 144) C (tgt := 182) dX1_fitCode_144 (by decide) (fun c1 => ?_) (fun c1 => ?_)
  · have h := h.1 c1
    refine r_sipush (pc := 182) C (v := (1000 : Int32)) dX1_fitCode_182 (by decide) ?_
    refine r_iload (pc := 185) C dX1_fitCode_185 5 rfl ?_
    refine r_iconst (pc := 187) C (v := (2 : Int32)) dX1_fitCode_187 (by decide) ?_
    refine r_idiv (pc := 188) C dX1_fitCode_188 (by decide) ?_
    refine r_topi (fun x2 ex2 => ?_)
    have h := h x2 ex2
    refine r_imul (pc := 189) C dX1_fitCode_189 ?_
    refine r_bipush (pc := 190) C (v := (100 : Int32)) dX1_fitCode_190 (by decide) ?_
    refine r_iload (pc := 192) C dX1_fitCode_192 5 rfl ?_
    refine r_iconst (pc := 194) C (v := (2 : Int32)) dX1_fitCode_194 (by decide) ?_
    refine r_irem (pc := 195) C dX1_fitCode_195 (by decide) ?_
    refine r_topi (fun x3 ex3 => ?_)
    have h := h x3 ex3
    refine r_imul (pc := 196) C dX1_fitCode_196 ?_
    refine r_iadd (pc := 197) C dX1_fitCode_197 ?_
    refine r_bipush (pc := 198) C (v := (10 : Int32)) dX1_fitCode_198 (by decide) ?_
    refine r_iload (pc := 200) C dX1_fitCode_200 4 rfl ?_
    refine r_imul (pc := 202) C dX1_fitCode_202 ?_
    refine r_iadd (pc := 203) C dX1_fitCode_203 ?_
    refine r_iload (pc := 204) C dX1_fitCode_204 3 rfl ?_
    refine r_iadd (pc := 206) C dX1_fitCode_206 ?_
    exact r_iret (pc := 207) C E ht dX1_fitCode_207 (by decide) (by decide) h
  · have h := h.2 c1
    refine r_aload_n (pc := 147) C dX1_fitCode_147 0 rfl ?_
    obtain ⟨o_v0, h⟩ := h
    obtain ⟨a4, ea4, h⟩ := h
    refine r_getr (pc := 148) C fL_X1_9 dX1_fitCode_148 o_v0 ea4 ?_
    refine r_iload (pc := 151) C dX1_fitCode_151 6 rfl ?_
    obtain ⟨o_a4, h⟩ := h
    obtain ⟨i5, h⟩ := h
    refine r_lald (pc := 153) C dX1_fitCode_153 o_a4 i5 ?_
    refine r_topl (fun x6 ex6 => ?_)
    have h := h x6 ex6
    refine r_aload_n (pc := 154) C dX1_fitCode_154 1 rfl ?_
    obtain ⟨o_v1, h⟩ := h
    obtain ⟨a7, ea7, h⟩ := h
    refine r_getr (pc := 155) C fL_X1_144 dX1_fitCode_155 o_v1 ea7 ?_
    refine r_iload_n (pc := 158) C dX1_fitCode_158 2 rfl ?_
    refine r_iconst (pc := 159) C (v := (5 : Int32)) dX1_fitCode_159 (by decide) ?_
    refine r_imul (pc := 160) C dX1_fitCode_160 ?_
    refine r_iload (pc := 161) C dX1_fitCode_161 6 rfl ?_
    refine r_iadd (pc := 163) C dX1_fitCode_163 ?_
    obtain ⟨o_a7, h⟩ := h
    refine r_topi (fun x9 ex9 => ?_)
    have h := h x9 ex9
    obtain ⟨i8, h⟩ := h
    refine r_iald (pc := 164) C dX1_fitCode_164 o_a7 i8 ?_
    refine r_topi (fun x10 ex10 => ?_)
    have h := h x10 ex10
    refine r_i2l (pc := 165) C dX1_fitCode_165 ?_
    refine r_ldc2 (pc := 166) C (v := (2520 : Int64)) dX1_fitCode_166 g_948 ?_
    refine r_lmul (pc := 169) C dX1_fitCode_169 ?_
    refine r_lcmp (pc := 170) C dX1_fitCode_170 ?_
    refine r_if_eq (pc := 171) C (tgt := 176) dX1_fitCode_171 (by decide) (fun c11 => ?_) (fun c11 => ?_)
    · have h := h.1 c11
      obtain ⟨x12, ex12⟩ : ∃ z : Int32, z = v8 + (1 : Int32) := ⟨_, rfl⟩
      have h := h x12 ex12
      refine r_iinc (pc := 176) C (v := x12) (lv' := [(8, .int x12), (0, .ref v0), (1, .ref v1), (2, .int v2), (4, .int v4), (5, .int v5), (6, .int v6)]) dX1_fitCode_176 6 rfl ex12.symm (by decide) rfl ?_
      refine r_goto (pc := 179) C (tgt := 141) dX1_fitCode_179 (by decide) ?_
      exact r_sub [1, 2, 3, 4, 5, 6, 0] rfl (hX141 v0 v1 v2 v4 v5 v6 x12 S h)
    · have h := h.2 c11
      refine r_iconst (pc := 174) C (v := (-1 : Int32)) dX1_fitCode_174 (by decide) ?_
      exact r_iret (pc := 175) C E ht dX1_fitCode_175 (by decide) (by decide) h
theorem T_X1_fitCode_141 {X : CX} {Q : Int32 → HS → Prop} (C : Cx X cX1_fitCode RX1 9 rm_X1_fitCode) (E : ReI X rm_X1_fitCode Q) (ht : (xh X).sig.returnType = (some .int)) (hn : (xh X).name = yX1_fitCode.name) {v0 : Nat} {v1 : Nat} {v2 : Int32} {v4 : Int32} {v5 : Int32} {v6 : Int32} {v8 : Int32} {S : HS} (h : P_X1_fitCode_141 Q v0 v1 v2 v4 v5 v6 v8 S) : WS X 9 0 0 141 [(0, .ref v0), (1, .ref v1), (2, .int v2), (4, .int v4), (5, .int v5), (6, .int v6), (8, .int v8)] [] S :=
  h (fun v0 v1 v2 v4 v5 v6 v8 S => WS X 9 0 0 141 [(0, .ref v0), (1, .ref v1), (2, .int v2), (4, .int v4), (5, .int v5), (6, .int v6), (8, .int v8)] [] S) (fun v0 v1 v2 v4 v5 v6 v8 S hh => TB_X1_fitCode_141 C E ht hn (fun v0 v1 v2 v4 v5 v6 v8 S z => z) hh)
def P_X1_fitCode_0 (Q : Int32 → HS → Prop) (v0 : Nat) (v1 : Nat) (v2 : Int32) (v3 : Int32) (S : HS) : Prop := ((v3 < 0) → (Q (-1 : Int32) S)) ∧ ((¬ v3 < 0) → (P_X1_legsOf v1 (fun x4 S2 => Gr S S2 → (((x4 ≤ v3) → (Q (-1 : Int32) S2)) ∧ ((¬ x4 ≤ v3) → (ob S2 v1 8 ∧ (P_X8_hasSeen v1 v2 (fun x8 S6 => Gr S2 S6 → bl x8 → (((x8 = 0) → (Q (-1 : Int32) S6)) ∧ ((¬ x8 = 0) → (∀ x10 : Int32, x10 = fI S6 v1 1 → (((0 < x10) → (∀ x12 : Int32, x12 = v3 - v3 / (9 : Int32) * (9 : Int32) → (∀ x13 : Int32, x13 = x12 + (1 : Int32) → (∀ x14 : Int32, x14 = v3 / (9 : Int32) → (∀ x15 : Int32, x15 = fI S6 v1 1 → (¬ x15 = 0 ∧ ∀ x17 : Int32, x17 = x14 - x14 / x15 * x15 → (∀ x18 : Int32, x18 = v3 / (9 : Int32) → (∀ x19 : Int32, x19 = fI S6 v1 1 → (¬ x19 = 0 ∧ ∀ x21 : Int32, x21 = x18 / x19 → (∃ a22 : Nat, fR S6 v1 10 = some a22 ∧ (ob S6 a22 13 ∧ (vp_in v2 (hN S6 a22) ∧ ∀ x24 : Int32, x24 = fI S6 a22 v2.toNatClampNeg → (P_X8_hasWalker v1 x24 (fun x27 S25 => Gr S6 S25 → bl x27 → (((x27 = 0) → (Q (-1 : Int32) S25)) ∧ ((¬ x27 = 0) → (∀ x29 : Int32, x29 = x21 / (2 : Int32) → (P_X8_hasRoad v1 x29 (fun x32 S30 => Gr S25 S30 → bl x32 → (((x32 = 0) → (Q (-1 : Int32) S30)) ∧ ((¬ x32 = 0) → (∃ a34 : Nat, fR S30 v1 9 = some a34 ∧ (ob S30 a34 19 ∧ (vp_in x24 (hN S30 a34) ∧ ∃ a36 : Nat, fR S30 a34 x24.toNatClampNeg = some a36 ∧ (ob S30 a36 6 ∧ (P_X6_canGo a36 x13 (fun x39 S37 => Gr S30 S37 → bl x39 → (((¬ x39 = 0) → (∃ a41 : Nat, fR S37 v1 9 = some a41 ∧ (ob S37 a41 19 ∧ (vp_in x24 (hN S37 a41) ∧ ∃ a43 : Nat, fR S37 a41 x24.toNatClampNeg = some a43 ∧ (∃ a44 : Nat, fR S37 v1 8 = some a44 ∧ (∀ x45 : Int32, x45 = x21 / (2 : Int32) → (ob S37 a44 18 ∧ (vp_in x45 (hN S37 a44) ∧ ∃ a47 : Nat, fR S37 a44 x45.toNatClampNeg = some a47 ∧ (∀ x48 : Int32, x48 = x21 - x21 / (2 : Int32) * (2 : Int32) → (∃ a49 : Nat, fR S37 v1 6 = some a49 ∧ (ob S37 a49 17 ∧ (vp_in x17 (hN S37 a49) ∧ ∃ a51 : Nat, fR S37 a49 x17.toNatClampNeg = some a51 ∧ (ob S37 v0 1 ∧ (P_X1_wetOf v0 a43 a47 x48 a51 x13 (fun x54 S52 => Gr S37 S52 → (P_X1_fitCode_141 Q v0 v1 v2 x13 x17 x21 (0 : Int32) S52)) S37)))))))))))))) ∧ ((x39 = 0) → (Q (-1 : Int32) S37)))) S30)))))))) S25))))) S6))))))))))))) ∧ ((¬ 0 < x10) → (Q (-1 : Int32) S6))))))) S2))))) S))
set_option maxRecDepth 20000 in
set_option maxHeartbeats 4000000 in
theorem T_X1_fitCode_0 {X : CX} {Q : Int32 → HS → Prop} (C : Cx X cX1_fitCode RX1 9 rm_X1_fitCode) (E : ReI X rm_X1_fitCode Q) (ht : (xh X).sig.returnType = (some .int)) (hn : (xh X).name = yX1_fitCode.name) {v0 : Nat} {v1 : Nat} {v2 : Int32} {v3 : Int32} {S : HS} (h : P_X1_fitCode_0 Q v0 v1 v2 v3 S) : WS X 9 0 0 0 [(0, .ref v0), (1, .ref v1), (2, .int v2), (3, .int v3)] [] S := by
  refine r_iload_n (pc := 0) C dX1_fitCode_0 3 rfl ?_
  refine r_if_lt (pc := 1) C (tgt := 27) dX1_fitCode_1 (by decide) (fun c1 => ?_) (fun c1 => ?_)
  · have h := h.1 c1
    refine r_iconst (pc := 27) C (v := (-1 : Int32)) dX1_fitCode_27 (by decide) ?_
    exact r_iret (pc := 28) C E ht dX1_fitCode_28 (by decide) (by decide) h
  · have h := h.2 c1
    refine r_iload_n (pc := 4) C dX1_fitCode_4 3 rfl ?_
    refine r_aload_n (pc := 5) C dX1_fitCode_5 1 rfl ?_
    refine r_callSi0 (pc := 6) C (rest := [.int v3]) rfl [.ref v1] yS_X1_legsOf g_937 (c_X1_legsOf h) dX1_fitCode_6 rfl rfl (Nat.le_of_ble_eq_true rfl) ⟨by decide, by decide⟩ ⟨by decide, by decide⟩ ⟨rfl, rfl⟩ (fun x4 S2 h g3 => ?_)
    have h := h g3
    refine r_icmp_ge (pc := 9) C (tgt := 27) dX1_fitCode_9 (by decide) (fun c5 => ?_) (fun c5 => ?_)
    · have h := h.1 c5
      refine r_iconst (pc := 27) C (v := (-1 : Int32)) dX1_fitCode_27 (by decide) ?_
      exact r_iret (pc := 28) C E ht dX1_fitCode_28 (by decide) (by decide) h
    · have h := h.2 c5
      refine r_aload_n (pc := 12) C dX1_fitCode_12 1 rfl ?_
      refine r_iload_n (pc := 13) C dX1_fitCode_13 2 rfl ?_
      obtain ⟨o_v1, h⟩ := h
      refine r_callVi0 (pc := 14) C (rest := []) (a := v1) o_v1 [.int v2] yV_X8_hasSeen g_944 (c_X8_hasSeen h) dX1_fitCode_14 rfl rfl (Nat.le_of_ble_eq_true rfl) ⟨by decide, by decide⟩ ⟨by decide, by decide⟩ ⟨rfl, rfl⟩ (fun x8 S6 h g7 => ?_)
      have bx8 := h.1
      have h := h.2 g7 bx8
      have o_v1 := gr_ob g7 o_v1
      refine r_if_eq (pc := 17) C (tgt := 27) dX1_fitCode_17 (by decide) (fun c9 => ?_) (fun c9 => ?_)
      · have h := h.1 c9
        refine r_iconst (pc := 27) C (v := (-1 : Int32)) dX1_fitCode_27 (by decide) ?_
        exact r_iret (pc := 28) C E ht dX1_fitCode_28 (by decide) (by decide) h
      · have h := h.2 c9
        refine r_aload_n (pc := 20) C dX1_fitCode_20 1 rfl ?_
        refine r_geti (pc := 21) C fL_X1_112 dX1_fitCode_21 o_v1 ?_
        refine r_topi (fun x10 ex10 => ?_)
        have h := h x10 ex10
        refine r_if_gt (pc := 24) C (tgt := 29) dX1_fitCode_24 (by decide) (fun c11 => ?_) (fun c11 => ?_)
        · have h := h.1 c11
          refine r_iload_n (pc := 29) C dX1_fitCode_29 3 rfl ?_
          refine r_bipush (pc := 30) C (v := (9 : Int32)) dX1_fitCode_30 (by decide) ?_
          refine r_irem (pc := 32) C dX1_fitCode_32 (by decide) ?_
          refine r_topi (fun x12 ex12 => ?_)
          have h := h x12 ex12
          refine r_iconst (pc := 33) C (v := (1 : Int32)) dX1_fitCode_33 (by decide) ?_
          refine r_iadd (pc := 34) C dX1_fitCode_34 ?_
          refine r_topi (fun x13 ex13 => ?_)
          have h := h x13 ex13
          refine r_istore (pc := 35) C dX1_fitCode_35 (by decide) (lv' := [(4, .int x13), (0, .ref v0), (1, .ref v1), (2, .int v2), (3, .int v3)]) rfl ?_
          refine r_iload_n (pc := 37) C dX1_fitCode_37 4 rfl ?_
          refine r_bipush (pc := 38) C (v := (9 : Int32)) dX1_fitCode_38 (by decide) ?_
          refine r_idiv (pc := 40) C dX1_fitCode_40 (by decide) ?_
          refine r_topi (fun x14 ex14 => ?_)
          have h := h x14 ex14
          refine r_aload_n (pc := 41) C dX1_fitCode_41 2 rfl ?_
          refine r_geti (pc := 42) C fL_X1_112 dX1_fitCode_42 o_v1 ?_
          refine r_topi (fun x15 ex15 => ?_)
          have h := h x15 ex15
          obtain ⟨q16, h⟩ := h
          refine r_irem (pc := 45) C dX1_fitCode_45 q16 ?_
          refine r_topi (fun x17 ex17 => ?_)
          have h := h x17 ex17
          refine r_istore (pc := 46) C dX1_fitCode_46 (by decide) (lv' := [(5, .int x17), (4, .int x13), (0, .ref v0), (1, .ref v1), (2, .int v2), (3, .int v3)]) rfl ?_
          refine r_iload_n (pc := 48) C dX1_fitCode_48 5 rfl ?_
          refine r_bipush (pc := 49) C (v := (9 : Int32)) dX1_fitCode_49 (by decide) ?_
          refine r_idiv (pc := 51) C dX1_fitCode_51 (by decide) ?_
          refine r_topi (fun x18 ex18 => ?_)
          have h := h x18 ex18
          refine r_aload_n (pc := 52) C dX1_fitCode_52 3 rfl ?_
          refine r_geti (pc := 53) C fL_X1_112 dX1_fitCode_53 o_v1 ?_
          refine r_topi (fun x19 ex19 => ?_)
          have h := h x19 ex19
          obtain ⟨q20, h⟩ := h
          refine r_idiv (pc := 56) C dX1_fitCode_56 q20 ?_
          refine r_topi (fun x21 ex21 => ?_)
          have h := h x21 ex21
          refine r_istore (pc := 57) C dX1_fitCode_57 (by decide) (lv' := [(6, .int x21), (5, .int x17), (4, .int x13), (0, .ref v0), (1, .ref v1), (2, .int v2), (3, .int v3)]) rfl ?_
          refine r_aload_n (pc := 59) C dX1_fitCode_59 4 rfl ?_
          obtain ⟨a22, ea22, h⟩ := h
          refine r_getr (pc := 60) C fL_X1_119 dX1_fitCode_60 o_v1 ea22 ?_
          refine r_iload_n (pc := 63) C dX1_fitCode_63 5 rfl ?_
          obtain ⟨o_a22, h⟩ := h
          obtain ⟨i23, h⟩ := h
          refine r_iald (pc := 64) C dX1_fitCode_64 o_a22 i23 ?_
          refine r_topi (fun x24 ex24 => ?_)
          have h := h x24 ex24
          refine r_istore (pc := 65) C dX1_fitCode_65 (by decide) (lv' := [(7, .int x24), (6, .int x21), (5, .int x17), (4, .int x13), (0, .ref v0), (1, .ref v1), (2, .int v2), (3, .int v3)]) rfl ?_
          refine r_aload_n (pc := 67) C dX1_fitCode_67 5 rfl ?_
          refine r_iload (pc := 68) C dX1_fitCode_68 0 rfl ?_
          refine r_callVi0 (pc := 70) C (rest := []) (a := v1) o_v1 [.int x24] yV_X8_hasWalker g_945 (c_X8_hasWalker h) dX1_fitCode_70 rfl rfl (Nat.le_of_ble_eq_true rfl) ⟨by decide, by decide⟩ ⟨by decide, by decide⟩ ⟨rfl, rfl⟩ (fun x27 S25 h g26 => ?_)
          have bx27 := h.1
          have h := h.2 g26 bx27
          have o_a22 := gr_ob g26 o_a22
          have o_v1 := gr_ob g26 o_v1
          refine r_if_eq (pc := 73) C (tgt := 102) dX1_fitCode_73 (by decide) (fun c28 => ?_) (fun c28 => ?_)
          · have h := h.1 c28
            refine r_iconst (pc := 102) C (v := (-1 : Int32)) dX1_fitCode_102 (by decide) ?_
            exact r_iret (pc := 103) C E ht dX1_fitCode_103 (by decide) (by decide) h
          · have h := h.2 c28
            refine r_aload_n (pc := 76) C dX1_fitCode_76 5 rfl ?_
            refine r_iload (pc := 77) C dX1_fitCode_77 1 rfl ?_
            refine r_iconst (pc := 79) C (v := (2 : Int32)) dX1_fitCode_79 (by decide) ?_
            refine r_idiv (pc := 80) C dX1_fitCode_80 (by decide) ?_
            refine r_topi (fun x29 ex29 => ?_)
            have h := h x29 ex29
            refine r_callVi0 (pc := 81) C (rest := []) (a := v1) o_v1 [.int x29] yV_X8_hasRoad g_946 (c_X8_hasRoad h) dX1_fitCode_81 rfl rfl (Nat.le_of_ble_eq_true rfl) ⟨by decide, by decide⟩ ⟨by decide, by decide⟩ ⟨rfl, rfl⟩ (fun x32 S30 h g31 => ?_)
            have bx32 := h.1
            have h := h.2 g31 bx32
            have o_a22 := gr_ob g31 o_a22
            have o_v1 := gr_ob g31 o_v1
            refine r_if_eq (pc := 84) C (tgt := 102) dX1_fitCode_84 (by decide) (fun c33 => ?_) (fun c33 => ?_)
            · have h := h.1 c33
              refine r_iconst (pc := 102) C (v := (-1 : Int32)) dX1_fitCode_102 (by decide) ?_
              exact r_iret (pc := 103) C E ht dX1_fitCode_103 (by decide) (by decide) h
            · have h := h.2 c33
              refine r_aload_n (pc := 87) C dX1_fitCode_87 5 rfl ?_
              obtain ⟨a34, ea34, h⟩ := h
              refine r_getr (pc := 88) C fL_X1_129 dX1_fitCode_88 o_v1 ea34 ?_
              refine r_iload (pc := 91) C dX1_fitCode_91 0 rfl ?_
              obtain ⟨o_a34, h⟩ := h
              obtain ⟨i35, a36, ea36, h⟩ := h
              refine r_aald19 (pc := 93) C dX1_fitCode_93 o_a34 i35 ea36 ?_
              refine r_iload (pc := 94) C dX1_fitCode_94 3 rfl ?_
              obtain ⟨o_a36, h⟩ := h
              refine r_callVi0 (pc := 96) C (rest := []) (a := a36) o_a36 [.int x13] yV_X6_canGo g_947 (c_X6_canGo h) dX1_fitCode_96 rfl rfl (Nat.le_of_ble_eq_true rfl) ⟨by decide, by decide⟩ ⟨by decide, by decide⟩ ⟨rfl, rfl⟩ (fun x39 S37 h g38 => ?_)
              have bx39 := h.1
              have h := h.2 g38 bx39
              have o_a22 := gr_ob g38 o_a22
              have o_a34 := gr_ob g38 o_a34
              have o_a36 := gr_ob g38 o_a36
              have o_v1 := gr_ob g38 o_v1
              refine r_if_ne (pc := 99) C (tgt := 104) dX1_fitCode_99 (by decide) (fun c40 => ?_) (fun c40 => ?_)
              · have h := h.1 c40
                refine r_aload_n (pc := 104) C dX1_fitCode_104 4 rfl ?_
                refine r_aload_n (pc := 105) C dX1_fitCode_105 5 rfl ?_
                obtain ⟨a41, ea41, h⟩ := h
                refine r_getr (pc := 106) C fL_X1_129 dX1_fitCode_106 o_v1 ea41 ?_
                refine r_iload (pc := 109) C dX1_fitCode_109 0 rfl ?_
                obtain ⟨o_a41, h⟩ := h
                obtain ⟨i42, a43, ea43, h⟩ := h
                refine r_aald19 (pc := 111) C dX1_fitCode_111 o_a41 i42 ea43 ?_
                refine r_aload_n (pc := 112) C dX1_fitCode_112 5 rfl ?_
                obtain ⟨a44, ea44, h⟩ := h
                refine r_getr (pc := 113) C fL_X1_136 dX1_fitCode_113 o_v1 ea44 ?_
                refine r_iload (pc := 116) C dX1_fitCode_116 1 rfl ?_
                refine r_iconst (pc := 118) C (v := (2 : Int32)) dX1_fitCode_118 (by decide) ?_
                refine r_idiv (pc := 119) C dX1_fitCode_119 (by decide) ?_
                refine r_topi (fun x45 ex45 => ?_)
                have h := h x45 ex45
                obtain ⟨o_a44, h⟩ := h
                obtain ⟨i46, a47, ea47, h⟩ := h
                refine r_aald18 (pc := 120) C dX1_fitCode_120 o_a44 i46 ea47 ?_
                refine r_iload (pc := 121) C dX1_fitCode_121 1 rfl ?_
                refine r_iconst (pc := 123) C (v := (2 : Int32)) dX1_fitCode_123 (by decide) ?_
                refine r_irem (pc := 124) C dX1_fitCode_124 (by decide) ?_
                refine r_topi (fun x48 ex48 => ?_)
                have h := h x48 ex48
                refine r_aload_n (pc := 125) C dX1_fitCode_125 5 rfl ?_
                obtain ⟨a49, ea49, h⟩ := h
                refine r_getr (pc := 126) C fL_X1_140 dX1_fitCode_126 o_v1 ea49 ?_
                refine r_iload (pc := 129) C dX1_fitCode_129 2 rfl ?_
                obtain ⟨o_a49, h⟩ := h
                obtain ⟨i50, a51, ea51, h⟩ := h
                refine r_aald17 (pc := 131) C dX1_fitCode_131 o_a49 i50 ea51 ?_
                refine r_iload (pc := 132) C dX1_fitCode_132 3 rfl ?_
                obtain ⟨o_v0, h⟩ := h
                refine r_callVl0 (pc := 134) C (rest := []) (a := v0) o_v0 [.ref a43, .ref a47, .int x48, .ref a51, .int x13] yV_X1_wetOf g_765 (c_X1_wetOf h) dX1_fitCode_134 rfl rfl (Nat.le_of_ble_eq_true rfl) ⟨by decide, by decide⟩ ⟨by decide, by decide⟩ ⟨rfl, rfl⟩ (fun x54 S52 h g53 => ?_)
                have h := h g53
                have o_a22 := gr_ob g53 o_a22
                have o_a34 := gr_ob g53 o_a34
                have o_a36 := gr_ob g53 o_a36
                have o_a41 := gr_ob g53 o_a41
                have o_a44 := gr_ob g53 o_a44
                have o_a49 := gr_ob g53 o_a49
                have o_v0 := gr_ob g53 o_v0
                have o_v1 := gr_ob g53 o_v1
                refine r_pop2 (pc := 137) C dX1_fitCode_137 rfl ?_
                refine r_iconst (pc := 138) C (v := (0 : Int32)) dX1_fitCode_138 (by decide) ?_
                refine r_istore (pc := 139) C dX1_fitCode_139 (by decide) (lv' := [(8, .int (0 : Int32)), (7, .int x24), (6, .int x21), (5, .int x17), (4, .int x13), (0, .ref v0), (1, .ref v1), (2, .int v2), (3, .int v3)]) rfl ?_
                exact r_sub [5, 6, 7, 4, 3, 2, 0] rfl (T_X1_fitCode_141 C E ht hn h)
              · have h := h.2 c40
                refine r_iconst (pc := 102) C (v := (-1 : Int32)) dX1_fitCode_102 (by decide) ?_
                exact r_iret (pc := 103) C E ht dX1_fitCode_103 (by decide) (by decide) h
        · have h := h.2 c11
          refine r_iconst (pc := 27) C (v := (-1 : Int32)) dX1_fitCode_27 (by decide) ?_
          exact r_iret (pc := 28) C E ht dX1_fitCode_28 (by decide) (by decide) h
def P_X1_fitCode (v0 : Nat) (v1 : Nat) (v2 : Int32) (v3 : Int32) (Q : Int32 → HS → Prop) (S : HS) : Prop := P_X1_fitCode_0 Q v0 v1 v2 v3 S
theorem c_X1_fitCode {l : Launch} {Ee : EE} {S : HS} {v0 : Nat} {v1 : Nat} {v2 : Int32} {v3 : Int32} {Q : Int32 → HS → Prop} (h : P_X1_fitCode v0 v1 v2 v3 Q S) : MI l yX1_fitCode cX1_fitCode 9 (some .int) rm_X1_fitCode Ee S [.ref v0, .ref v1, .int v2, .int v3] Q :=
  openI (by decide) (Nat.le_of_ble_eq_true rfl) (fun X C E ht hn hE hl => by subst hE; exact r_sub [0, 1, 2, 3] rfl (T_X1_fitCode_0 C E ht hn h))
end
section
def rm_X1_countFits : Room := { frames := 5, cells := 0, slots := 0, locals := 129 }
def P_X1_countFits_29 (Q : Int32 → HS → Prop) (X5 : Nat → Nat → Int32 → Int32 → Int32 → HS → Prop) (v0 : Nat) (v1 : Nat) (v2 : Int32) (v3 : Int32) (v4 : Int32) (S : HS) : Prop := ∀ x1 : Int32, x1 = v4 + (1 : Int32) → (X5 v0 v1 v2 v3 x1 S)
set_option maxRecDepth 20000 in
set_option maxHeartbeats 4000000 in
theorem T_X1_countFits_29 {X : CX} {Q : Int32 → HS → Prop} (C : Cx X cX1_countFits RX1 5 rm_X1_countFits) (E : ReI X rm_X1_countFits Q) (ht : (xh X).sig.returnType = (some .int)) (hn : (xh X).name = yX1_countFits.name) {X5 : Nat → Nat → Int32 → Int32 → Int32 → HS → Prop} (hX5 : ∀ (v0 : Nat) (v1 : Nat) (v2 : Int32) (v3 : Int32) (v4 : Int32) (S : HS), X5 v0 v1 v2 v3 v4 S → WS X 5 0 0 5 [(0, .ref v0), (1, .ref v1), (2, .int v2), (3, .int v3), (4, .int v4)] [] S) {v0 : Nat} {v1 : Nat} {v2 : Int32} {v3 : Int32} {v4 : Int32} {S : HS} (h : P_X1_countFits_29 Q X5 v0 v1 v2 v3 v4 S) : WS X 5 0 0 29 [(0, .ref v0), (1, .ref v1), (2, .int v2), (3, .int v3), (4, .int v4)] [] S := by
  obtain ⟨x1, ex1⟩ : ∃ z : Int32, z = v4 + (1 : Int32) := ⟨_, rfl⟩
  have h := h x1 ex1
  refine r_iinc (pc := 29) C (v := x1) (lv' := [(4, .int x1), (0, .ref v0), (1, .ref v1), (2, .int v2), (3, .int v3)]) dX1_countFits_29 4 rfl ex1.symm (by decide) rfl ?_
  refine r_goto (pc := 32) C (tgt := 5) dX1_countFits_32 (by decide) ?_
  exact r_sub [1, 2, 3, 4, 0] rfl (hX5 v0 v1 v2 v3 x1 S h)
def B_X1_countFits_5 (Q : Int32 → HS → Prop) (X5 : Nat → Nat → Int32 → Int32 → Int32 → HS → Prop) (v0 : Nat) (v1 : Nat) (v2 : Int32) (v3 : Int32) (v4 : Int32) (S : HS) : Prop := P_X1_legsOf v1 (fun x3 S1 => Gr S S1 → (((x3 ≤ v4) → (Q v3 S1)) ∧ ((¬ x3 ≤ v4) → (ob S1 v0 1 ∧ (P_X1_fitCode v0 v1 v2 v4 (fun x7 S5 => Gr S1 S5 → (((x7 = (-1 : Int32)) → (P_X1_countFits_29 Q X5 v0 v1 v2 v3 v4 S5)) ∧ ((¬ x7 = (-1 : Int32)) → (∀ x9 : Int32, x9 = v3 + (1 : Int32) → (P_X1_countFits_29 Q X5 v0 v1 v2 x9 v4 S5))))) S1))))) S
def P_X1_countFits_5 (Q : Int32 → HS → Prop) (v0 : Nat) (v1 : Nat) (v2 : Int32) (v3 : Int32) (v4 : Int32) (S : HS) : Prop := ∀ X5 : Nat → Nat → Int32 → Int32 → Int32 → HS → Prop, (∀ (v0 : Nat) (v1 : Nat) (v2 : Int32) (v3 : Int32) (v4 : Int32) (S : HS), B_X1_countFits_5 Q X5 v0 v1 v2 v3 v4 S → X5 v0 v1 v2 v3 v4 S) → X5 v0 v1 v2 v3 v4 S
set_option maxRecDepth 20000 in
set_option maxHeartbeats 4000000 in
theorem TB_X1_countFits_5 {X : CX} {Q : Int32 → HS → Prop} (C : Cx X cX1_countFits RX1 5 rm_X1_countFits) (E : ReI X rm_X1_countFits Q) (ht : (xh X).sig.returnType = (some .int)) (hn : (xh X).name = yX1_countFits.name) {X5 : Nat → Nat → Int32 → Int32 → Int32 → HS → Prop} (hX5 : ∀ (v0 : Nat) (v1 : Nat) (v2 : Int32) (v3 : Int32) (v4 : Int32) (S : HS), X5 v0 v1 v2 v3 v4 S → WS X 5 0 0 5 [(0, .ref v0), (1, .ref v1), (2, .int v2), (3, .int v3), (4, .int v4)] [] S) {v0 : Nat} {v1 : Nat} {v2 : Int32} {v3 : Int32} {v4 : Int32} {S : HS} (h : B_X1_countFits_5 Q X5 v0 v1 v2 v3 v4 S) : WS X 5 0 0 5 [(0, .ref v0), (1, .ref v1), (2, .int v2), (3, .int v3), (4, .int v4)] [] S := by
  refine r_iload (pc := 5) C dX1_countFits_5 4 rfl ?_
  refine r_aload_n (pc := 7) C dX1_countFits_7 1 rfl ?_
  refine r_callSi0 (pc := 8) C (rest := [.int v4]) rfl [.ref v1] yS_X1_legsOf g_937 (c_X1_legsOf h) dX1_countFits_8 rfl rfl (Nat.le_of_ble_eq_true rfl) ⟨by decide, by decide⟩ ⟨by decide, by decide⟩ ⟨rfl, rfl⟩ (fun x3 S1 h g2 => ?_)
  have h := h g2
  refine r_icmp_ge (pc := 11) C (tgt := 35) dX1_countFits_11 (by decide) (fun c4 => ?_) (fun c4 => ?_)
  · have h := h.1 c4
    refine r_iload_n (pc := 35) C dX1_countFits_35 3 rfl ?_
    exact r_iret (pc := 36) C E ht dX1_countFits_36 (by decide) (by decide) h
  · have h := h.2 c4
    refine r_aload_n (pc := 14) C dX1_countFits_14 0 rfl ?_
    refine r_aload_n (pc := 15) C dX1_countFits_15 1 rfl ?_
    refine r_iload_n (pc := 16) C dX1_countFits_16 2 rfl ?_
    refine r_iload (pc := 17) C dX1_countFits_17 4 rfl ?_
    obtain ⟨o_v0, h⟩ := h
    refine r_callVi0 (pc := 19) C (rest := []) (a := v0) o_v0 [.ref v1, .int v2, .int v4] yV_X1_fitCode g_940 (c_X1_fitCode h) dX1_countFits_19 rfl rfl (Nat.le_of_ble_eq_true rfl) ⟨by decide, by decide⟩ ⟨by decide, by decide⟩ ⟨rfl, rfl⟩ (fun x7 S5 h g6 => ?_)
    have h := h g6
    have o_v0 := gr_ob g6 o_v0
    refine r_iconst (pc := 22) C (v := (-1 : Int32)) dX1_countFits_22 (by decide) ?_
    refine r_icmp_eq (pc := 23) C (tgt := 29) dX1_countFits_23 (by decide) (fun c8 => ?_) (fun c8 => ?_)
    · have h := h.1 c8
      exact r_sub [0, 1, 2, 3, 4] rfl (T_X1_countFits_29 C E ht hn hX5 h)
    · have h := h.2 c8
      obtain ⟨x9, ex9⟩ : ∃ z : Int32, z = v3 + (1 : Int32) := ⟨_, rfl⟩
      have h := h x9 ex9
      refine r_iinc (pc := 26) C (v := x9) (lv' := [(3, .int x9), (0, .ref v0), (1, .ref v1), (2, .int v2), (4, .int v4)]) dX1_countFits_26 3 rfl ex9.symm (by decide) rfl ?_
      exact r_sub [1, 2, 3, 0, 4] rfl (T_X1_countFits_29 C E ht hn hX5 h)
theorem T_X1_countFits_5 {X : CX} {Q : Int32 → HS → Prop} (C : Cx X cX1_countFits RX1 5 rm_X1_countFits) (E : ReI X rm_X1_countFits Q) (ht : (xh X).sig.returnType = (some .int)) (hn : (xh X).name = yX1_countFits.name) {v0 : Nat} {v1 : Nat} {v2 : Int32} {v3 : Int32} {v4 : Int32} {S : HS} (h : P_X1_countFits_5 Q v0 v1 v2 v3 v4 S) : WS X 5 0 0 5 [(0, .ref v0), (1, .ref v1), (2, .int v2), (3, .int v3), (4, .int v4)] [] S :=
  h (fun v0 v1 v2 v3 v4 S => WS X 5 0 0 5 [(0, .ref v0), (1, .ref v1), (2, .int v2), (3, .int v3), (4, .int v4)] [] S) (fun v0 v1 v2 v3 v4 S hh => TB_X1_countFits_5 C E ht hn (fun v0 v1 v2 v3 v4 S z => z) hh)
def P_X1_countFits_0 (Q : Int32 → HS → Prop) (v0 : Nat) (v1 : Nat) (v2 : Int32) (S : HS) : Prop := P_X1_countFits_5 Q v0 v1 v2 (0 : Int32) (0 : Int32) S
set_option maxRecDepth 20000 in
set_option maxHeartbeats 4000000 in
theorem T_X1_countFits_0 {X : CX} {Q : Int32 → HS → Prop} (C : Cx X cX1_countFits RX1 5 rm_X1_countFits) (E : ReI X rm_X1_countFits Q) (ht : (xh X).sig.returnType = (some .int)) (hn : (xh X).name = yX1_countFits.name) {v0 : Nat} {v1 : Nat} {v2 : Int32} {S : HS} (h : P_X1_countFits_0 Q v0 v1 v2 S) : WS X 5 0 0 0 [(0, .ref v0), (1, .ref v1), (2, .int v2)] [] S := by
  refine r_iconst (pc := 0) C (v := (0 : Int32)) dX1_countFits_0 (by decide) ?_
  refine r_istore_n (pc := 1) C dX1_countFits_1 rfl (by decide) (lv' := [(3, .int (0 : Int32)), (0, .ref v0), (1, .ref v1), (2, .int v2)]) rfl ?_
  refine r_iconst (pc := 2) C (v := (0 : Int32)) dX1_countFits_2 (by decide) ?_
  refine r_istore (pc := 3) C dX1_countFits_3 (by decide) (lv' := [(4, .int (0 : Int32)), (3, .int (0 : Int32)), (0, .ref v0), (1, .ref v1), (2, .int v2)]) rfl ?_
  exact r_sub [2, 3, 4, 1, 0] rfl (T_X1_countFits_5 C E ht hn h)
def P_X1_countFits (v0 : Nat) (v1 : Nat) (v2 : Int32) (Q : Int32 → HS → Prop) (S : HS) : Prop := P_X1_countFits_0 Q v0 v1 v2 S
theorem c_X1_countFits {l : Launch} {Ee : EE} {S : HS} {v0 : Nat} {v1 : Nat} {v2 : Int32} {Q : Int32 → HS → Prop} (h : P_X1_countFits v0 v1 v2 Q S) : MI l yX1_countFits cX1_countFits 5 (some .int) rm_X1_countFits Ee S [.ref v0, .ref v1, .int v2] Q :=
  openI (by decide) (Nat.le_of_ble_eq_true rfl) (fun X C E ht hn hE hl => by subst hE; exact r_sub [0, 1, 2] rfl (T_X1_countFits_0 C E ht hn h))
def rm_X1_findFit : Room := { frames := 5, cells := 0, slots := 0, locals := 129 }
def P_X1_findFit_48 (Q : Int32 → HS → Prop) (X6 : Nat → Nat → Int32 → Int32 → Int32 → HS → Prop) (v0 : Nat) (v1 : Nat) (v2 : Int32) (v4 : Int32) (v5 : Int32) (S : HS) : Prop := ∀ x1 : Int32, x1 = v5 + (1 : Int32) → (X6 v0 v1 v2 v4 x1 S)
set_option maxRecDepth 20000 in
set_option maxHeartbeats 4000000 in
theorem T_X1_findFit_48 {X : CX} {Q : Int32 → HS → Prop} (C : Cx X cX1_findFit RX1 7 rm_X1_findFit) (E : ReI X rm_X1_findFit Q) (ht : (xh X).sig.returnType = (some .int)) (hn : (xh X).name = yX1_findFit.name) {X6 : Nat → Nat → Int32 → Int32 → Int32 → HS → Prop} (hX6 : ∀ (v0 : Nat) (v1 : Nat) (v2 : Int32) (v4 : Int32) (v5 : Int32) (S : HS), X6 v0 v1 v2 v4 v5 S → WS X 7 0 0 6 [(0, .ref v0), (1, .ref v1), (2, .int v2), (4, .int v4), (5, .int v5)] [] S) {v0 : Nat} {v1 : Nat} {v2 : Int32} {v4 : Int32} {v5 : Int32} {S : HS} (h : P_X1_findFit_48 Q X6 v0 v1 v2 v4 v5 S) : WS X 7 0 0 48 [(0, .ref v0), (1, .ref v1), (2, .int v2), (4, .int v4), (5, .int v5)] [] S := by
  obtain ⟨x1, ex1⟩ : ∃ z : Int32, z = v5 + (1 : Int32) := ⟨_, rfl⟩
  have h := h x1 ex1
  refine r_iinc (pc := 48) C (v := x1) (lv' := [(5, .int x1), (0, .ref v0), (1, .ref v1), (2, .int v2), (4, .int v4)]) dX1_findFit_48 4 rfl ex1.symm (by decide) rfl ?_
  refine r_goto (pc := 51) C (tgt := 6) dX1_findFit_51 (by decide) ?_
  exact r_sub [1, 2, 3, 4, 0] rfl (hX6 v0 v1 v2 v4 x1 S h)
def P_X1_findFit_39 (Q : Int32 → HS → Prop) (X6 : Nat → Nat → Int32 → Int32 → Int32 → HS → Prop) (v0 : Nat) (v1 : Nat) (v2 : Int32) (v4 : Int32) (v5 : Int32) (v6 : Int32) (S : HS) : Prop := ((v6 = (-1 : Int32)) → (P_X1_findFit_48 Q X6 v0 v1 v2 v4 v5 S)) ∧ ((¬ v6 = (-1 : Int32)) → (∀ x2 : Int32, x2 = v4 + (-1 : Int32) → (P_X1_findFit_48 Q X6 v0 v1 v2 x2 v5 S)))
set_option maxRecDepth 20000 in
set_option maxHeartbeats 4000000 in
theorem T_X1_findFit_39 {X : CX} {Q : Int32 → HS → Prop} (C : Cx X cX1_findFit RX1 7 rm_X1_findFit) (E : ReI X rm_X1_findFit Q) (ht : (xh X).sig.returnType = (some .int)) (hn : (xh X).name = yX1_findFit.name) {X6 : Nat → Nat → Int32 → Int32 → Int32 → HS → Prop} (hX6 : ∀ (v0 : Nat) (v1 : Nat) (v2 : Int32) (v4 : Int32) (v5 : Int32) (S : HS), X6 v0 v1 v2 v4 v5 S → WS X 7 0 0 6 [(0, .ref v0), (1, .ref v1), (2, .int v2), (4, .int v4), (5, .int v5)] [] S) {v0 : Nat} {v1 : Nat} {v2 : Int32} {v4 : Int32} {v5 : Int32} {v6 : Int32} {S : HS} (h : P_X1_findFit_39 Q X6 v0 v1 v2 v4 v5 v6 S) : WS X 7 0 0 39 [(0, .ref v0), (1, .ref v1), (2, .int v2), (4, .int v4), (5, .int v5), (6, .int v6)] [] S := by
  refine r_iload (pc := 39) C dX1_findFit_39 5 rfl ?_
  refine r_iconst (pc := 41) C (v := (-1 : Int32)) dX1_findFit_41 (by decide) ?_
  refine r_icmp_eq (pc := 42) C (tgt := 48) dX1_findFit_42 (by decide) (fun c1 => ?_) (fun c1 => ?_)
  · have h := h.1 c1
    exact r_sub [0, 1, 2, 3, 4] rfl (T_X1_findFit_48 C E ht hn hX6 h)
  · have h := h.2 c1
    obtain ⟨x2, ex2⟩ : ∃ z : Int32, z = v4 + (-1 : Int32) := ⟨_, rfl⟩
    have h := h x2 ex2
    refine r_iinc (pc := 45) C (v := x2) (lv' := [(4, .int x2), (0, .ref v0), (1, .ref v1), (2, .int v2), (5, .int v5), (6, .int v6)]) dX1_findFit_45 3 rfl ex2.symm (by decide) rfl ?_
    exact r_sub [1, 2, 3, 0, 4] rfl (T_X1_findFit_48 C E ht hn hX6 h)
def B_X1_findFit_6 (Q : Int32 → HS → Prop) (X6 : Nat → Nat → Int32 → Int32 → Int32 → HS → Prop) (v0 : Nat) (v1 : Nat) (v2 : Int32) (v4 : Int32) (v5 : Int32) (S : HS) : Prop := P_X1_legsOf v1 (fun x3 S1 => Gr S S1 → (((x3 ≤ v5) → (Q (-1 : Int32) S1)) ∧ ((¬ x3 ≤ v5) → (ob S1 v0 1 ∧ (P_X1_fitCode v0 v1 v2 v5 (fun x7 S5 => Gr S1 S5 → (((x7 = (-1 : Int32)) → (P_X1_findFit_39 Q X6 v0 v1 v2 v4 v5 x7 S5)) ∧ ((¬ x7 = (-1 : Int32)) → (((¬ v4 = 0) → (P_X1_findFit_39 Q X6 v0 v1 v2 v4 v5 x7 S5)) ∧ ((v4 = 0) → (Q x7 S5)))))) S1))))) S
def P_X1_findFit_6 (Q : Int32 → HS → Prop) (v0 : Nat) (v1 : Nat) (v2 : Int32) (v4 : Int32) (v5 : Int32) (S : HS) : Prop := ∀ X6 : Nat → Nat → Int32 → Int32 → Int32 → HS → Prop, (∀ (v0 : Nat) (v1 : Nat) (v2 : Int32) (v4 : Int32) (v5 : Int32) (S : HS), B_X1_findFit_6 Q X6 v0 v1 v2 v4 v5 S → X6 v0 v1 v2 v4 v5 S) → X6 v0 v1 v2 v4 v5 S
set_option maxRecDepth 20000 in
set_option maxHeartbeats 4000000 in
theorem TB_X1_findFit_6 {X : CX} {Q : Int32 → HS → Prop} (C : Cx X cX1_findFit RX1 7 rm_X1_findFit) (E : ReI X rm_X1_findFit Q) (ht : (xh X).sig.returnType = (some .int)) (hn : (xh X).name = yX1_findFit.name) {X6 : Nat → Nat → Int32 → Int32 → Int32 → HS → Prop} (hX6 : ∀ (v0 : Nat) (v1 : Nat) (v2 : Int32) (v4 : Int32) (v5 : Int32) (S : HS), X6 v0 v1 v2 v4 v5 S → WS X 7 0 0 6 [(0, .ref v0), (1, .ref v1), (2, .int v2), (4, .int v4), (5, .int v5)] [] S) {v0 : Nat} {v1 : Nat} {v2 : Int32} {v4 : Int32} {v5 : Int32} {S : HS} (h : B_X1_findFit_6 Q X6 v0 v1 v2 v4 v5 S) : WS X 7 0 0 6 [(0, .ref v0), (1, .ref v1), (2, .int v2), (4, .int v4), (5, .int v5)] [] S := by
  refine r_iload (pc := 6) C dX1_findFit_6 4 rfl ?_
  refine r_aload_n (pc := 8) C dX1_findFit_8 1 rfl ?_
  refine r_callSi0 (pc := 9) C (rest := [.int v5]) rfl [.ref v1] yS_X1_legsOf g_937 (c_X1_legsOf h) dX1_findFit_9 rfl rfl (Nat.le_of_ble_eq_true rfl) ⟨by decide, by decide⟩ ⟨by decide, by decide⟩ ⟨rfl, rfl⟩ (fun x3 S1 h g2 => ?_)
  have h := h g2
  refine r_icmp_ge (pc := 12) C (tgt := 54) dX1_findFit_12 (by decide) (fun c4 => ?_) (fun c4 => ?_)
  · have h := h.1 c4
    refine r_iconst (pc := 54) C (v := (-1 : Int32)) dX1_findFit_54 (by decide) ?_
    exact r_iret (pc := 55) C E ht dX1_findFit_55 (by decide) (by decide) h
  · have h := h.2 c4
    refine r_aload_n (pc := 15) C dX1_findFit_15 0 rfl ?_
    refine r_aload_n (pc := 16) C dX1_findFit_16 1 rfl ?_
    refine r_iload_n (pc := 17) C dX1_findFit_17 2 rfl ?_
    refine r_iload (pc := 18) C dX1_findFit_18 4 rfl ?_
    obtain ⟨o_v0, h⟩ := h
    refine r_callVi0 (pc := 20) C (rest := []) (a := v0) o_v0 [.ref v1, .int v2, .int v5] yV_X1_fitCode g_940 (c_X1_fitCode h) dX1_findFit_20 rfl rfl (Nat.le_of_ble_eq_true rfl) ⟨by decide, by decide⟩ ⟨by decide, by decide⟩ ⟨rfl, rfl⟩ (fun x7 S5 h g6 => ?_)
    have h := h g6
    have o_v0 := gr_ob g6 o_v0
    refine r_istore (pc := 23) C dX1_findFit_23 (by decide) (lv' := [(6, .int x7), (0, .ref v0), (1, .ref v1), (2, .int v2), (4, .int v4), (5, .int v5)]) rfl ?_
    refine r_iload (pc := 25) C dX1_findFit_25 0 rfl ?_
    refine r_iconst (pc := 27) C (v := (-1 : Int32)) dX1_findFit_27 (by decide) ?_
    refine r_icmp_eq (pc := 28) C (tgt := 39) dX1_findFit_28 (by decide) (fun c8 => ?_) (fun c8 => ?_)
    · have h := h.1 c8
      exact r_sub [1, 2, 3, 4, 5, 0] rfl (T_X1_findFit_39 C E ht hn hX6 h)
    · have h := h.2 c8
      refine r_iload (pc := 31) C dX1_findFit_31 4 rfl ?_
      refine r_if_ne (pc := 33) C (tgt := 39) dX1_findFit_33 (by decide) (fun c9 => ?_) (fun c9 => ?_)
      · have h := h.1 c9
        exact r_sub [1, 2, 3, 4, 5, 0] rfl (T_X1_findFit_39 C E ht hn hX6 h)
      · have h := h.2 c9
        refine r_iload (pc := 36) C dX1_findFit_36 0 rfl ?_
        exact r_iret (pc := 38) C E ht dX1_findFit_38 (by decide) (by decide) h
theorem T_X1_findFit_6 {X : CX} {Q : Int32 → HS → Prop} (C : Cx X cX1_findFit RX1 7 rm_X1_findFit) (E : ReI X rm_X1_findFit Q) (ht : (xh X).sig.returnType = (some .int)) (hn : (xh X).name = yX1_findFit.name) {v0 : Nat} {v1 : Nat} {v2 : Int32} {v4 : Int32} {v5 : Int32} {S : HS} (h : P_X1_findFit_6 Q v0 v1 v2 v4 v5 S) : WS X 7 0 0 6 [(0, .ref v0), (1, .ref v1), (2, .int v2), (4, .int v4), (5, .int v5)] [] S :=
  h (fun v0 v1 v2 v4 v5 S => WS X 7 0 0 6 [(0, .ref v0), (1, .ref v1), (2, .int v2), (4, .int v4), (5, .int v5)] [] S) (fun v0 v1 v2 v4 v5 S hh => TB_X1_findFit_6 C E ht hn (fun v0 v1 v2 v4 v5 S z => z) hh)
def P_X1_findFit_0 (Q : Int32 → HS → Prop) (v0 : Nat) (v1 : Nat) (v2 : Int32) (v3 : Int32) (S : HS) : Prop := P_X1_findFit_6 Q v0 v1 v2 v3 (0 : Int32) S
set_option maxRecDepth 20000 in
set_option maxHeartbeats 4000000 in
theorem T_X1_findFit_0 {X : CX} {Q : Int32 → HS → Prop} (C : Cx X cX1_findFit RX1 7 rm_X1_findFit) (E : ReI X rm_X1_findFit Q) (ht : (xh X).sig.returnType = (some .int)) (hn : (xh X).name = yX1_findFit.name) {v0 : Nat} {v1 : Nat} {v2 : Int32} {v3 : Int32} {S : HS} (h : P_X1_findFit_0 Q v0 v1 v2 v3 S) : WS X 7 0 0 0 [(0, .ref v0), (1, .ref v1), (2, .int v2), (3, .int v3)] [] S := by
  refine r_iload_n (pc := 0) C dX1_findFit_0 3 rfl ?_
  refine r_istore (pc := 1) C dX1_findFit_1 (by decide) (lv' := [(4, .int v3), (0, .ref v0), (1, .ref v1), (2, .int v2), (3, .int v3)]) rfl ?_
  refine r_iconst (pc := 3) C (v := (0 : Int32)) dX1_findFit_3 (by decide) ?_
  refine r_istore (pc := 4) C dX1_findFit_4 (by decide) (lv' := [(5, .int (0 : Int32)), (4, .int v3), (0, .ref v0), (1, .ref v1), (2, .int v2), (3, .int v3)]) rfl ?_
  exact r_sub [2, 3, 4, 1, 0] rfl (T_X1_findFit_6 C E ht hn h)
def P_X1_findFit (v0 : Nat) (v1 : Nat) (v2 : Int32) (v3 : Int32) (Q : Int32 → HS → Prop) (S : HS) : Prop := P_X1_findFit_0 Q v0 v1 v2 v3 S
theorem c_X1_findFit {l : Launch} {Ee : EE} {S : HS} {v0 : Nat} {v1 : Nat} {v2 : Int32} {v3 : Int32} {Q : Int32 → HS → Prop} (h : P_X1_findFit v0 v1 v2 v3 Q S) : MI l yX1_findFit cX1_findFit 7 (some .int) rm_X1_findFit Ee S [.ref v0, .ref v1, .int v2, .int v3] Q :=
  openI (by decide) (Nat.le_of_ble_eq_true rfl) (fun X C E ht hn hE hl => by subst hE; exact r_sub [0, 1, 2, 3] rfl (T_X1_findFit_0 C E ht hn h))
def rm_X1_init : Room := { frames := 1, cells := 2, slots := 10, locals := 20 }
def P_X1_init_0 (Q : HS → Prop) (v0 : Nat) (S : HS) : Prop := ∀ a1 : Nat, a1 ∉ hL S → ∀ S2 : HS, S2 = nW S a1 14 5 → (ob S2 v0 1 ∧ (∀ S3 : HS, S3 = sR S2 v0 0 (some a1) → (∀ a4 : Nat, a4 ∉ hL S3 → ∀ S5 : HS, S5 = nW S3 a4 14 5 → (∀ S6 : HS, S6 = sR S5 v0 1 (some a4) → (Q S6)))))
set_option maxRecDepth 20000 in
set_option maxHeartbeats 4000000 in
theorem T_X1_init_0 {X : CX} {Q : HS → Prop} (C : Cx X cX1_init RX1 1 rm_X1_init) (E : ReV X rm_X1_init Q) (ht : (xh X).sig.returnType = none) (hn : (xh X).name = yX1_init.name) {v0 : Nat} {S : HS} (h : P_X1_init_0 Q v0 S) : WS X 1 0 0 0 [(0, .ref v0)] [] S := by
  refine r_aload_n (pc := 0) C dX1_init_0 0 rfl ?_
  refine r_objinit (pc := 1) C g_272 dX1_init_1 (by decide) (Nat.le_of_ble_eq_true rfl) ?_
  refine r_aload_n (pc := 4) C dX1_init_4 0 rfl ?_
  refine r_iconst (pc := 5) C (v := (5 : Int32)) dX1_init_5 (by decide) ?_
  refine r_newa14 (pc := 6) C (N := 5) g_266 dX1_init_6 (by decide) (by decide) (by decide) (by decide) (by decide) (fun a1 q9 => ?_)
  refine r_heap (fun S2 eS2 => ?_)
  have h := h a1 q9 S2 eS2
  have g10 := gr_of_new eS2 q9
  have o_a1 := ob_of_new eS2
  obtain ⟨o_v0, h⟩ := h
  refine r_putFr (pc := 8) C pfL_X1_9 hn dX1_init_8 o_v0 ?_
  refine r_heap (fun S3 eS3 => ?_)
  have h := h S3 eS3
  have o_a1 := ob_R eS3 o_a1
  have o_v0 := ob_R eS3 o_v0
  refine r_aload_n (pc := 11) C dX1_init_11 0 rfl ?_
  refine r_iconst (pc := 12) C (v := (5 : Int32)) dX1_init_12 (by decide) ?_
  refine r_newa14 (pc := 13) C (N := 5) g_266 dX1_init_13 (by decide) (by decide) (by decide) (by decide) (by decide) (fun a4 q7 => ?_)
  refine r_heap (fun S5 eS5 => ?_)
  have h := h a4 q7 S5 eS5
  have g8 := gr_of_new eS5 q7
  have o_a4 := ob_of_new eS5
  have o_a1 := gr_ob g8 o_a1
  have o_v0 := gr_ob g8 o_v0
  refine r_putFr (pc := 15) C pfL_X1_15 hn dX1_init_15 o_v0 ?_
  refine r_heap (fun S6 eS6 => ?_)
  have h := h S6 eS6
  have o_a1 := ob_R eS6 o_a1
  have o_a4 := ob_R eS6 o_a4
  have o_v0 := ob_R eS6 o_v0
  exact r_vret (pc := 18) C E ht dX1_init_18 (by decide) (by decide) h
def P_X1_init (v0 : Nat) (Q : HS → Prop) (S : HS) : Prop := P_X1_init_0 Q v0 S
theorem c_X1_init {l : Launch} {Ee : EE} {S : HS} {v0 : Nat} {Q : HS → Prop} (h : P_X1_init v0 Q S) : MV l yX1_init cX1_init 1 none rm_X1_init Ee S [.ref v0] Q :=
  openV (by decide) (Nat.le_of_ble_eq_true rfl) (fun X C E ht hn hE hl => by subst hE; exact r_sub [0] rfl (T_X1_init_0 C E ht hn h))
def rm_X1_leastWet : Room := { frames := 5, cells := 0, slots := 0, locals := 131 }
def P_X1_leastWet_0 (Q : Int64 → HS → Prop) (v0 : Nat) (v1 : Nat) (v2 : Nat) (v3 : Int32) (v4 : Nat) (S : HS) : Prop := ob S v0 1 ∧ (P_X1_bestSpeed v0 v1 v2 v3 v4 (fun x3 S1 => Gr S S1 → (P_X1_wetOf v0 v1 v2 v3 v4 x3 (fun x6 S4 => Gr S1 S4 → (Q x6 S4)) S1)) S)
set_option maxRecDepth 20000 in
set_option maxHeartbeats 4000000 in
theorem T_X1_leastWet_0 {X : CX} {Q : Int64 → HS → Prop} (C : Cx X cX1_leastWet RX1 5 rm_X1_leastWet) (E : ReJ X rm_X1_leastWet Q) (ht : (xh X).sig.returnType = (some .long)) (hn : (xh X).name = yX1_leastWet.name) {v0 : Nat} {v1 : Nat} {v2 : Nat} {v3 : Int32} {v4 : Nat} {S : HS} (h : P_X1_leastWet_0 Q v0 v1 v2 v3 v4 S) : WS X 5 0 0 0 [(0, .ref v0), (1, .ref v1), (2, .ref v2), (3, .int v3), (4, .ref v4)] [] S := by
  refine r_aload_n (pc := 0) C dX1_leastWet_0 0 rfl ?_
  refine r_aload_n (pc := 1) C dX1_leastWet_1 1 rfl ?_
  refine r_aload_n (pc := 2) C dX1_leastWet_2 2 rfl ?_
  refine r_iload_n (pc := 3) C dX1_leastWet_3 3 rfl ?_
  refine r_aload (pc := 4) C dX1_leastWet_4 4 rfl ?_
  refine r_aload_n (pc := 6) C dX1_leastWet_6 0 rfl ?_
  refine r_aload_n (pc := 7) C dX1_leastWet_7 1 rfl ?_
  refine r_aload_n (pc := 8) C dX1_leastWet_8 2 rfl ?_
  refine r_iload_n (pc := 9) C dX1_leastWet_9 3 rfl ?_
  refine r_aload (pc := 10) C dX1_leastWet_10 4 rfl ?_
  obtain ⟨o_v0, h⟩ := h
  refine r_callVi0 (pc := 12) C (rest := [.ref v4, .int v3, .ref v2, .ref v1, .ref v0]) (a := v0) o_v0 [.ref v1, .ref v2, .int v3, .ref v4] yV_X1_bestSpeed g_774 (c_X1_bestSpeed h) dX1_leastWet_12 rfl rfl (Nat.le_of_ble_eq_true rfl) ⟨by decide, by decide⟩ ⟨by decide, by decide⟩ ⟨rfl, rfl⟩ (fun x3 S1 h g2 => ?_)
  have h := h g2
  have o_v0 := gr_ob g2 o_v0
  refine r_callVl0 (pc := 15) C (rest := []) (a := v0) o_v0 [.ref v1, .ref v2, .int v3, .ref v4, .int x3] yV_X1_wetOf g_765 (c_X1_wetOf h) dX1_leastWet_15 rfl rfl (Nat.le_of_ble_eq_true rfl) ⟨by decide, by decide⟩ ⟨by decide, by decide⟩ ⟨rfl, rfl⟩ (fun x6 S4 h g5 => ?_)
  have h := h g5
  have o_v0 := gr_ob g5 o_v0
  exact r_lret (pc := 18) C E ht dX1_leastWet_18 (by decide) (by decide) h
def P_X1_leastWet (v0 : Nat) (v1 : Nat) (v2 : Nat) (v3 : Int32) (v4 : Nat) (Q : Int64 → HS → Prop) (S : HS) : Prop := P_X1_leastWet_0 Q v0 v1 v2 v3 v4 S
theorem c_X1_leastWet {l : Launch} {Ee : EE} {S : HS} {v0 : Nat} {v1 : Nat} {v2 : Nat} {v3 : Int32} {v4 : Nat} {Q : Int64 → HS → Prop} (h : P_X1_leastWet v0 v1 v2 v3 v4 Q S) : MJ l yX1_leastWet cX1_leastWet 5 (some .long) rm_X1_leastWet Ee S [.ref v0, .ref v1, .ref v2, .int v3, .ref v4] Q :=
  openJ (by decide) (Nat.le_of_ble_eq_true rfl) (fun X C E ht hn hE hl => by subst hE; exact r_sub [0, 1, 2, 3, 4] rfl (T_X1_leastWet_0 C E ht hn h))
def rm_X1_wetInLee : Room := { frames := 3, cells := 0, slots := 0, locals := 74 }
def P_X1_wetInLee_0 (Q : Int64 → HS → Prop) (v0 : Nat) (v1 : Nat) (v2 : Nat) (S : HS) : Prop := ob S v2 6 ∧ (∀ x1 : Int32, x1 = fI S v2 3 → (ob S v0 1 ∧ (P_X1_soak v0 v1 (0 : Int32) x1 (fun x4 S2 => Gr S S2 → (ob S2 v1 6 ∧ (∀ x5 : Int32, x5 = fI S2 v1 3 → (P_X1_soak v0 v2 x5 (0 : Int32) (fun x8 S6 => Gr S2 S6 → (Q (x4 + x8) S6)) S2)))) S)))
set_option maxRecDepth 20000 in
set_option maxHeartbeats 4000000 in
theorem T_X1_wetInLee_0 {X : CX} {Q : Int64 → HS → Prop} (C : Cx X cX1_wetInLee RX1 3 rm_X1_wetInLee) (E : ReJ X rm_X1_wetInLee Q) (ht : (xh X).sig.returnType = (some .long)) (hn : (xh X).name = yX1_wetInLee.name) {v0 : Nat} {v1 : Nat} {v2 : Nat} {S : HS} (h : P_X1_wetInLee_0 Q v0 v1 v2 S) : WS X 3 0 0 0 [(0, .ref v0), (1, .ref v1), (2, .ref v2)] [] S := by
  refine r_aload_n (pc := 0) C dX1_wetInLee_0 0 rfl ?_
  refine r_aload_n (pc := 1) C dX1_wetInLee_1 1 rfl ?_
  refine r_iconst (pc := 2) C (v := (0 : Int32)) dX1_wetInLee_2 (by decide) ?_
  refine r_aload_n (pc := 3) C dX1_wetInLee_3 2 rfl ?_
  obtain ⟨o_v2, h⟩ := h
  refine r_geti (pc := 4) C fL_X1_63 dX1_wetInLee_4 o_v2 ?_
  refine r_topi (fun x1 ex1 => ?_)
  have h := h x1 ex1
  obtain ⟨o_v0, h⟩ := h
  refine r_callVl0 (pc := 7) C (rest := []) (a := v0) o_v0 [.ref v1, .int (0 : Int32), .int x1] yV_X1_soak g_708 (c_X1_soak h) dX1_wetInLee_7 rfl rfl (Nat.le_of_ble_eq_true rfl) ⟨by decide, by decide⟩ ⟨by decide, by decide⟩ ⟨rfl, rfl⟩ (fun x4 S2 h g3 => ?_)
  have h := h g3
  have o_v0 := gr_ob g3 o_v0
  have o_v2 := gr_ob g3 o_v2
  refine r_aload_n (pc := 10) C dX1_wetInLee_10 0 rfl ?_
  refine r_aload_n (pc := 11) C dX1_wetInLee_11 2 rfl ?_
  refine r_aload_n (pc := 12) C dX1_wetInLee_12 1 rfl ?_
  obtain ⟨o_v1, h⟩ := h
  refine r_geti (pc := 13) C fL_X1_63 dX1_wetInLee_13 o_v1 ?_
  refine r_topi (fun x5 ex5 => ?_)
  have h := h x5 ex5
  refine r_iconst (pc := 16) C (v := (0 : Int32)) dX1_wetInLee_16 (by decide) ?_
  refine r_callVl0 (pc := 17) C (rest := [.long x4]) (a := v0) o_v0 [.ref v2, .int x5, .int (0 : Int32)] yV_X1_soak g_708 (c_X1_soak h) dX1_wetInLee_17 rfl rfl (Nat.le_of_ble_eq_true rfl) ⟨by decide, by decide⟩ ⟨by decide, by decide⟩ ⟨rfl, rfl⟩ (fun x8 S6 h g7 => ?_)
  have h := h g7
  have o_v0 := gr_ob g7 o_v0
  have o_v1 := gr_ob g7 o_v1
  have o_v2 := gr_ob g7 o_v2
  refine r_ladd (pc := 20) C dX1_wetInLee_20 ?_
  exact r_lret (pc := 21) C E ht dX1_wetInLee_21 (by decide) (by decide) h
def P_X1_wetInLee (v0 : Nat) (v1 : Nat) (v2 : Nat) (Q : Int64 → HS → Prop) (S : HS) : Prop := P_X1_wetInLee_0 Q v0 v1 v2 S
theorem c_X1_wetInLee {l : Launch} {Ee : EE} {S : HS} {v0 : Nat} {v1 : Nat} {v2 : Nat} {Q : Int64 → HS → Prop} (h : P_X1_wetInLee v0 v1 v2 Q S) : MJ l yX1_wetInLee cX1_wetInLee 3 (some .long) rm_X1_wetInLee Ee S [.ref v0, .ref v1, .ref v2] Q :=
  openJ (by decide) (Nat.le_of_ble_eq_true rfl) (fun X C E ht hn hE hl => by subst hE; exact r_sub [0, 1, 2] rfl (T_X1_wetInLee_0 C E ht hn h))
def rm_X1_worstSpeed : Room := { frames := 4, cells := 0, slots := 0, locals := 101 }
def P_X1_worstSpeed_55 (Q : Int32 → HS → Prop) (X17 : Nat → Nat → Nat → Int32 → Nat → Int32 → Int64 → Int32 → HS → Prop) (v0 : Nat) (v1 : Nat) (v2 : Nat) (v3 : Int32) (v4 : Nat) (v5 : Int32) (v6 : Int64) (v8 : Int32) (S : HS) : Prop := ∀ x1 : Int32, x1 = v8 + (1 : Int32) → (X17 v0 v1 v2 v3 v4 v5 v6 x1 S)
set_option maxRecDepth 20000 in
set_option maxHeartbeats 4000000 in
theorem T_X1_worstSpeed_55 {X : CX} {Q : Int32 → HS → Prop} (C : Cx X cX1_worstSpeed RX1 11 rm_X1_worstSpeed) (E : ReI X rm_X1_worstSpeed Q) (ht : (xh X).sig.returnType = (some .int)) (hn : (xh X).name = yX1_worstSpeed.name) {X17 : Nat → Nat → Nat → Int32 → Nat → Int32 → Int64 → Int32 → HS → Prop} (hX17 : ∀ (v0 : Nat) (v1 : Nat) (v2 : Nat) (v3 : Int32) (v4 : Nat) (v5 : Int32) (v6 : Int64) (v8 : Int32) (S : HS), X17 v0 v1 v2 v3 v4 v5 v6 v8 S → WS X 11 0 0 17 [(0, .ref v0), (1, .ref v1), (2, .ref v2), (3, .int v3), (4, .ref v4), (5, .int v5), (6, .long v6), (8, .int v8)] [] S) {v0 : Nat} {v1 : Nat} {v2 : Nat} {v3 : Int32} {v4 : Nat} {v5 : Int32} {v6 : Int64} {v8 : Int32} {S : HS} (h : P_X1_worstSpeed_55 Q X17 v0 v1 v2 v3 v4 v5 v6 v8 S) : WS X 11 0 0 55 [(0, .ref v0), (1, .ref v1), (2, .ref v2), (3, .int v3), (4, .ref v4), (5, .int v5), (6, .long v6), (8, .int v8)] [] S := by
  obtain ⟨x1, ex1⟩ : ∃ z : Int32, z = v8 + (1 : Int32) := ⟨_, rfl⟩
  have h := h x1 ex1
  refine r_iinc (pc := 55) C (v := x1) (lv' := [(8, .int x1), (0, .ref v0), (1, .ref v1), (2, .ref v2), (3, .int v3), (4, .ref v4), (5, .int v5), (6, .long v6)]) dX1_worstSpeed_55 7 rfl ex1.symm (by decide) rfl ?_
  refine r_goto (pc := 58) C (tgt := 17) dX1_worstSpeed_58 (by decide) ?_
  exact r_sub [1, 2, 3, 4, 5, 6, 7, 0] rfl (hX17 v0 v1 v2 v3 v4 v5 v6 x1 S h)
def B_X1_worstSpeed_17 (Q : Int32 → HS → Prop) (X17 : Nat → Nat → Nat → Int32 → Nat → Int32 → Int64 → Int32 → HS → Prop) (v0 : Nat) (v1 : Nat) (v2 : Nat) (v3 : Int32) (v4 : Nat) (v5 : Int32) (v6 : Int64) (v8 : Int32) (S : HS) : Prop := ob S v1 6 ∧ (∀ x1 : Int32, x1 = fI S v1 6 → (((x1 < v8) → (Q v5 S)) ∧ ((¬ x1 < v8) → (ob S v0 1 ∧ (P_X1_wetOf v0 v1 v2 v3 v4 v8 (fun x5 S3 => Gr S S3 → ((((lg_cmp x5 v6) ≤ 0) → (P_X1_worstSpeed_55 Q X17 v0 v1 v2 v3 v4 v5 v6 v8 S3)) ∧ ((¬ (lg_cmp x5 v6) ≤ 0) → (P_X1_worstSpeed_55 Q X17 v0 v1 v2 v3 v4 v8 x5 v8 S3)))) S)))))
def P_X1_worstSpeed_17 (Q : Int32 → HS → Prop) (v0 : Nat) (v1 : Nat) (v2 : Nat) (v3 : Int32) (v4 : Nat) (v5 : Int32) (v6 : Int64) (v8 : Int32) (S : HS) : Prop := ∀ X17 : Nat → Nat → Nat → Int32 → Nat → Int32 → Int64 → Int32 → HS → Prop, (∀ (v0 : Nat) (v1 : Nat) (v2 : Nat) (v3 : Int32) (v4 : Nat) (v5 : Int32) (v6 : Int64) (v8 : Int32) (S : HS), B_X1_worstSpeed_17 Q X17 v0 v1 v2 v3 v4 v5 v6 v8 S → X17 v0 v1 v2 v3 v4 v5 v6 v8 S) → X17 v0 v1 v2 v3 v4 v5 v6 v8 S
set_option maxRecDepth 20000 in
set_option maxHeartbeats 4000000 in
theorem TB_X1_worstSpeed_17 {X : CX} {Q : Int32 → HS → Prop} (C : Cx X cX1_worstSpeed RX1 11 rm_X1_worstSpeed) (E : ReI X rm_X1_worstSpeed Q) (ht : (xh X).sig.returnType = (some .int)) (hn : (xh X).name = yX1_worstSpeed.name) {X17 : Nat → Nat → Nat → Int32 → Nat → Int32 → Int64 → Int32 → HS → Prop} (hX17 : ∀ (v0 : Nat) (v1 : Nat) (v2 : Nat) (v3 : Int32) (v4 : Nat) (v5 : Int32) (v6 : Int64) (v8 : Int32) (S : HS), X17 v0 v1 v2 v3 v4 v5 v6 v8 S → WS X 11 0 0 17 [(0, .ref v0), (1, .ref v1), (2, .ref v2), (3, .int v3), (4, .ref v4), (5, .int v5), (6, .long v6), (8, .int v8)] [] S) {v0 : Nat} {v1 : Nat} {v2 : Nat} {v3 : Int32} {v4 : Nat} {v5 : Int32} {v6 : Int64} {v8 : Int32} {S : HS} (h : B_X1_worstSpeed_17 Q X17 v0 v1 v2 v3 v4 v5 v6 v8 S) : WS X 11 0 0 17 [(0, .ref v0), (1, .ref v1), (2, .ref v2), (3, .int v3), (4, .ref v4), (5, .int v5), (6, .long v6), (8, .int v8)] [] S := by
  refine r_iload (pc := 17) C dX1_worstSpeed_17 7 rfl ?_
  refine r_aload_n (pc := 19) C dX1_worstSpeed_19 1 rfl ?_
  obtain ⟨o_v1, h⟩ := h
  refine r_geti (pc := 20) C fL_X1_86 dX1_worstSpeed_20 o_v1 ?_
  refine r_topi (fun x1 ex1 => ?_)
  have h := h x1 ex1
  refine r_icmp_gt (pc := 23) C (tgt := 61) dX1_worstSpeed_23 (by decide) (fun c2 => ?_) (fun c2 => ?_)
  · have h := h.1 c2
    refine r_iload (pc := 61) C dX1_worstSpeed_61 5 rfl ?_
    exact r_iret (pc := 63) C E ht dX1_worstSpeed_63 (by decide) (by decide) h
  · have h := h.2 c2
    refine r_aload_n (pc := 26) C dX1_worstSpeed_26 0 rfl ?_
    refine r_aload_n (pc := 27) C dX1_worstSpeed_27 1 rfl ?_
    refine r_aload_n (pc := 28) C dX1_worstSpeed_28 2 rfl ?_
    refine r_iload_n (pc := 29) C dX1_worstSpeed_29 3 rfl ?_
    refine r_aload (pc := 30) C dX1_worstSpeed_30 4 rfl ?_
    refine r_iload (pc := 32) C dX1_worstSpeed_32 7 rfl ?_
    obtain ⟨o_v0, h⟩ := h
    refine r_callVl0 (pc := 34) C (rest := []) (a := v0) o_v0 [.ref v1, .ref v2, .int v3, .ref v4, .int v8] yV_X1_wetOf g_765 (c_X1_wetOf h) dX1_worstSpeed_34 rfl rfl (Nat.le_of_ble_eq_true rfl) ⟨by decide, by decide⟩ ⟨by decide, by decide⟩ ⟨rfl, rfl⟩ (fun x5 S3 h g4 => ?_)
    have h := h g4
    have o_v0 := gr_ob g4 o_v0
    have o_v1 := gr_ob g4 o_v1
    refine r_lstore (pc := 37) C dX1_worstSpeed_37 (by decide) (lv' := [(9, .long x5), (0, .ref v0), (1, .ref v1), (2, .ref v2), (3, .int v3), (4, .ref v4), (5, .int v5), (6, .long v6), (8, .int v8)]) rfl ?_
    refine r_lload (pc := 39) C dX1_worstSpeed_39 0 rfl ?_
    refine r_lload (pc := 41) C dX1_worstSpeed_41 7 rfl ?_
    refine r_lcmp (pc := 43) C dX1_worstSpeed_43 ?_
    refine r_if_le (pc := 44) C (tgt := 55) dX1_worstSpeed_44 (by decide) (fun c6 => ?_) (fun c6 => ?_)
    · have h := h.1 c6
      exact r_sub [1, 2, 3, 4, 5, 6, 7, 8] rfl (T_X1_worstSpeed_55 C E ht hn hX17 h)
    · have h := h.2 c6
      refine r_lload (pc := 47) C dX1_worstSpeed_47 0 rfl ?_
      refine r_lstore (pc := 49) C dX1_worstSpeed_49 (by decide) (lv' := [(6, .long x5), (9, .long x5), (0, .ref v0), (1, .ref v1), (2, .ref v2), (3, .int v3), (4, .ref v4), (5, .int v5), (8, .int v8)]) rfl ?_
      refine r_iload (pc := 51) C dX1_worstSpeed_51 8 rfl ?_
      refine r_istore (pc := 53) C dX1_worstSpeed_53 (by decide) (lv' := [(5, .int v8), (6, .long x5), (9, .long x5), (0, .ref v0), (1, .ref v1), (2, .ref v2), (3, .int v3), (4, .ref v4), (8, .int v8)]) rfl ?_
      exact r_sub [3, 4, 5, 6, 7, 0, 1, 8] rfl (T_X1_worstSpeed_55 C E ht hn hX17 h)
theorem T_X1_worstSpeed_17 {X : CX} {Q : Int32 → HS → Prop} (C : Cx X cX1_worstSpeed RX1 11 rm_X1_worstSpeed) (E : ReI X rm_X1_worstSpeed Q) (ht : (xh X).sig.returnType = (some .int)) (hn : (xh X).name = yX1_worstSpeed.name) {v0 : Nat} {v1 : Nat} {v2 : Nat} {v3 : Int32} {v4 : Nat} {v5 : Int32} {v6 : Int64} {v8 : Int32} {S : HS} (h : P_X1_worstSpeed_17 Q v0 v1 v2 v3 v4 v5 v6 v8 S) : WS X 11 0 0 17 [(0, .ref v0), (1, .ref v1), (2, .ref v2), (3, .int v3), (4, .ref v4), (5, .int v5), (6, .long v6), (8, .int v8)] [] S :=
  h (fun v0 v1 v2 v3 v4 v5 v6 v8 S => WS X 11 0 0 17 [(0, .ref v0), (1, .ref v1), (2, .ref v2), (3, .int v3), (4, .ref v4), (5, .int v5), (6, .long v6), (8, .int v8)] [] S) (fun v0 v1 v2 v3 v4 v5 v6 v8 S hh => TB_X1_worstSpeed_17 C E ht hn (fun v0 v1 v2 v3 v4 v5 v6 v8 S z => z) hh)
def P_X1_worstSpeed_0 (Q : Int32 → HS → Prop) (v0 : Nat) (v1 : Nat) (v2 : Nat) (v3 : Int32) (v4 : Nat) (S : HS) : Prop := ob S v1 6 ∧ (∀ x1 : Int32, x1 = fI S v1 5 → (∀ x2 : Int32, x2 = fI S v1 5 → (P_X1_worstSpeed_17 Q v0 v1 v2 v3 v4 x1 (-1 : Int64) x2 S)))
set_option maxRecDepth 20000 in
set_option maxHeartbeats 4000000 in
theorem T_X1_worstSpeed_0 {X : CX} {Q : Int32 → HS → Prop} (C : Cx X cX1_worstSpeed RX1 11 rm_X1_worstSpeed) (E : ReI X rm_X1_worstSpeed Q) (ht : (xh X).sig.returnType = (some .int)) (hn : (xh X).name = yX1_worstSpeed.name) {v0 : Nat} {v1 : Nat} {v2 : Nat} {v3 : Int32} {v4 : Nat} {S : HS} (h : P_X1_worstSpeed_0 Q v0 v1 v2 v3 v4 S) : WS X 11 0 0 0 [(0, .ref v0), (1, .ref v1), (2, .ref v2), (3, .int v3), (4, .ref v4)] [] S := by
  refine r_aload_n (pc := 0) C dX1_worstSpeed_0 1 rfl ?_
  obtain ⟨o_v1, h⟩ := h
  refine r_geti (pc := 1) C fL_X1_81 dX1_worstSpeed_1 o_v1 ?_
  refine r_topi (fun x1 ex1 => ?_)
  have h := h x1 ex1
  refine r_istore (pc := 4) C dX1_worstSpeed_4 (by decide) (lv' := [(5, .int x1), (0, .ref v0), (1, .ref v1), (2, .ref v2), (3, .int v3), (4, .ref v4)]) rfl ?_
  refine r_ldc2 (pc := 6) C (v := (-1 : Int64)) dX1_worstSpeed_6 g_783 ?_
  refine r_lstore (pc := 9) C dX1_worstSpeed_9 (by decide) (lv' := [(6, .long (-1 : Int64)), (5, .int x1), (0, .ref v0), (1, .ref v1), (2, .ref v2), (3, .int v3), (4, .ref v4)]) rfl ?_
  refine r_aload_n (pc := 11) C dX1_worstSpeed_11 3 rfl ?_
  refine r_geti (pc := 12) C fL_X1_81 dX1_worstSpeed_12 o_v1 ?_
  refine r_topi (fun x2 ex2 => ?_)
  have h := h x2 ex2
  refine r_istore (pc := 15) C dX1_worstSpeed_15 (by decide) (lv' := [(8, .int x2), (6, .long (-1 : Int64)), (5, .int x1), (0, .ref v0), (1, .ref v1), (2, .ref v2), (3, .int v3), (4, .ref v4)]) rfl ?_
  exact r_sub [3, 4, 5, 6, 7, 2, 1, 0] rfl (T_X1_worstSpeed_17 C E ht hn h)
def P_X1_worstSpeed (v0 : Nat) (v1 : Nat) (v2 : Nat) (v3 : Int32) (v4 : Nat) (Q : Int32 → HS → Prop) (S : HS) : Prop := P_X1_worstSpeed_0 Q v0 v1 v2 v3 v4 S
theorem c_X1_worstSpeed {l : Launch} {Ee : EE} {S : HS} {v0 : Nat} {v1 : Nat} {v2 : Nat} {v3 : Int32} {v4 : Nat} {Q : Int32 → HS → Prop} (h : P_X1_worstSpeed v0 v1 v2 v3 v4 Q S) : MI l yX1_worstSpeed cX1_worstSpeed 11 (some .int) rm_X1_worstSpeed Ee S [.ref v0, .ref v1, .ref v2, .int v3, .ref v4] Q :=
  openI (by decide) (Nat.le_of_ble_eq_true rfl) (fun X C E ht hn hE hl => by subst hE; exact r_sub [0, 1, 2, 3, 4] rfl (T_X1_worstSpeed_0 C E ht hn h))
def rm_X2_addFaces : Room := { frames := 0, cells := 0, slots := 0, locals := 0 }
def B_X2_addFaces_2 (Q : HS → Prop) (X2 : Nat → Nat → Int32 → HS → Prop) (v0 : Nat) (v1 : Nat) (v2 : Int32) (S : HS) : Prop := (((5 : Int32) ≤ v2) → (Q S)) ∧ ((¬ (5 : Int32) ≤ v2) → (ob S v1 14 ∧ ((((nI (hN S v1)) ≤ v2) → (Q S)) ∧ ((¬ (nI (hN S v1)) ≤ v2) → (ob S v0 2 ∧ (∃ a3 : Nat, fR S v0 2 = some a3 ∧ (ob S a3 14 ∧ (vp_in v2 (hN S a3) ∧ ∀ x5 : Int64, x5 = fJ S a3 v2.toNatClampNeg → (vp_in v2 (hN S v1) ∧ ∀ x7 : Int64, x7 = fJ S v1 v2.toNatClampNeg → (∀ x9 : Int64, x9 = x5 + x7 → (vp_in v2 (hN S a3) ∧ (∀ S10 : HS, S10 = sJ S a3 v2.toNatClampNeg x9 → (∀ x11 : Int32, x11 = v2 + (1 : Int32) → (X2 v0 v1 x11 S10))))))))))))))
def P_X2_addFaces_2 (Q : HS → Prop) (v0 : Nat) (v1 : Nat) (v2 : Int32) (S : HS) : Prop := ∀ X2 : Nat → Nat → Int32 → HS → Prop, (∀ (v0 : Nat) (v1 : Nat) (v2 : Int32) (S : HS), B_X2_addFaces_2 Q X2 v0 v1 v2 S → X2 v0 v1 v2 S) → X2 v0 v1 v2 S
set_option maxRecDepth 20000 in
set_option maxHeartbeats 4000000 in
theorem TB_X2_addFaces_2 {X : CX} {Q : HS → Prop} (C : Cx X cX2_addFaces RX2 3 rm_X2_addFaces) (E : ReV X rm_X2_addFaces Q) (ht : (xh X).sig.returnType = none) (hn : (xh X).name = yX2_addFaces.name) {X2 : Nat → Nat → Int32 → HS → Prop} (hX2 : ∀ (v0 : Nat) (v1 : Nat) (v2 : Int32) (S : HS), X2 v0 v1 v2 S → WS X 3 0 0 2 [(0, .ref v0), (1, .ref v1), (2, .int v2)] [] S) {v0 : Nat} {v1 : Nat} {v2 : Int32} {S : HS} (h : B_X2_addFaces_2 Q X2 v0 v1 v2 S) : WS X 3 0 0 2 [(0, .ref v0), (1, .ref v1), (2, .int v2)] [] S := by
  refine r_iload_n (pc := 2) C dX2_addFaces_2 2 rfl ?_
  refine r_iconst (pc := 3) C (v := (5 : Int32)) dX2_addFaces_3 (by decide) ?_
  refine r_icmp_ge (pc := 4) C (tgt := 31) dX2_addFaces_4 (by decide) (fun c1 => ?_) (fun c1 => ?_)
  · have h := h.1 c1
    exact r_vret (pc := 31) C E ht dX2_addFaces_31 (by decide) (by decide) h
  · have h := h.2 c1
    refine r_iload_n (pc := 7) C dX2_addFaces_7 2 rfl ?_
    refine r_aload_n (pc := 8) C dX2_addFaces_8 1 rfl ?_
    obtain ⟨o_v1, h⟩ := h
    refine r_alen14 (pc := 9) C dX2_addFaces_9 o_v1 ?_
    refine r_icmp_ge (pc := 10) C (tgt := 31) dX2_addFaces_10 (by decide) (fun c2 => ?_) (fun c2 => ?_)
    · have h := h.1 c2
      exact r_vret (pc := 31) C E ht dX2_addFaces_31 (by decide) (by decide) h
    · have h := h.2 c2
      refine r_aload_n (pc := 13) C dX2_addFaces_13 0 rfl ?_
      obtain ⟨o_v0, h⟩ := h
      obtain ⟨a3, ea3, h⟩ := h
      refine r_getr (pc := 14) C fL_X2_9 dX2_addFaces_14 o_v0 ea3 ?_
      refine r_iload_n (pc := 17) C dX2_addFaces_17 2 rfl ?_
      refine r_dup2 (pc := 18) C dX2_addFaces_18 rfl rfl ?_
      obtain ⟨o_a3, h⟩ := h
      obtain ⟨i4, h⟩ := h
      refine r_lald (pc := 19) C dX2_addFaces_19 o_a3 i4 ?_
      refine r_topl (fun x5 ex5 => ?_)
      have h := h x5 ex5
      refine r_aload_n (pc := 20) C dX2_addFaces_20 1 rfl ?_
      refine r_iload_n (pc := 21) C dX2_addFaces_21 2 rfl ?_
      obtain ⟨i6, h⟩ := h
      refine r_lald (pc := 22) C dX2_addFaces_22 o_v1 i6 ?_
      refine r_topl (fun x7 ex7 => ?_)
      have h := h x7 ex7
      refine r_ladd (pc := 23) C dX2_addFaces_23 ?_
      refine r_topl (fun x9 ex9 => ?_)
      have h := h x9 ex9
      obtain ⟨i8, h⟩ := h
      refine r_last (pc := 24) C dX2_addFaces_24 o_a3 i8 ?_
      refine r_heap (fun S10 eS10 => ?_)
      have h := h S10 eS10
      have o_a3 := ob_J eS10 o_a3
      have o_v0 := ob_J eS10 o_v0
      have o_v1 := ob_J eS10 o_v1
      obtain ⟨x11, ex11⟩ : ∃ z : Int32, z = v2 + (1 : Int32) := ⟨_, rfl⟩
      have h := h x11 ex11
      refine r_iinc (pc := 25) C (v := x11) (lv' := [(2, .int x11), (0, .ref v0), (1, .ref v1)]) dX2_addFaces_25 2 rfl ex11.symm (by decide) rfl ?_
      refine r_goto (pc := 28) C (tgt := 2) dX2_addFaces_28 (by decide) ?_
      exact r_sub [1, 2, 0] rfl (hX2 v0 v1 x11 S10 h)
theorem T_X2_addFaces_2 {X : CX} {Q : HS → Prop} (C : Cx X cX2_addFaces RX2 3 rm_X2_addFaces) (E : ReV X rm_X2_addFaces Q) (ht : (xh X).sig.returnType = none) (hn : (xh X).name = yX2_addFaces.name) {v0 : Nat} {v1 : Nat} {v2 : Int32} {S : HS} (h : P_X2_addFaces_2 Q v0 v1 v2 S) : WS X 3 0 0 2 [(0, .ref v0), (1, .ref v1), (2, .int v2)] [] S :=
  h (fun v0 v1 v2 S => WS X 3 0 0 2 [(0, .ref v0), (1, .ref v1), (2, .int v2)] [] S) (fun v0 v1 v2 S hh => TB_X2_addFaces_2 C E ht hn (fun v0 v1 v2 S z => z) hh)
def P_X2_addFaces_0 (Q : HS → Prop) (v0 : Nat) (v1 : Nat) (S : HS) : Prop := P_X2_addFaces_2 Q v0 v1 (0 : Int32) S
set_option maxRecDepth 20000 in
set_option maxHeartbeats 4000000 in
theorem T_X2_addFaces_0 {X : CX} {Q : HS → Prop} (C : Cx X cX2_addFaces RX2 3 rm_X2_addFaces) (E : ReV X rm_X2_addFaces Q) (ht : (xh X).sig.returnType = none) (hn : (xh X).name = yX2_addFaces.name) {v0 : Nat} {v1 : Nat} {S : HS} (h : P_X2_addFaces_0 Q v0 v1 S) : WS X 3 0 0 0 [(0, .ref v0), (1, .ref v1)] [] S := by
  refine r_iconst (pc := 0) C (v := (0 : Int32)) dX2_addFaces_0 (by decide) ?_
  refine r_istore_n (pc := 1) C dX2_addFaces_1 rfl (by decide) (lv' := [(2, .int (0 : Int32)), (0, .ref v0), (1, .ref v1)]) rfl ?_
  exact r_sub [1, 2, 0] rfl (T_X2_addFaces_2 C E ht hn h)
def P_X2_addFaces (v0 : Nat) (v1 : Nat) (Q : HS → Prop) (S : HS) : Prop := P_X2_addFaces_0 Q v0 v1 S
theorem c_X2_addFaces {l : Launch} {Ee : EE} {S : HS} {v0 : Nat} {v1 : Nat} {Q : HS → Prop} (h : P_X2_addFaces v0 v1 Q S) : MV l yX2_addFaces cX2_addFaces 3 none rm_X2_addFaces Ee S [.ref v0, .ref v1] Q :=
  openV (by decide) (Nat.le_of_ble_eq_true rfl) (fun X C E ht hn hE hl => by subst hE; exact r_sub [0, 1] rfl (T_X2_addFaces_0 C E ht hn h))
def rm_X2_allGot : Room := { frames := 0, cells := 0, slots := 0, locals := 0 }
def B_X2_allGot_4 (Q : Int64 → HS → Prop) (X4 : Nat → Int64 → Int32 → HS → Prop) (v0 : Nat) (v1 : Int64) (v3 : Int32) (S : HS) : Prop := (((5 : Int32) ≤ v3) → (Q v1 S)) ∧ ((¬ (5 : Int32) ≤ v3) → (ob S v0 2 ∧ (∃ a2 : Nat, fR S v0 2 = some a2 ∧ (ob S a2 14 ∧ (vp_in v3 (hN S a2) ∧ ∀ x4 : Int64, x4 = fJ S a2 v3.toNatClampNeg → (∀ x5 : Int64, x5 = v1 + x4 → (∀ x6 : Int32, x6 = v3 + (1 : Int32) → (X4 v0 x5 x6 S))))))))
def P_X2_allGot_4 (Q : Int64 → HS → Prop) (v0 : Nat) (v1 : Int64) (v3 : Int32) (S : HS) : Prop := ∀ X4 : Nat → Int64 → Int32 → HS → Prop, (∀ (v0 : Nat) (v1 : Int64) (v3 : Int32) (S : HS), B_X2_allGot_4 Q X4 v0 v1 v3 S → X4 v0 v1 v3 S) → X4 v0 v1 v3 S
set_option maxRecDepth 20000 in
set_option maxHeartbeats 4000000 in
theorem TB_X2_allGot_4 {X : CX} {Q : Int64 → HS → Prop} (C : Cx X cX2_allGot RX2 4 rm_X2_allGot) (E : ReJ X rm_X2_allGot Q) (ht : (xh X).sig.returnType = (some .long)) (hn : (xh X).name = yX2_allGot.name) {X4 : Nat → Int64 → Int32 → HS → Prop} (hX4 : ∀ (v0 : Nat) (v1 : Int64) (v3 : Int32) (S : HS), X4 v0 v1 v3 S → WS X 4 0 0 4 [(0, .ref v0), (1, .long v1), (3, .int v3)] [] S) {v0 : Nat} {v1 : Int64} {v3 : Int32} {S : HS} (h : B_X2_allGot_4 Q X4 v0 v1 v3 S) : WS X 4 0 0 4 [(0, .ref v0), (1, .long v1), (3, .int v3)] [] S := by
  refine r_iload_n (pc := 4) C dX2_allGot_4 2 rfl ?_
  refine r_iconst (pc := 5) C (v := (5 : Int32)) dX2_allGot_5 (by decide) ?_
  refine r_icmp_ge (pc := 6) C (tgt := 24) dX2_allGot_6 (by decide) (fun c1 => ?_) (fun c1 => ?_)
  · have h := h.1 c1
    refine r_lload_n (pc := 24) C dX2_allGot_24 1 rfl ?_
    exact r_lret (pc := 25) C E ht dX2_allGot_25 (by decide) (by decide) h
  · have h := h.2 c1
    refine r_lload_n (pc := 9) C dX2_allGot_9 1 rfl ?_
    refine r_aload_n (pc := 10) C dX2_allGot_10 0 rfl ?_
    obtain ⟨o_v0, h⟩ := h
    obtain ⟨a2, ea2, h⟩ := h
    refine r_getr (pc := 11) C fL_X2_9 dX2_allGot_11 o_v0 ea2 ?_
    refine r_iload_n (pc := 14) C dX2_allGot_14 2 rfl ?_
    obtain ⟨o_a2, h⟩ := h
    obtain ⟨i3, h⟩ := h
    refine r_lald (pc := 15) C dX2_allGot_15 o_a2 i3 ?_
    refine r_topl (fun x4 ex4 => ?_)
    have h := h x4 ex4
    refine r_ladd (pc := 16) C dX2_allGot_16 ?_
    refine r_topl (fun x5 ex5 => ?_)
    have h := h x5 ex5
    refine r_lstore_n (pc := 17) C dX2_allGot_17 rfl (by decide) (lv' := [(1, .long x5), (0, .ref v0), (3, .int v3)]) rfl ?_
    obtain ⟨x6, ex6⟩ : ∃ z : Int32, z = v3 + (1 : Int32) := ⟨_, rfl⟩
    have h := h x6 ex6
    refine r_iinc (pc := 18) C (v := x6) (lv' := [(3, .int x6), (1, .long x5), (0, .ref v0)]) dX2_allGot_18 2 rfl ex6.symm (by decide) rfl ?_
    refine r_goto (pc := 21) C (tgt := 4) dX2_allGot_21 (by decide) ?_
    exact r_sub [2, 1, 0] rfl (hX4 v0 x5 x6 S h)
theorem T_X2_allGot_4 {X : CX} {Q : Int64 → HS → Prop} (C : Cx X cX2_allGot RX2 4 rm_X2_allGot) (E : ReJ X rm_X2_allGot Q) (ht : (xh X).sig.returnType = (some .long)) (hn : (xh X).name = yX2_allGot.name) {v0 : Nat} {v1 : Int64} {v3 : Int32} {S : HS} (h : P_X2_allGot_4 Q v0 v1 v3 S) : WS X 4 0 0 4 [(0, .ref v0), (1, .long v1), (3, .int v3)] [] S :=
  h (fun v0 v1 v3 S => WS X 4 0 0 4 [(0, .ref v0), (1, .long v1), (3, .int v3)] [] S) (fun v0 v1 v3 S hh => TB_X2_allGot_4 C E ht hn (fun v0 v1 v3 S z => z) hh)
def P_X2_allGot_0 (Q : Int64 → HS → Prop) (v0 : Nat) (S : HS) : Prop := P_X2_allGot_4 Q v0 (0 : Int64) (0 : Int32) S
set_option maxRecDepth 20000 in
set_option maxHeartbeats 4000000 in
theorem T_X2_allGot_0 {X : CX} {Q : Int64 → HS → Prop} (C : Cx X cX2_allGot RX2 4 rm_X2_allGot) (E : ReJ X rm_X2_allGot Q) (ht : (xh X).sig.returnType = (some .long)) (hn : (xh X).name = yX2_allGot.name) {v0 : Nat} {S : HS} (h : P_X2_allGot_0 Q v0 S) : WS X 4 0 0 0 [(0, .ref v0)] [] S := by
  refine r_lconst (pc := 0) C (v := (0 : Int64)) dX2_allGot_0 (by decide) ?_
  refine r_lstore_n (pc := 1) C dX2_allGot_1 rfl (by decide) (lv' := [(1, .long (0 : Int64)), (0, .ref v0)]) rfl ?_
  refine r_iconst (pc := 2) C (v := (0 : Int32)) dX2_allGot_2 (by decide) ?_
  refine r_istore_n (pc := 3) C dX2_allGot_3 rfl (by decide) (lv' := [(3, .int (0 : Int32)), (1, .long (0 : Int64)), (0, .ref v0)]) rfl ?_
  exact r_sub [2, 1, 0] rfl (T_X2_allGot_4 C E ht hn h)
def P_X2_allGot (v0 : Nat) (Q : Int64 → HS → Prop) (S : HS) : Prop := P_X2_allGot_0 Q v0 S
theorem c_X2_allGot {l : Launch} {Ee : EE} {S : HS} {v0 : Nat} {Q : Int64 → HS → Prop} (h : P_X2_allGot v0 Q S) : MJ l yX2_allGot cX2_allGot 4 (some .long) rm_X2_allGot Ee S [.ref v0] Q :=
  openJ (by decide) (Nat.le_of_ble_eq_true rfl) (fun X C E ht hn hE hl => by subst hE; exact r_sub [0] rfl (T_X2_allGot_0 C E ht hn h))
def rm_X3_init : Room := { frames := 1, cells := 0, slots := 0, locals := 20 }
def P_X3_init_0 (Q : HS → Prop) (v0 : Nat) (S : HS) : Prop := Q S
set_option maxRecDepth 20000 in
set_option maxHeartbeats 4000000 in
theorem T_X3_init_0 {X : CX} {Q : HS → Prop} (C : Cx X cX3_init RX3 1 rm_X3_init) (E : ReV X rm_X3_init Q) (ht : (xh X).sig.returnType = none) (hn : (xh X).name = yX3_init.name) {v0 : Nat} {S : HS} (h : P_X3_init_0 Q v0 S) : WS X 1 0 0 0 [(0, .ref v0)] [] S := by
  refine r_aload_n (pc := 0) C dX3_init_0 0 rfl ?_
  refine r_objinit (pc := 1) C g_46 dX3_init_1 (by decide) (Nat.le_of_ble_eq_true rfl) ?_
  exact r_vret (pc := 4) C E ht dX3_init_4 (by decide) (by decide) h
def P_X3_init (v0 : Nat) (Q : HS → Prop) (S : HS) : Prop := P_X3_init_0 Q v0 S
theorem c_X3_init {l : Launch} {Ee : EE} {S : HS} {v0 : Nat} {Q : HS → Prop} (h : P_X3_init v0 Q S) : MV l yX3_init cX3_init 1 none rm_X3_init Ee S [.ref v0] Q :=
  openV (by decide) (Nat.le_of_ble_eq_true rfl) (fun X C E ht hn hE hl => by subst hE; exact r_sub [0] rfl (T_X3_init_0 C E ht hn h))
def rm_X4_fail : Room := { frames := 0, cells := 0, slots := 0, locals := 0 }
def P_X4_fail_0 (Q : Int32 → HS → Prop) (v0 : Nat) (v1 : Int32) (S : HS) : Prop := ob S v0 4 ∧ (∀ S1 : HS, S1 = sI S v0 0 v1 → (∀ x2 : Int32, x2 = fI S1 v0 7 → (∀ S3 : HS, S3 = sI S1 v0 1 x2 → (Q (0 : Int32) S3))))
set_option maxRecDepth 20000 in
set_option maxHeartbeats 4000000 in
theorem T_X4_fail_0 {X : CX} {Q : Int32 → HS → Prop} (C : Cx X cX4_fail RX4 2 rm_X4_fail) (E : ReI X rm_X4_fail (fun r S => bl r ∧ Q r S)) (ht : (xh X).sig.returnType = (some .boolean)) (hn : (xh X).name = yX4_fail.name) {v0 : Nat} {v1 : Int32} {S : HS} (h : P_X4_fail_0 Q v0 v1 S) : WS X 2 0 0 0 [(0, .ref v0), (1, .int v1)] [] S := by
  refine r_aload_n (pc := 0) C dX4_fail_0 0 rfl ?_
  refine r_iload_n (pc := 1) C dX4_fail_1 1 rfl ?_
  obtain ⟨o_v0, h⟩ := h
  refine r_puti (pc := 2) C pfL_X4_110 dX4_fail_2 o_v0 ?_
  refine r_heap (fun S1 eS1 => ?_)
  have h := h S1 eS1
  have o_v0 := ob_I eS1 o_v0
  refine r_aload_n (pc := 5) C dX4_fail_5 0 rfl ?_
  refine r_aload_n (pc := 6) C dX4_fail_6 0 rfl ?_
  refine r_geti (pc := 7) C fL_X4_125 dX4_fail_7 o_v0 ?_
  refine r_topi (fun x2 ex2 => ?_)
  have h := h x2 ex2
  refine r_puti (pc := 10) C pfL_X4_113 dX4_fail_10 o_v0 ?_
  refine r_heap (fun S3 eS3 => ?_)
  have h := h S3 eS3
  have o_v0 := ob_I eS3 o_v0
  refine r_iconst (pc := 13) C (v := (0 : Int32)) dX4_fail_13 (by decide) ?_
  exact r_zret (pc := 14) C E ht dX4_fail_14 (by decide) (by decide) (Or.inl rfl) h
def P_X4_fail (v0 : Nat) (v1 : Int32) (Q : Int32 → HS → Prop) (S : HS) : Prop := P_X4_fail_0 Q v0 v1 S
theorem c_X4_fail {l : Launch} {Ee : EE} {S : HS} {v0 : Nat} {v1 : Int32} {Q : Int32 → HS → Prop} (h : P_X4_fail v0 v1 Q S) : MI l yX4_fail cX4_fail 2 (some .boolean) rm_X4_fail Ee S [.ref v0, .int v1] (fun r S => bl r ∧ Q r S) :=
  openI (by decide) (Nat.le_of_ble_eq_true rfl) (fun X C E ht hn hE hl => by subst hE; exact r_sub [0, 1] rfl (T_X4_fail_0 C E ht hn h))
def rm_X4_sortAt : Room := { frames := 0, cells := 0, slots := 0, locals := 0 }
def P_X4_sortAt_58 (Q : Int32 → HS → Prop) (v2 : Int32) (S : HS) : Prop := (v2.toInt = 32 → (Q (5 : Int32) S)) ∧ (v2.toInt = 44 → (Q (4 : Int32) S)) ∧ (v2.toInt = 59 → (Q (3 : Int32) S)) ∧ (¬ v2.toInt = 32 ∧ ¬ v2.toInt = 44 ∧ ¬ v2.toInt = 59 → (Q (6 : Int32) S))
set_option maxRecDepth 20000 in
set_option maxHeartbeats 4000000 in
theorem T_X4_sortAt_58 {X : CX} {Q : Int32 → HS → Prop} (C : Cx X cX4_sortAt RX4 3 rm_X4_sortAt) (E : ReI X rm_X4_sortAt Q) (ht : (xh X).sig.returnType = (some .int)) (hn : (xh X).name = yX4_sortAt.name) {v2 : Int32} {S : HS} (h : P_X4_sortAt_58 Q v2 S) : WS X 3 0 0 58 [(2, .int v2)] [] S := by
  refine r_iload_n (pc := 58) C dX4_sortAt_58 0 rfl ?_
  by_cases w0 : v2.toInt = 32
  · refine r_lookup (pc := 59) C (tgt := 92) (off := 33) dX4_sortAt_59 rfl (by rw [w0]; rfl) (by decide) ?_
    have h := h.1 w0
    refine r_iconst (pc := 92) C (v := (5 : Int32)) dX4_sortAt_92 (by decide) ?_
    exact r_iret (pc := 93) C E ht dX4_sortAt_93 (by decide) (by decide) h
  by_cases w1 : v2.toInt = 44
  · refine r_lookup (pc := 59) C (tgt := 96) (off := 37) dX4_sortAt_59 rfl (by rw [w1]; rfl) (by decide) ?_
    have h := h.2.1 w1
    refine r_iconst (pc := 96) C (v := (4 : Int32)) dX4_sortAt_96 (by decide) ?_
    exact r_iret (pc := 97) C E ht dX4_sortAt_97 (by decide) (by decide) h
  by_cases w2 : v2.toInt = 59
  · refine r_lookup (pc := 59) C (tgt := 94) (off := 35) dX4_sortAt_59 rfl (by rw [w2]; rfl) (by decide) ?_
    have h := h.2.2.1 w2
    refine r_iconst (pc := 94) C (v := (3 : Int32)) dX4_sortAt_94 (by decide) ?_
    exact r_iret (pc := 95) C E ht dX4_sortAt_95 (by decide) (by decide) h
  refine r_lookup (pc := 59) C (tgt := 98) (off := 39) dX4_sortAt_59 rfl (by simp [Op.lookupswitch.offset]; rw [if_neg (fun q => w0 (Eq.symm q)), if_neg (fun q => w1 (Eq.symm q)), if_neg (fun q => w2 (Eq.symm q))]) (by decide) ?_
  have h := h.2.2.2 ⟨w0, w1, w2⟩
  refine r_bipush (pc := 98) C (v := (6 : Int32)) dX4_sortAt_98 (by decide) ?_
  exact r_iret (pc := 100) C E ht dX4_sortAt_100 (by decide) (by decide) h
def P_X4_sortAt_44 (Q : Int32 → HS → Prop) (v2 : Int32) (S : HS) : Prop := ((v2 < (48 : Int32)) → (P_X4_sortAt_58 Q v2 S)) ∧ ((¬ v2 < (48 : Int32)) → ((((57 : Int32) < v2) → (P_X4_sortAt_58 Q v2 S)) ∧ ((¬ (57 : Int32) < v2) → (Q (2 : Int32) S))))
set_option maxRecDepth 20000 in
set_option maxHeartbeats 4000000 in
theorem T_X4_sortAt_44 {X : CX} {Q : Int32 → HS → Prop} (C : Cx X cX4_sortAt RX4 3 rm_X4_sortAt) (E : ReI X rm_X4_sortAt Q) (ht : (xh X).sig.returnType = (some .int)) (hn : (xh X).name = yX4_sortAt.name) {v2 : Int32} {S : HS} (h : P_X4_sortAt_44 Q v2 S) : WS X 3 0 0 44 [(2, .int v2)] [] S := by
  refine r_iload_n (pc := 44) C dX4_sortAt_44 0 rfl ?_
  refine r_bipush (pc := 45) C (v := (48 : Int32)) dX4_sortAt_45 (by decide) ?_
  refine r_icmp_lt (pc := 47) C (tgt := 58) dX4_sortAt_47 (by decide) (fun c1 => ?_) (fun c1 => ?_)
  · have h := h.1 c1
    exact r_sub [0] rfl (T_X4_sortAt_58 C E ht hn h)
  · have h := h.2 c1
    refine r_iload_n (pc := 50) C dX4_sortAt_50 0 rfl ?_
    refine r_bipush (pc := 51) C (v := (57 : Int32)) dX4_sortAt_51 (by decide) ?_
    refine r_icmp_gt (pc := 53) C (tgt := 58) dX4_sortAt_53 (by decide) (fun c2 => ?_) (fun c2 => ?_)
    · have h := h.1 c2
      exact r_sub [0] rfl (T_X4_sortAt_58 C E ht hn h)
    · have h := h.2 c2
      refine r_iconst (pc := 56) C (v := (2 : Int32)) dX4_sortAt_56 (by decide) ?_
      exact r_iret (pc := 57) C E ht dX4_sortAt_57 (by decide) (by decide) h
def P_X4_sortAt_0 (Q : Int32 → HS → Prop) (v0 : Nat) (v1 : Int32) (S : HS) : Prop := ((v1 < 0) → (Q (0 : Int32) S)) ∧ ((¬ v1 < 0) → (ob S v0 4 ∧ (∀ x2 : Int32, x2 = fI S v0 3 → (((x2 ≤ v1) → (Q (0 : Int32) S)) ∧ ((¬ x2 ≤ v1) → (∃ a4 : Nat, fR S v0 2 = some a4 ∧ (ob S a4 12 ∧ (((v1 < (nI (hN S a4))) → (∃ a6 : Nat, fR S v0 2 = some a6 ∧ (ob S a6 12 ∧ (vp_in v1 (hN S a6) ∧ ∀ x8 : Int32, x8 = fI S a6 v1.toNatClampNeg → (((x8 < (97 : Int32)) → (P_X4_sortAt_44 Q x8 S)) ∧ ((¬ x8 < (97 : Int32)) → ((((122 : Int32) < x8) → (P_X4_sortAt_44 Q x8 S)) ∧ ((¬ (122 : Int32) < x8) → (Q (1 : Int32) S))))))))) ∧ ((¬ v1 < (nI (hN S a4))) → (Q (0 : Int32) S))))))))))
set_option maxRecDepth 20000 in
set_option maxHeartbeats 4000000 in
theorem T_X4_sortAt_0 {X : CX} {Q : Int32 → HS → Prop} (C : Cx X cX4_sortAt RX4 3 rm_X4_sortAt) (E : ReI X rm_X4_sortAt Q) (ht : (xh X).sig.returnType = (some .int)) (hn : (xh X).name = yX4_sortAt.name) {v0 : Nat} {v1 : Int32} {S : HS} (h : P_X4_sortAt_0 Q v0 v1 S) : WS X 3 0 0 0 [(0, .ref v0), (1, .int v1)] [] S := by
  refine r_iload_n (pc := 0) C dX4_sortAt_0 1 rfl ?_
  refine r_if_lt (pc := 1) C (tgt := 21) dX4_sortAt_1 (by decide) (fun c1 => ?_) (fun c1 => ?_)
  · have h := h.1 c1
    refine r_iconst (pc := 21) C (v := (0 : Int32)) dX4_sortAt_21 (by decide) ?_
    exact r_iret (pc := 22) C E ht dX4_sortAt_22 (by decide) (by decide) h
  · have h := h.2 c1
    refine r_iload_n (pc := 4) C dX4_sortAt_4 1 rfl ?_
    refine r_aload_n (pc := 5) C dX4_sortAt_5 0 rfl ?_
    obtain ⟨o_v0, h⟩ := h
    refine r_geti (pc := 6) C fL_X4_104 dX4_sortAt_6 o_v0 ?_
    refine r_topi (fun x2 ex2 => ?_)
    have h := h x2 ex2
    refine r_icmp_ge (pc := 9) C (tgt := 21) dX4_sortAt_9 (by decide) (fun c3 => ?_) (fun c3 => ?_)
    · have h := h.1 c3
      refine r_iconst (pc := 21) C (v := (0 : Int32)) dX4_sortAt_21 (by decide) ?_
      exact r_iret (pc := 22) C E ht dX4_sortAt_22 (by decide) (by decide) h
    · have h := h.2 c3
      refine r_iload_n (pc := 12) C dX4_sortAt_12 1 rfl ?_
      refine r_aload_n (pc := 13) C dX4_sortAt_13 0 rfl ?_
      obtain ⟨a4, ea4, h⟩ := h
      refine r_getr (pc := 14) C fL_X4_9 dX4_sortAt_14 o_v0 ea4 ?_
      obtain ⟨o_a4, h⟩ := h
      refine r_alen12 (pc := 17) C dX4_sortAt_17 o_a4 ?_
      refine r_icmp_lt (pc := 18) C (tgt := 23) dX4_sortAt_18 (by decide) (fun c5 => ?_) (fun c5 => ?_)
      · have h := h.1 c5
        refine r_aload_n (pc := 23) C dX4_sortAt_23 0 rfl ?_
        obtain ⟨a6, ea6, h⟩ := h
        refine r_getr (pc := 24) C fL_X4_9 dX4_sortAt_24 o_v0 ea6 ?_
        refine r_iload_n (pc := 27) C dX4_sortAt_27 1 rfl ?_
        obtain ⟨o_a6, h⟩ := h
        obtain ⟨i7, h⟩ := h
        refine r_bald (pc := 28) C dX4_sortAt_28 o_a6 i7 ?_
        refine r_topi (fun x8 ex8 => ?_)
        have h := h x8 ex8
        refine r_istore_n (pc := 29) C dX4_sortAt_29 rfl (by decide) (lv' := [(2, .int x8), (0, .ref v0), (1, .int v1)]) rfl ?_
        refine r_iload_n (pc := 30) C dX4_sortAt_30 0 rfl ?_
        refine r_bipush (pc := 31) C (v := (97 : Int32)) dX4_sortAt_31 (by decide) ?_
        refine r_icmp_lt (pc := 33) C (tgt := 44) dX4_sortAt_33 (by decide) (fun c9 => ?_) (fun c9 => ?_)
        · have h := h.1 c9
          exact r_sub [0] rfl (T_X4_sortAt_44 C E ht hn h)
        · have h := h.2 c9
          refine r_iload_n (pc := 36) C dX4_sortAt_36 0 rfl ?_
          refine r_bipush (pc := 37) C (v := (122 : Int32)) dX4_sortAt_37 (by decide) ?_
          refine r_icmp_gt (pc := 39) C (tgt := 44) dX4_sortAt_39 (by decide) (fun c10 => ?_) (fun c10 => ?_)
          · have h := h.1 c10
            exact r_sub [0] rfl (T_X4_sortAt_44 C E ht hn h)
          · have h := h.2 c10
            refine r_iconst (pc := 42) C (v := (1 : Int32)) dX4_sortAt_42 (by decide) ?_
            exact r_iret (pc := 43) C E ht dX4_sortAt_43 (by decide) (by decide) h
      · have h := h.2 c5
        refine r_iconst (pc := 21) C (v := (0 : Int32)) dX4_sortAt_21 (by decide) ?_
        exact r_iret (pc := 22) C E ht dX4_sortAt_22 (by decide) (by decide) h
def P_X4_sortAt (v0 : Nat) (v1 : Int32) (Q : Int32 → HS → Prop) (S : HS) : Prop := P_X4_sortAt_0 Q v0 v1 S
theorem c_X4_sortAt {l : Launch} {Ee : EE} {S : HS} {v0 : Nat} {v1 : Int32} {Q : Int32 → HS → Prop} (h : P_X4_sortAt v0 v1 Q S) : MI l yX4_sortAt cX4_sortAt 3 (some .int) rm_X4_sortAt Ee S [.ref v0, .int v1] Q :=
  openI (by decide) (Nat.le_of_ble_eq_true rfl) (fun X C E ht hn hE hl => by subst hE; exact r_sub [0, 1] rfl (T_X4_sortAt_0 C E ht hn h))
def rm_X4_next : Room := { frames := 1, cells := 0, slots := 0, locals := 22 }
def P_X4_next_201 (Q : HS → Prop) (X118 : Nat → Int32 → Int32 → Int32 → Int32 → HS → Prop) (v0 : Nat) (v1 : Int32) (v2 : Int32) (v3 : Int32) (v4 : Int32) (S : HS) : Prop := ob S v0 4 ∧ (∀ x1 : Int32, x1 = fI S v0 4 → (∀ x2 : Int32, x2 = x1 + (1 : Int32) → (∀ S3 : HS, S3 = sI S v0 4 x2 → (∀ x4 : Int32, x4 = v4 + (1 : Int32) → (X118 v0 v1 v2 v3 x4 S3)))))
set_option maxRecDepth 20000 in
set_option maxHeartbeats 4000000 in
theorem T_X4_next_201 {X : CX} {Q : HS → Prop} (C : Cx X cX4_next RX4 5 rm_X4_next) (E : ReV X rm_X4_next Q) (ht : (xh X).sig.returnType = none) (hn : (xh X).name = yX4_next.name) {X118 : Nat → Int32 → Int32 → Int32 → Int32 → HS → Prop} (hX118 : ∀ (v0 : Nat) (v1 : Int32) (v2 : Int32) (v3 : Int32) (v4 : Int32) (S : HS), X118 v0 v1 v2 v3 v4 S → WS X 5 0 0 118 [(0, .ref v0), (1, .int v1), (2, .int v2), (3, .int v3), (4, .int v4)] [] S) {v0 : Nat} {v1 : Int32} {v2 : Int32} {v3 : Int32} {v4 : Int32} {S : HS} (h : P_X4_next_201 Q X118 v0 v1 v2 v3 v4 S) : WS X 5 0 0 201 [(0, .ref v0), (1, .int v1), (2, .int v2), (3, .int v3), (4, .int v4)] [] S := by
  refine r_aload_n (pc := 201) C dX4_next_201 0 rfl ?_
  refine r_dup (pc := 202) C dX4_next_202 rfl ?_
  obtain ⟨o_v0, h⟩ := h
  refine r_geti (pc := 203) C fL_X4_107 dX4_next_203 o_v0 ?_
  refine r_topi (fun x1 ex1 => ?_)
  have h := h x1 ex1
  refine r_iconst (pc := 206) C (v := (1 : Int32)) dX4_next_206 (by decide) ?_
  refine r_iadd (pc := 207) C dX4_next_207 ?_
  refine r_topi (fun x2 ex2 => ?_)
  have h := h x2 ex2
  refine r_puti (pc := 208) C pfL_X4_107 dX4_next_208 o_v0 ?_
  refine r_heap (fun S3 eS3 => ?_)
  have h := h S3 eS3
  have o_v0 := ob_I eS3 o_v0
  obtain ⟨x4, ex4⟩ : ∃ z : Int32, z = v4 + (1 : Int32) := ⟨_, rfl⟩
  have h := h x4 ex4
  refine r_iinc (pc := 211) C (v := x4) (lv' := [(4, .int x4), (0, .ref v0), (1, .int v1), (2, .int v2), (3, .int v3)]) dX4_next_211 4 rfl ex4.symm (by decide) rfl ?_
  refine r_goto (pc := 214) C (tgt := 118) dX4_next_214 (by decide) ?_
  exact r_sub [1, 2, 3, 4, 0] rfl (hX118 v0 v1 v2 v3 x4 S3 h)
def P_X4_next_195 (Q : HS → Prop) (X118 : Nat → Int32 → Int32 → Int32 → Int32 → HS → Prop) (v0 : Nat) (v1 : Int32) (v2 : Int32) (v3 : Int32) (v4 : Int32) (s0 : Nat) (s1 : Int64) (s2 : Int32) (s3 : Int32) (S : HS) : Prop := ob S s0 4 ∧ (∀ x1 : Int64, x1 = s1 + ((s2 &&& s3).toInt64) → (∀ S2 : HS, S2 = sJ S s0 8 x1 → (P_X4_next_201 Q X118 v0 v1 v2 v3 v4 S2)))
set_option maxRecDepth 20000 in
set_option maxHeartbeats 4000000 in
theorem T_X4_next_195 {X : CX} {Q : HS → Prop} (C : Cx X cX4_next RX4 5 rm_X4_next) (E : ReV X rm_X4_next Q) (ht : (xh X).sig.returnType = none) (hn : (xh X).name = yX4_next.name) {X118 : Nat → Int32 → Int32 → Int32 → Int32 → HS → Prop} (hX118 : ∀ (v0 : Nat) (v1 : Int32) (v2 : Int32) (v3 : Int32) (v4 : Int32) (S : HS), X118 v0 v1 v2 v3 v4 S → WS X 5 0 0 118 [(0, .ref v0), (1, .int v1), (2, .int v2), (3, .int v3), (4, .int v4)] [] S) {v0 : Nat} {v1 : Int32} {v2 : Int32} {v3 : Int32} {v4 : Int32} {s0 : Nat} {s1 : Int64} {s2 : Int32} {s3 : Int32} {S : HS} (h : P_X4_next_195 Q X118 v0 v1 v2 v3 v4 s0 s1 s2 s3 S) : WS X 5 0 0 195 [(0, .ref v0), (1, .int v1), (2, .int v2), (3, .int v3), (4, .int v4)] [.int s3, .int s2, .long s1, .ref s0] S := by
  refine r_iand (pc := 195) C dX4_next_195 ?_
  refine r_i2l (pc := 196) C dX4_next_196 ?_
  refine r_ladd (pc := 197) C dX4_next_197 ?_
  obtain ⟨o_s0, h⟩ := h
  refine r_topl (fun x1 ex1 => ?_)
  have h := h x1 ex1
  refine r_putl (pc := 198) C pfL_X4_132 dX4_next_198 o_s0 ?_
  refine r_heap (fun S2 eS2 => ?_)
  have h := h S2 eS2
  have o_s0 := ob_J eS2 o_s0
  exact r_sub [0, 1, 2, 3, 4] rfl (T_X4_next_201 C E ht hn hX118 h)
def P_X4_next_240 (Q : HS → Prop) (v0 : Nat) (v1 : Int32) (S : HS) : Prop := ((¬ v1 = 0) → (Q S)) ∧ ((v1 = 0) → (ob S v0 4 ∧ (∀ x2 : Int32, x2 = fI S v0 6 → (((x2 = 0) → (Q S)) ∧ ((¬ x2 = 0) → (∀ x4 : Int32, x4 = fI S v0 4 → (∀ x5 : Int32, x5 = x4 + (1 : Int32) → (∀ S6 : HS, S6 = sI S v0 4 x5 → (Q S6)))))))))
set_option maxRecDepth 20000 in
set_option maxHeartbeats 4000000 in
theorem T_X4_next_240 {X : CX} {Q : HS → Prop} (C : Cx X cX4_next RX4 5 rm_X4_next) (E : ReV X rm_X4_next Q) (ht : (xh X).sig.returnType = none) (hn : (xh X).name = yX4_next.name) {v0 : Nat} {v1 : Int32} {S : HS} (h : P_X4_next_240 Q v0 v1 S) : WS X 5 0 0 240 [(0, .ref v0), (1, .int v1)] [] S := by
  refine r_iload_n (pc := 240) C dX4_next_240 1 rfl ?_
  refine r_if_ne (pc := 241) C (tgt := 261) dX4_next_241 (by decide) (fun c1 => ?_) (fun c1 => ?_)
  · have h := h.1 c1
    exact r_vret (pc := 261) C E ht dX4_next_261 (by decide) (by decide) h
  · have h := h.2 c1
    refine r_aload_n (pc := 244) C dX4_next_244 0 rfl ?_
    obtain ⟨o_v0, h⟩ := h
    refine r_geti (pc := 245) C fL_X4_92 dX4_next_245 o_v0 ?_
    refine r_topi (fun x2 ex2 => ?_)
    have h := h x2 ex2
    refine r_if_eq (pc := 248) C (tgt := 261) dX4_next_248 (by decide) (fun c3 => ?_) (fun c3 => ?_)
    · have h := h.1 c3
      exact r_vret (pc := 261) C E ht dX4_next_261 (by decide) (by decide) h
    · have h := h.2 c3
      refine r_aload_n (pc := 251) C dX4_next_251 0 rfl ?_
      refine r_dup (pc := 252) C dX4_next_252 rfl ?_
      refine r_geti (pc := 253) C fL_X4_107 dX4_next_253 o_v0 ?_
      refine r_topi (fun x4 ex4 => ?_)
      have h := h x4 ex4
      refine r_iconst (pc := 256) C (v := (1 : Int32)) dX4_next_256 (by decide) ?_
      refine r_iadd (pc := 257) C dX4_next_257 ?_
      refine r_topi (fun x5 ex5 => ?_)
      have h := h x5 ex5
      refine r_puti (pc := 258) C pfL_X4_107 dX4_next_258 o_v0 ?_
      refine r_heap (fun S6 eS6 => ?_)
      have h := h S6 eS6
      have o_v0 := ob_I eS6 o_v0
      exact r_vret (pc := 261) C E ht dX4_next_261 (by decide) (by decide) h
def P_X4_next_217 (Q : HS → Prop) (v0 : Nat) (v1 : Int32) (v2 : Int32) (S : HS) : Prop := ((v1 = 0) → (P_X4_next_240 Q v0 v1 S)) ∧ ((¬ v1 = 0) → (ob S v0 4 ∧ (∀ x2 : Int32, x2 = fI S v0 4 → (∀ x3 : Int32, x3 = fI S v0 7 → ((((x2 - x3) ≤ v2) → (P_X4_next_240 Q v0 v1 S)) ∧ ((¬ (x2 - x3) ≤ v2) → (∀ S5 : HS, S5 = sI S v0 6 (6 : Int32) → (P_X4_next_240 Q v0 v1 S5))))))))
set_option maxRecDepth 20000 in
set_option maxHeartbeats 4000000 in
theorem T_X4_next_217 {X : CX} {Q : HS → Prop} (C : Cx X cX4_next RX4 5 rm_X4_next) (E : ReV X rm_X4_next Q) (ht : (xh X).sig.returnType = none) (hn : (xh X).name = yX4_next.name) {v0 : Nat} {v1 : Int32} {v2 : Int32} {S : HS} (h : P_X4_next_217 Q v0 v1 v2 S) : WS X 5 0 0 217 [(0, .ref v0), (1, .int v1), (2, .int v2)] [] S := by
  refine r_iload_n (pc := 217) C dX4_next_217 1 rfl ?_
  refine r_if_eq (pc := 218) C (tgt := 240) dX4_next_218 (by decide) (fun c1 => ?_) (fun c1 => ?_)
  · have h := h.1 c1
    exact r_sub [0, 1] rfl (T_X4_next_240 C E ht hn h)
  · have h := h.2 c1
    refine r_aload_n (pc := 221) C dX4_next_221 0 rfl ?_
    obtain ⟨o_v0, h⟩ := h
    refine r_geti (pc := 222) C fL_X4_107 dX4_next_222 o_v0 ?_
    refine r_topi (fun x2 ex2 => ?_)
    have h := h x2 ex2
    refine r_aload_n (pc := 225) C dX4_next_225 0 rfl ?_
    refine r_geti (pc := 226) C fL_X4_125 dX4_next_226 o_v0 ?_
    refine r_topi (fun x3 ex3 => ?_)
    have h := h x3 ex3
    refine r_isub (pc := 229) C dX4_next_229 ?_
    refine r_iload_n (pc := 230) C dX4_next_230 2 rfl ?_
    refine r_icmp_le (pc := 231) C (tgt := 240) dX4_next_231 (by decide) (fun c4 => ?_) (fun c4 => ?_)
    · have h := h.1 c4
      exact r_sub [0, 1] rfl (T_X4_next_240 C E ht hn h)
    · have h := h.2 c4
      refine r_aload_n (pc := 234) C dX4_next_234 0 rfl ?_
      refine r_bipush (pc := 235) C (v := (6 : Int32)) dX4_next_235 (by decide) ?_
      refine r_puti (pc := 237) C pfL_X4_92 dX4_next_237 o_v0 ?_
      refine r_heap (fun S5 eS5 => ?_)
      have h := h S5 eS5
      have o_v0 := ob_I eS5 o_v0
      exact r_sub [0, 1] rfl (T_X4_next_240 C E ht hn h)
def B_X4_next_118 (Q : HS → Prop) (X118 : Nat → Int32 → Int32 → Int32 → Int32 → HS → Prop) (v0 : Nat) (v1 : Int32) (v2 : Int32) (v3 : Int32) (v4 : Int32) (S : HS) : Prop := ((v1 = 0) → (P_X4_next_217 Q v0 v1 v2 S)) ∧ ((¬ v1 = 0) → ((((900 : Int32) ≤ v4) → (P_X4_next_217 Q v0 v1 v2 S)) ∧ ((¬ (900 : Int32) ≤ v4) → (ob S v0 4 ∧ (∀ x3 : Int32, x3 = fI S v0 4 → (P_X4_sortAt v0 x3 (fun x6 S4 => Gr S S4 → (∀ x7 : Int32, x7 = fI S4 v0 6 → (((¬ x6 = x7) → (P_X4_next_217 Q v0 v1 v2 S4)) ∧ ((x6 = x7) → (((v2 ≤ v4) → (P_X4_next_201 Q X118 v0 v1 v2 v3 v4 S4)) ∧ ((¬ v2 ≤ v4) → (∀ x10 : Int32, x10 = fI S4 v0 4 → (∃ a11 : Nat, fR S4 v0 2 = some a11 ∧ (ob S4 a11 12 ∧ ((((nI (hN S4 a11)) ≤ x10) → (P_X4_next_201 Q X118 v0 v1 v2 v3 v4 S4)) ∧ ((¬ (nI (hN S4 a11)) ≤ x10) → (∀ x13 : Int64, x13 = fJ S4 v0 8 → (∃ a14 : Nat, fR S4 v0 2 = some a14 ∧ (∀ x15 : Int32, x15 = fI S4 v0 4 → (ob S4 a14 12 ∧ (vp_in x15 (hN S4 a14) ∧ ∀ x17 : Int32, x17 = fI S4 a14 x15.toNatClampNeg → (∀ x18 : Int32, x18 = fI S4 v0 6 → (((¬ x18 = (1 : Int32)) → (P_X4_next_195 Q X118 v0 v1 v2 v3 v4 v0 (x13 * v3.toInt64) x17 (15 : Int32) S4)) ∧ ((x18 = (1 : Int32)) → (P_X4_next_195 Q X118 v0 v1 v2 v3 v4 v0 (x13 * v3.toInt64) x17 (31 : Int32) S4)))))))))))))))))))) S))))))
def P_X4_next_118 (Q : HS → Prop) (v0 : Nat) (v1 : Int32) (v2 : Int32) (v3 : Int32) (v4 : Int32) (S : HS) : Prop := ∀ X118 : Nat → Int32 → Int32 → Int32 → Int32 → HS → Prop, (∀ (v0 : Nat) (v1 : Int32) (v2 : Int32) (v3 : Int32) (v4 : Int32) (S : HS), B_X4_next_118 Q X118 v0 v1 v2 v3 v4 S → X118 v0 v1 v2 v3 v4 S) → X118 v0 v1 v2 v3 v4 S
set_option maxRecDepth 20000 in
set_option maxHeartbeats 4000000 in
theorem TB_X4_next_118 {X : CX} {Q : HS → Prop} (C : Cx X cX4_next RX4 5 rm_X4_next) (E : ReV X rm_X4_next Q) (ht : (xh X).sig.returnType = none) (hn : (xh X).name = yX4_next.name) {X118 : Nat → Int32 → Int32 → Int32 → Int32 → HS → Prop} (hX118 : ∀ (v0 : Nat) (v1 : Int32) (v2 : Int32) (v3 : Int32) (v4 : Int32) (S : HS), X118 v0 v1 v2 v3 v4 S → WS X 5 0 0 118 [(0, .ref v0), (1, .int v1), (2, .int v2), (3, .int v3), (4, .int v4)] [] S) {v0 : Nat} {v1 : Int32} {v2 : Int32} {v3 : Int32} {v4 : Int32} {S : HS} (h : B_X4_next_118 Q X118 v0 v1 v2 v3 v4 S) : WS X 5 0 0 118 [(0, .ref v0), (1, .int v1), (2, .int v2), (3, .int v3), (4, .int v4)] [] S := by
  refine r_iload_n (pc := 118) C dX4_next_118 1 rfl ?_
  refine r_if_eq (pc := 119) C (tgt := 217) dX4_next_119 (by decide) (fun c1 => ?_) (fun c1 => ?_)
  · have h := h.1 c1
    exact r_sub [0, 1, 2] rfl (T_X4_next_217 C E ht hn h)
  · have h := h.2 c1
    refine r_iload (pc := 122) C dX4_next_122 4 rfl ?_
    refine r_sipush (pc := 124) C (v := (900 : Int32)) dX4_next_124 (by decide) ?_
    refine r_icmp_ge (pc := 127) C (tgt := 217) dX4_next_127 (by decide) (fun c2 => ?_) (fun c2 => ?_)
    · have h := h.1 c2
      exact r_sub [0, 1, 2] rfl (T_X4_next_217 C E ht hn h)
    · have h := h.2 c2
      refine r_aload_n (pc := 130) C dX4_next_130 0 rfl ?_
      refine r_aload_n (pc := 131) C dX4_next_131 0 rfl ?_
      obtain ⟨o_v0, h⟩ := h
      refine r_geti (pc := 132) C fL_X4_107 dX4_next_132 o_v0 ?_
      refine r_topi (fun x3 ex3 => ?_)
      have h := h x3 ex3
      refine r_callVi0 (pc := 135) C (rest := []) (a := v0) o_v0 [.int x3] yV_X4_sortAt g_453 (c_X4_sortAt h) dX4_next_135 rfl rfl (Nat.le_of_ble_eq_true rfl) ⟨by decide, by decide⟩ ⟨by decide, by decide⟩ ⟨rfl, rfl⟩ (fun x6 S4 h g5 => ?_)
      have h := h g5
      have o_v0 := gr_ob g5 o_v0
      refine r_aload_n (pc := 138) C dX4_next_138 0 rfl ?_
      refine r_geti (pc := 139) C fL_X4_92 dX4_next_139 o_v0 ?_
      refine r_topi (fun x7 ex7 => ?_)
      have h := h x7 ex7
      refine r_icmp_ne (pc := 142) C (tgt := 217) dX4_next_142 (by decide) (fun c8 => ?_) (fun c8 => ?_)
      · have h := h.1 c8
        exact r_sub [0, 1, 2] rfl (T_X4_next_217 C E ht hn h)
      · have h := h.2 c8
        refine r_iload (pc := 145) C dX4_next_145 4 rfl ?_
        refine r_iload_n (pc := 147) C dX4_next_147 2 rfl ?_
        refine r_icmp_ge (pc := 148) C (tgt := 201) dX4_next_148 (by decide) (fun c9 => ?_) (fun c9 => ?_)
        · have h := h.1 c9
          exact r_sub [0, 1, 2, 3, 4] rfl (T_X4_next_201 C E ht hn hX118 h)
        · have h := h.2 c9
          refine r_aload_n (pc := 151) C dX4_next_151 0 rfl ?_
          refine r_geti (pc := 152) C fL_X4_107 dX4_next_152 o_v0 ?_
          refine r_topi (fun x10 ex10 => ?_)
          have h := h x10 ex10
          refine r_aload_n (pc := 155) C dX4_next_155 0 rfl ?_
          obtain ⟨a11, ea11, h⟩ := h
          refine r_getr (pc := 156) C fL_X4_9 dX4_next_156 o_v0 ea11 ?_
          obtain ⟨o_a11, h⟩ := h
          refine r_alen12 (pc := 159) C dX4_next_159 o_a11 ?_
          refine r_icmp_ge (pc := 160) C (tgt := 201) dX4_next_160 (by decide) (fun c12 => ?_) (fun c12 => ?_)
          · have h := h.1 c12
            exact r_sub [0, 1, 2, 3, 4] rfl (T_X4_next_201 C E ht hn hX118 h)
          · have h := h.2 c12
            refine r_aload_n (pc := 163) C dX4_next_163 0 rfl ?_
            refine r_aload_n (pc := 164) C dX4_next_164 0 rfl ?_
            refine r_getl (pc := 165) C fL_X4_132 dX4_next_165 o_v0 ?_
            refine r_topl (fun x13 ex13 => ?_)
            have h := h x13 ex13
            refine r_iload_n (pc := 168) C dX4_next_168 3 rfl ?_
            refine r_i2l (pc := 169) C dX4_next_169 ?_
            refine r_lmul (pc := 170) C dX4_next_170 ?_
            refine r_aload_n (pc := 171) C dX4_next_171 0 rfl ?_
            obtain ⟨a14, ea14, h⟩ := h
            refine r_getr (pc := 172) C fL_X4_9 dX4_next_172 o_v0 ea14 ?_
            refine r_aload_n (pc := 175) C dX4_next_175 0 rfl ?_
            refine r_geti (pc := 176) C fL_X4_107 dX4_next_176 o_v0 ?_
            refine r_topi (fun x15 ex15 => ?_)
            have h := h x15 ex15
            obtain ⟨o_a14, h⟩ := h
            obtain ⟨i16, h⟩ := h
            refine r_bald (pc := 179) C dX4_next_179 o_a14 i16 ?_
            refine r_topi (fun x17 ex17 => ?_)
            have h := h x17 ex17
            refine r_aload_n (pc := 180) C dX4_next_180 0 rfl ?_
            refine r_geti (pc := 181) C fL_X4_92 dX4_next_181 o_v0 ?_
            refine r_topi (fun x18 ex18 => ?_)
            have h := h x18 ex18
            refine r_iconst (pc := 184) C (v := (1 : Int32)) dX4_next_184 (by decide) ?_
            refine r_icmp_ne (pc := 185) C (tgt := 193) dX4_next_185 (by decide) (fun c19 => ?_) (fun c19 => ?_)
            · have h := h.1 c19
              refine r_bipush (pc := 193) C (v := (15 : Int32)) dX4_next_193 (by decide) ?_
              exact r_sub [0, 1, 2, 3, 4] rfl (T_X4_next_195 C E ht hn hX118 h)
            · have h := h.2 c19
              refine r_bipush (pc := 188) C (v := (31 : Int32)) dX4_next_188 (by decide) ?_
              refine r_goto (pc := 190) C (tgt := 195) dX4_next_190 (by decide) ?_
              exact r_sub [0, 1, 2, 3, 4] rfl (T_X4_next_195 C E ht hn hX118 h)
theorem T_X4_next_118 {X : CX} {Q : HS → Prop} (C : Cx X cX4_next RX4 5 rm_X4_next) (E : ReV X rm_X4_next Q) (ht : (xh X).sig.returnType = none) (hn : (xh X).name = yX4_next.name) {v0 : Nat} {v1 : Int32} {v2 : Int32} {v3 : Int32} {v4 : Int32} {S : HS} (h : P_X4_next_118 Q v0 v1 v2 v3 v4 S) : WS X 5 0 0 118 [(0, .ref v0), (1, .int v1), (2, .int v2), (3, .int v3), (4, .int v4)] [] S :=
  h (fun v0 v1 v2 v3 v4 S => WS X 5 0 0 118 [(0, .ref v0), (1, .int v1), (2, .int v2), (3, .int v3), (4, .int v4)] [] S) (fun v0 v1 v2 v3 v4 S hh => TB_X4_next_118 C E ht hn (fun v0 v1 v2 v3 v4 S z => z) hh)
def P_X4_next_114 (Q : HS → Prop) (v0 : Nat) (v1 : Int32) (v2 : Int32) (s0 : Int32) (S : HS) : Prop := P_X4_next_118 Q v0 v1 v2 s0 (0 : Int32) S
set_option maxRecDepth 20000 in
set_option maxHeartbeats 4000000 in
theorem T_X4_next_114 {X : CX} {Q : HS → Prop} (C : Cx X cX4_next RX4 5 rm_X4_next) (E : ReV X rm_X4_next Q) (ht : (xh X).sig.returnType = none) (hn : (xh X).name = yX4_next.name) {v0 : Nat} {v1 : Int32} {v2 : Int32} {s0 : Int32} {S : HS} (h : P_X4_next_114 Q v0 v1 v2 s0 S) : WS X 5 0 0 114 [(0, .ref v0), (1, .int v1), (2, .int v2)] [.int s0] S := by
  refine r_istore_n (pc := 114) C dX4_next_114 rfl (by decide) (lv' := [(3, .int s0), (0, .ref v0), (1, .int v1), (2, .int v2)]) rfl ?_
  refine r_iconst (pc := 115) C (v := (0 : Int32)) dX4_next_115 (by decide) ?_
  refine r_istore (pc := 116) C dX4_next_116 (by decide) (lv' := [(4, .int (0 : Int32)), (3, .int s0), (0, .ref v0), (1, .int v1), (2, .int v2)]) rfl ?_
  exact r_sub [2, 3, 4, 1, 0] rfl (T_X4_next_118 C E ht hn h)
def P_X4_next_98 (Q : HS → Prop) (v0 : Nat) (v1 : Int32) (s0 : Int32) (S : HS) : Prop := ob S v0 4 ∧ (∀ x1 : Int32, x1 = fI S v0 6 → (((¬ x1 = (1 : Int32)) → (P_X4_next_114 Q v0 v1 s0 (10 : Int32) S)) ∧ ((x1 = (1 : Int32)) → (P_X4_next_114 Q v0 v1 s0 (32 : Int32) S))))
set_option maxRecDepth 20000 in
set_option maxHeartbeats 4000000 in
theorem T_X4_next_98 {X : CX} {Q : HS → Prop} (C : Cx X cX4_next RX4 5 rm_X4_next) (E : ReV X rm_X4_next Q) (ht : (xh X).sig.returnType = none) (hn : (xh X).name = yX4_next.name) {v0 : Nat} {v1 : Int32} {s0 : Int32} {S : HS} (h : P_X4_next_98 Q v0 v1 s0 S) : WS X 5 0 0 98 [(0, .ref v0), (1, .int v1)] [.int s0] S := by
  refine r_istore_n (pc := 98) C dX4_next_98 rfl (by decide) (lv' := [(2, .int s0), (0, .ref v0), (1, .int v1)]) rfl ?_
  refine r_aload_n (pc := 99) C dX4_next_99 1 rfl ?_
  obtain ⟨o_v0, h⟩ := h
  refine r_geti (pc := 100) C fL_X4_92 dX4_next_100 o_v0 ?_
  refine r_topi (fun x1 ex1 => ?_)
  have h := h x1 ex1
  refine r_iconst (pc := 103) C (v := (1 : Int32)) dX4_next_103 (by decide) ?_
  refine r_icmp_ne (pc := 104) C (tgt := 112) dX4_next_104 (by decide) (fun c2 => ?_) (fun c2 => ?_)
  · have h := h.1 c2
    refine r_bipush (pc := 112) C (v := (10 : Int32)) dX4_next_112 (by decide) ?_
    exact r_sub [1, 2, 0] rfl (T_X4_next_114 C E ht hn h)
  · have h := h.2 c2
    refine r_bipush (pc := 107) C (v := (32 : Int32)) dX4_next_107 (by decide) ?_
    refine r_goto (pc := 109) C (tgt := 114) dX4_next_109 (by decide) ?_
    exact r_sub [1, 2, 0] rfl (T_X4_next_114 C E ht hn h)
def P_X4_next_83 (Q : HS → Prop) (v0 : Nat) (s0 : Int32) (S : HS) : Prop := ob S v0 4 ∧ (∀ x1 : Int32, x1 = fI S v0 6 → (((¬ x1 = (1 : Int32)) → (P_X4_next_98 Q v0 s0 (3 : Int32) S)) ∧ ((x1 = (1 : Int32)) → (P_X4_next_98 Q v0 s0 (8 : Int32) S))))
set_option maxRecDepth 20000 in
set_option maxHeartbeats 4000000 in
theorem T_X4_next_83 {X : CX} {Q : HS → Prop} (C : Cx X cX4_next RX4 5 rm_X4_next) (E : ReV X rm_X4_next Q) (ht : (xh X).sig.returnType = none) (hn : (xh X).name = yX4_next.name) {v0 : Nat} {s0 : Int32} {S : HS} (h : P_X4_next_83 Q v0 s0 S) : WS X 5 0 0 83 [(0, .ref v0)] [.int s0] S := by
  refine r_istore_n (pc := 83) C dX4_next_83 rfl (by decide) (lv' := [(1, .int s0), (0, .ref v0)]) rfl ?_
  refine r_aload_n (pc := 84) C dX4_next_84 1 rfl ?_
  obtain ⟨o_v0, h⟩ := h
  refine r_geti (pc := 85) C fL_X4_92 dX4_next_85 o_v0 ?_
  refine r_topi (fun x1 ex1 => ?_)
  have h := h x1 ex1
  refine r_iconst (pc := 88) C (v := (1 : Int32)) dX4_next_88 (by decide) ?_
  refine r_icmp_ne (pc := 89) C (tgt := 97) dX4_next_89 (by decide) (fun c2 => ?_) (fun c2 => ?_)
  · have h := h.1 c2
    refine r_iconst (pc := 97) C (v := (3 : Int32)) dX4_next_97 (by decide) ?_
    exact r_sub [1, 0] rfl (T_X4_next_98 C E ht hn h)
  · have h := h.2 c2
    refine r_bipush (pc := 92) C (v := (8 : Int32)) dX4_next_92 (by decide) ?_
    refine r_goto (pc := 94) C (tgt := 98) dX4_next_94 (by decide) ?_
    exact r_sub [1, 0] rfl (T_X4_next_98 C E ht hn h)
def P_X4_next_78 (Q : HS → Prop) (v0 : Nat) (S : HS) : Prop := P_X4_next_83 Q v0 (1 : Int32) S
set_option maxRecDepth 20000 in
set_option maxHeartbeats 4000000 in
theorem T_X4_next_78 {X : CX} {Q : HS → Prop} (C : Cx X cX4_next RX4 5 rm_X4_next) (E : ReV X rm_X4_next Q) (ht : (xh X).sig.returnType = none) (hn : (xh X).name = yX4_next.name) {v0 : Nat} {S : HS} (h : P_X4_next_78 Q v0 S) : WS X 5 0 0 78 [(0, .ref v0)] [] S := by
  refine r_iconst (pc := 78) C (v := (1 : Int32)) dX4_next_78 (by decide) ?_
  refine r_goto (pc := 79) C (tgt := 83) dX4_next_79 (by decide) ?_
  exact r_sub [0] rfl (T_X4_next_83 C E ht hn h)
def P_X4_next_37 (Q : HS → Prop) (v0 : Nat) (S : HS) : Prop := ob S v0 4 ∧ (∀ x1 : Int32, x1 = fI S v0 4 → (∀ S2 : HS, S2 = sI S v0 7 x1 → (∀ x3 : Int32, x3 = fI S2 v0 4 → (P_X4_sortAt v0 x3 (fun x6 S4 => Gr S2 S4 → (∀ S7 : HS, S7 = sI S4 v0 6 x6 → (∀ S8 : HS, S8 = sJ S7 v0 8 (0 : Int64) → (∀ x9 : Int32, x9 = fI S8 v0 6 → (((x9 = (1 : Int32)) → (P_X4_next_78 Q v0 S8)) ∧ ((¬ x9 = (1 : Int32)) → (∀ x11 : Int32, x11 = fI S8 v0 6 → (((¬ x11 = (2 : Int32)) → (P_X4_next_83 Q v0 (0 : Int32) S8)) ∧ ((x11 = (2 : Int32)) → (P_X4_next_78 Q v0 S8)))))))))) S2))))
set_option maxRecDepth 20000 in
set_option maxHeartbeats 4000000 in
theorem T_X4_next_37 {X : CX} {Q : HS → Prop} (C : Cx X cX4_next RX4 5 rm_X4_next) (E : ReV X rm_X4_next Q) (ht : (xh X).sig.returnType = none) (hn : (xh X).name = yX4_next.name) {v0 : Nat} {S : HS} (h : P_X4_next_37 Q v0 S) : WS X 5 0 0 37 [(0, .ref v0)] [] S := by
  refine r_aload_n (pc := 37) C dX4_next_37 0 rfl ?_
  refine r_aload_n (pc := 38) C dX4_next_38 0 rfl ?_
  obtain ⟨o_v0, h⟩ := h
  refine r_geti (pc := 39) C fL_X4_107 dX4_next_39 o_v0 ?_
  refine r_topi (fun x1 ex1 => ?_)
  have h := h x1 ex1
  refine r_puti (pc := 42) C pfL_X4_125 dX4_next_42 o_v0 ?_
  refine r_heap (fun S2 eS2 => ?_)
  have h := h S2 eS2
  have o_v0 := ob_I eS2 o_v0
  refine r_aload_n (pc := 45) C dX4_next_45 0 rfl ?_
  refine r_aload_n (pc := 46) C dX4_next_46 0 rfl ?_
  refine r_aload_n (pc := 47) C dX4_next_47 0 rfl ?_
  refine r_geti (pc := 48) C fL_X4_107 dX4_next_48 o_v0 ?_
  refine r_topi (fun x3 ex3 => ?_)
  have h := h x3 ex3
  refine r_callVi0 (pc := 51) C (rest := [.ref v0]) (a := v0) o_v0 [.int x3] yV_X4_sortAt g_453 (c_X4_sortAt h) dX4_next_51 rfl rfl (Nat.le_of_ble_eq_true rfl) ⟨by decide, by decide⟩ ⟨by decide, by decide⟩ ⟨rfl, rfl⟩ (fun x6 S4 h g5 => ?_)
  have h := h g5
  have o_v0 := gr_ob g5 o_v0
  refine r_puti (pc := 54) C pfL_X4_92 dX4_next_54 o_v0 ?_
  refine r_heap (fun S7 eS7 => ?_)
  have h := h S7 eS7
  have o_v0 := ob_I eS7 o_v0
  refine r_aload_n (pc := 57) C dX4_next_57 0 rfl ?_
  refine r_lconst (pc := 58) C (v := (0 : Int64)) dX4_next_58 (by decide) ?_
  refine r_putl (pc := 59) C pfL_X4_132 dX4_next_59 o_v0 ?_
  refine r_heap (fun S8 eS8 => ?_)
  have h := h S8 eS8
  have o_v0 := ob_J eS8 o_v0
  refine r_aload_n (pc := 62) C dX4_next_62 0 rfl ?_
  refine r_geti (pc := 63) C fL_X4_92 dX4_next_63 o_v0 ?_
  refine r_topi (fun x9 ex9 => ?_)
  have h := h x9 ex9
  refine r_iconst (pc := 66) C (v := (1 : Int32)) dX4_next_66 (by decide) ?_
  refine r_icmp_eq (pc := 67) C (tgt := 78) dX4_next_67 (by decide) (fun c10 => ?_) (fun c10 => ?_)
  · have h := h.1 c10
    exact r_sub [0] rfl (T_X4_next_78 C E ht hn h)
  · have h := h.2 c10
    refine r_aload_n (pc := 70) C dX4_next_70 0 rfl ?_
    refine r_geti (pc := 71) C fL_X4_92 dX4_next_71 o_v0 ?_
    refine r_topi (fun x11 ex11 => ?_)
    have h := h x11 ex11
    refine r_iconst (pc := 74) C (v := (2 : Int32)) dX4_next_74 (by decide) ?_
    refine r_icmp_ne (pc := 75) C (tgt := 82) dX4_next_75 (by decide) (fun c12 => ?_) (fun c12 => ?_)
    · have h := h.1 c12
      refine r_iconst (pc := 82) C (v := (0 : Int32)) dX4_next_82 (by decide) ?_
      exact r_sub [0] rfl (T_X4_next_83 C E ht hn h)
    · have h := h.2 c12
      exact r_sub [0] rfl (T_X4_next_78 C E ht hn h)
def B_X4_next_2 (Q : HS → Prop) (X2 : Nat → Int32 → HS → Prop) (v0 : Nat) (v1 : Int32) (S : HS) : Prop := (((900 : Int32) ≤ v1) → (P_X4_next_37 Q v0 S)) ∧ ((¬ (900 : Int32) ≤ v1) → (ob S v0 4 ∧ (∀ x2 : Int32, x2 = fI S v0 4 → (P_X4_sortAt v0 x2 (fun x5 S3 => Gr S S3 → (((¬ x5 = (5 : Int32)) → (P_X4_next_37 Q v0 S3)) ∧ ((x5 = (5 : Int32)) → (∀ x7 : Int32, x7 = fI S3 v0 4 → (∀ x8 : Int32, x8 = x7 + (1 : Int32) → (∀ S9 : HS, S9 = sI S3 v0 4 x8 → (∀ x10 : Int32, x10 = v1 + (1 : Int32) → (X2 v0 x10 S9)))))))) S))))
def P_X4_next_2 (Q : HS → Prop) (v0 : Nat) (v1 : Int32) (S : HS) : Prop := ∀ X2 : Nat → Int32 → HS → Prop, (∀ (v0 : Nat) (v1 : Int32) (S : HS), B_X4_next_2 Q X2 v0 v1 S → X2 v0 v1 S) → X2 v0 v1 S
set_option maxRecDepth 20000 in
set_option maxHeartbeats 4000000 in
theorem TB_X4_next_2 {X : CX} {Q : HS → Prop} (C : Cx X cX4_next RX4 5 rm_X4_next) (E : ReV X rm_X4_next Q) (ht : (xh X).sig.returnType = none) (hn : (xh X).name = yX4_next.name) {X2 : Nat → Int32 → HS → Prop} (hX2 : ∀ (v0 : Nat) (v1 : Int32) (S : HS), X2 v0 v1 S → WS X 5 0 0 2 [(0, .ref v0), (1, .int v1)] [] S) {v0 : Nat} {v1 : Int32} {S : HS} (h : B_X4_next_2 Q X2 v0 v1 S) : WS X 5 0 0 2 [(0, .ref v0), (1, .int v1)] [] S := by
  refine r_iload_n (pc := 2) C dX4_next_2 1 rfl ?_
  refine r_sipush (pc := 3) C (v := (900 : Int32)) dX4_next_3 (by decide) ?_
  refine r_icmp_ge (pc := 6) C (tgt := 37) dX4_next_6 (by decide) (fun c1 => ?_) (fun c1 => ?_)
  · have h := h.1 c1
    exact r_sub [0] rfl (T_X4_next_37 C E ht hn h)
  · have h := h.2 c1
    refine r_aload_n (pc := 9) C dX4_next_9 0 rfl ?_
    refine r_aload_n (pc := 10) C dX4_next_10 0 rfl ?_
    obtain ⟨o_v0, h⟩ := h
    refine r_geti (pc := 11) C fL_X4_107 dX4_next_11 o_v0 ?_
    refine r_topi (fun x2 ex2 => ?_)
    have h := h x2 ex2
    refine r_callVi0 (pc := 14) C (rest := []) (a := v0) o_v0 [.int x2] yV_X4_sortAt g_453 (c_X4_sortAt h) dX4_next_14 rfl rfl (Nat.le_of_ble_eq_true rfl) ⟨by decide, by decide⟩ ⟨by decide, by decide⟩ ⟨rfl, rfl⟩ (fun x5 S3 h g4 => ?_)
    have h := h g4
    have o_v0 := gr_ob g4 o_v0
    refine r_iconst (pc := 17) C (v := (5 : Int32)) dX4_next_17 (by decide) ?_
    refine r_icmp_ne (pc := 18) C (tgt := 37) dX4_next_18 (by decide) (fun c6 => ?_) (fun c6 => ?_)
    · have h := h.1 c6
      exact r_sub [0] rfl (T_X4_next_37 C E ht hn h)
    · have h := h.2 c6
      refine r_aload_n (pc := 21) C dX4_next_21 0 rfl ?_
      refine r_dup (pc := 22) C dX4_next_22 rfl ?_
      refine r_geti (pc := 23) C fL_X4_107 dX4_next_23 o_v0 ?_
      refine r_topi (fun x7 ex7 => ?_)
      have h := h x7 ex7
      refine r_iconst (pc := 26) C (v := (1 : Int32)) dX4_next_26 (by decide) ?_
      refine r_iadd (pc := 27) C dX4_next_27 ?_
      refine r_topi (fun x8 ex8 => ?_)
      have h := h x8 ex8
      refine r_puti (pc := 28) C pfL_X4_107 dX4_next_28 o_v0 ?_
      refine r_heap (fun S9 eS9 => ?_)
      have h := h S9 eS9
      have o_v0 := ob_I eS9 o_v0
      obtain ⟨x10, ex10⟩ : ∃ z : Int32, z = v1 + (1 : Int32) := ⟨_, rfl⟩
      have h := h x10 ex10
      refine r_iinc (pc := 31) C (v := x10) (lv' := [(1, .int x10), (0, .ref v0)]) dX4_next_31 1 rfl ex10.symm (by decide) rfl ?_
      refine r_goto (pc := 34) C (tgt := 2) dX4_next_34 (by decide) ?_
      exact r_sub [1, 0] rfl (hX2 v0 x10 S9 h)
theorem T_X4_next_2 {X : CX} {Q : HS → Prop} (C : Cx X cX4_next RX4 5 rm_X4_next) (E : ReV X rm_X4_next Q) (ht : (xh X).sig.returnType = none) (hn : (xh X).name = yX4_next.name) {v0 : Nat} {v1 : Int32} {S : HS} (h : P_X4_next_2 Q v0 v1 S) : WS X 5 0 0 2 [(0, .ref v0), (1, .int v1)] [] S :=
  h (fun v0 v1 S => WS X 5 0 0 2 [(0, .ref v0), (1, .int v1)] [] S) (fun v0 v1 S hh => TB_X4_next_2 C E ht hn (fun v0 v1 S z => z) hh)
def P_X4_next_0 (Q : HS → Prop) (v0 : Nat) (S : HS) : Prop := P_X4_next_2 Q v0 (0 : Int32) S
set_option maxRecDepth 20000 in
set_option maxHeartbeats 4000000 in
theorem T_X4_next_0 {X : CX} {Q : HS → Prop} (C : Cx X cX4_next RX4 5 rm_X4_next) (E : ReV X rm_X4_next Q) (ht : (xh X).sig.returnType = none) (hn : (xh X).name = yX4_next.name) {v0 : Nat} {S : HS} (h : P_X4_next_0 Q v0 S) : WS X 5 0 0 0 [(0, .ref v0)] [] S := by
  refine r_iconst (pc := 0) C (v := (0 : Int32)) dX4_next_0 (by decide) ?_
  refine r_istore_n (pc := 1) C dX4_next_1 rfl (by decide) (lv' := [(1, .int (0 : Int32)), (0, .ref v0)]) rfl ?_
  exact r_sub [1, 0] rfl (T_X4_next_2 C E ht hn h)
def P_X4_next (v0 : Nat) (Q : HS → Prop) (S : HS) : Prop := P_X4_next_0 Q v0 S
theorem c_X4_next {l : Launch} {Ee : EE} {S : HS} {v0 : Nat} {Q : HS → Prop} (h : P_X4_next v0 Q S) : MV l yX4_next cX4_next 5 none rm_X4_next Ee S [.ref v0] Q :=
  openV (by decide) (Nat.le_of_ble_eq_true rfl) (fun X C E ht hn hE hl => by subst hE; exact r_sub [0] rfl (T_X4_next_0 C E ht hn h))
def rm_X4_whole : Room := { frames := 2, cells := 0, slots := 0, locals := 46 }
def P_X4_whole_34 (Q : Int32 → HS → Prop) (v0 : Nat) (S : HS) : Prop := ob S v0 4 ∧ (P_X4_fail v0 (4 : Int32) (fun x3 S1 => Gr S S1 → bl x3 → (bl x3 ∧ Q x3 S1)) S)
set_option maxRecDepth 20000 in
set_option maxHeartbeats 4000000 in
theorem T_X4_whole_34 {X : CX} {Q : Int32 → HS → Prop} (C : Cx X cX4_whole RX4 3 rm_X4_whole) (E : ReI X rm_X4_whole (fun r S => bl r ∧ Q r S)) (ht : (xh X).sig.returnType = (some .boolean)) (hn : (xh X).name = yX4_whole.name) {v0 : Nat} {S : HS} (h : P_X4_whole_34 Q v0 S) : WS X 3 0 0 34 [(0, .ref v0)] [] S := by
  refine r_aload_n (pc := 34) C dX4_whole_34 0 rfl ?_
  refine r_iconst (pc := 35) C (v := (4 : Int32)) dX4_whole_35 (by decide) ?_
  obtain ⟨o_v0, h⟩ := h
  refine r_callVi0 (pc := 36) C (rest := []) (a := v0) o_v0 [.int (4 : Int32)] yV_X4_fail g_519 (c_X4_fail h) dX4_whole_36 rfl rfl (Nat.le_of_ble_eq_true rfl) ⟨by decide, by decide⟩ ⟨by decide, by decide⟩ ⟨rfl, rfl⟩ (fun x3 S1 h g2 => ?_)
  have bx3 := h.1
  have h := h.2 g2 bx3
  have o_v0 := gr_ob g2 o_v0
  exact r_zret (pc := 39) C E ht dX4_whole_39 (by decide) (by decide) h.1 h.2
def P_X4_whole_0 (Q : Int32 → HS → Prop) (v0 : Nat) (v1 : Int32) (v2 : Int32) (S : HS) : Prop := ob S v0 4 ∧ (∀ x1 : Int32, x1 = fI S v0 6 → (((x1 = (2 : Int32)) → (∀ x3 : Int64, x3 = fJ S v0 8 → ((((lg_cmp x3 v1.toInt64) < 0) → (P_X4_whole_34 Q v0 S)) ∧ ((¬ (lg_cmp x3 v1.toInt64) < 0) → (∀ x5 : Int64, x5 = fJ S v0 8 → ((((lg_cmp x5 v2.toInt64) ≤ 0) → (∀ x7 : Int64, x7 = fJ S v0 8 → (∀ x8 : Int32, x8 = x7.toInt32 → (∀ S9 : HS, S9 = sI S v0 9 x8 → (P_X4_next v0 (fun S10 => Gr S9 S10 → (Q (1 : Int32) S10)) S9))))) ∧ ((¬ (lg_cmp x5 v2.toInt64) ≤ 0) → (P_X4_whole_34 Q v0 S)))))))) ∧ ((¬ x1 = (2 : Int32)) → (P_X4_fail v0 (1 : Int32) (fun x15 S13 => Gr S S13 → bl x15 → (bl x15 ∧ Q x15 S13)) S))))
set_option maxRecDepth 20000 in
set_option maxHeartbeats 4000000 in
theorem T_X4_whole_0 {X : CX} {Q : Int32 → HS → Prop} (C : Cx X cX4_whole RX4 3 rm_X4_whole) (E : ReI X rm_X4_whole (fun r S => bl r ∧ Q r S)) (ht : (xh X).sig.returnType = (some .boolean)) (hn : (xh X).name = yX4_whole.name) {v0 : Nat} {v1 : Int32} {v2 : Int32} {S : HS} (h : P_X4_whole_0 Q v0 v1 v2 S) : WS X 3 0 0 0 [(0, .ref v0), (1, .int v1), (2, .int v2)] [] S := by
  refine r_aload_n (pc := 0) C dX4_whole_0 0 rfl ?_
  obtain ⟨o_v0, h⟩ := h
  refine r_geti (pc := 1) C fL_X4_92 dX4_whole_1 o_v0 ?_
  refine r_topi (fun x1 ex1 => ?_)
  have h := h x1 ex1
  refine r_iconst (pc := 4) C (v := (2 : Int32)) dX4_whole_4 (by decide) ?_
  refine r_icmp_eq (pc := 5) C (tgt := 14) dX4_whole_5 (by decide) (fun c2 => ?_) (fun c2 => ?_)
  · have h := h.1 c2
    refine r_aload_n (pc := 14) C dX4_whole_14 0 rfl ?_
    refine r_getl (pc := 15) C fL_X4_132 dX4_whole_15 o_v0 ?_
    refine r_topl (fun x3 ex3 => ?_)
    have h := h x3 ex3
    refine r_iload_n (pc := 18) C dX4_whole_18 1 rfl ?_
    refine r_i2l (pc := 19) C dX4_whole_19 ?_
    refine r_lcmp (pc := 20) C dX4_whole_20 ?_
    refine r_if_lt (pc := 21) C (tgt := 34) dX4_whole_21 (by decide) (fun c4 => ?_) (fun c4 => ?_)
    · have h := h.1 c4
      exact r_sub [0] rfl (T_X4_whole_34 C E ht hn h)
    · have h := h.2 c4
      refine r_aload_n (pc := 24) C dX4_whole_24 0 rfl ?_
      refine r_getl (pc := 25) C fL_X4_132 dX4_whole_25 o_v0 ?_
      refine r_topl (fun x5 ex5 => ?_)
      have h := h x5 ex5
      refine r_iload_n (pc := 28) C dX4_whole_28 2 rfl ?_
      refine r_i2l (pc := 29) C dX4_whole_29 ?_
      refine r_lcmp (pc := 30) C dX4_whole_30 ?_
      refine r_if_le (pc := 31) C (tgt := 40) dX4_whole_31 (by decide) (fun c6 => ?_) (fun c6 => ?_)
      · have h := h.1 c6
        refine r_aload_n (pc := 40) C dX4_whole_40 0 rfl ?_
        refine r_aload_n (pc := 41) C dX4_whole_41 0 rfl ?_
        refine r_getl (pc := 42) C fL_X4_132 dX4_whole_42 o_v0 ?_
        refine r_topl (fun x7 ex7 => ?_)
        have h := h x7 ex7
        refine r_l2i (pc := 45) C dX4_whole_45 ?_
        refine r_topi (fun x8 ex8 => ?_)
        have h := h x8 ex8
        refine r_puti (pc := 46) C pfL_X4_147 dX4_whole_46 o_v0 ?_
        refine r_heap (fun S9 eS9 => ?_)
        have h := h S9 eS9
        have o_v0 := ob_I eS9 o_v0
        refine r_aload_n (pc := 49) C dX4_whole_49 0 rfl ?_
        refine r_callVv0 (pc := 50) C (rest := []) (a := v0) o_v0 [] yV_X4_next g_449 (c_X4_next h) dX4_whole_50 rfl rfl (Nat.le_of_ble_eq_true rfl) ⟨by decide, by decide⟩ ⟨by decide, by decide⟩ ⟨rfl, rfl⟩ (fun S10 h g11 => ?_)
        have h := h g11
        have o_v0 := gr_ob g11 o_v0
        refine r_iconst (pc := 53) C (v := (1 : Int32)) dX4_whole_53 (by decide) ?_
        exact r_zret (pc := 54) C E ht dX4_whole_54 (by decide) (by decide) (Or.inr rfl) h
      · have h := h.2 c6
        exact r_sub [0] rfl (T_X4_whole_34 C E ht hn h)
  · have h := h.2 c2
    refine r_aload_n (pc := 8) C dX4_whole_8 0 rfl ?_
    refine r_iconst (pc := 9) C (v := (1 : Int32)) dX4_whole_9 (by decide) ?_
    refine r_callVi0 (pc := 10) C (rest := []) (a := v0) o_v0 [.int (1 : Int32)] yV_X4_fail g_519 (c_X4_fail h) dX4_whole_10 rfl rfl (Nat.le_of_ble_eq_true rfl) ⟨by decide, by decide⟩ ⟨by decide, by decide⟩ ⟨rfl, rfl⟩ (fun x15 S13 h g14 => ?_)
    have bx15 := h.1
    have h := h.2 g14 bx15
    have o_v0 := gr_ob g14 o_v0
    exact r_zret (pc := 13) C E ht dX4_whole_13 (by decide) (by decide) h.1 h.2
def P_X4_whole (v0 : Nat) (v1 : Int32) (v2 : Int32) (Q : Int32 → HS → Prop) (S : HS) : Prop := P_X4_whole_0 Q v0 v1 v2 S
theorem c_X4_whole {l : Launch} {Ee : EE} {S : HS} {v0 : Nat} {v1 : Int32} {v2 : Int32} {Q : Int32 → HS → Prop} (h : P_X4_whole v0 v1 v2 Q S) : MI l yX4_whole cX4_whole 3 (some .boolean) rm_X4_whole Ee S [.ref v0, .int v1, .int v2] (fun r S => bl r ∧ Q r S) :=
  openI (by decide) (Nat.le_of_ble_eq_true rfl) (fun X C E ht hn hE hl => by subst hE; exact r_sub [0, 1, 2] rfl (T_X4_whole_0 C E ht hn h))
def rm_X4_is : Room := { frames := 5, cells := 0, slots := 0, locals := 120 }
def B_X4_is_15 (Q : Int32 → HS → Prop) (X15 : Nat → Nat → Int64 → Int32 → HS → Prop) (v0 : Nat) (v1 : Nat) (v2 : Int64) (v4 : Int32) (S : HS) : Prop := v1 < 54 ∧ ∀ x1 : Int32, x1 = nI (sLen.getD v1 0) → (((x1 ≤ v4) → (ob S v0 4 ∧ (∀ x3 : Int64, x3 = fJ S v0 8 → (((¬ (lg_cmp x3 v2) = 0) → (Q (0 : Int32) S)) ∧ (((lg_cmp x3 v2) = 0) → (Q (1 : Int32) S)))))) ∧ ((¬ x1 ≤ v4) → (v1 < 54 ∧ vp_in v4 (sLen.getD v1 0) ∧ ∀ x5 : Int32, x5 = sch v1 v4 → (∀ x6 : Int64, x6 = (v2 * (32 : Int64)) + ((x5 &&& (31 : Int32)).toInt64) → (∀ x7 : Int32, x7 = v4 + (1 : Int32) → (X15 v0 v1 x6 x7 S))))))
def P_X4_is_15 (Q : Int32 → HS → Prop) (v0 : Nat) (v1 : Nat) (v2 : Int64) (v4 : Int32) (S : HS) : Prop := ∀ X15 : Nat → Nat → Int64 → Int32 → HS → Prop, (∀ (v0 : Nat) (v1 : Nat) (v2 : Int64) (v4 : Int32) (S : HS), B_X4_is_15 Q X15 v0 v1 v2 v4 S → X15 v0 v1 v2 v4 S) → X15 v0 v1 v2 v4 S
set_option maxRecDepth 20000 in
set_option maxHeartbeats 4000000 in
theorem TB_X4_is_15 {X : CX} {Q : Int32 → HS → Prop} (C : Cx X cX4_is RX4 5 rm_X4_is) (E : ReI X rm_X4_is (fun r S => bl r ∧ Q r S)) (ht : (xh X).sig.returnType = (some .boolean)) (hn : (xh X).name = yX4_is.name) {X15 : Nat → Nat → Int64 → Int32 → HS → Prop} (hX15 : ∀ (v0 : Nat) (v1 : Nat) (v2 : Int64) (v4 : Int32) (S : HS), X15 v0 v1 v2 v4 S → WS X 5 0 0 15 [(0, .ref v0), (1, .ref (eK (xE X) v1)), (2, .long v2), (4, .int v4)] [] S) {v0 : Nat} {v1 : Nat} {v2 : Int64} {v4 : Int32} {S : HS} (h : B_X4_is_15 Q X15 v0 v1 v2 v4 S) : WS X 5 0 0 15 [(0, .ref v0), (1, .ref (eK (xE X) v1)), (2, .long v2), (4, .int v4)] [] S := by
  refine r_iload (pc := 15) C dX4_is_15 3 rfl ?_
  refine r_aload_n (pc := 17) C dX4_is_17 1 rfl ?_
  obtain ⟨hw, h⟩ := h
  refine r_slen (pc := 18) C g_462 dX4_is_18 hw (by decide) (by decide) (by decide) (by decide) (Nat.le_of_ble_eq_true rfl) ?_
  refine r_topi (fun x1 ex1 => ?_)
  have h := h x1 ex1
  refine r_icmp_ge (pc := 21) C (tgt := 47) dX4_is_21 (by decide) (fun c2 => ?_) (fun c2 => ?_)
  · have h := h.1 c2
    refine r_aload_n (pc := 47) C dX4_is_47 0 rfl ?_
    obtain ⟨o_v0, h⟩ := h
    refine r_getl (pc := 48) C fL_X4_132 dX4_is_48 o_v0 ?_
    refine r_topl (fun x3 ex3 => ?_)
    have h := h x3 ex3
    refine r_lload_n (pc := 51) C dX4_is_51 2 rfl ?_
    refine r_lcmp (pc := 52) C dX4_is_52 ?_
    refine r_if_ne (pc := 53) C (tgt := 60) dX4_is_53 (by decide) (fun c4 => ?_) (fun c4 => ?_)
    · have h := h.1 c4
      refine r_iconst (pc := 60) C (v := (0 : Int32)) dX4_is_60 (by decide) ?_
      exact r_zret (pc := 61) C E ht dX4_is_61 (by decide) (by decide) (Or.inl rfl) h
    · have h := h.2 c4
      refine r_iconst (pc := 56) C (v := (1 : Int32)) dX4_is_56 (by decide) ?_
      refine r_goto (pc := 57) C (tgt := 61) dX4_is_57 (by decide) ?_
      exact r_zret (pc := 61) C E ht dX4_is_61 (by decide) (by decide) (Or.inr rfl) h
  · have h := h.2 c2
    refine r_lload_n (pc := 24) C dX4_is_24 2 rfl ?_
    refine r_ldc2 (pc := 25) C (v := (32 : Int64)) dX4_is_25 g_472 ?_
    refine r_lmul (pc := 28) C dX4_is_28 ?_
    refine r_aload_n (pc := 29) C dX4_is_29 1 rfl ?_
    refine r_iload (pc := 30) C dX4_is_30 3 rfl ?_
    obtain ⟨hw, hw2, h⟩ := h
    refine r_schar (pc := 32) C g_473 dX4_is_32 hw hw2 (by decide) (by decide) (by decide) (by decide) (Nat.le_of_ble_eq_true rfl) ?_
    refine r_topi (fun x5 ex5 => ?_)
    have h := h x5 ex5
    refine r_bipush (pc := 35) C (v := (31 : Int32)) dX4_is_35 (by decide) ?_
    refine r_iand (pc := 37) C dX4_is_37 ?_
    refine r_i2l (pc := 38) C dX4_is_38 ?_
    refine r_ladd (pc := 39) C dX4_is_39 ?_
    refine r_topl (fun x6 ex6 => ?_)
    have h := h x6 ex6
    refine r_lstore_n (pc := 40) C dX4_is_40 rfl (by decide) (lv' := [(2, .long x6), (0, .ref v0), (1, .ref (eK (xE X) v1)), (4, .int v4)]) rfl ?_
    obtain ⟨x7, ex7⟩ : ∃ z : Int32, z = v4 + (1 : Int32) := ⟨_, rfl⟩
    have h := h x7 ex7
    refine r_iinc (pc := 41) C (v := x7) (lv' := [(4, .int x7), (2, .long x6), (0, .ref v0), (1, .ref (eK (xE X) v1))]) dX4_is_41 3 rfl ex7.symm (by decide) rfl ?_
    refine r_goto (pc := 44) C (tgt := 15) dX4_is_44 (by decide) ?_
    exact r_sub [2, 3, 1, 0] rfl (hX15 v0 v1 x6 x7 S h)
theorem T_X4_is_15 {X : CX} {Q : Int32 → HS → Prop} (C : Cx X cX4_is RX4 5 rm_X4_is) (E : ReI X rm_X4_is (fun r S => bl r ∧ Q r S)) (ht : (xh X).sig.returnType = (some .boolean)) (hn : (xh X).name = yX4_is.name) {v0 : Nat} {v1 : Nat} {v2 : Int64} {v4 : Int32} {S : HS} (h : P_X4_is_15 Q v0 v1 v2 v4 S) : WS X 5 0 0 15 [(0, .ref v0), (1, .ref (eK (xE X) v1)), (2, .long v2), (4, .int v4)] [] S :=
  h (fun v0 v1 v2 v4 S => WS X 5 0 0 15 [(0, .ref v0), (1, .ref (eK (xE X) v1)), (2, .long v2), (4, .int v4)] [] S) (fun v0 v1 v2 v4 S hh => TB_X4_is_15 C E ht hn (fun v0 v1 v2 v4 S z => z) hh)
def P_X4_is_0 (Q : Int32 → HS → Prop) (v0 : Nat) (v1 : Nat) (S : HS) : Prop := ob S v0 4 ∧ (∀ x1 : Int32, x1 = fI S v0 6 → (((x1 = (1 : Int32)) → (P_X4_is_15 Q v0 v1 (0 : Int64) (0 : Int32) S)) ∧ ((¬ x1 = (1 : Int32)) → (Q (0 : Int32) S))))
set_option maxRecDepth 20000 in
set_option maxHeartbeats 4000000 in
theorem T_X4_is_0 {X : CX} {Q : Int32 → HS → Prop} (C : Cx X cX4_is RX4 5 rm_X4_is) (E : ReI X rm_X4_is (fun r S => bl r ∧ Q r S)) (ht : (xh X).sig.returnType = (some .boolean)) (hn : (xh X).name = yX4_is.name) {v0 : Nat} {v1 : Nat} {S : HS} (h : P_X4_is_0 Q v0 v1 S) : WS X 5 0 0 0 [(0, .ref v0), (1, .ref (eK (xE X) v1))] [] S := by
  refine r_aload_n (pc := 0) C dX4_is_0 0 rfl ?_
  obtain ⟨o_v0, h⟩ := h
  refine r_geti (pc := 1) C fL_X4_92 dX4_is_1 o_v0 ?_
  refine r_topi (fun x1 ex1 => ?_)
  have h := h x1 ex1
  refine r_iconst (pc := 4) C (v := (1 : Int32)) dX4_is_4 (by decide) ?_
  refine r_icmp_eq (pc := 5) C (tgt := 10) dX4_is_5 (by decide) (fun c2 => ?_) (fun c2 => ?_)
  · have h := h.1 c2
    refine r_lconst (pc := 10) C (v := (0 : Int64)) dX4_is_10 (by decide) ?_
    refine r_lstore_n (pc := 11) C dX4_is_11 rfl (by decide) (lv' := [(2, .long (0 : Int64)), (0, .ref v0), (1, .ref (eK (xE X) v1))]) rfl ?_
    refine r_iconst (pc := 12) C (v := (0 : Int32)) dX4_is_12 (by decide) ?_
    refine r_istore (pc := 13) C dX4_is_13 (by decide) (lv' := [(4, .int (0 : Int32)), (2, .long (0 : Int64)), (0, .ref v0), (1, .ref (eK (xE X) v1))]) rfl ?_
    exact r_sub [2, 3, 1, 0] rfl (T_X4_is_15 C E ht hn h)
  · have h := h.2 c2
    refine r_iconst (pc := 8) C (v := (0 : Int32)) dX4_is_8 (by decide) ?_
    exact r_zret (pc := 9) C E ht dX4_is_9 (by decide) (by decide) (Or.inl rfl) h
def P_X4_is (v0 : Nat) (v1 : Nat) (Q : Int32 → HS → Prop) (S : HS) : Prop := P_X4_is_0 Q v0 v1 S
theorem c_X4_is {l : Launch} {Ee : EE} {S : HS} {v0 : Nat} {v1 : Nat} {Q : Int32 → HS → Prop} (h : P_X4_is v0 v1 Q S) : MI l yX4_is cX4_is 5 (some .boolean) rm_X4_is Ee S [.ref v0, .ref (eK Ee v1)] (fun r S => bl r ∧ Q r S) :=
  openI (by decide) (Nat.le_of_ble_eq_true rfl) (fun X C E ht hn hE hl => by subst hE; exact r_sub [0, 1] rfl (T_X4_is_0 C E ht hn h))
def rm_X4_word : Room := { frames := 6, cells := 0, slots := 0, locals := 144 }
def P_X4_word_0 (Q : Int32 → HS → Prop) (v0 : Nat) (v1 : Nat) (S : HS) : Prop := ob S v0 4 ∧ (P_X4_is v0 v1 (fun x3 S1 => Gr S S1 → bl x3 → (((¬ x3 = 0) → (P_X4_next v0 (fun S5 => Gr S1 S5 → (Q (1 : Int32) S5)) S1)) ∧ ((x3 = 0) → (P_X4_fail v0 (1 : Int32) (fun x10 S8 => Gr S1 S8 → bl x10 → (bl x10 ∧ Q x10 S8)) S1)))) S)
set_option maxRecDepth 20000 in
set_option maxHeartbeats 4000000 in
theorem T_X4_word_0 {X : CX} {Q : Int32 → HS → Prop} (C : Cx X cX4_word RX4 2 rm_X4_word) (E : ReI X rm_X4_word (fun r S => bl r ∧ Q r S)) (ht : (xh X).sig.returnType = (some .boolean)) (hn : (xh X).name = yX4_word.name) {v0 : Nat} {v1 : Nat} {S : HS} (h : P_X4_word_0 Q v0 v1 S) : WS X 2 0 0 0 [(0, .ref v0), (1, .ref (eK (xE X) v1))] [] S := by
  refine r_aload_n (pc := 0) C dX4_word_0 0 rfl ?_
  refine r_aload_n (pc := 1) C dX4_word_1 1 rfl ?_
  obtain ⟨o_v0, h⟩ := h
  refine r_callVi0 (pc := 2) C (rest := []) (a := v0) o_v0 [.ref (eK (xE X) v1)] yV_X4_is g_458 (c_X4_is h) dX4_word_2 rfl rfl (Nat.le_of_ble_eq_true rfl) ⟨by decide, by decide⟩ ⟨by decide, by decide⟩ ⟨rfl, rfl⟩ (fun x3 S1 h g2 => ?_)
  have bx3 := h.1
  have h := h.2 g2 bx3
  have o_v0 := gr_ob g2 o_v0
  refine r_if_ne (pc := 5) C (tgt := 14) dX4_word_5 (by decide) (fun c4 => ?_) (fun c4 => ?_)
  · have h := h.1 c4
    refine r_aload_n (pc := 14) C dX4_word_14 0 rfl ?_
    refine r_callVv0 (pc := 15) C (rest := []) (a := v0) o_v0 [] yV_X4_next g_449 (c_X4_next h) dX4_word_15 rfl rfl (Nat.le_of_ble_eq_true rfl) ⟨by decide, by decide⟩ ⟨by decide, by decide⟩ ⟨rfl, rfl⟩ (fun S5 h g6 => ?_)
    have h := h g6
    have o_v0 := gr_ob g6 o_v0
    refine r_iconst (pc := 18) C (v := (1 : Int32)) dX4_word_18 (by decide) ?_
    exact r_zret (pc := 19) C E ht dX4_word_19 (by decide) (by decide) (Or.inr rfl) h
  · have h := h.2 c4
    refine r_aload_n (pc := 8) C dX4_word_8 0 rfl ?_
    refine r_iconst (pc := 9) C (v := (1 : Int32)) dX4_word_9 (by decide) ?_
    refine r_callVi0 (pc := 10) C (rest := []) (a := v0) o_v0 [.int (1 : Int32)] yV_X4_fail g_519 (c_X4_fail h) dX4_word_10 rfl rfl (Nat.le_of_ble_eq_true rfl) ⟨by decide, by decide⟩ ⟨by decide, by decide⟩ ⟨rfl, rfl⟩ (fun x10 S8 h g9 => ?_)
    have bx10 := h.1
    have h := h.2 g9 bx10
    have o_v0 := gr_ob g9 o_v0
    exact r_zret (pc := 13) C E ht dX4_word_13 (by decide) (by decide) h.1 h.2
def P_X4_word (v0 : Nat) (v1 : Nat) (Q : Int32 → HS → Prop) (S : HS) : Prop := P_X4_word_0 Q v0 v1 S
theorem c_X4_word {l : Launch} {Ee : EE} {S : HS} {v0 : Nat} {v1 : Nat} {Q : Int32 → HS → Prop} (h : P_X4_word v0 v1 Q S) : MI l yX4_word cX4_word 2 (some .boolean) rm_X4_word Ee S [.ref v0, .ref (eK Ee v1)] (fun r S => bl r ∧ Q r S) :=
  openI (by decide) (Nat.le_of_ble_eq_true rfl) (fun X C E ht hn hE hl => by subst hE; exact r_sub [0, 1] rfl (T_X4_word_0 C E ht hn h))
def rm_X4_wordAndWhole : Room := { frames := 7, cells := 0, slots := 0, locals := 165 }
def P_X4_wordAndWhole_0 (Q : Int32 → HS → Prop) (v0 : Nat) (v1 : Nat) (v2 : Int32) (v3 : Int32) (S : HS) : Prop := ob S v0 4 ∧ (P_X4_word v0 v1 (fun x3 S1 => Gr S S1 → bl x3 → (((x3 = 0) → (Q (0 : Int32) S1)) ∧ ((¬ x3 = 0) → (P_X4_whole v0 v2 v3 (fun x7 S5 => Gr S1 S5 → bl x7 → (((x7 = 0) → (Q (0 : Int32) S5)) ∧ ((¬ x7 = 0) → (Q (1 : Int32) S5)))) S1)))) S)
set_option maxRecDepth 20000 in
set_option maxHeartbeats 4000000 in
theorem T_X4_wordAndWhole_0 {X : CX} {Q : Int32 → HS → Prop} (C : Cx X cX4_wordAndWhole RX4 4 rm_X4_wordAndWhole) (E : ReI X rm_X4_wordAndWhole (fun r S => bl r ∧ Q r S)) (ht : (xh X).sig.returnType = (some .boolean)) (hn : (xh X).name = yX4_wordAndWhole.name) {v0 : Nat} {v1 : Nat} {v2 : Int32} {v3 : Int32} {S : HS} (h : P_X4_wordAndWhole_0 Q v0 v1 v2 v3 S) : WS X 4 0 0 0 [(0, .ref v0), (1, .ref (eK (xE X) v1)), (2, .int v2), (3, .int v3)] [] S := by
  refine r_aload_n (pc := 0) C dX4_wordAndWhole_0 0 rfl ?_
  refine r_aload_n (pc := 1) C dX4_wordAndWhole_1 1 rfl ?_
  obtain ⟨o_v0, h⟩ := h
  refine r_callVi0 (pc := 2) C (rest := []) (a := v0) o_v0 [.ref (eK (xE X) v1)] yV_X4_word g_528 (c_X4_word h) dX4_wordAndWhole_2 rfl rfl (Nat.le_of_ble_eq_true rfl) ⟨by decide, by decide⟩ ⟨by decide, by decide⟩ ⟨rfl, rfl⟩ (fun x3 S1 h g2 => ?_)
  have bx3 := h.1
  have h := h.2 g2 bx3
  have o_v0 := gr_ob g2 o_v0
  refine r_if_eq (pc := 5) C (tgt := 21) dX4_wordAndWhole_5 (by decide) (fun c4 => ?_) (fun c4 => ?_)
  · have h := h.1 c4
    refine r_iconst (pc := 21) C (v := (0 : Int32)) dX4_wordAndWhole_21 (by decide) ?_
    exact r_zret (pc := 22) C E ht dX4_wordAndWhole_22 (by decide) (by decide) (Or.inl rfl) h
  · have h := h.2 c4
    refine r_aload_n (pc := 8) C dX4_wordAndWhole_8 0 rfl ?_
    refine r_iload_n (pc := 9) C dX4_wordAndWhole_9 2 rfl ?_
    refine r_iload_n (pc := 10) C dX4_wordAndWhole_10 3 rfl ?_
    refine r_callVi0 (pc := 11) C (rest := []) (a := v0) o_v0 [.int v2, .int v3] yV_X4_whole g_532 (c_X4_whole h) dX4_wordAndWhole_11 rfl rfl (Nat.le_of_ble_eq_true rfl) ⟨by decide, by decide⟩ ⟨by decide, by decide⟩ ⟨rfl, rfl⟩ (fun x7 S5 h g6 => ?_)
    have bx7 := h.1
    have h := h.2 g6 bx7
    have o_v0 := gr_ob g6 o_v0
    refine r_if_eq (pc := 14) C (tgt := 21) dX4_wordAndWhole_14 (by decide) (fun c8 => ?_) (fun c8 => ?_)
    · have h := h.1 c8
      refine r_iconst (pc := 21) C (v := (0 : Int32)) dX4_wordAndWhole_21 (by decide) ?_
      exact r_zret (pc := 22) C E ht dX4_wordAndWhole_22 (by decide) (by decide) (Or.inl rfl) h
    · have h := h.2 c8
      refine r_iconst (pc := 17) C (v := (1 : Int32)) dX4_wordAndWhole_17 (by decide) ?_
      refine r_goto (pc := 18) C (tgt := 22) dX4_wordAndWhole_18 (by decide) ?_
      exact r_zret (pc := 22) C E ht dX4_wordAndWhole_22 (by decide) (by decide) (Or.inr rfl) h
def P_X4_wordAndWhole (v0 : Nat) (v1 : Nat) (v2 : Int32) (v3 : Int32) (Q : Int32 → HS → Prop) (S : HS) : Prop := P_X4_wordAndWhole_0 Q v0 v1 v2 v3 S
theorem c_X4_wordAndWhole {l : Launch} {Ee : EE} {S : HS} {v0 : Nat} {v1 : Nat} {v2 : Int32} {v3 : Int32} {Q : Int32 → HS → Prop} (h : P_X4_wordAndWhole v0 v1 v2 v3 Q S) : MI l yX4_wordAndWhole cX4_wordAndWhole 4 (some .boolean) rm_X4_wordAndWhole Ee S [.ref v0, .ref (eK Ee v1), .int v2, .int v3] (fun r S => bl r ∧ Q r S) :=
  openI (by decide) (Nat.le_of_ble_eq_true rfl) (fun X C E ht hn hE hl => by subst hE; exact r_sub [0, 1, 2, 3] rfl (T_X4_wordAndWhole_0 C E ht hn h))
def rm_X6_shape : Room := { frames := 0, cells := 0, slots := 0, locals := 0 }
def P_X6_shape_16 (Q : HS → Prop) (v0 : Nat) (v1 : Int32) (v2 : Int32) (v3 : Int32) (s0 : Int32) (S : HS) : Prop := ob S v0 6 ∧ (∀ x1 : Int32, x1 = v1 * (v2 + s0) → (∀ S2 : HS, S2 = sI S v0 2 x1 → (∀ x3 : Int32, x3 = v1 * (v3 - s0) → (∀ S4 : HS, S4 = sI S2 v0 3 x3 → (∀ x5 : Int32, x5 = (v2 + s0) * (v3 - s0) → (∀ S6 : HS, S6 = sI S4 v0 4 x5 → (Q S6)))))))
set_option maxRecDepth 20000 in
set_option maxHeartbeats 4000000 in
theorem T_X6_shape_16 {X : CX} {Q : HS → Prop} (C : Cx X cX6_shape RX6 5 rm_X6_shape) (E : ReV X rm_X6_shape Q) (ht : (xh X).sig.returnType = none) (hn : (xh X).name = yX6_shape.name) {v0 : Nat} {v1 : Int32} {v2 : Int32} {v3 : Int32} {s0 : Int32} {S : HS} (h : P_X6_shape_16 Q v0 v1 v2 v3 s0 S) : WS X 5 0 0 16 [(0, .ref v0), (1, .int v1), (2, .int v2), (3, .int v3)] [.int s0] S := by
  refine r_istore (pc := 16) C dX6_shape_16 (by decide) (lv' := [(4, .int s0), (0, .ref v0), (1, .int v1), (2, .int v2), (3, .int v3)]) rfl ?_
  refine r_aload_n (pc := 18) C dX6_shape_18 1 rfl ?_
  refine r_iload_n (pc := 19) C dX6_shape_19 2 rfl ?_
  refine r_iload_n (pc := 20) C dX6_shape_20 3 rfl ?_
  refine r_iload (pc := 21) C dX6_shape_21 0 rfl ?_
  refine r_iadd (pc := 23) C dX6_shape_23 ?_
  refine r_imul (pc := 24) C dX6_shape_24 ?_
  obtain ⟨o_v0, h⟩ := h
  refine r_topi (fun x1 ex1 => ?_)
  have h := h x1 ex1
  refine r_puti (pc := 25) C pfL_X6_18 dX6_shape_25 o_v0 ?_
  refine r_heap (fun S2 eS2 => ?_)
  have h := h S2 eS2
  have o_v0 := ob_I eS2 o_v0
  refine r_aload_n (pc := 28) C dX6_shape_28 1 rfl ?_
  refine r_iload_n (pc := 29) C dX6_shape_29 2 rfl ?_
  refine r_iload_n (pc := 30) C dX6_shape_30 4 rfl ?_
  refine r_iload (pc := 31) C dX6_shape_31 0 rfl ?_
  refine r_isub (pc := 33) C dX6_shape_33 ?_
  refine r_imul (pc := 34) C dX6_shape_34 ?_
  refine r_topi (fun x3 ex3 => ?_)
  have h := h x3 ex3
  refine r_puti (pc := 35) C pfL_X6_21 dX6_shape_35 o_v0 ?_
  refine r_heap (fun S4 eS4 => ?_)
  have h := h S4 eS4
  have o_v0 := ob_I eS4 o_v0
  refine r_aload_n (pc := 38) C dX6_shape_38 1 rfl ?_
  refine r_iload_n (pc := 39) C dX6_shape_39 3 rfl ?_
  refine r_iload (pc := 40) C dX6_shape_40 0 rfl ?_
  refine r_iadd (pc := 42) C dX6_shape_42 ?_
  refine r_iload_n (pc := 43) C dX6_shape_43 4 rfl ?_
  refine r_iload (pc := 44) C dX6_shape_44 0 rfl ?_
  refine r_isub (pc := 46) C dX6_shape_46 ?_
  refine r_imul (pc := 47) C dX6_shape_47 ?_
  refine r_topi (fun x5 ex5 => ?_)
  have h := h x5 ex5
  refine r_puti (pc := 48) C pfL_X6_24 dX6_shape_48 o_v0 ?_
  refine r_heap (fun S6 eS6 => ?_)
  have h := h S6 eS6
  have o_v0 := ob_I eS6 o_v0
  exact r_vret (pc := 51) C E ht dX6_shape_51 (by decide) (by decide) h
def P_X6_shape_0 (Q : HS → Prop) (v0 : Nat) (v1 : Int32) (v2 : Int32) (v3 : Int32) (S : HS) : Prop := ob S v0 6 ∧ (∀ x1 : Int32, x1 = fI S v0 0 → (((¬ x1 = (1 : Int32)) → (P_X6_shape_16 Q v0 v1 v2 v3 (0 : Int32) S)) ∧ ((x1 = (1 : Int32)) → (∀ x3 : Int32, x3 = fI S v0 1 → (P_X6_shape_16 Q v0 v1 v2 v3 x3 S)))))
set_option maxRecDepth 20000 in
set_option maxHeartbeats 4000000 in
theorem T_X6_shape_0 {X : CX} {Q : HS → Prop} (C : Cx X cX6_shape RX6 5 rm_X6_shape) (E : ReV X rm_X6_shape Q) (ht : (xh X).sig.returnType = none) (hn : (xh X).name = yX6_shape.name) {v0 : Nat} {v1 : Int32} {v2 : Int32} {v3 : Int32} {S : HS} (h : P_X6_shape_0 Q v0 v1 v2 v3 S) : WS X 5 0 0 0 [(0, .ref v0), (1, .int v1), (2, .int v2), (3, .int v3)] [] S := by
  refine r_aload_n (pc := 0) C dX6_shape_0 0 rfl ?_
  obtain ⟨o_v0, h⟩ := h
  refine r_geti (pc := 1) C fL_X6_9 dX6_shape_1 o_v0 ?_
  refine r_topi (fun x1 ex1 => ?_)
  have h := h x1 ex1
  refine r_iconst (pc := 4) C (v := (1 : Int32)) dX6_shape_4 (by decide) ?_
  refine r_icmp_ne (pc := 5) C (tgt := 15) dX6_shape_5 (by decide) (fun c2 => ?_) (fun c2 => ?_)
  · have h := h.1 c2
    refine r_iconst (pc := 15) C (v := (0 : Int32)) dX6_shape_15 (by decide) ?_
    exact r_sub [0, 1, 2, 3] rfl (T_X6_shape_16 C E ht hn h)
  · have h := h.2 c2
    refine r_aload_n (pc := 8) C dX6_shape_8 0 rfl ?_
    refine r_geti (pc := 9) C fL_X6_15 dX6_shape_9 o_v0 ?_
    refine r_topi (fun x3 ex3 => ?_)
    have h := h x3 ex3
    refine r_goto (pc := 12) C (tgt := 16) dX6_shape_12 (by decide) ?_
    exact r_sub [0, 1, 2, 3] rfl (T_X6_shape_16 C E ht hn h)
def P_X6_shape (v0 : Nat) (v1 : Int32) (v2 : Int32) (v3 : Int32) (Q : HS → Prop) (S : HS) : Prop := P_X6_shape_0 Q v0 v1 v2 v3 S
theorem c_X6_shape {l : Launch} {Ee : EE} {S : HS} {v0 : Nat} {v1 : Int32} {v2 : Int32} {v3 : Int32} {Q : HS → Prop} (h : P_X6_shape v0 v1 v2 v3 Q S) : MV l yX6_shape cX6_shape 5 none rm_X6_shape Ee S [.ref v0, .int v1, .int v2, .int v3] Q :=
  openV (by decide) (Nat.le_of_ble_eq_true rfl) (fun X C E ht hn hE hl => by subst hE; exact r_sub [0, 1, 2, 3] rfl (T_X6_shape_0 C E ht hn h))
def rm_X4_bodyOf : Room := { frames := 8, cells := 0, slots := 0, locals := 188 }
def P_X4_bodyOf_58 (Q : Int32 → HS → Prop) (v0 : Nat) (v1 : Nat) (v2 : Int32) (v3 : Int32) (s0 : Int32) (S : HS) : Prop := ob S v0 4 ∧ (P_X4_wordAndWhole v0 24 s0 (9 : Int32) (fun x3 S1 => Gr S S1 → bl x3 → (((¬ x3 = 0) → (∀ x5 : Int32, x5 = fI S1 v0 9 → (ob S1 v1 6 ∧ (P_X6_shape v1 v2 v3 x5 (fun S6 => Gr S1 S6 → (Q (1 : Int32) S6)) S1)))) ∧ ((x3 = 0) → (Q (0 : Int32) S1)))) S)
set_option maxRecDepth 20000 in
set_option maxHeartbeats 4000000 in
theorem T_X4_bodyOf_58 {X : CX} {Q : Int32 → HS → Prop} (C : Cx X cX4_bodyOf RX4 5 rm_X4_bodyOf) (E : ReI X rm_X4_bodyOf (fun r S => bl r ∧ Q r S)) (ht : (xh X).sig.returnType = (some .boolean)) (hn : (xh X).name = yX4_bodyOf.name) {v0 : Nat} {v1 : Nat} {v2 : Int32} {v3 : Int32} {s0 : Int32} {S : HS} (h : P_X4_bodyOf_58 Q v0 v1 v2 v3 s0 S) : WS X 5 0 0 58 [(0, .ref v0), (1, .ref v1), (2, .int v2), (3, .int v3)] [.int s0] S := by
  refine r_istore (pc := 58) C dX4_bodyOf_58 (by decide) (lv' := [(4, .int s0), (0, .ref v0), (1, .ref v1), (2, .int v2), (3, .int v3)]) rfl ?_
  refine r_aload_n (pc := 60) C dX4_bodyOf_60 1 rfl ?_
  refine r_ldsw (pc := 61) C 24 rfl dX4_bodyOf_61 ?_
  refine r_iload (pc := 64) C dX4_bodyOf_64 0 rfl ?_
  refine r_bipush (pc := 66) C (v := (9 : Int32)) dX4_bodyOf_66 (by decide) ?_
  obtain ⟨o_v0, h⟩ := h
  refine r_callVi0 (pc := 68) C (rest := []) (a := v0) o_v0 [.ref (eK (xE X) 24), .int s0, .int (9 : Int32)] yV_X4_wordAndWhole g_524 (c_X4_wordAndWhole h) dX4_bodyOf_68 rfl rfl (Nat.le_of_ble_eq_true rfl) ⟨by decide, by decide⟩ ⟨by decide, by decide⟩ ⟨rfl, rfl⟩ (fun x3 S1 h g2 => ?_)
  have bx3 := h.1
  have h := h.2 g2 bx3
  have o_v0 := gr_ob g2 o_v0
  refine r_if_ne (pc := 71) C (tgt := 76) dX4_bodyOf_71 (by decide) (fun c4 => ?_) (fun c4 => ?_)
  · have h := h.1 c4
    refine r_aload_n (pc := 76) C dX4_bodyOf_76 2 rfl ?_
    refine r_iload_n (pc := 77) C dX4_bodyOf_77 3 rfl ?_
    refine r_iload_n (pc := 78) C dX4_bodyOf_78 4 rfl ?_
    refine r_aload_n (pc := 79) C dX4_bodyOf_79 1 rfl ?_
    refine r_geti (pc := 80) C fL_X4_147 dX4_bodyOf_80 o_v0 ?_
    refine r_topi (fun x5 ex5 => ?_)
    have h := h x5 ex5
    obtain ⟨o_v1, h⟩ := h
    refine r_callVv0 (pc := 83) C (rest := []) (a := v1) o_v1 [.int v2, .int v3, .int x5] yV_X6_shape g_607 (c_X6_shape h) dX4_bodyOf_83 rfl rfl (Nat.le_of_ble_eq_true rfl) ⟨by decide, by decide⟩ ⟨by decide, by decide⟩ ⟨rfl, rfl⟩ (fun S6 h g7 => ?_)
    have h := h g7
    have o_v0 := gr_ob g7 o_v0
    have o_v1 := gr_ob g7 o_v1
    refine r_iconst (pc := 86) C (v := (1 : Int32)) dX4_bodyOf_86 (by decide) ?_
    exact r_zret (pc := 87) C E ht dX4_bodyOf_87 (by decide) (by decide) (Or.inr rfl) h
  · have h := h.2 c4
    refine r_iconst (pc := 74) C (v := (0 : Int32)) dX4_bodyOf_74 (by decide) ?_
    exact r_zret (pc := 75) C E ht dX4_bodyOf_75 (by decide) (by decide) (Or.inl rfl) h
def P_X4_bodyOf_0 (Q : Int32 → HS → Prop) (v0 : Nat) (v1 : Nat) (S : HS) : Prop := ob S v0 4 ∧ (P_X4_wordAndWhole v0 22 (1 : Int32) (9 : Int32) (fun x3 S1 => Gr S S1 → bl x3 → (((¬ x3 = 0) → (∀ x5 : Int32, x5 = fI S1 v0 9 → (P_X4_wordAndWhole v0 23 (1 : Int32) (9 : Int32) (fun x8 S6 => Gr S1 S6 → bl x8 → (((¬ x8 = 0) → (∀ x10 : Int32, x10 = fI S6 v0 9 → (ob S6 v1 6 ∧ (∀ x11 : Int32, x11 = fI S6 v1 0 → (((¬ x11 = (1 : Int32)) → (P_X4_bodyOf_58 Q v0 v1 x5 x10 (1 : Int32) S6)) ∧ ((x11 = (1 : Int32)) → (∀ x13 : Int32, x13 = fI S6 v1 1 → (P_X4_bodyOf_58 Q v0 v1 x5 x10 (x13 + (1 : Int32)) S6)))))))) ∧ ((x8 = 0) → (Q (0 : Int32) S6)))) S1))) ∧ ((x3 = 0) → (Q (0 : Int32) S1)))) S)
set_option maxRecDepth 20000 in
set_option maxHeartbeats 4000000 in
theorem T_X4_bodyOf_0 {X : CX} {Q : Int32 → HS → Prop} (C : Cx X cX4_bodyOf RX4 5 rm_X4_bodyOf) (E : ReI X rm_X4_bodyOf (fun r S => bl r ∧ Q r S)) (ht : (xh X).sig.returnType = (some .boolean)) (hn : (xh X).name = yX4_bodyOf.name) {v0 : Nat} {v1 : Nat} {S : HS} (h : P_X4_bodyOf_0 Q v0 v1 S) : WS X 5 0 0 0 [(0, .ref v0), (1, .ref v1)] [] S := by
  refine r_aload_n (pc := 0) C dX4_bodyOf_0 0 rfl ?_
  refine r_ldsw (pc := 1) C 22 rfl dX4_bodyOf_1 ?_
  refine r_iconst (pc := 4) C (v := (1 : Int32)) dX4_bodyOf_4 (by decide) ?_
  refine r_bipush (pc := 5) C (v := (9 : Int32)) dX4_bodyOf_5 (by decide) ?_
  obtain ⟨o_v0, h⟩ := h
  refine r_callVi0 (pc := 7) C (rest := []) (a := v0) o_v0 [.ref (eK (xE X) 22), .int (1 : Int32), .int (9 : Int32)] yV_X4_wordAndWhole g_524 (c_X4_wordAndWhole h) dX4_bodyOf_7 rfl rfl (Nat.le_of_ble_eq_true rfl) ⟨by decide, by decide⟩ ⟨by decide, by decide⟩ ⟨rfl, rfl⟩ (fun x3 S1 h g2 => ?_)
  have bx3 := h.1
  have h := h.2 g2 bx3
  have o_v0 := gr_ob g2 o_v0
  refine r_if_ne (pc := 10) C (tgt := 15) dX4_bodyOf_10 (by decide) (fun c4 => ?_) (fun c4 => ?_)
  · have h := h.1 c4
    refine r_aload_n (pc := 15) C dX4_bodyOf_15 0 rfl ?_
    refine r_geti (pc := 16) C fL_X4_147 dX4_bodyOf_16 o_v0 ?_
    refine r_topi (fun x5 ex5 => ?_)
    have h := h x5 ex5
    refine r_istore_n (pc := 19) C dX4_bodyOf_19 rfl (by decide) (lv' := [(2, .int x5), (0, .ref v0), (1, .ref v1)]) rfl ?_
    refine r_aload_n (pc := 20) C dX4_bodyOf_20 1 rfl ?_
    refine r_ldsw (pc := 21) C 23 rfl dX4_bodyOf_21 ?_
    refine r_iconst (pc := 24) C (v := (1 : Int32)) dX4_bodyOf_24 (by decide) ?_
    refine r_bipush (pc := 25) C (v := (9 : Int32)) dX4_bodyOf_25 (by decide) ?_
    refine r_callVi0 (pc := 27) C (rest := []) (a := v0) o_v0 [.ref (eK (xE X) 23), .int (1 : Int32), .int (9 : Int32)] yV_X4_wordAndWhole g_524 (c_X4_wordAndWhole h) dX4_bodyOf_27 rfl rfl (Nat.le_of_ble_eq_true rfl) ⟨by decide, by decide⟩ ⟨by decide, by decide⟩ ⟨rfl, rfl⟩ (fun x8 S6 h g7 => ?_)
    have bx8 := h.1
    have h := h.2 g7 bx8
    have o_v0 := gr_ob g7 o_v0
    refine r_if_ne (pc := 30) C (tgt := 35) dX4_bodyOf_30 (by decide) (fun c9 => ?_) (fun c9 => ?_)
    · have h := h.1 c9
      refine r_aload_n (pc := 35) C dX4_bodyOf_35 1 rfl ?_
      refine r_geti (pc := 36) C fL_X4_147 dX4_bodyOf_36 o_v0 ?_
      refine r_topi (fun x10 ex10 => ?_)
      have h := h x10 ex10
      refine r_istore_n (pc := 39) C dX4_bodyOf_39 rfl (by decide) (lv' := [(3, .int x10), (2, .int x5), (0, .ref v0), (1, .ref v1)]) rfl ?_
      refine r_aload_n (pc := 40) C dX4_bodyOf_40 3 rfl ?_
      obtain ⟨o_v1, h⟩ := h
      refine r_geti (pc := 41) C fL_X4_264 dX4_bodyOf_41 o_v1 ?_
      refine r_topi (fun x11 ex11 => ?_)
      have h := h x11 ex11
      refine r_iconst (pc := 44) C (v := (1 : Int32)) dX4_bodyOf_44 (by decide) ?_
      refine r_icmp_ne (pc := 45) C (tgt := 57) dX4_bodyOf_45 (by decide) (fun c12 => ?_) (fun c12 => ?_)
      · have h := h.1 c12
        refine r_iconst (pc := 57) C (v := (1 : Int32)) dX4_bodyOf_57 (by decide) ?_
        exact r_sub [2, 3, 1, 0] rfl (T_X4_bodyOf_58 C E ht hn h)
      · have h := h.2 c12
        refine r_aload_n (pc := 48) C dX4_bodyOf_48 3 rfl ?_
        refine r_geti (pc := 49) C fL_X4_273 dX4_bodyOf_49 o_v1 ?_
        refine r_topi (fun x13 ex13 => ?_)
        have h := h x13 ex13
        refine r_iconst (pc := 52) C (v := (1 : Int32)) dX4_bodyOf_52 (by decide) ?_
        refine r_iadd (pc := 53) C dX4_bodyOf_53 ?_
        refine r_goto (pc := 54) C (tgt := 58) dX4_bodyOf_54 (by decide) ?_
        exact r_sub [2, 3, 1, 0] rfl (T_X4_bodyOf_58 C E ht hn h)
    · have h := h.2 c9
      refine r_iconst (pc := 33) C (v := (0 : Int32)) dX4_bodyOf_33 (by decide) ?_
      exact r_zret (pc := 34) C E ht dX4_bodyOf_34 (by decide) (by decide) (Or.inl rfl) h
  · have h := h.2 c4
    refine r_iconst (pc := 13) C (v := (0 : Int32)) dX4_bodyOf_13 (by decide) ?_
    exact r_zret (pc := 14) C E ht dX4_bodyOf_14 (by decide) (by decide) (Or.inl rfl) h
def P_X4_bodyOf (v0 : Nat) (v1 : Nat) (Q : Int32 → HS → Prop) (S : HS) : Prop := P_X4_bodyOf_0 Q v0 v1 S
theorem c_X4_bodyOf {l : Launch} {Ee : EE} {S : HS} {v0 : Nat} {v1 : Nat} {Q : Int32 → HS → Prop} (h : P_X4_bodyOf v0 v1 Q S) : MI l yX4_bodyOf cX4_bodyOf 5 (some .boolean) rm_X4_bodyOf Ee S [.ref v0, .ref v1] (fun r S => bl r ∧ Q r S) :=
  openI (by decide) (Nat.le_of_ble_eq_true rfl) (fun X C E ht hn hE hl => by subst hE; exact r_sub [0, 1] rfl (T_X4_bodyOf_0 C E ht hn h))
def rm_X4_canBeName : Room := { frames := 6, cells := 0, slots := 0, locals := 144 }
def P_X4_canBeName_86 (Q : Int32 → HS → Prop) (v0 : Nat) (s0 : Int32) (S : HS) : Prop := ob S v0 4 ∧ (∀ x1 : Int32, x1 = fI S v0 6 → (((¬ x1 = (1 : Int32)) → (Q (0 : Int32) S)) ∧ ((x1 = (1 : Int32)) → (((¬ s0 = 0) → (Q (0 : Int32) S)) ∧ ((s0 = 0) → (Q (1 : Int32) S))))))
set_option maxRecDepth 20000 in
set_option maxHeartbeats 4000000 in
theorem T_X4_canBeName_86 {X : CX} {Q : Int32 → HS → Prop} (C : Cx X cX4_canBeName RX4 2 rm_X4_canBeName) (E : ReI X rm_X4_canBeName (fun r S => bl r ∧ Q r S)) (ht : (xh X).sig.returnType = (some .boolean)) (hn : (xh X).name = yX4_canBeName.name) {v0 : Nat} {s0 : Int32} {S : HS} (h : P_X4_canBeName_86 Q v0 s0 S) : WS X 2 0 0 86 [(0, .ref v0)] [.int s0] S := by
  refine r_istore_n (pc := 86) C dX4_canBeName_86 rfl (by decide) (lv' := [(1, .int s0), (0, .ref v0)]) rfl ?_
  refine r_aload_n (pc := 87) C dX4_canBeName_87 1 rfl ?_
  obtain ⟨o_v0, h⟩ := h
  refine r_geti (pc := 88) C fL_X4_92 dX4_canBeName_88 o_v0 ?_
  refine r_topi (fun x1 ex1 => ?_)
  have h := h x1 ex1
  refine r_iconst (pc := 91) C (v := (1 : Int32)) dX4_canBeName_91 (by decide) ?_
  refine r_icmp_ne (pc := 92) C (tgt := 103) dX4_canBeName_92 (by decide) (fun c2 => ?_) (fun c2 => ?_)
  · have h := h.1 c2
    refine r_iconst (pc := 103) C (v := (0 : Int32)) dX4_canBeName_103 (by decide) ?_
    exact r_zret (pc := 104) C E ht dX4_canBeName_104 (by decide) (by decide) (Or.inl rfl) h
  · have h := h.2 c2
    refine r_iload_n (pc := 95) C dX4_canBeName_95 0 rfl ?_
    refine r_if_ne (pc := 96) C (tgt := 103) dX4_canBeName_96 (by decide) (fun c3 => ?_) (fun c3 => ?_)
    · have h := h.1 c3
      refine r_iconst (pc := 103) C (v := (0 : Int32)) dX4_canBeName_103 (by decide) ?_
      exact r_zret (pc := 104) C E ht dX4_canBeName_104 (by decide) (by decide) (Or.inl rfl) h
    · have h := h.2 c3
      refine r_iconst (pc := 99) C (v := (1 : Int32)) dX4_canBeName_99 (by decide) ?_
      refine r_goto (pc := 100) C (tgt := 104) dX4_canBeName_100 (by decide) ?_
      exact r_zret (pc := 104) C E ht dX4_canBeName_104 (by decide) (by decide) (Or.inr rfl) h
def P_X4_canBeName_81 (Q : Int32 → HS → Prop) (v0 : Nat) (S : HS) : Prop := P_X4_canBeName_86 Q v0 (1 : Int32) S
set_option maxRecDepth 20000 in
set_option maxHeartbeats 4000000 in
theorem T_X4_canBeName_81 {X : CX} {Q : Int32 → HS → Prop} (C : Cx X cX4_canBeName RX4 2 rm_X4_canBeName) (E : ReI X rm_X4_canBeName (fun r S => bl r ∧ Q r S)) (ht : (xh X).sig.returnType = (some .boolean)) (hn : (xh X).name = yX4_canBeName.name) {v0 : Nat} {S : HS} (h : P_X4_canBeName_81 Q v0 S) : WS X 2 0 0 81 [(0, .ref v0)] [] S := by
  refine r_iconst (pc := 81) C (v := (1 : Int32)) dX4_canBeName_81 (by decide) ?_
  refine r_goto (pc := 82) C (tgt := 86) dX4_canBeName_82 (by decide) ?_
  exact r_sub [0] rfl (T_X4_canBeName_86 C E ht hn h)
def P_X4_canBeName_0 (Q : Int32 → HS → Prop) (v0 : Nat) (S : HS) : Prop := ob S v0 4 ∧ (P_X4_is v0 0 (fun x3 S1 => Gr S S1 → bl x3 → (((¬ x3 = 0) → (P_X4_canBeName_81 Q v0 S1)) ∧ ((x3 = 0) → (P_X4_is v0 2 (fun x7 S5 => Gr S1 S5 → bl x7 → (((¬ x7 = 0) → (P_X4_canBeName_81 Q v0 S5)) ∧ ((x7 = 0) → (P_X4_is v0 11 (fun x11 S9 => Gr S5 S9 → bl x11 → (((¬ x11 = 0) → (P_X4_canBeName_81 Q v0 S9)) ∧ ((x11 = 0) → (P_X4_is v0 12 (fun x15 S13 => Gr S9 S13 → bl x15 → (((¬ x15 = 0) → (P_X4_canBeName_81 Q v0 S13)) ∧ ((x15 = 0) → (P_X4_is v0 13 (fun x19 S17 => Gr S13 S17 → bl x19 → (((¬ x19 = 0) → (P_X4_canBeName_81 Q v0 S17)) ∧ ((x19 = 0) → (P_X4_is v0 14 (fun x23 S21 => Gr S17 S21 → bl x23 → (((¬ x23 = 0) → (P_X4_canBeName_81 Q v0 S21)) ∧ ((x23 = 0) → (P_X4_is v0 15 (fun x27 S25 => Gr S21 S25 → bl x27 → (((¬ x27 = 0) → (P_X4_canBeName_81 Q v0 S25)) ∧ ((x27 = 0) → (P_X4_is v0 16 (fun x31 S29 => Gr S25 S29 → bl x31 → (((¬ x31 = 0) → (P_X4_canBeName_81 Q v0 S29)) ∧ ((x31 = 0) → (P_X4_is v0 17 (fun x35 S33 => Gr S29 S33 → bl x35 → (((x35 = 0) → (P_X4_canBeName_86 Q v0 (0 : Int32) S33)) ∧ ((¬ x35 = 0) → (P_X4_canBeName_81 Q v0 S33)))) S29)))) S25)))) S21)))) S17)))) S13)))) S9)))) S5)))) S1)))) S)
set_option maxRecDepth 20000 in
set_option maxHeartbeats 4000000 in
theorem T_X4_canBeName_0 {X : CX} {Q : Int32 → HS → Prop} (C : Cx X cX4_canBeName RX4 2 rm_X4_canBeName) (E : ReI X rm_X4_canBeName (fun r S => bl r ∧ Q r S)) (ht : (xh X).sig.returnType = (some .boolean)) (hn : (xh X).name = yX4_canBeName.name) {v0 : Nat} {S : HS} (h : P_X4_canBeName_0 Q v0 S) : WS X 2 0 0 0 [(0, .ref v0)] [] S := by
  refine r_aload_n (pc := 0) C dX4_canBeName_0 0 rfl ?_
  refine r_lds (pc := 1) C 0 rfl dX4_canBeName_1 ?_
  obtain ⟨o_v0, h⟩ := h
  refine r_callVi0 (pc := 3) C (rest := []) (a := v0) o_v0 [.ref (eK (xE X) 0)] yV_X4_is g_458 (c_X4_is h) dX4_canBeName_3 rfl rfl (Nat.le_of_ble_eq_true rfl) ⟨by decide, by decide⟩ ⟨by decide, by decide⟩ ⟨rfl, rfl⟩ (fun x3 S1 h g2 => ?_)
  have bx3 := h.1
  have h := h.2 g2 bx3
  have o_v0 := gr_ob g2 o_v0
  refine r_if_ne (pc := 6) C (tgt := 81) dX4_canBeName_6 (by decide) (fun c4 => ?_) (fun c4 => ?_)
  · have h := h.1 c4
    exact r_sub [0] rfl (T_X4_canBeName_81 C E ht hn h)
  · have h := h.2 c4
    refine r_aload_n (pc := 9) C dX4_canBeName_9 0 rfl ?_
    refine r_lds (pc := 10) C 2 rfl dX4_canBeName_10 ?_
    refine r_callVi0 (pc := 12) C (rest := []) (a := v0) o_v0 [.ref (eK (xE X) 2)] yV_X4_is g_458 (c_X4_is h) dX4_canBeName_12 rfl rfl (Nat.le_of_ble_eq_true rfl) ⟨by decide, by decide⟩ ⟨by decide, by decide⟩ ⟨rfl, rfl⟩ (fun x7 S5 h g6 => ?_)
    have bx7 := h.1
    have h := h.2 g6 bx7
    have o_v0 := gr_ob g6 o_v0
    refine r_if_ne (pc := 15) C (tgt := 81) dX4_canBeName_15 (by decide) (fun c8 => ?_) (fun c8 => ?_)
    · have h := h.1 c8
      exact r_sub [0] rfl (T_X4_canBeName_81 C E ht hn h)
    · have h := h.2 c8
      refine r_aload_n (pc := 18) C dX4_canBeName_18 0 rfl ?_
      refine r_lds (pc := 19) C 11 rfl dX4_canBeName_19 ?_
      refine r_callVi0 (pc := 21) C (rest := []) (a := v0) o_v0 [.ref (eK (xE X) 11)] yV_X4_is g_458 (c_X4_is h) dX4_canBeName_21 rfl rfl (Nat.le_of_ble_eq_true rfl) ⟨by decide, by decide⟩ ⟨by decide, by decide⟩ ⟨rfl, rfl⟩ (fun x11 S9 h g10 => ?_)
      have bx11 := h.1
      have h := h.2 g10 bx11
      have o_v0 := gr_ob g10 o_v0
      refine r_if_ne (pc := 24) C (tgt := 81) dX4_canBeName_24 (by decide) (fun c12 => ?_) (fun c12 => ?_)
      · have h := h.1 c12
        exact r_sub [0] rfl (T_X4_canBeName_81 C E ht hn h)
      · have h := h.2 c12
        refine r_aload_n (pc := 27) C dX4_canBeName_27 0 rfl ?_
        refine r_lds (pc := 28) C 12 rfl dX4_canBeName_28 ?_
        refine r_callVi0 (pc := 30) C (rest := []) (a := v0) o_v0 [.ref (eK (xE X) 12)] yV_X4_is g_458 (c_X4_is h) dX4_canBeName_30 rfl rfl (Nat.le_of_ble_eq_true rfl) ⟨by decide, by decide⟩ ⟨by decide, by decide⟩ ⟨rfl, rfl⟩ (fun x15 S13 h g14 => ?_)
        have bx15 := h.1
        have h := h.2 g14 bx15
        have o_v0 := gr_ob g14 o_v0
        refine r_if_ne (pc := 33) C (tgt := 81) dX4_canBeName_33 (by decide) (fun c16 => ?_) (fun c16 => ?_)
        · have h := h.1 c16
          exact r_sub [0] rfl (T_X4_canBeName_81 C E ht hn h)
        · have h := h.2 c16
          refine r_aload_n (pc := 36) C dX4_canBeName_36 0 rfl ?_
          refine r_lds (pc := 37) C 13 rfl dX4_canBeName_37 ?_
          refine r_callVi0 (pc := 39) C (rest := []) (a := v0) o_v0 [.ref (eK (xE X) 13)] yV_X4_is g_458 (c_X4_is h) dX4_canBeName_39 rfl rfl (Nat.le_of_ble_eq_true rfl) ⟨by decide, by decide⟩ ⟨by decide, by decide⟩ ⟨rfl, rfl⟩ (fun x19 S17 h g18 => ?_)
          have bx19 := h.1
          have h := h.2 g18 bx19
          have o_v0 := gr_ob g18 o_v0
          refine r_if_ne (pc := 42) C (tgt := 81) dX4_canBeName_42 (by decide) (fun c20 => ?_) (fun c20 => ?_)
          · have h := h.1 c20
            exact r_sub [0] rfl (T_X4_canBeName_81 C E ht hn h)
          · have h := h.2 c20
            refine r_aload_n (pc := 45) C dX4_canBeName_45 0 rfl ?_
            refine r_lds (pc := 46) C 14 rfl dX4_canBeName_46 ?_
            refine r_callVi0 (pc := 48) C (rest := []) (a := v0) o_v0 [.ref (eK (xE X) 14)] yV_X4_is g_458 (c_X4_is h) dX4_canBeName_48 rfl rfl (Nat.le_of_ble_eq_true rfl) ⟨by decide, by decide⟩ ⟨by decide, by decide⟩ ⟨rfl, rfl⟩ (fun x23 S21 h g22 => ?_)
            have bx23 := h.1
            have h := h.2 g22 bx23
            have o_v0 := gr_ob g22 o_v0
            refine r_if_ne (pc := 51) C (tgt := 81) dX4_canBeName_51 (by decide) (fun c24 => ?_) (fun c24 => ?_)
            · have h := h.1 c24
              exact r_sub [0] rfl (T_X4_canBeName_81 C E ht hn h)
            · have h := h.2 c24
              refine r_aload_n (pc := 54) C dX4_canBeName_54 0 rfl ?_
              refine r_lds (pc := 55) C 15 rfl dX4_canBeName_55 ?_
              refine r_callVi0 (pc := 57) C (rest := []) (a := v0) o_v0 [.ref (eK (xE X) 15)] yV_X4_is g_458 (c_X4_is h) dX4_canBeName_57 rfl rfl (Nat.le_of_ble_eq_true rfl) ⟨by decide, by decide⟩ ⟨by decide, by decide⟩ ⟨rfl, rfl⟩ (fun x27 S25 h g26 => ?_)
              have bx27 := h.1
              have h := h.2 g26 bx27
              have o_v0 := gr_ob g26 o_v0
              refine r_if_ne (pc := 60) C (tgt := 81) dX4_canBeName_60 (by decide) (fun c28 => ?_) (fun c28 => ?_)
              · have h := h.1 c28
                exact r_sub [0] rfl (T_X4_canBeName_81 C E ht hn h)
              · have h := h.2 c28
                refine r_aload_n (pc := 63) C dX4_canBeName_63 0 rfl ?_
                refine r_lds (pc := 64) C 16 rfl dX4_canBeName_64 ?_
                refine r_callVi0 (pc := 66) C (rest := []) (a := v0) o_v0 [.ref (eK (xE X) 16)] yV_X4_is g_458 (c_X4_is h) dX4_canBeName_66 rfl rfl (Nat.le_of_ble_eq_true rfl) ⟨by decide, by decide⟩ ⟨by decide, by decide⟩ ⟨rfl, rfl⟩ (fun x31 S29 h g30 => ?_)
                have bx31 := h.1
                have h := h.2 g30 bx31
                have o_v0 := gr_ob g30 o_v0
                refine r_if_ne (pc := 69) C (tgt := 81) dX4_canBeName_69 (by decide) (fun c32 => ?_) (fun c32 => ?_)
                · have h := h.1 c32
                  exact r_sub [0] rfl (T_X4_canBeName_81 C E ht hn h)
                · have h := h.2 c32
                  refine r_aload_n (pc := 72) C dX4_canBeName_72 0 rfl ?_
                  refine r_lds (pc := 73) C 17 rfl dX4_canBeName_73 ?_
                  refine r_callVi0 (pc := 75) C (rest := []) (a := v0) o_v0 [.ref (eK (xE X) 17)] yV_X4_is g_458 (c_X4_is h) dX4_canBeName_75 rfl rfl (Nat.le_of_ble_eq_true rfl) ⟨by decide, by decide⟩ ⟨by decide, by decide⟩ ⟨rfl, rfl⟩ (fun x35 S33 h g34 => ?_)
                  have bx35 := h.1
                  have h := h.2 g34 bx35
                  have o_v0 := gr_ob g34 o_v0
                  refine r_if_eq (pc := 78) C (tgt := 85) dX4_canBeName_78 (by decide) (fun c36 => ?_) (fun c36 => ?_)
                  · have h := h.1 c36
                    refine r_iconst (pc := 85) C (v := (0 : Int32)) dX4_canBeName_85 (by decide) ?_
                    exact r_sub [0] rfl (T_X4_canBeName_86 C E ht hn h)
                  · have h := h.2 c36
                    exact r_sub [0] rfl (T_X4_canBeName_81 C E ht hn h)
def P_X4_canBeName (v0 : Nat) (Q : Int32 → HS → Prop) (S : HS) : Prop := P_X4_canBeName_0 Q v0 S
theorem c_X4_canBeName {l : Launch} {Ee : EE} {S : HS} {v0 : Nat} {Q : Int32 → HS → Prop} (h : P_X4_canBeName v0 Q S) : MI l yX4_canBeName cX4_canBeName 2 (some .boolean) rm_X4_canBeName Ee S [.ref v0] (fun r S => bl r ∧ Q r S) :=
  openI (by decide) (Nat.le_of_ble_eq_true rfl) (fun X C E ht hn hE hl => by subst hE; exact r_sub [0] rfl (T_X4_canBeName_0 C E ht hn h))
end
section
def rm_X4_exchange : Room := { frames := 0, cells := 0, slots := 0, locals := 0 }
def P_X4_exchange_0 (Q : Nat → HS → Prop) (v0 : Nat) (v1 : Nat) (S : HS) : Prop := ob S v0 4 ∧ (∃ a1 : Nat, fR S v0 5 = some a1 ∧ (∀ S2 : HS, S2 = sR S v0 5 (some v1) → (Q a1 S2)))
set_option maxRecDepth 20000 in
set_option maxHeartbeats 4000000 in
theorem T_X4_exchange_0 {X : CX} {Q : Nat → HS → Prop} (C : Cx X cX4_exchange RX4 3 rm_X4_exchange) (E : ReR X rm_X4_exchange (fun r S => ∃ a, r = some a ∧ Q a S)) (ht : (xh X).sig.returnType = (some (.object "RainWalk$World"))) (hn : (xh X).name = yX4_exchange.name) {v0 : Nat} {v1 : Nat} {S : HS} (h : P_X4_exchange_0 Q v0 v1 S) : WS X 3 0 0 0 [(0, .ref v0), (1, .ref v1)] [] S := by
  refine r_aload_n (pc := 0) C dX4_exchange_0 0 rfl ?_
  obtain ⟨o_v0, h⟩ := h
  obtain ⟨a1, ea1, h⟩ := h
  refine r_getr (pc := 1) C fL_X4_18 dX4_exchange_1 o_v0 ea1 ?_
  refine r_astore_n (pc := 4) C dX4_exchange_4 rfl (by decide) (lv' := [(2, .ref a1), (0, .ref v0), (1, .ref v1)]) rfl ?_
  refine r_aload_n (pc := 5) C dX4_exchange_5 1 rfl ?_
  refine r_aload_n (pc := 6) C dX4_exchange_6 2 rfl ?_
  refine r_putr (pc := 7) C pfL_X4_18 dX4_exchange_7 o_v0 ?_
  refine r_heap (fun S2 eS2 => ?_)
  have h := h S2 eS2
  have o_v0 := ob_R eS2 o_v0
  refine r_aload_n (pc := 10) C dX4_exchange_10 0 rfl ?_
  exact r_aret (pc := 11) C E ht (Or.inl ⟨_, rfl⟩) dX4_exchange_11 (by decide) (by decide) ⟨_, rfl, h⟩
def P_X4_exchange (v0 : Nat) (v1 : Nat) (Q : Nat → HS → Prop) (S : HS) : Prop := P_X4_exchange_0 Q v0 v1 S
theorem c_X4_exchange {l : Launch} {Ee : EE} {S : HS} {v0 : Nat} {v1 : Nat} {Q : Nat → HS → Prop} (h : P_X4_exchange v0 v1 Q S) : MR l yX4_exchange cX4_exchange 3 (some (.object "RainWalk$World")) rm_X4_exchange Ee S [.ref v0, .ref v1] (fun r S => ∃ a, r = some a ∧ Q a S) :=
  openR (by decide) (Nat.le_of_ble_eq_true rfl) (fun X C E ht hn hE hl => by subst hE; exact r_sub [0, 1] rfl (T_X4_exchange_0 C E ht hn h))
def rm_X4_findName : Room := { frames := 0, cells := 0, slots := 0, locals := 0 }
def B_X4_findName_2 (Q : Int32 → HS → Prop) (X2 : Nat → Int32 → HS → Prop) (v0 : Nat) (v1 : Int32) (S : HS) : Prop := ob S v0 4 ∧ (∀ x1 : Int32, x1 = fI S v0 10 → (((x1 ≤ v1) → (Q (-1 : Int32) S)) ∧ ((¬ x1 ≤ v1) → ((((12 : Int32) ≤ v1) → (Q (-1 : Int32) S)) ∧ ((¬ (12 : Int32) ≤ v1) → (∃ a4 : Nat, fR S v0 11 = some a4 ∧ (ob S a4 14 ∧ (vp_in v1 (hN S a4) ∧ ∀ x6 : Int64, x6 = fJ S a4 v1.toNatClampNeg → (∀ x7 : Int64, x7 = fJ S v0 8 → (((¬ (lg_cmp x6 x7) = 0) → (∀ x9 : Int32, x9 = v1 + (1 : Int32) → (X2 v0 x9 S))) ∧ (((lg_cmp x6 x7) = 0) → (∃ a10 : Nat, fR S v0 12 = some a10 ∧ (ob S a10 13 ∧ (vp_in v1 (hN S a10) ∧ ∀ x12 : Int32, x12 = fI S a10 v1.toNatClampNeg → (Q x12 S)))))))))))))))
def P_X4_findName_2 (Q : Int32 → HS → Prop) (v0 : Nat) (v1 : Int32) (S : HS) : Prop := ∀ X2 : Nat → Int32 → HS → Prop, (∀ (v0 : Nat) (v1 : Int32) (S : HS), B_X4_findName_2 Q X2 v0 v1 S → X2 v0 v1 S) → X2 v0 v1 S
set_option maxRecDepth 20000 in
set_option maxHeartbeats 4000000 in
theorem TB_X4_findName_2 {X : CX} {Q : Int32 → HS → Prop} (C : Cx X cX4_findName RX4 2 rm_X4_findName) (E : ReI X rm_X4_findName Q) (ht : (xh X).sig.returnType = (some .int)) (hn : (xh X).name = yX4_findName.name) {X2 : Nat → Int32 → HS → Prop} (hX2 : ∀ (v0 : Nat) (v1 : Int32) (S : HS), X2 v0 v1 S → WS X 2 0 0 2 [(0, .ref v0), (1, .int v1)] [] S) {v0 : Nat} {v1 : Int32} {S : HS} (h : B_X4_findName_2 Q X2 v0 v1 S) : WS X 2 0 0 2 [(0, .ref v0), (1, .int v1)] [] S := by
  refine r_iload_n (pc := 2) C dX4_findName_2 1 rfl ?_
  refine r_aload_n (pc := 3) C dX4_findName_3 0 rfl ?_
  obtain ⟨o_v0, h⟩ := h
  refine r_geti (pc := 4) C fL_X4_116 dX4_findName_4 o_v0 ?_
  refine r_topi (fun x1 ex1 => ?_)
  have h := h x1 ex1
  refine r_icmp_ge (pc := 7) C (tgt := 43) dX4_findName_7 (by decide) (fun c2 => ?_) (fun c2 => ?_)
  · have h := h.1 c2
    refine r_iconst (pc := 43) C (v := (-1 : Int32)) dX4_findName_43 (by decide) ?_
    exact r_iret (pc := 44) C E ht dX4_findName_44 (by decide) (by decide) h
  · have h := h.2 c2
    refine r_iload_n (pc := 10) C dX4_findName_10 1 rfl ?_
    refine r_bipush (pc := 11) C (v := (12 : Int32)) dX4_findName_11 (by decide) ?_
    refine r_icmp_ge (pc := 13) C (tgt := 43) dX4_findName_13 (by decide) (fun c3 => ?_) (fun c3 => ?_)
    · have h := h.1 c3
      refine r_iconst (pc := 43) C (v := (-1 : Int32)) dX4_findName_43 (by decide) ?_
      exact r_iret (pc := 44) C E ht dX4_findName_44 (by decide) (by decide) h
    · have h := h.2 c3
      refine r_aload_n (pc := 16) C dX4_findName_16 0 rfl ?_
      obtain ⟨a4, ea4, h⟩ := h
      refine r_getr (pc := 17) C fL_X4_22 dX4_findName_17 o_v0 ea4 ?_
      refine r_iload_n (pc := 20) C dX4_findName_20 1 rfl ?_
      obtain ⟨o_a4, h⟩ := h
      obtain ⟨i5, h⟩ := h
      refine r_lald (pc := 21) C dX4_findName_21 o_a4 i5 ?_
      refine r_topl (fun x6 ex6 => ?_)
      have h := h x6 ex6
      refine r_aload_n (pc := 22) C dX4_findName_22 0 rfl ?_
      refine r_getl (pc := 23) C fL_X4_132 dX4_findName_23 o_v0 ?_
      refine r_topl (fun x7 ex7 => ?_)
      have h := h x7 ex7
      refine r_lcmp (pc := 26) C dX4_findName_26 ?_
      refine r_if_ne (pc := 27) C (tgt := 37) dX4_findName_27 (by decide) (fun c8 => ?_) (fun c8 => ?_)
      · have h := h.1 c8
        obtain ⟨x9, ex9⟩ : ∃ z : Int32, z = v1 + (1 : Int32) := ⟨_, rfl⟩
        have h := h x9 ex9
        refine r_iinc (pc := 37) C (v := x9) (lv' := [(1, .int x9), (0, .ref v0)]) dX4_findName_37 1 rfl ex9.symm (by decide) rfl ?_
        refine r_goto (pc := 40) C (tgt := 2) dX4_findName_40 (by decide) ?_
        exact r_sub [1, 0] rfl (hX2 v0 x9 S h)
      · have h := h.2 c8
        refine r_aload_n (pc := 30) C dX4_findName_30 0 rfl ?_
        obtain ⟨a10, ea10, h⟩ := h
        refine r_getr (pc := 31) C fL_X4_26 dX4_findName_31 o_v0 ea10 ?_
        refine r_iload_n (pc := 34) C dX4_findName_34 1 rfl ?_
        obtain ⟨o_a10, h⟩ := h
        obtain ⟨i11, h⟩ := h
        refine r_iald (pc := 35) C dX4_findName_35 o_a10 i11 ?_
        refine r_topi (fun x12 ex12 => ?_)
        have h := h x12 ex12
        exact r_iret (pc := 36) C E ht dX4_findName_36 (by decide) (by decide) h
theorem T_X4_findName_2 {X : CX} {Q : Int32 → HS → Prop} (C : Cx X cX4_findName RX4 2 rm_X4_findName) (E : ReI X rm_X4_findName Q) (ht : (xh X).sig.returnType = (some .int)) (hn : (xh X).name = yX4_findName.name) {v0 : Nat} {v1 : Int32} {S : HS} (h : P_X4_findName_2 Q v0 v1 S) : WS X 2 0 0 2 [(0, .ref v0), (1, .int v1)] [] S :=
  h (fun v0 v1 S => WS X 2 0 0 2 [(0, .ref v0), (1, .int v1)] [] S) (fun v0 v1 S hh => TB_X4_findName_2 C E ht hn (fun v0 v1 S z => z) hh)
def P_X4_findName_0 (Q : Int32 → HS → Prop) (v0 : Nat) (S : HS) : Prop := P_X4_findName_2 Q v0 (0 : Int32) S
set_option maxRecDepth 20000 in
set_option maxHeartbeats 4000000 in
theorem T_X4_findName_0 {X : CX} {Q : Int32 → HS → Prop} (C : Cx X cX4_findName RX4 2 rm_X4_findName) (E : ReI X rm_X4_findName Q) (ht : (xh X).sig.returnType = (some .int)) (hn : (xh X).name = yX4_findName.name) {v0 : Nat} {S : HS} (h : P_X4_findName_0 Q v0 S) : WS X 2 0 0 0 [(0, .ref v0)] [] S := by
  refine r_iconst (pc := 0) C (v := (0 : Int32)) dX4_findName_0 (by decide) ?_
  refine r_istore_n (pc := 1) C dX4_findName_1 rfl (by decide) (lv' := [(1, .int (0 : Int32)), (0, .ref v0)]) rfl ?_
  exact r_sub [1, 0] rfl (T_X4_findName_2 C E ht hn h)
def P_X4_findName (v0 : Nat) (Q : Int32 → HS → Prop) (S : HS) : Prop := P_X4_findName_0 Q v0 S
theorem c_X4_findName {l : Launch} {Ee : EE} {S : HS} {v0 : Nat} {Q : Int32 → HS → Prop} (h : P_X4_findName v0 Q S) : MI l yX4_findName cX4_findName 2 (some .int) rm_X4_findName Ee S [.ref v0] Q :=
  openI (by decide) (Nat.le_of_ble_eq_true rfl) (fun X C E ht hn hE hl => by subst hE; exact r_sub [0] rfl (T_X4_findName_0 C E ht hn h))
def rm_X8_isTold : Room := { frames := 0, cells := 0, slots := 0, locals := 0 }
def P_X8_isTold_0 (Q : Int32 → HS → Prop) (v0 : Nat) (S : HS) : Prop := ob S v0 8 ∧ (∀ x1 : Int32, x1 = fI S v0 0 → (((x1 ≤ 0) → (Q (0 : Int32) S)) ∧ ((¬ x1 ≤ 0) → (Q (1 : Int32) S))))
set_option maxRecDepth 20000 in
set_option maxHeartbeats 4000000 in
theorem T_X8_isTold_0 {X : CX} {Q : Int32 → HS → Prop} (C : Cx X cX8_isTold RX8 1 rm_X8_isTold) (E : ReI X rm_X8_isTold (fun r S => bl r ∧ Q r S)) (ht : (xh X).sig.returnType = (some .boolean)) (hn : (xh X).name = yX8_isTold.name) {v0 : Nat} {S : HS} (h : P_X8_isTold_0 Q v0 S) : WS X 1 0 0 0 [(0, .ref v0)] [] S := by
  refine r_aload_n (pc := 0) C dX8_isTold_0 0 rfl ?_
  obtain ⟨o_v0, h⟩ := h
  refine r_geti (pc := 1) C fL_X8_42 dX8_isTold_1 o_v0 ?_
  refine r_topi (fun x1 ex1 => ?_)
  have h := h x1 ex1
  refine r_if_le (pc := 4) C (tgt := 11) dX8_isTold_4 (by decide) (fun c2 => ?_) (fun c2 => ?_)
  · have h := h.1 c2
    refine r_iconst (pc := 11) C (v := (0 : Int32)) dX8_isTold_11 (by decide) ?_
    exact r_zret (pc := 12) C E ht dX8_isTold_12 (by decide) (by decide) (Or.inl rfl) h
  · have h := h.2 c2
    refine r_iconst (pc := 7) C (v := (1 : Int32)) dX8_isTold_7 (by decide) ?_
    refine r_goto (pc := 8) C (tgt := 12) dX8_isTold_8 (by decide) ?_
    exact r_zret (pc := 12) C E ht dX8_isTold_12 (by decide) (by decide) (Or.inr rfl) h
def P_X8_isTold (v0 : Nat) (Q : Int32 → HS → Prop) (S : HS) : Prop := P_X8_isTold_0 Q v0 S
theorem c_X8_isTold {l : Launch} {Ee : EE} {S : HS} {v0 : Nat} {Q : Int32 → HS → Prop} (h : P_X8_isTold v0 Q S) : MI l yX8_isTold cX8_isTold 1 (some .boolean) rm_X8_isTold Ee S [.ref v0] (fun r S => bl r ∧ Q r S) :=
  openI (by decide) (Nat.le_of_ble_eq_true rfl) (fun X C E ht hn hE hl => by subst hE; exact r_sub [0] rfl (T_X8_isTold_0 C E ht hn h))
def rm_X4_hasRoom : Room := { frames := 2, cells := 0, slots := 0, locals := 46 }
def P_X4_hasRoom_0 (Q : Int32 → HS → Prop) (v0 : Nat) (v1 : Int32) (v2 : Int32) (S : HS) : Prop := ob S v0 4 ∧ (∃ a1 : Nat, fR S v0 5 = some a1 ∧ (ob S a1 8 ∧ (P_X8_isTold a1 (fun x4 S2 => Gr S S2 → bl x4 → (((¬ x4 = 0) → (((v1 < v2) → (P_X4_next v0 (fun S7 => Gr S2 S7 → (Q (1 : Int32) S7)) S2)) ∧ ((¬ v1 < v2) → (P_X4_fail v0 (5 : Int32) (fun x12 S10 => Gr S2 S10 → bl x12 → (bl x12 ∧ Q x12 S10)) S2)))) ∧ ((x4 = 0) → (P_X4_fail v0 (6 : Int32) (fun x15 S13 => Gr S2 S13 → bl x15 → (bl x15 ∧ Q x15 S13)) S2)))) S)))
set_option maxRecDepth 20000 in
set_option maxHeartbeats 4000000 in
theorem T_X4_hasRoom_0 {X : CX} {Q : Int32 → HS → Prop} (C : Cx X cX4_hasRoom RX4 3 rm_X4_hasRoom) (E : ReI X rm_X4_hasRoom (fun r S => bl r ∧ Q r S)) (ht : (xh X).sig.returnType = (some .boolean)) (hn : (xh X).name = yX4_hasRoom.name) {v0 : Nat} {v1 : Int32} {v2 : Int32} {S : HS} (h : P_X4_hasRoom_0 Q v0 v1 v2 S) : WS X 3 0 0 0 [(0, .ref v0), (1, .int v1), (2, .int v2)] [] S := by
  refine r_aload_n (pc := 0) C dX4_hasRoom_0 0 rfl ?_
  obtain ⟨o_v0, h⟩ := h
  obtain ⟨a1, ea1, h⟩ := h
  refine r_getr (pc := 1) C fL_X4_18 dX4_hasRoom_1 o_v0 ea1 ?_
  obtain ⟨o_a1, h⟩ := h
  refine r_callVi0 (pc := 4) C (rest := []) (a := a1) o_a1 [] yV_X8_isTold g_515 (c_X8_isTold h) dX4_hasRoom_4 rfl rfl (Nat.le_of_ble_eq_true rfl) ⟨by decide, by decide⟩ ⟨by decide, by decide⟩ ⟨rfl, rfl⟩ (fun x4 S2 h g3 => ?_)
  have bx4 := h.1
  have h := h.2 g3 bx4
  have o_a1 := gr_ob g3 o_a1
  have o_v0 := gr_ob g3 o_v0
  refine r_if_ne (pc := 7) C (tgt := 17) dX4_hasRoom_7 (by decide) (fun c5 => ?_) (fun c5 => ?_)
  · have h := h.1 c5
    refine r_iload_n (pc := 17) C dX4_hasRoom_17 1 rfl ?_
    refine r_iload_n (pc := 18) C dX4_hasRoom_18 2 rfl ?_
    refine r_icmp_lt (pc := 19) C (tgt := 28) dX4_hasRoom_19 (by decide) (fun c6 => ?_) (fun c6 => ?_)
    · have h := h.1 c6
      refine r_aload_n (pc := 28) C dX4_hasRoom_28 0 rfl ?_
      refine r_callVv0 (pc := 29) C (rest := []) (a := v0) o_v0 [] yV_X4_next g_449 (c_X4_next h) dX4_hasRoom_29 rfl rfl (Nat.le_of_ble_eq_true rfl) ⟨by decide, by decide⟩ ⟨by decide, by decide⟩ ⟨rfl, rfl⟩ (fun S7 h g8 => ?_)
      have h := h g8
      have o_a1 := gr_ob g8 o_a1
      have o_v0 := gr_ob g8 o_v0
      refine r_iconst (pc := 32) C (v := (1 : Int32)) dX4_hasRoom_32 (by decide) ?_
      exact r_zret (pc := 33) C E ht dX4_hasRoom_33 (by decide) (by decide) (Or.inr rfl) h
    · have h := h.2 c6
      refine r_aload_n (pc := 22) C dX4_hasRoom_22 0 rfl ?_
      refine r_iconst (pc := 23) C (v := (5 : Int32)) dX4_hasRoom_23 (by decide) ?_
      refine r_callVi0 (pc := 24) C (rest := []) (a := v0) o_v0 [.int (5 : Int32)] yV_X4_fail g_519 (c_X4_fail h) dX4_hasRoom_24 rfl rfl (Nat.le_of_ble_eq_true rfl) ⟨by decide, by decide⟩ ⟨by decide, by decide⟩ ⟨rfl, rfl⟩ (fun x12 S10 h g11 => ?_)
      have bx12 := h.1
      have h := h.2 g11 bx12
      have o_a1 := gr_ob g11 o_a1
      have o_v0 := gr_ob g11 o_v0
      exact r_zret (pc := 27) C E ht dX4_hasRoom_27 (by decide) (by decide) h.1 h.2
  · have h := h.2 c5
    refine r_aload_n (pc := 10) C dX4_hasRoom_10 0 rfl ?_
    refine r_bipush (pc := 11) C (v := (6 : Int32)) dX4_hasRoom_11 (by decide) ?_
    refine r_callVi0 (pc := 13) C (rest := []) (a := v0) o_v0 [.int (6 : Int32)] yV_X4_fail g_519 (c_X4_fail h) dX4_hasRoom_13 rfl rfl (Nat.le_of_ble_eq_true rfl) ⟨by decide, by decide⟩ ⟨by decide, by decide⟩ ⟨rfl, rfl⟩ (fun x15 S13 h g14 => ?_)
    have bx15 := h.1
    have h := h.2 g14 bx15
    have o_a1 := gr_ob g14 o_a1
    have o_v0 := gr_ob g14 o_v0
    exact r_zret (pc := 16) C E ht dX4_hasRoom_16 (by decide) (by decide) h.1 h.2
def P_X4_hasRoom (v0 : Nat) (v1 : Int32) (v2 : Int32) (Q : Int32 → HS → Prop) (S : HS) : Prop := P_X4_hasRoom_0 Q v0 v1 v2 S
theorem c_X4_hasRoom {l : Launch} {Ee : EE} {S : HS} {v0 : Nat} {v1 : Int32} {v2 : Int32} {Q : Int32 → HS → Prop} (h : P_X4_hasRoom v0 v1 v2 Q S) : MI l yX4_hasRoom cX4_hasRoom 3 (some .boolean) rm_X4_hasRoom Ee S [.ref v0, .int v1, .int v2] (fun r S => bl r ∧ Q r S) :=
  openI (by decide) (Nat.le_of_ble_eq_true rfl) (fun X C E ht hn hE hl => by subst hE; exact r_sub [0, 1, 2] rfl (T_X4_hasRoom_0 C E ht hn h))
def rm_X5_init : Room := { frames := 1, cells := 0, slots := 0, locals := 20 }
def P_X5_init_0 (Q : HS → Prop) (v0 : Nat) (S : HS) : Prop := Q S
set_option maxRecDepth 20000 in
set_option maxHeartbeats 4000000 in
theorem T_X5_init_0 {X : CX} {Q : HS → Prop} (C : Cx X cX5_init RX5 1 rm_X5_init) (E : ReV X rm_X5_init Q) (ht : (xh X).sig.returnType = none) (hn : (xh X).name = yX5_init.name) {v0 : Nat} {S : HS} (h : P_X5_init_0 Q v0 S) : WS X 1 0 0 0 [(0, .ref v0)] [] S := by
  refine r_aload_n (pc := 0) C dX5_init_0 0 rfl ?_
  refine r_objinit (pc := 1) C g_77 dX5_init_1 (by decide) (Nat.le_of_ble_eq_true rfl) ?_
  exact r_vret (pc := 4) C E ht dX5_init_4 (by decide) (by decide) h
def P_X5_init (v0 : Nat) (Q : HS → Prop) (S : HS) : Prop := P_X5_init_0 Q v0 S
theorem c_X5_init {l : Launch} {Ee : EE} {S : HS} {v0 : Nat} {Q : HS → Prop} (h : P_X5_init v0 Q S) : MV l yX5_init cX5_init 1 none rm_X5_init Ee S [.ref v0] Q :=
  openV (by decide) (Nat.le_of_ble_eq_true rfl) (fun X C E ht hn hE hl => by subst hE; exact r_sub [0] rfl (T_X5_init_0 C E ht hn h))
def rm_X6_init : Room := { frames := 1, cells := 0, slots := 0, locals := 20 }
def P_X6_init_0 (Q : HS → Prop) (v0 : Nat) (S : HS) : Prop := Q S
set_option maxRecDepth 20000 in
set_option maxHeartbeats 4000000 in
theorem T_X6_init_0 {X : CX} {Q : HS → Prop} (C : Cx X cX6_init RX6 1 rm_X6_init) (E : ReV X rm_X6_init Q) (ht : (xh X).sig.returnType = none) (hn : (xh X).name = yX6_init.name) {v0 : Nat} {S : HS} (h : P_X6_init_0 Q v0 S) : WS X 1 0 0 0 [(0, .ref v0)] [] S := by
  refine r_aload_n (pc := 0) C dX6_init_0 0 rfl ?_
  refine r_objinit (pc := 1) C g_105 dX6_init_1 (by decide) (Nat.le_of_ble_eq_true rfl) ?_
  exact r_vret (pc := 4) C E ht dX6_init_4 (by decide) (by decide) h
def P_X6_init (v0 : Nat) (Q : HS → Prop) (S : HS) : Prop := P_X6_init_0 Q v0 S
theorem c_X6_init {l : Launch} {Ee : EE} {S : HS} {v0 : Nat} {Q : HS → Prop} (h : P_X6_init v0 Q S) : MV l yX6_init cX6_init 1 none rm_X6_init Ee S [.ref v0] Q :=
  openV (by decide) (Nat.le_of_ble_eq_true rfl) (fun X C E ht hn hE hl => by subst hE; exact r_sub [0] rfl (T_X6_init_0 C E ht hn h))
def rm_X8_init : Room := { frames := 2, cells := 28, slots := 172, locals := 40 }
def B_X8_init_115 (Q : HS → Prop) (X115 : Nat → Int32 → Nat → Nat → HS → Prop) (v0 : Nat) (v1 : Int32) (kk : Nat) (nn : Nat) (S : HS) : Prop := ob S v0 8 ∧ (∃ a1 : Nat, fR S v0 9 = some a1 ∧ (ob S a1 19 ∧ ((((nI (hN S a1)) ≤ v1) → (kk ≤ rm_X8_init.cells ∧ nn ≤ rm_X8_init.slots ∧ Q S)) ∧ ((¬ (nI (hN S a1)) ≤ v1) → (∃ a3 : Nat, fR S v0 9 = some a3 ∧ (kk + 1 ≤ rm_X8_init.cells ∧ nn + 7 ≤ rm_X8_init.slots ∧ ∀ a4 : Nat, a4 ∉ hL S → ∀ S5 : HS, S5 = nW S a4 6 0 → (kk + 1 ≤ rm_X8_init.cells ∧ nn + 7 ≤ rm_X8_init.slots ∧ (P_X6_init a4 (fun S6 => Gr S5 S6 → (ob S6 a3 19 ∧ (vp_in v1 (hN S6 a3) ∧ (∀ S10 : HS, S10 = sR S6 a3 v1.toNatClampNeg (some a4) → (∀ x11 : Int32, x11 = v1 + (1 : Int32) → (X115 v0 x11 (kk + 1) (nn + 7) S10)))))) S5))))))))
def P_X8_init_115 (Q : HS → Prop) (v0 : Nat) (v1 : Int32) (kk : Nat) (nn : Nat) (S : HS) : Prop := ∀ X115 : Nat → Int32 → Nat → Nat → HS → Prop, (∀ (v0 : Nat) (v1 : Int32) (kk : Nat) (nn : Nat) (S : HS), B_X8_init_115 Q X115 v0 v1 kk nn S → X115 v0 v1 kk nn S) → X115 v0 v1 kk nn S
set_option maxRecDepth 20000 in
set_option maxHeartbeats 4000000 in
theorem TB_X8_init_115 {X : CX} {Q : HS → Prop} (C : Cx X cX8_init RX8 2 rm_X8_init) (E : ReV X rm_X8_init Q) (ht : (xh X).sig.returnType = none) (hn : (xh X).name = yX8_init.name) {X115 : Nat → Int32 → Nat → Nat → HS → Prop} (hX115 : ∀ (v0 : Nat) (v1 : Int32) (kk : Nat) (nn : Nat) (S : HS), X115 v0 v1 kk nn S → WS X 2 kk nn 115 [(0, .ref v0), (1, .int v1)] [] S) {v0 : Nat} {v1 : Int32} {kk : Nat} {nn : Nat} {S : HS} (h : B_X8_init_115 Q X115 v0 v1 kk nn S) : WS X 2 kk nn 115 [(0, .ref v0), (1, .int v1)] [] S := by
  refine r_iload_n (pc := 115) C dX8_init_115 1 rfl ?_
  refine r_aload_n (pc := 116) C dX8_init_116 0 rfl ?_
  obtain ⟨o_v0, h⟩ := h
  obtain ⟨a1, ea1, h⟩ := h
  refine r_getr (pc := 117) C fL_X8_29 dX8_init_117 o_v0 ea1 ?_
  obtain ⟨o_a1, h⟩ := h
  refine r_alen19 (pc := 120) C dX8_init_120 o_a1 ?_
  refine r_icmp_ge (pc := 121) C (tgt := 143) dX8_init_121 (by decide) (fun c2 => ?_) (fun c2 => ?_)
  · have h := h.1 c2
    obtain ⟨hk, hk2, h⟩ := h
    exact r_vret (pc := 143) C E ht dX8_init_143 hk hk2 h
  · have h := h.2 c2
    refine r_aload_n (pc := 124) C dX8_init_124 0 rfl ?_
    obtain ⟨a3, ea3, h⟩ := h
    refine r_getr (pc := 125) C fL_X8_29 dX8_init_125 o_v0 ea3 ?_
    refine r_iload_n (pc := 128) C dX8_init_128 1 rfl ?_
    obtain ⟨hk, hk2, h⟩ := h
    refine r_new (pc := 129) C nc_X8_27 dX8_init_129 hk hk2 (fun a4 q12 => ?_)
    refine r_heap (fun S5 eS5 => ?_)
    have h := h a4 q12 S5 eS5
    have g13 := gr_of_new eS5 q12
    have o_a4 := ob_of_new eS5
    have o_a1 := gr_ob g13 o_a1
    have o_v0 := gr_ob g13 o_v0
    refine r_dup (pc := 132) C dX8_init_132 rfl ?_
    obtain ⟨hk, hk2, h⟩ := h
    refine r_callNv0 (pc := 133) C (rest := [.ref a4, .int v1, .ref a3]) (a := a4) [] yI_X6_init (List.mem_of_getElem? (i := 2) rfl) (c_X6_init h) dX8_init_133 rfl rfl (Nat.le_of_ble_eq_true rfl) ⟨by decide, by decide⟩ ⟨hk, hk2⟩ ⟨rfl, rfl⟩ (fun S6 h g7 => ?_)
    have h := h g7
    have o_a1 := gr_ob g7 o_a1
    have o_a4 := gr_ob g7 o_a4
    have o_v0 := gr_ob g7 o_v0
    obtain ⟨o_a3, h⟩ := h
    obtain ⟨i9, h⟩ := h
    refine r_aast19 (pc := 136) C dX8_init_136 o_a3 i9 o_a4 ?_
    refine r_heap (fun S10 eS10 => ?_)
    have h := h S10 eS10
    have o_a1 := ob_R eS10 o_a1
    have o_a3 := ob_R eS10 o_a3
    have o_a4 := ob_R eS10 o_a4
    have o_v0 := ob_R eS10 o_v0
    obtain ⟨x11, ex11⟩ : ∃ z : Int32, z = v1 + (1 : Int32) := ⟨_, rfl⟩
    have h := h x11 ex11
    refine r_iinc (pc := 137) C (v := x11) (lv' := [(1, .int x11), (0, .ref v0)]) dX8_init_137 1 rfl ex11.symm (by decide) rfl ?_
    refine r_goto (pc := 140) C (tgt := 115) dX8_init_140 (by decide) ?_
    exact r_sub [1, 0] rfl (hX115 v0 x11 (kk + 1) (nn + 7) S10 h)
theorem T_X8_init_115 {X : CX} {Q : HS → Prop} (C : Cx X cX8_init RX8 2 rm_X8_init) (E : ReV X rm_X8_init Q) (ht : (xh X).sig.returnType = none) (hn : (xh X).name = yX8_init.name) {v0 : Nat} {v1 : Int32} {kk : Nat} {nn : Nat} {S : HS} (h : P_X8_init_115 Q v0 v1 kk nn S) : WS X 2 kk nn 115 [(0, .ref v0), (1, .int v1)] [] S :=
  h (fun v0 v1 kk nn S => WS X 2 kk nn 115 [(0, .ref v0), (1, .int v1)] [] S) (fun v0 v1 kk nn S hh => TB_X8_init_115 C E ht hn (fun v0 v1 kk nn S z => z) hh)
def B_X8_init_85 (Q : HS → Prop) (X85 : Nat → Int32 → Nat → Nat → HS → Prop) (v0 : Nat) (v1 : Int32) (kk : Nat) (nn : Nat) (S : HS) : Prop := ob S v0 8 ∧ (∃ a1 : Nat, fR S v0 8 = some a1 ∧ (ob S a1 18 ∧ ((((nI (hN S a1)) ≤ v1) → (P_X8_init_115 Q v0 (0 : Int32) kk nn S)) ∧ ((¬ (nI (hN S a1)) ≤ v1) → (∃ a3 : Nat, fR S v0 8 = some a3 ∧ (kk + 1 ≤ rm_X8_init.cells ∧ nn + 5 ≤ rm_X8_init.slots ∧ ∀ a4 : Nat, a4 ∉ hL S → ∀ S5 : HS, S5 = nW S a4 5 0 → (kk + 1 ≤ rm_X8_init.cells ∧ nn + 5 ≤ rm_X8_init.slots ∧ (P_X5_init a4 (fun S6 => Gr S5 S6 → (ob S6 a3 18 ∧ (vp_in v1 (hN S6 a3) ∧ (∀ S10 : HS, S10 = sR S6 a3 v1.toNatClampNeg (some a4) → (∀ x11 : Int32, x11 = v1 + (1 : Int32) → (X85 v0 x11 (kk + 1) (nn + 5) S10)))))) S5))))))))
def P_X8_init_85 (Q : HS → Prop) (v0 : Nat) (v1 : Int32) (kk : Nat) (nn : Nat) (S : HS) : Prop := ∀ X85 : Nat → Int32 → Nat → Nat → HS → Prop, (∀ (v0 : Nat) (v1 : Int32) (kk : Nat) (nn : Nat) (S : HS), B_X8_init_85 Q X85 v0 v1 kk nn S → X85 v0 v1 kk nn S) → X85 v0 v1 kk nn S
set_option maxRecDepth 20000 in
set_option maxHeartbeats 4000000 in
theorem TB_X8_init_85 {X : CX} {Q : HS → Prop} (C : Cx X cX8_init RX8 2 rm_X8_init) (E : ReV X rm_X8_init Q) (ht : (xh X).sig.returnType = none) (hn : (xh X).name = yX8_init.name) {X85 : Nat → Int32 → Nat → Nat → HS → Prop} (hX85 : ∀ (v0 : Nat) (v1 : Int32) (kk : Nat) (nn : Nat) (S : HS), X85 v0 v1 kk nn S → WS X 2 kk nn 85 [(0, .ref v0), (1, .int v1)] [] S) {v0 : Nat} {v1 : Int32} {kk : Nat} {nn : Nat} {S : HS} (h : B_X8_init_85 Q X85 v0 v1 kk nn S) : WS X 2 kk nn 85 [(0, .ref v0), (1, .int v1)] [] S := by
  refine r_iload_n (pc := 85) C dX8_init_85 1 rfl ?_
  refine r_aload_n (pc := 86) C dX8_init_86 0 rfl ?_
  obtain ⟨o_v0, h⟩ := h
  obtain ⟨a1, ea1, h⟩ := h
  refine r_getr (pc := 87) C fL_X8_23 dX8_init_87 o_v0 ea1 ?_
  obtain ⟨o_a1, h⟩ := h
  refine r_alen18 (pc := 90) C dX8_init_90 o_a1 ?_
  refine r_icmp_ge (pc := 91) C (tgt := 113) dX8_init_91 (by decide) (fun c2 => ?_) (fun c2 => ?_)
  · have h := h.1 c2
    refine r_iconst (pc := 113) C (v := (0 : Int32)) dX8_init_113 (by decide) ?_
    refine r_istore_n (pc := 114) C dX8_init_114 rfl (by decide) (lv' := [(1, .int (0 : Int32)), (0, .ref v0)]) rfl ?_
    exact r_sub [1, 0] rfl (T_X8_init_115 C E ht hn h)
  · have h := h.2 c2
    refine r_aload_n (pc := 94) C dX8_init_94 0 rfl ?_
    obtain ⟨a3, ea3, h⟩ := h
    refine r_getr (pc := 95) C fL_X8_23 dX8_init_95 o_v0 ea3 ?_
    refine r_iload_n (pc := 98) C dX8_init_98 1 rfl ?_
    obtain ⟨hk, hk2, h⟩ := h
    refine r_new (pc := 99) C nc_X8_21 dX8_init_99 hk hk2 (fun a4 q12 => ?_)
    refine r_heap (fun S5 eS5 => ?_)
    have h := h a4 q12 S5 eS5
    have g13 := gr_of_new eS5 q12
    have o_a4 := ob_of_new eS5
    have o_a1 := gr_ob g13 o_a1
    have o_v0 := gr_ob g13 o_v0
    refine r_dup (pc := 102) C dX8_init_102 rfl ?_
    obtain ⟨hk, hk2, h⟩ := h
    refine r_callNv0 (pc := 103) C (rest := [.ref a4, .int v1, .ref a3]) (a := a4) [] yI_X5_init (List.mem_of_getElem? (i := 1) rfl) (c_X5_init h) dX8_init_103 rfl rfl (Nat.le_of_ble_eq_true rfl) ⟨by decide, by decide⟩ ⟨hk, hk2⟩ ⟨rfl, rfl⟩ (fun S6 h g7 => ?_)
    have h := h g7
    have o_a1 := gr_ob g7 o_a1
    have o_a4 := gr_ob g7 o_a4
    have o_v0 := gr_ob g7 o_v0
    obtain ⟨o_a3, h⟩ := h
    obtain ⟨i9, h⟩ := h
    refine r_aast18 (pc := 106) C dX8_init_106 o_a3 i9 o_a4 ?_
    refine r_heap (fun S10 eS10 => ?_)
    have h := h S10 eS10
    have o_a1 := ob_R eS10 o_a1
    have o_a3 := ob_R eS10 o_a3
    have o_a4 := ob_R eS10 o_a4
    have o_v0 := ob_R eS10 o_v0
    obtain ⟨x11, ex11⟩ : ∃ z : Int32, z = v1 + (1 : Int32) := ⟨_, rfl⟩
    have h := h x11 ex11
    refine r_iinc (pc := 107) C (v := x11) (lv' := [(1, .int x11), (0, .ref v0)]) dX8_init_107 1 rfl ex11.symm (by decide) rfl ?_
    refine r_goto (pc := 110) C (tgt := 85) dX8_init_110 (by decide) ?_
    exact r_sub [1, 0] rfl (hX85 v0 x11 (kk + 1) (nn + 5) S10 h)
theorem T_X8_init_85 {X : CX} {Q : HS → Prop} (C : Cx X cX8_init RX8 2 rm_X8_init) (E : ReV X rm_X8_init Q) (ht : (xh X).sig.returnType = none) (hn : (xh X).name = yX8_init.name) {v0 : Nat} {v1 : Int32} {kk : Nat} {nn : Nat} {S : HS} (h : P_X8_init_85 Q v0 v1 kk nn S) : WS X 2 kk nn 85 [(0, .ref v0), (1, .int v1)] [] S :=
  h (fun v0 v1 kk nn S => WS X 2 kk nn 85 [(0, .ref v0), (1, .int v1)] [] S) (fun v0 v1 kk nn S hh => TB_X8_init_85 C E ht hn (fun v0 v1 kk nn S z => z) hh)
def B_X8_init_55 (Q : HS → Prop) (X55 : Nat → Int32 → Nat → Nat → HS → Prop) (v0 : Nat) (v1 : Int32) (kk : Nat) (nn : Nat) (S : HS) : Prop := ob S v0 8 ∧ (∃ a1 : Nat, fR S v0 6 = some a1 ∧ (ob S a1 17 ∧ ((((nI (hN S a1)) ≤ v1) → (P_X8_init_85 Q v0 (0 : Int32) kk nn S)) ∧ ((¬ (nI (hN S a1)) ≤ v1) → (∃ a3 : Nat, fR S v0 6 = some a3 ∧ (kk + 1 ≤ rm_X8_init.cells ∧ nn + 5 ≤ rm_X8_init.slots ∧ ∀ a4 : Nat, a4 ∉ hL S → ∀ S5 : HS, S5 = nW S a4 3 0 → (kk + 1 ≤ rm_X8_init.cells ∧ nn + 5 ≤ rm_X8_init.slots ∧ (P_X3_init a4 (fun S6 => Gr S5 S6 → (ob S6 a3 17 ∧ (vp_in v1 (hN S6 a3) ∧ (∀ S10 : HS, S10 = sR S6 a3 v1.toNatClampNeg (some a4) → (∀ x11 : Int32, x11 = v1 + (1 : Int32) → (X55 v0 x11 (kk + 1) (nn + 5) S10)))))) S5))))))))
def P_X8_init_55 (Q : HS → Prop) (v0 : Nat) (v1 : Int32) (kk : Nat) (nn : Nat) (S : HS) : Prop := ∀ X55 : Nat → Int32 → Nat → Nat → HS → Prop, (∀ (v0 : Nat) (v1 : Int32) (kk : Nat) (nn : Nat) (S : HS), B_X8_init_55 Q X55 v0 v1 kk nn S → X55 v0 v1 kk nn S) → X55 v0 v1 kk nn S
set_option maxRecDepth 20000 in
set_option maxHeartbeats 4000000 in
theorem TB_X8_init_55 {X : CX} {Q : HS → Prop} (C : Cx X cX8_init RX8 2 rm_X8_init) (E : ReV X rm_X8_init Q) (ht : (xh X).sig.returnType = none) (hn : (xh X).name = yX8_init.name) {X55 : Nat → Int32 → Nat → Nat → HS → Prop} (hX55 : ∀ (v0 : Nat) (v1 : Int32) (kk : Nat) (nn : Nat) (S : HS), X55 v0 v1 kk nn S → WS X 2 kk nn 55 [(0, .ref v0), (1, .int v1)] [] S) {v0 : Nat} {v1 : Int32} {kk : Nat} {nn : Nat} {S : HS} (h : B_X8_init_55 Q X55 v0 v1 kk nn S) : WS X 2 kk nn 55 [(0, .ref v0), (1, .int v1)] [] S := by
  refine r_iload_n (pc := 55) C dX8_init_55 1 rfl ?_
  refine r_aload_n (pc := 56) C dX8_init_56 0 rfl ?_
  obtain ⟨o_v0, h⟩ := h
  obtain ⟨a1, ea1, h⟩ := h
  refine r_getr (pc := 57) C fL_X8_11 dX8_init_57 o_v0 ea1 ?_
  obtain ⟨o_a1, h⟩ := h
  refine r_alen17 (pc := 60) C dX8_init_60 o_a1 ?_
  refine r_icmp_ge (pc := 61) C (tgt := 83) dX8_init_61 (by decide) (fun c2 => ?_) (fun c2 => ?_)
  · have h := h.1 c2
    refine r_iconst (pc := 83) C (v := (0 : Int32)) dX8_init_83 (by decide) ?_
    refine r_istore_n (pc := 84) C dX8_init_84 rfl (by decide) (lv' := [(1, .int (0 : Int32)), (0, .ref v0)]) rfl ?_
    exact r_sub [1, 0] rfl (T_X8_init_85 C E ht hn h)
  · have h := h.2 c2
    refine r_aload_n (pc := 64) C dX8_init_64 0 rfl ?_
    obtain ⟨a3, ea3, h⟩ := h
    refine r_getr (pc := 65) C fL_X8_11 dX8_init_65 o_v0 ea3 ?_
    refine r_iload_n (pc := 68) C dX8_init_68 1 rfl ?_
    obtain ⟨hk, hk2, h⟩ := h
    refine r_new (pc := 69) C nc_X8_9 dX8_init_69 hk hk2 (fun a4 q12 => ?_)
    refine r_heap (fun S5 eS5 => ?_)
    have h := h a4 q12 S5 eS5
    have g13 := gr_of_new eS5 q12
    have o_a4 := ob_of_new eS5
    have o_a1 := gr_ob g13 o_a1
    have o_v0 := gr_ob g13 o_v0
    refine r_dup (pc := 72) C dX8_init_72 rfl ?_
    obtain ⟨hk, hk2, h⟩ := h
    refine r_callNv0 (pc := 73) C (rest := [.ref a4, .int v1, .ref a3]) (a := a4) [] yI_X3_init (List.mem_of_getElem? (i := 0) rfl) (c_X3_init h) dX8_init_73 rfl rfl (Nat.le_of_ble_eq_true rfl) ⟨by decide, by decide⟩ ⟨hk, hk2⟩ ⟨rfl, rfl⟩ (fun S6 h g7 => ?_)
    have h := h g7
    have o_a1 := gr_ob g7 o_a1
    have o_a4 := gr_ob g7 o_a4
    have o_v0 := gr_ob g7 o_v0
    obtain ⟨o_a3, h⟩ := h
    obtain ⟨i9, h⟩ := h
    refine r_aast17 (pc := 76) C dX8_init_76 o_a3 i9 o_a4 ?_
    refine r_heap (fun S10 eS10 => ?_)
    have h := h S10 eS10
    have o_a1 := ob_R eS10 o_a1
    have o_a3 := ob_R eS10 o_a3
    have o_a4 := ob_R eS10 o_a4
    have o_v0 := ob_R eS10 o_v0
    obtain ⟨x11, ex11⟩ : ∃ z : Int32, z = v1 + (1 : Int32) := ⟨_, rfl⟩
    have h := h x11 ex11
    refine r_iinc (pc := 77) C (v := x11) (lv' := [(1, .int x11), (0, .ref v0)]) dX8_init_77 1 rfl ex11.symm (by decide) rfl ?_
    refine r_goto (pc := 80) C (tgt := 55) dX8_init_80 (by decide) ?_
    exact r_sub [1, 0] rfl (hX55 v0 x11 (kk + 1) (nn + 5) S10 h)
theorem T_X8_init_55 {X : CX} {Q : HS → Prop} (C : Cx X cX8_init RX8 2 rm_X8_init) (E : ReV X rm_X8_init Q) (ht : (xh X).sig.returnType = none) (hn : (xh X).name = yX8_init.name) {v0 : Nat} {v1 : Int32} {kk : Nat} {nn : Nat} {S : HS} (h : P_X8_init_55 Q v0 v1 kk nn S) : WS X 2 kk nn 55 [(0, .ref v0), (1, .int v1)] [] S :=
  h (fun v0 v1 kk nn S => WS X 2 kk nn 55 [(0, .ref v0), (1, .int v1)] [] S) (fun v0 v1 kk nn S hh => TB_X8_init_55 C E ht hn (fun v0 v1 kk nn S z => z) hh)
def P_X8_init_0 (Q : HS → Prop) (v0 : Nat) (kk : Nat) (nn : Nat) (S : HS) : Prop := kk + 1 ≤ rm_X8_init.cells ∧ nn + 6 ≤ rm_X8_init.slots ∧ ∀ a1 : Nat, a1 ∉ hL S → ∀ S2 : HS, S2 = nW S a1 17 6 → (ob S2 v0 8 ∧ (∀ S3 : HS, S3 = sR S2 v0 6 (some a1) → (kk + 1 + 1 ≤ rm_X8_init.cells ∧ nn + 6 + 8 ≤ rm_X8_init.slots ∧ ∀ a4 : Nat, a4 ∉ hL S3 → ∀ S5 : HS, S5 = nW S3 a4 13 8 → (∀ S6 : HS, S6 = sR S5 v0 7 (some a4) → (kk + 1 + 1 + 1 ≤ rm_X8_init.cells ∧ nn + 6 + 8 + 12 ≤ rm_X8_init.slots ∧ ∀ a7 : Nat, a7 ∉ hL S6 → ∀ S8 : HS, S8 = nW S6 a7 18 12 → (∀ S9 : HS, S9 = sR S8 v0 8 (some a7) → (kk + 1 + 1 + 1 + 1 ≤ rm_X8_init.cells ∧ nn + 6 + 8 + 12 + 4 ≤ rm_X8_init.slots ∧ ∀ a10 : Nat, a10 ∉ hL S9 → ∀ S11 : HS, S11 = nW S9 a10 19 4 → (∀ S12 : HS, S12 = sR S11 v0 9 (some a10) → (kk + 1 + 1 + 1 + 1 + 1 ≤ rm_X8_init.cells ∧ nn + 6 + 8 + 12 + 4 + 4 ≤ rm_X8_init.slots ∧ ∀ a13 : Nat, a13 ∉ hL S12 → ∀ S14 : HS, S14 = nW S12 a13 13 4 → (∀ S15 : HS, S15 = sR S14 v0 10 (some a13) → (kk + 1 + 1 + 1 + 1 + 1 + 1 ≤ rm_X8_init.cells ∧ nn + 6 + 8 + 12 + 4 + 4 + 20 ≤ rm_X8_init.slots ∧ ∀ a16 : Nat, a16 ∉ hL S15 → ∀ S17 : HS, S17 = nW S15 a16 13 20 → (∀ S18 : HS, S18 = sR S17 v0 11 (some a16) → (P_X8_init_55 Q v0 (0 : Int32) (kk + 1 + 1 + 1 + 1 + 1 + 1) (nn + 6 + 8 + 12 + 4 + 4 + 20) S18)))))))))))))
set_option maxRecDepth 20000 in
set_option maxHeartbeats 4000000 in
theorem T_X8_init_0 {X : CX} {Q : HS → Prop} (C : Cx X cX8_init RX8 2 rm_X8_init) (E : ReV X rm_X8_init Q) (ht : (xh X).sig.returnType = none) (hn : (xh X).name = yX8_init.name) {v0 : Nat} {kk : Nat} {nn : Nat} {S : HS} (h : P_X8_init_0 Q v0 kk nn S) : WS X 2 kk nn 0 [(0, .ref v0)] [] S := by
  refine r_aload_n (pc := 0) C dX8_init_0 0 rfl ?_
  refine r_objinit (pc := 1) C g_35 dX8_init_1 (by decide) (Nat.le_of_ble_eq_true rfl) ?_
  refine r_aload_n (pc := 4) C dX8_init_4 0 rfl ?_
  refine r_bipush (pc := 5) C (v := (6 : Int32)) dX8_init_5 (by decide) ?_
  obtain ⟨hk, hk2, h⟩ := h
  refine r_newa17 (pc := 7) C (N := 6) g_36 dX8_init_7 (by decide) (by decide) (by decide) hk hk2 (fun a1 q29 => ?_)
  refine r_heap (fun S2 eS2 => ?_)
  have h := h a1 q29 S2 eS2
  have g30 := gr_of_new eS2 q29
  have o_a1 := ob_of_new eS2
  obtain ⟨o_v0, h⟩ := h
  refine r_putFr (pc := 10) C pfL_X8_11 hn dX8_init_10 o_v0 ?_
  refine r_heap (fun S3 eS3 => ?_)
  have h := h S3 eS3
  have o_a1 := ob_R eS3 o_a1
  have o_v0 := ob_R eS3 o_v0
  refine r_aload_n (pc := 13) C dX8_init_13 0 rfl ?_
  refine r_bipush (pc := 14) C (v := (8 : Int32)) dX8_init_14 (by decide) ?_
  obtain ⟨hk, hk2, h⟩ := h
  refine r_newa13 (pc := 16) C (N := 8) g_72 dX8_init_16 (by decide) (by decide) (by decide) hk hk2 (fun a4 q27 => ?_)
  refine r_heap (fun S5 eS5 => ?_)
  have h := h a4 q27 S5 eS5
  have g28 := gr_of_new eS5 q27
  have o_a4 := ob_of_new eS5
  have o_a1 := gr_ob g28 o_a1
  have o_v0 := gr_ob g28 o_v0
  refine r_putFr (pc := 18) C pfL_X8_17 hn dX8_init_18 o_v0 ?_
  refine r_heap (fun S6 eS6 => ?_)
  have h := h S6 eS6
  have o_a1 := ob_R eS6 o_a1
  have o_a4 := ob_R eS6 o_a4
  have o_v0 := ob_R eS6 o_v0
  refine r_aload_n (pc := 21) C dX8_init_21 0 rfl ?_
  refine r_bipush (pc := 22) C (v := (12 : Int32)) dX8_init_22 (by decide) ?_
  obtain ⟨hk, hk2, h⟩ := h
  refine r_newa18 (pc := 24) C (N := 12) g_38 dX8_init_24 (by decide) (by decide) (by decide) hk hk2 (fun a7 q25 => ?_)
  refine r_heap (fun S8 eS8 => ?_)
  have h := h a7 q25 S8 eS8
  have g26 := gr_of_new eS8 q25
  have o_a7 := ob_of_new eS8
  have o_a1 := gr_ob g26 o_a1
  have o_a4 := gr_ob g26 o_a4
  have o_v0 := gr_ob g26 o_v0
  refine r_putFr (pc := 27) C pfL_X8_23 hn dX8_init_27 o_v0 ?_
  refine r_heap (fun S9 eS9 => ?_)
  have h := h S9 eS9
  have o_a1 := ob_R eS9 o_a1
  have o_a4 := ob_R eS9 o_a4
  have o_a7 := ob_R eS9 o_a7
  have o_v0 := ob_R eS9 o_v0
  refine r_aload_n (pc := 30) C dX8_init_30 0 rfl ?_
  refine r_iconst (pc := 31) C (v := (4 : Int32)) dX8_init_31 (by decide) ?_
  obtain ⟨hk, hk2, h⟩ := h
  refine r_newa19 (pc := 32) C (N := 4) g_40 dX8_init_32 (by decide) (by decide) (by decide) hk hk2 (fun a10 q23 => ?_)
  refine r_heap (fun S11 eS11 => ?_)
  have h := h a10 q23 S11 eS11
  have g24 := gr_of_new eS11 q23
  have o_a10 := ob_of_new eS11
  have o_a1 := gr_ob g24 o_a1
  have o_a4 := gr_ob g24 o_a4
  have o_a7 := gr_ob g24 o_a7
  have o_v0 := gr_ob g24 o_v0
  refine r_putFr (pc := 35) C pfL_X8_29 hn dX8_init_35 o_v0 ?_
  refine r_heap (fun S12 eS12 => ?_)
  have h := h S12 eS12
  have o_a1 := ob_R eS12 o_a1
  have o_a10 := ob_R eS12 o_a10
  have o_a4 := ob_R eS12 o_a4
  have o_a7 := ob_R eS12 o_a7
  have o_v0 := ob_R eS12 o_v0
  refine r_aload_n (pc := 38) C dX8_init_38 0 rfl ?_
  refine r_iconst (pc := 39) C (v := (4 : Int32)) dX8_init_39 (by decide) ?_
  obtain ⟨hk, hk2, h⟩ := h
  refine r_newa13 (pc := 40) C (N := 4) g_72 dX8_init_40 (by decide) (by decide) (by decide) hk hk2 (fun a13 q21 => ?_)
  refine r_heap (fun S14 eS14 => ?_)
  have h := h a13 q21 S14 eS14
  have g22 := gr_of_new eS14 q21
  have o_a13 := ob_of_new eS14
  have o_a1 := gr_ob g22 o_a1
  have o_a10 := gr_ob g22 o_a10
  have o_a4 := gr_ob g22 o_a4
  have o_a7 := gr_ob g22 o_a7
  have o_v0 := gr_ob g22 o_v0
  refine r_putFr (pc := 42) C pfL_X8_33 hn dX8_init_42 o_v0 ?_
  refine r_heap (fun S15 eS15 => ?_)
  have h := h S15 eS15
  have o_a1 := ob_R eS15 o_a1
  have o_a10 := ob_R eS15 o_a10
  have o_a13 := ob_R eS15 o_a13
  have o_a4 := ob_R eS15 o_a4
  have o_a7 := ob_R eS15 o_a7
  have o_v0 := ob_R eS15 o_v0
  refine r_aload_n (pc := 45) C dX8_init_45 0 rfl ?_
  refine r_bipush (pc := 46) C (v := (20 : Int32)) dX8_init_46 (by decide) ?_
  obtain ⟨hk, hk2, h⟩ := h
  refine r_newa13 (pc := 48) C (N := 20) g_72 dX8_init_48 (by decide) (by decide) (by decide) hk hk2 (fun a16 q19 => ?_)
  refine r_heap (fun S17 eS17 => ?_)
  have h := h a16 q19 S17 eS17
  have g20 := gr_of_new eS17 q19
  have o_a16 := ob_of_new eS17
  have o_a1 := gr_ob g20 o_a1
  have o_a10 := gr_ob g20 o_a10
  have o_a13 := gr_ob g20 o_a13
  have o_a4 := gr_ob g20 o_a4
  have o_a7 := gr_ob g20 o_a7
  have o_v0 := gr_ob g20 o_v0
  refine r_putFr (pc := 50) C pfL_X8_36 hn dX8_init_50 o_v0 ?_
  refine r_heap (fun S18 eS18 => ?_)
  have h := h S18 eS18
  have o_a1 := ob_R eS18 o_a1
  have o_a10 := ob_R eS18 o_a10
  have o_a13 := ob_R eS18 o_a13
  have o_a16 := ob_R eS18 o_a16
  have o_a4 := ob_R eS18 o_a4
  have o_a7 := ob_R eS18 o_a7
  have o_v0 := ob_R eS18 o_v0
  refine r_iconst (pc := 53) C (v := (0 : Int32)) dX8_init_53 (by decide) ?_
  refine r_istore_n (pc := 54) C dX8_init_54 rfl (by decide) (lv' := [(1, .int (0 : Int32)), (0, .ref v0)]) rfl ?_
  exact r_sub [1, 0] rfl (T_X8_init_55 C E ht hn h)
def P_X8_init (v0 : Nat) (Q : HS → Prop) (S : HS) : Prop := P_X8_init_0 Q v0 0 0 S
theorem c_X8_init {l : Launch} {Ee : EE} {S : HS} {v0 : Nat} {Q : HS → Prop} (h : P_X8_init v0 Q S) : MV l yX8_init cX8_init 2 none rm_X8_init Ee S [.ref v0] Q :=
  openV (by decide) (Nat.le_of_ble_eq_true rfl) (fun X C E ht hn hE hl => by subst hE; exact r_sub [0] rfl (T_X8_init_0 C E ht hn h))
def rm_X4_init : Room := { frames := 3, cells := 32, slots := 208, locals := 61 }
def P_X4_init_0 (Q : HS → Prop) (v0 : Nat) (S : HS) : Prop := ∀ a1 : Nat, a1 ∉ hL S → ∀ S2 : HS, S2 = nW S a1 12 0 → (ob S2 v0 4 ∧ (∀ S3 : HS, S3 = sR S2 v0 2 (some a1) → (∀ a4 : Nat, a4 ∉ hL S3 → ∀ S5 : HS, S5 = nW S3 a4 8 0 → (P_X8_init a4 (fun S6 => Gr S5 S6 → (∀ S9 : HS, S9 = sR S6 v0 5 (some a4) → (∀ a10 : Nat, a10 ∉ hL S9 → ∀ S11 : HS, S11 = nW S9 a10 14 12 → (∀ S12 : HS, S12 = sR S11 v0 11 (some a10) → (∀ a13 : Nat, a13 ∉ hL S12 → ∀ S14 : HS, S14 = nW S12 a13 13 12 → (∀ S15 : HS, S15 = sR S14 v0 12 (some a13) → (Q S15))))))) S5))))
set_option maxRecDepth 20000 in
set_option maxHeartbeats 4000000 in
theorem T_X4_init_0 {X : CX} {Q : HS → Prop} (C : Cx X cX4_init RX4 1 rm_X4_init) (E : ReV X rm_X4_init Q) (ht : (xh X).sig.returnType = none) (hn : (xh X).name = yX4_init.name) {v0 : Nat} {S : HS} (h : P_X4_init_0 Q v0 S) : WS X 1 0 0 0 [(0, .ref v0)] [] S := by
  refine r_aload_n (pc := 0) C dX4_init_0 0 rfl ?_
  refine r_objinit (pc := 1) C g_221 dX4_init_1 (by decide) (Nat.le_of_ble_eq_true rfl) ?_
  refine r_aload_n (pc := 4) C dX4_init_4 0 rfl ?_
  refine r_iconst (pc := 5) C (v := (0 : Int32)) dX4_init_5 (by decide) ?_
  refine r_newa12 (pc := 6) C (N := 0) g_71 dX4_init_6 (by decide) (by decide) (by decide) (by decide) (by decide) (fun a1 q22 => ?_)
  refine r_heap (fun S2 eS2 => ?_)
  have h := h a1 q22 S2 eS2
  have g23 := gr_of_new eS2 q22
  have o_a1 := ob_of_new eS2
  obtain ⟨o_v0, h⟩ := h
  refine r_putr (pc := 8) C pfL_X4_9 dX4_init_8 o_v0 ?_
  refine r_heap (fun S3 eS3 => ?_)
  have h := h S3 eS3
  have o_a1 := ob_R eS3 o_a1
  have o_v0 := ob_R eS3 o_v0
  refine r_aload_n (pc := 11) C dX4_init_11 0 rfl ?_
  refine r_new (pc := 12) C nc_X4_15 dX4_init_12 (by decide) (by decide) (fun a4 q20 => ?_)
  refine r_heap (fun S5 eS5 => ?_)
  have h := h a4 q20 S5 eS5
  have g21 := gr_of_new eS5 q20
  have o_a4 := ob_of_new eS5
  have o_a1 := gr_ob g21 o_a1
  have o_v0 := gr_ob g21 o_v0
  refine r_dup (pc := 15) C dX4_init_15 rfl ?_
  refine r_callIv (pc := 16) C (rest := [.ref a4, .ref v0]) (a := a4) [] yI_X8_init g_223 (c_X8_init h) dX4_init_16 rfl rfl (Nat.le_of_ble_eq_true rfl) ⟨by decide, by decide⟩ ⟨by decide, by decide⟩ (fun S6 h g7 => ?_)
  have h := h g7
  have o_a1 := gr_ob g7 o_a1
  have o_a4 := gr_ob g7 o_a4
  have o_v0 := gr_ob g7 o_v0
  refine r_putr (pc := 19) C pfL_X4_18 dX4_init_19 o_v0 ?_
  refine r_heap (fun S9 eS9 => ?_)
  have h := h S9 eS9
  have o_a1 := ob_R eS9 o_a1
  have o_a4 := ob_R eS9 o_a4
  have o_v0 := ob_R eS9 o_v0
  refine r_aload_n (pc := 22) C dX4_init_22 0 rfl ?_
  refine r_bipush (pc := 23) C (v := (12 : Int32)) dX4_init_23 (by decide) ?_
  refine r_newa14 (pc := 25) C (N := 12) g_266 dX4_init_25 (by decide) (by decide) (by decide) (by decide) (by decide) (fun a10 q18 => ?_)
  refine r_heap (fun S11 eS11 => ?_)
  have h := h a10 q18 S11 eS11
  have g19 := gr_of_new eS11 q18
  have o_a10 := ob_of_new eS11
  have o_a1 := gr_ob g19 o_a1
  have o_a4 := gr_ob g19 o_a4
  have o_v0 := gr_ob g19 o_v0
  refine r_putFr (pc := 27) C pfL_X4_22 hn dX4_init_27 o_v0 ?_
  refine r_heap (fun S12 eS12 => ?_)
  have h := h S12 eS12
  have o_a1 := ob_R eS12 o_a1
  have o_a10 := ob_R eS12 o_a10
  have o_a4 := ob_R eS12 o_a4
  have o_v0 := ob_R eS12 o_v0
  refine r_aload_n (pc := 30) C dX4_init_30 0 rfl ?_
  refine r_bipush (pc := 31) C (v := (12 : Int32)) dX4_init_31 (by decide) ?_
  refine r_newa13 (pc := 33) C (N := 12) g_72 dX4_init_33 (by decide) (by decide) (by decide) (by decide) (by decide) (fun a13 q16 => ?_)
  refine r_heap (fun S14 eS14 => ?_)
  have h := h a13 q16 S14 eS14
  have g17 := gr_of_new eS14 q16
  have o_a13 := ob_of_new eS14
  have o_a1 := gr_ob g17 o_a1
  have o_a10 := gr_ob g17 o_a10
  have o_a4 := gr_ob g17 o_a4
  have o_v0 := gr_ob g17 o_v0
  refine r_putFr (pc := 35) C pfL_X4_26 hn dX4_init_35 o_v0 ?_
  refine r_heap (fun S15 eS15 => ?_)
  have h := h S15 eS15
  have o_a1 := ob_R eS15 o_a1
  have o_a10 := ob_R eS15 o_a10
  have o_a13 := ob_R eS15 o_a13
  have o_a4 := ob_R eS15 o_a4
  have o_v0 := ob_R eS15 o_v0
  exact r_vret (pc := 38) C E ht dX4_init_38 (by decide) (by decide) h
def P_X4_init (v0 : Nat) (Q : HS → Prop) (S : HS) : Prop := P_X4_init_0 Q v0 S
theorem c_X4_init {l : Launch} {Ee : EE} {S : HS} {v0 : Nat} {Q : HS → Prop} (h : P_X4_init v0 Q S) : MV l yX4_init cX4_init 1 none rm_X4_init Ee S [.ref v0] Q :=
  openV (by decide) (Nat.le_of_ble_eq_true rfl) (fun X C E ht hn hE hl => by subst hE; exact r_sub [0] rfl (T_X4_init_0 C E ht hn h))
def rm_X4_kindOf : Room := { frames := 8, cells := 0, slots := 0, locals := 188 }
def P_X4_kindOf_0 (Q : Int32 → HS → Prop) (v0 : Nat) (v1 : Nat) (S : HS) : Prop := ob S v0 4 ∧ (∀ S1 : HS, S1 = sI S v0 9 (0 : Int32) → (P_X4_is v0 18 (fun x4 S2 => Gr S1 S2 → bl x4 → (((x4 = 0) → (P_X4_is v0 19 (fun x8 S6 => Gr S2 S6 → bl x8 → (((x8 = 0) → (P_X4_is v0 20 (fun x12 S10 => Gr S6 S10 → bl x12 → (((x12 = 0) → (ob S10 v1 6 ∧ (∀ S14 : HS, S14 = sI S10 v1 0 (0 : Int32) → (P_X4_word v0 21 (fun x17 S15 => Gr S14 S15 → bl x17 → (∀ x18 : Int32, x18 = fI S15 v0 9 → (∀ S19 : HS, S19 = sI S15 v1 1 x18 → (bl x17 ∧ Q x17 S19)))) S14)))) ∧ ((¬ x12 = 0) → (ob S10 v1 6 ∧ (∀ S20 : HS, S20 = sI S10 v1 0 (3 : Int32) → (P_X4_wordAndWhole v0 20 (1 : Int32) (99 : Int32) (fun x23 S21 => Gr S20 S21 → bl x23 → (∀ x24 : Int32, x24 = fI S21 v0 9 → (∀ S25 : HS, S25 = sI S21 v1 1 x24 → (bl x23 ∧ Q x23 S25)))) S20)))))) S6)) ∧ ((¬ x8 = 0) → (ob S6 v1 6 ∧ (∀ S26 : HS, S26 = sI S6 v1 0 (2 : Int32) → (P_X4_wordAndWhole v0 19 (0 : Int32) (999 : Int32) (fun x29 S27 => Gr S26 S27 → bl x29 → (∀ x30 : Int32, x30 = fI S27 v0 9 → (∀ S31 : HS, S31 = sI S27 v1 1 x30 → (bl x29 ∧ Q x29 S31)))) S26)))))) S2)) ∧ ((¬ x4 = 0) → (ob S2 v1 6 ∧ (∀ S32 : HS, S32 = sI S2 v1 0 (1 : Int32) → (P_X4_wordAndWhole v0 18 (1 : Int32) (8 : Int32) (fun x35 S33 => Gr S32 S33 → bl x35 → (∀ x36 : Int32, x36 = fI S33 v0 9 → (∀ S37 : HS, S37 = sI S33 v1 1 x36 → (bl x35 ∧ Q x35 S37)))) S32)))))) S1))
set_option maxRecDepth 20000 in
set_option maxHeartbeats 4000000 in
theorem T_X4_kindOf_0 {X : CX} {Q : Int32 → HS → Prop} (C : Cx X cX4_kindOf RX4 3 rm_X4_kindOf) (E : ReI X rm_X4_kindOf (fun r S => bl r ∧ Q r S)) (ht : (xh X).sig.returnType = (some .boolean)) (hn : (xh X).name = yX4_kindOf.name) {v0 : Nat} {v1 : Nat} {S : HS} (h : P_X4_kindOf_0 Q v0 v1 S) : WS X 3 0 0 0 [(0, .ref v0), (1, .ref v1)] [] S := by
  refine r_aload_n (pc := 0) C dX4_kindOf_0 0 rfl ?_
  refine r_iconst (pc := 1) C (v := (0 : Int32)) dX4_kindOf_1 (by decide) ?_
  obtain ⟨o_v0, h⟩ := h
  refine r_puti (pc := 2) C pfL_X4_147 dX4_kindOf_2 o_v0 ?_
  refine r_heap (fun S1 eS1 => ?_)
  have h := h S1 eS1
  have o_v0 := ob_I eS1 o_v0
  refine r_aload_n (pc := 5) C dX4_kindOf_5 0 rfl ?_
  refine r_ldsw (pc := 6) C 18 rfl dX4_kindOf_6 ?_
  refine r_callVi0 (pc := 9) C (rest := []) (a := v0) o_v0 [.ref (eK (xE X) 18)] yV_X4_is g_458 (c_X4_is h) dX4_kindOf_9 rfl rfl (Nat.le_of_ble_eq_true rfl) ⟨by decide, by decide⟩ ⟨by decide, by decide⟩ ⟨rfl, rfl⟩ (fun x4 S2 h g3 => ?_)
  have bx4 := h.1
  have h := h.2 g3 bx4
  have o_v0 := gr_ob g3 o_v0
  refine r_if_eq (pc := 12) C (tgt := 34) dX4_kindOf_12 (by decide) (fun c5 => ?_) (fun c5 => ?_)
  · have h := h.1 c5
    refine r_aload_n (pc := 34) C dX4_kindOf_34 0 rfl ?_
    refine r_ldsw (pc := 35) C 19 rfl dX4_kindOf_35 ?_
    refine r_callVi0 (pc := 38) C (rest := []) (a := v0) o_v0 [.ref (eK (xE X) 19)] yV_X4_is g_458 (c_X4_is h) dX4_kindOf_38 rfl rfl (Nat.le_of_ble_eq_true rfl) ⟨by decide, by decide⟩ ⟨by decide, by decide⟩ ⟨rfl, rfl⟩ (fun x8 S6 h g7 => ?_)
    have bx8 := h.1
    have h := h.2 g7 bx8
    have o_v0 := gr_ob g7 o_v0
    refine r_if_eq (pc := 41) C (tgt := 64) dX4_kindOf_41 (by decide) (fun c9 => ?_) (fun c9 => ?_)
    · have h := h.1 c9
      refine r_aload_n (pc := 64) C dX4_kindOf_64 0 rfl ?_
      refine r_ldsw (pc := 65) C 20 rfl dX4_kindOf_65 ?_
      refine r_callVi0 (pc := 68) C (rest := []) (a := v0) o_v0 [.ref (eK (xE X) 20)] yV_X4_is g_458 (c_X4_is h) dX4_kindOf_68 rfl rfl (Nat.le_of_ble_eq_true rfl) ⟨by decide, by decide⟩ ⟨by decide, by decide⟩ ⟨rfl, rfl⟩ (fun x12 S10 h g11 => ?_)
      have bx12 := h.1
      have h := h.2 g11 bx12
      have o_v0 := gr_ob g11 o_v0
      refine r_if_eq (pc := 71) C (tgt := 93) dX4_kindOf_71 (by decide) (fun c13 => ?_) (fun c13 => ?_)
      · have h := h.1 c13
        refine r_aload_n (pc := 93) C dX4_kindOf_93 1 rfl ?_
        refine r_iconst (pc := 94) C (v := (0 : Int32)) dX4_kindOf_94 (by decide) ?_
        obtain ⟨o_v1, h⟩ := h
        refine r_puti (pc := 95) C pfL_X4_264 dX4_kindOf_95 o_v1 ?_
        refine r_heap (fun S14 eS14 => ?_)
        have h := h S14 eS14
        have o_v0 := ob_I eS14 o_v0
        have o_v1 := ob_I eS14 o_v1
        refine r_aload_n (pc := 98) C dX4_kindOf_98 0 rfl ?_
        refine r_ldsw (pc := 99) C 21 rfl dX4_kindOf_99 ?_
        refine r_callVi0 (pc := 102) C (rest := []) (a := v0) o_v0 [.ref (eK (xE X) 21)] yV_X4_word g_528 (c_X4_word h) dX4_kindOf_102 rfl rfl (Nat.le_of_ble_eq_true rfl) ⟨by decide, by decide⟩ ⟨by decide, by decide⟩ ⟨rfl, rfl⟩ (fun x17 S15 h g16 => ?_)
        have bx17 := h.1
        have h := h.2 g16 bx17
        have o_v0 := gr_ob g16 o_v0
        have o_v1 := gr_ob g16 o_v1
        refine r_istore_n (pc := 105) C dX4_kindOf_105 rfl (by decide) (lv' := [(2, .int x17), (0, .ref v0), (1, .ref v1)]) rfl ?_
        refine r_aload_n (pc := 106) C dX4_kindOf_106 2 rfl ?_
        refine r_aload_n (pc := 107) C dX4_kindOf_107 1 rfl ?_
        refine r_geti (pc := 108) C fL_X4_147 dX4_kindOf_108 o_v0 ?_
        refine r_topi (fun x18 ex18 => ?_)
        have h := h x18 ex18
        refine r_puti (pc := 111) C pfL_X4_273 dX4_kindOf_111 o_v1 ?_
        refine r_heap (fun S19 eS19 => ?_)
        have h := h S19 eS19
        have o_v0 := ob_I eS19 o_v0
        have o_v1 := ob_I eS19 o_v1
        refine r_iload_n (pc := 114) C dX4_kindOf_114 0 rfl ?_
        exact r_zret (pc := 115) C E ht dX4_kindOf_115 (by decide) (by decide) h.1 h.2
      · have h := h.2 c13
        refine r_aload_n (pc := 74) C dX4_kindOf_74 1 rfl ?_
        refine r_iconst (pc := 75) C (v := (3 : Int32)) dX4_kindOf_75 (by decide) ?_
        obtain ⟨o_v1, h⟩ := h
        refine r_puti (pc := 76) C pfL_X4_264 dX4_kindOf_76 o_v1 ?_
        refine r_heap (fun S20 eS20 => ?_)
        have h := h S20 eS20
        have o_v0 := ob_I eS20 o_v0
        have o_v1 := ob_I eS20 o_v1
        refine r_aload_n (pc := 79) C dX4_kindOf_79 0 rfl ?_
        refine r_ldsw (pc := 80) C 20 rfl dX4_kindOf_80 ?_
        refine r_iconst (pc := 83) C (v := (1 : Int32)) dX4_kindOf_83 (by decide) ?_
        refine r_bipush (pc := 84) C (v := (99 : Int32)) dX4_kindOf_84 (by decide) ?_
        refine r_callVi0 (pc := 86) C (rest := []) (a := v0) o_v0 [.ref (eK (xE X) 20), .int (1 : Int32), .int (99 : Int32)] yV_X4_wordAndWhole g_524 (c_X4_wordAndWhole h) dX4_kindOf_86 rfl rfl (Nat.le_of_ble_eq_true rfl) ⟨by decide, by decide⟩ ⟨by decide, by decide⟩ ⟨rfl, rfl⟩ (fun x23 S21 h g22 => ?_)
        have bx23 := h.1
        have h := h.2 g22 bx23
        have o_v0 := gr_ob g22 o_v0
        have o_v1 := gr_ob g22 o_v1
        refine r_istore_n (pc := 89) C dX4_kindOf_89 rfl (by decide) (lv' := [(2, .int x23), (0, .ref v0), (1, .ref v1)]) rfl ?_
        refine r_goto (pc := 90) C (tgt := 106) dX4_kindOf_90 (by decide) ?_
        refine r_aload_n (pc := 106) C dX4_kindOf_106 2 rfl ?_
        refine r_aload_n (pc := 107) C dX4_kindOf_107 1 rfl ?_
        refine r_geti (pc := 108) C fL_X4_147 dX4_kindOf_108 o_v0 ?_
        refine r_topi (fun x24 ex24 => ?_)
        have h := h x24 ex24
        refine r_puti (pc := 111) C pfL_X4_273 dX4_kindOf_111 o_v1 ?_
        refine r_heap (fun S25 eS25 => ?_)
        have h := h S25 eS25
        have o_v0 := ob_I eS25 o_v0
        have o_v1 := ob_I eS25 o_v1
        refine r_iload_n (pc := 114) C dX4_kindOf_114 0 rfl ?_
        exact r_zret (pc := 115) C E ht dX4_kindOf_115 (by decide) (by decide) h.1 h.2
    · have h := h.2 c9
      refine r_aload_n (pc := 44) C dX4_kindOf_44 1 rfl ?_
      refine r_iconst (pc := 45) C (v := (2 : Int32)) dX4_kindOf_45 (by decide) ?_
      obtain ⟨o_v1, h⟩ := h
      refine r_puti (pc := 46) C pfL_X4_264 dX4_kindOf_46 o_v1 ?_
      refine r_heap (fun S26 eS26 => ?_)
      have h := h S26 eS26
      have o_v0 := ob_I eS26 o_v0
      have o_v1 := ob_I eS26 o_v1
      refine r_aload_n (pc := 49) C dX4_kindOf_49 0 rfl ?_
      refine r_ldsw (pc := 50) C 19 rfl dX4_kindOf_50 ?_
      refine r_iconst (pc := 53) C (v := (0 : Int32)) dX4_kindOf_53 (by decide) ?_
      refine r_sipush (pc := 54) C (v := (999 : Int32)) dX4_kindOf_54 (by decide) ?_
      refine r_callVi0 (pc := 57) C (rest := []) (a := v0) o_v0 [.ref (eK (xE X) 19), .int (0 : Int32), .int (999 : Int32)] yV_X4_wordAndWhole g_524 (c_X4_wordAndWhole h) dX4_kindOf_57 rfl rfl (Nat.le_of_ble_eq_true rfl) ⟨by decide, by decide⟩ ⟨by decide, by decide⟩ ⟨rfl, rfl⟩ (fun x29 S27 h g28 => ?_)
      have bx29 := h.1
      have h := h.2 g28 bx29
      have o_v0 := gr_ob g28 o_v0
      have o_v1 := gr_ob g28 o_v1
      refine r_istore_n (pc := 60) C dX4_kindOf_60 rfl (by decide) (lv' := [(2, .int x29), (0, .ref v0), (1, .ref v1)]) rfl ?_
      refine r_goto (pc := 61) C (tgt := 106) dX4_kindOf_61 (by decide) ?_
      refine r_aload_n (pc := 106) C dX4_kindOf_106 2 rfl ?_
      refine r_aload_n (pc := 107) C dX4_kindOf_107 1 rfl ?_
      refine r_geti (pc := 108) C fL_X4_147 dX4_kindOf_108 o_v0 ?_
      refine r_topi (fun x30 ex30 => ?_)
      have h := h x30 ex30
      refine r_puti (pc := 111) C pfL_X4_273 dX4_kindOf_111 o_v1 ?_
      refine r_heap (fun S31 eS31 => ?_)
      have h := h S31 eS31
      have o_v0 := ob_I eS31 o_v0
      have o_v1 := ob_I eS31 o_v1
      refine r_iload_n (pc := 114) C dX4_kindOf_114 0 rfl ?_
      exact r_zret (pc := 115) C E ht dX4_kindOf_115 (by decide) (by decide) h.1 h.2
  · have h := h.2 c5
    refine r_aload_n (pc := 15) C dX4_kindOf_15 1 rfl ?_
    refine r_iconst (pc := 16) C (v := (1 : Int32)) dX4_kindOf_16 (by decide) ?_
    obtain ⟨o_v1, h⟩ := h
    refine r_puti (pc := 17) C pfL_X4_264 dX4_kindOf_17 o_v1 ?_
    refine r_heap (fun S32 eS32 => ?_)
    have h := h S32 eS32
    have o_v0 := ob_I eS32 o_v0
    have o_v1 := ob_I eS32 o_v1
    refine r_aload_n (pc := 20) C dX4_kindOf_20 0 rfl ?_
    refine r_ldsw (pc := 21) C 18 rfl dX4_kindOf_21 ?_
    refine r_iconst (pc := 24) C (v := (1 : Int32)) dX4_kindOf_24 (by decide) ?_
    refine r_bipush (pc := 25) C (v := (8 : Int32)) dX4_kindOf_25 (by decide) ?_
    refine r_callVi0 (pc := 27) C (rest := []) (a := v0) o_v0 [.ref (eK (xE X) 18), .int (1 : Int32), .int (8 : Int32)] yV_X4_wordAndWhole g_524 (c_X4_wordAndWhole h) dX4_kindOf_27 rfl rfl (Nat.le_of_ble_eq_true rfl) ⟨by decide, by decide⟩ ⟨by decide, by decide⟩ ⟨rfl, rfl⟩ (fun x35 S33 h g34 => ?_)
    have bx35 := h.1
    have h := h.2 g34 bx35
    have o_v0 := gr_ob g34 o_v0
    have o_v1 := gr_ob g34 o_v1
    refine r_istore_n (pc := 30) C dX4_kindOf_30 rfl (by decide) (lv' := [(2, .int x35), (0, .ref v0), (1, .ref v1)]) rfl ?_
    refine r_goto (pc := 31) C (tgt := 106) dX4_kindOf_31 (by decide) ?_
    refine r_aload_n (pc := 106) C dX4_kindOf_106 2 rfl ?_
    refine r_aload_n (pc := 107) C dX4_kindOf_107 1 rfl ?_
    refine r_geti (pc := 108) C fL_X4_147 dX4_kindOf_108 o_v0 ?_
    refine r_topi (fun x36 ex36 => ?_)
    have h := h x36 ex36
    refine r_puti (pc := 111) C pfL_X4_273 dX4_kindOf_111 o_v1 ?_
    refine r_heap (fun S37 eS37 => ?_)
    have h := h S37 eS37
    have o_v0 := ob_I eS37 o_v0
    have o_v1 := ob_I eS37 o_v1
    refine r_iload_n (pc := 114) C dX4_kindOf_114 0 rfl ?_
    exact r_zret (pc := 115) C E ht dX4_kindOf_115 (by decide) (by decide) h.1 h.2
def P_X4_kindOf (v0 : Nat) (v1 : Nat) (Q : Int32 → HS → Prop) (S : HS) : Prop := P_X4_kindOf_0 Q v0 v1 S
theorem c_X4_kindOf {l : Launch} {Ee : EE} {S : HS} {v0 : Nat} {v1 : Nat} {Q : Int32 → HS → Prop} (h : P_X4_kindOf v0 v1 Q S) : MI l yX4_kindOf cX4_kindOf 3 (some .boolean) rm_X4_kindOf Ee S [.ref v0, .ref v1] (fun r S => bl r ∧ Q r S) :=
  openI (by decide) (Nat.le_of_ble_eq_true rfl) (fun X C E ht hn hE hl => by subst hE; exact r_sub [0, 1] rfl (T_X4_kindOf_0 C E ht hn h))
def rm_X4_newName : Room := { frames := 7, cells := 0, slots := 0, locals := 165 }
def P_X4_newName_69 (Q : Int32 → HS → Prop) (v0 : Nat) (S : HS) : Prop := ob S v0 4 ∧ (P_X4_next v0 (fun S1 => Gr S S1 → (Q (1 : Int32) S1)) S)
set_option maxRecDepth 20000 in
set_option maxHeartbeats 4000000 in
theorem T_X4_newName_69 {X : CX} {Q : Int32 → HS → Prop} (C : Cx X cX4_newName RX4 2 rm_X4_newName) (E : ReI X rm_X4_newName (fun r S => bl r ∧ Q r S)) (ht : (xh X).sig.returnType = (some .boolean)) (hn : (xh X).name = yX4_newName.name) {v0 : Nat} {S : HS} (h : P_X4_newName_69 Q v0 S) : WS X 2 0 0 69 [(0, .ref v0)] [] S := by
  refine r_aload_n (pc := 69) C dX4_newName_69 0 rfl ?_
  obtain ⟨o_v0, h⟩ := h
  refine r_callVv0 (pc := 70) C (rest := []) (a := v0) o_v0 [] yV_X4_next g_449 (c_X4_next h) dX4_newName_70 rfl rfl (Nat.le_of_ble_eq_true rfl) ⟨by decide, by decide⟩ ⟨by decide, by decide⟩ ⟨rfl, rfl⟩ (fun S1 h g2 => ?_)
  have h := h g2
  have o_v0 := gr_ob g2 o_v0
  refine r_iconst (pc := 73) C (v := (1 : Int32)) dX4_newName_73 (by decide) ?_
  exact r_zret (pc := 74) C E ht dX4_newName_74 (by decide) (by decide) (Or.inr rfl) h
def P_X4_newName_0 (Q : Int32 → HS → Prop) (v0 : Nat) (v1 : Int32) (S : HS) : Prop := ob S v0 4 ∧ (P_X4_canBeName v0 (fun x3 S1 => Gr S S1 → bl x3 → (((¬ x3 = 0) → (P_X4_findName v0 (fun x7 S5 => Gr S1 S5 → (((x7 = (-1 : Int32)) → (∀ x9 : Int32, x9 = fI S5 v0 10 → ((((12 : Int32) ≤ x9) → (P_X4_newName_69 Q v0 S5)) ∧ ((¬ (12 : Int32) ≤ x9) → (∃ a11 : Nat, fR S5 v0 11 = some a11 ∧ (∀ x12 : Int32, x12 = fI S5 v0 10 → (∀ x13 : Int64, x13 = fJ S5 v0 8 → (ob S5 a11 14 ∧ (vp_in x12 (hN S5 a11) ∧ (∀ S15 : HS, S15 = sJ S5 a11 x12.toNatClampNeg x13 → (∃ a16 : Nat, fR S15 v0 12 = some a16 ∧ (∀ x17 : Int32, x17 = fI S15 v0 10 → (ob S15 a16 13 ∧ (vp_in x17 (hN S15 a16) ∧ (∀ S19 : HS, S19 = sI S15 a16 x17.toNatClampNeg v1 → (∀ x20 : Int32, x20 = fI S19 v0 10 → (∀ x21 : Int32, x21 = x20 + (1 : Int32) → (∀ S22 : HS, S22 = sI S19 v0 10 x21 → (P_X4_newName_69 Q v0 S22))))))))))))))))))) ∧ ((¬ x7 = (-1 : Int32)) → (P_X4_fail v0 (3 : Int32) (fun x25 S23 => Gr S5 S23 → bl x25 → (bl x25 ∧ Q x25 S23)) S5)))) S1)) ∧ ((x3 = 0) → (P_X4_fail v0 (1 : Int32) (fun x28 S26 => Gr S1 S26 → bl x28 → (bl x28 ∧ Q x28 S26)) S1)))) S)
set_option maxRecDepth 20000 in
set_option maxHeartbeats 4000000 in
theorem T_X4_newName_0 {X : CX} {Q : Int32 → HS → Prop} (C : Cx X cX4_newName RX4 2 rm_X4_newName) (E : ReI X rm_X4_newName (fun r S => bl r ∧ Q r S)) (ht : (xh X).sig.returnType = (some .boolean)) (hn : (xh X).name = yX4_newName.name) {v0 : Nat} {v1 : Int32} {S : HS} (h : P_X4_newName_0 Q v0 v1 S) : WS X 2 0 0 0 [(0, .ref v0), (1, .int v1)] [] S := by
  refine r_aload_n (pc := 0) C dX4_newName_0 0 rfl ?_
  obtain ⟨o_v0, h⟩ := h
  refine r_callVi0 (pc := 1) C (rest := []) (a := v0) o_v0 [] yV_X4_canBeName g_566 (c_X4_canBeName h) dX4_newName_1 rfl rfl (Nat.le_of_ble_eq_true rfl) ⟨by decide, by decide⟩ ⟨by decide, by decide⟩ ⟨rfl, rfl⟩ (fun x3 S1 h g2 => ?_)
  have bx3 := h.1
  have h := h.2 g2 bx3
  have o_v0 := gr_ob g2 o_v0
  refine r_if_ne (pc := 4) C (tgt := 13) dX4_newName_4 (by decide) (fun c4 => ?_) (fun c4 => ?_)
  · have h := h.1 c4
    refine r_aload_n (pc := 13) C dX4_newName_13 0 rfl ?_
    refine r_callVi0 (pc := 14) C (rest := []) (a := v0) o_v0 [] yV_X4_findName g_576 (c_X4_findName h) dX4_newName_14 rfl rfl (Nat.le_of_ble_eq_true rfl) ⟨by decide, by decide⟩ ⟨by decide, by decide⟩ ⟨rfl, rfl⟩ (fun x7 S5 h g6 => ?_)
    have h := h g6
    have o_v0 := gr_ob g6 o_v0
    refine r_iconst (pc := 17) C (v := (-1 : Int32)) dX4_newName_17 (by decide) ?_
    refine r_icmp_eq (pc := 18) C (tgt := 27) dX4_newName_18 (by decide) (fun c8 => ?_) (fun c8 => ?_)
    · have h := h.1 c8
      refine r_aload_n (pc := 27) C dX4_newName_27 0 rfl ?_
      refine r_geti (pc := 28) C fL_X4_116 dX4_newName_28 o_v0 ?_
      refine r_topi (fun x9 ex9 => ?_)
      have h := h x9 ex9
      refine r_bipush (pc := 31) C (v := (12 : Int32)) dX4_newName_31 (by decide) ?_
      refine r_icmp_ge (pc := 33) C (tgt := 69) dX4_newName_33 (by decide) (fun c10 => ?_) (fun c10 => ?_)
      · have h := h.1 c10
        exact r_sub [0] rfl (T_X4_newName_69 C E ht hn h)
      · have h := h.2 c10
        refine r_aload_n (pc := 36) C dX4_newName_36 0 rfl ?_
        obtain ⟨a11, ea11, h⟩ := h
        refine r_getr (pc := 37) C fL_X4_22 dX4_newName_37 o_v0 ea11 ?_
        refine r_aload_n (pc := 40) C dX4_newName_40 0 rfl ?_
        refine r_geti (pc := 41) C fL_X4_116 dX4_newName_41 o_v0 ?_
        refine r_topi (fun x12 ex12 => ?_)
        have h := h x12 ex12
        refine r_aload_n (pc := 44) C dX4_newName_44 0 rfl ?_
        refine r_getl (pc := 45) C fL_X4_132 dX4_newName_45 o_v0 ?_
        refine r_topl (fun x13 ex13 => ?_)
        have h := h x13 ex13
        obtain ⟨o_a11, h⟩ := h
        obtain ⟨i14, h⟩ := h
        refine r_last (pc := 48) C dX4_newName_48 o_a11 i14 ?_
        refine r_heap (fun S15 eS15 => ?_)
        have h := h S15 eS15
        have o_a11 := ob_J eS15 o_a11
        have o_v0 := ob_J eS15 o_v0
        refine r_aload_n (pc := 49) C dX4_newName_49 0 rfl ?_
        obtain ⟨a16, ea16, h⟩ := h
        refine r_getr (pc := 50) C fL_X4_26 dX4_newName_50 o_v0 ea16 ?_
        refine r_aload_n (pc := 53) C dX4_newName_53 0 rfl ?_
        refine r_geti (pc := 54) C fL_X4_116 dX4_newName_54 o_v0 ?_
        refine r_topi (fun x17 ex17 => ?_)
        have h := h x17 ex17
        refine r_iload_n (pc := 57) C dX4_newName_57 1 rfl ?_
        obtain ⟨o_a16, h⟩ := h
        obtain ⟨i18, h⟩ := h
        refine r_iast (pc := 58) C dX4_newName_58 o_a16 i18 ?_
        refine r_heap (fun S19 eS19 => ?_)
        have h := h S19 eS19
        have o_a11 := ob_I eS19 o_a11
        have o_a16 := ob_I eS19 o_a16
        have o_v0 := ob_I eS19 o_v0
        refine r_aload_n (pc := 59) C dX4_newName_59 0 rfl ?_
        refine r_dup (pc := 60) C dX4_newName_60 rfl ?_
        refine r_geti (pc := 61) C fL_X4_116 dX4_newName_61 o_v0 ?_
        refine r_topi (fun x20 ex20 => ?_)
        have h := h x20 ex20
        refine r_iconst (pc := 64) C (v := (1 : Int32)) dX4_newName_64 (by decide) ?_
        refine r_iadd (pc := 65) C dX4_newName_65 ?_
        refine r_topi (fun x21 ex21 => ?_)
        have h := h x21 ex21
        refine r_puti (pc := 66) C pfL_X4_116 dX4_newName_66 o_v0 ?_
        refine r_heap (fun S22 eS22 => ?_)
        have h := h S22 eS22
        have o_a11 := ob_I eS22 o_a11
        have o_a16 := ob_I eS22 o_a16
        have o_v0 := ob_I eS22 o_v0
        exact r_sub [0] rfl (T_X4_newName_69 C E ht hn h)
    · have h := h.2 c8
      refine r_aload_n (pc := 21) C dX4_newName_21 0 rfl ?_
      refine r_iconst (pc := 22) C (v := (3 : Int32)) dX4_newName_22 (by decide) ?_
      refine r_callVi0 (pc := 23) C (rest := []) (a := v0) o_v0 [.int (3 : Int32)] yV_X4_fail g_519 (c_X4_fail h) dX4_newName_23 rfl rfl (Nat.le_of_ble_eq_true rfl) ⟨by decide, by decide⟩ ⟨by decide, by decide⟩ ⟨rfl, rfl⟩ (fun x25 S23 h g24 => ?_)
      have bx25 := h.1
      have h := h.2 g24 bx25
      have o_v0 := gr_ob g24 o_v0
      exact r_zret (pc := 26) C E ht dX4_newName_26 (by decide) (by decide) h.1 h.2
  · have h := h.2 c4
    refine r_aload_n (pc := 7) C dX4_newName_7 0 rfl ?_
    refine r_iconst (pc := 8) C (v := (1 : Int32)) dX4_newName_8 (by decide) ?_
    refine r_callVi0 (pc := 9) C (rest := []) (a := v0) o_v0 [.int (1 : Int32)] yV_X4_fail g_519 (c_X4_fail h) dX4_newName_9 rfl rfl (Nat.le_of_ble_eq_true rfl) ⟨by decide, by decide⟩ ⟨by decide, by decide⟩ ⟨rfl, rfl⟩ (fun x28 S26 h g27 => ?_)
    have bx28 := h.1
    have h := h.2 g27 bx28
    have o_v0 := gr_ob g27 o_v0
    exact r_zret (pc := 12) C E ht dX4_newName_12 (by decide) (by decide) h.1 h.2
def P_X4_newName (v0 : Nat) (v1 : Int32) (Q : Int32 → HS → Prop) (S : HS) : Prop := P_X4_newName_0 Q v0 v1 S
theorem c_X4_newName {l : Launch} {Ee : EE} {S : HS} {v0 : Nat} {v1 : Int32} {Q : Int32 → HS → Prop} (h : P_X4_newName v0 v1 Q S) : MI l yX4_newName cX4_newName 2 (some .boolean) rm_X4_newName Ee S [.ref v0, .int v1] (fun r S => bl r ∧ Q r S) :=
  openI (by decide) (Nat.le_of_ble_eq_true rfl) (fun X C E ht hn hE hl => by subst hE; exact r_sub [0, 1] rfl (T_X4_newName_0 C E ht hn h))
def rm_X8_clear : Room := { frames := 0, cells := 0, slots := 0, locals := 0 }
def P_X8_clear_0 (Q : HS → Prop) (v0 : Nat) (S : HS) : Prop := ob S v0 8 ∧ (∀ S1 : HS, S1 = sI S v0 0 (0 : Int32) → (∀ S2 : HS, S2 = sI S1 v0 1 (0 : Int32) → (∀ S3 : HS, S3 = sI S2 v0 2 (0 : Int32) → (∀ S4 : HS, S4 = sI S3 v0 3 (0 : Int32) → (∀ S5 : HS, S5 = sI S4 v0 4 (0 : Int32) → (∀ S6 : HS, S6 = sI S5 v0 5 (0 : Int32) → (Q S6)))))))
set_option maxRecDepth 20000 in
set_option maxHeartbeats 4000000 in
theorem T_X8_clear_0 {X : CX} {Q : HS → Prop} (C : Cx X cX8_clear RX8 1 rm_X8_clear) (E : ReV X rm_X8_clear Q) (ht : (xh X).sig.returnType = none) (hn : (xh X).name = yX8_clear.name) {v0 : Nat} {S : HS} (h : P_X8_clear_0 Q v0 S) : WS X 1 0 0 0 [(0, .ref v0)] [] S := by
  refine r_aload_n (pc := 0) C dX8_clear_0 0 rfl ?_
  refine r_iconst (pc := 1) C (v := (0 : Int32)) dX8_clear_1 (by decide) ?_
  obtain ⟨o_v0, h⟩ := h
  refine r_puti (pc := 2) C pfL_X8_42 dX8_clear_2 o_v0 ?_
  refine r_heap (fun S1 eS1 => ?_)
  have h := h S1 eS1
  have o_v0 := ob_I eS1 o_v0
  refine r_aload_n (pc := 5) C dX8_clear_5 0 rfl ?_
  refine r_iconst (pc := 6) C (v := (0 : Int32)) dX8_clear_6 (by decide) ?_
  refine r_puti (pc := 7) C pfL_X8_46 dX8_clear_7 o_v0 ?_
  refine r_heap (fun S2 eS2 => ?_)
  have h := h S2 eS2
  have o_v0 := ob_I eS2 o_v0
  refine r_aload_n (pc := 10) C dX8_clear_10 0 rfl ?_
  refine r_iconst (pc := 11) C (v := (0 : Int32)) dX8_clear_11 (by decide) ?_
  refine r_puti (pc := 12) C pfL_X8_49 dX8_clear_12 o_v0 ?_
  refine r_heap (fun S3 eS3 => ?_)
  have h := h S3 eS3
  have o_v0 := ob_I eS3 o_v0
  refine r_aload_n (pc := 15) C dX8_clear_15 0 rfl ?_
  refine r_iconst (pc := 16) C (v := (0 : Int32)) dX8_clear_16 (by decide) ?_
  refine r_puti (pc := 17) C pfL_X8_52 dX8_clear_17 o_v0 ?_
  refine r_heap (fun S4 eS4 => ?_)
  have h := h S4 eS4
  have o_v0 := ob_I eS4 o_v0
  refine r_aload_n (pc := 20) C dX8_clear_20 0 rfl ?_
  refine r_iconst (pc := 21) C (v := (0 : Int32)) dX8_clear_21 (by decide) ?_
  refine r_puti (pc := 22) C pfL_X8_55 dX8_clear_22 o_v0 ?_
  refine r_heap (fun S5 eS5 => ?_)
  have h := h S5 eS5
  have o_v0 := ob_I eS5 o_v0
  refine r_aload_n (pc := 25) C dX8_clear_25 0 rfl ?_
  refine r_iconst (pc := 26) C (v := (0 : Int32)) dX8_clear_26 (by decide) ?_
  refine r_puti (pc := 27) C pfL_X8_58 dX8_clear_27 o_v0 ?_
  refine r_heap (fun S6 eS6 => ?_)
  have h := h S6 eS6
  have o_v0 := ob_I eS6 o_v0
  exact r_vret (pc := 30) C E ht dX8_clear_30 (by decide) (by decide) h
def P_X8_clear (v0 : Nat) (Q : HS → Prop) (S : HS) : Prop := P_X8_clear_0 Q v0 S
theorem c_X8_clear {l : Launch} {Ee : EE} {S : HS} {v0 : Nat} {Q : HS → Prop} (h : P_X8_clear v0 Q S) : MV l yX8_clear cX8_clear 1 none rm_X8_clear Ee S [.ref v0] Q :=
  openV (by decide) (Nat.le_of_ble_eq_true rfl) (fun X C E ht hn hE hl => by subst hE; exact r_sub [0] rfl (T_X8_clear_0 C E ht hn h))
def rm_X4_open : Room := { frames := 2, cells := 0, slots := 0, locals := 46 }
def P_X4_open_0 (Q : HS → Prop) (v0 : Nat) (v1 : Nat) (v2 : Int32) (S : HS) : Prop := ob S v0 4 ∧ (∀ S1 : HS, S1 = sR S v0 2 (some v1) → (ob S1 v1 12 ∧ (∀ x2 : Int32, x2 = (if nI (hN S1 v1) < v2 then nI (hN S1 v1) else v2) → (∀ S3 : HS, S3 = sI S1 v0 3 x2 → (∀ S4 : HS, S4 = sI S3 v0 4 (0 : Int32) → (∀ S5 : HS, S5 = sI S4 v0 0 (0 : Int32) → (∀ S6 : HS, S6 = sI S5 v0 1 (0 : Int32) → (∀ S7 : HS, S7 = sI S6 v0 10 (0 : Int32) → (∃ a8 : Nat, fR S7 v0 5 = some a8 ∧ (ob S7 a8 8 ∧ (P_X8_clear a8 (fun S9 => Gr S7 S9 → (P_X4_next v0 (fun S12 => Gr S9 S12 → (Q S12)) S9)) S7)))))))))))
set_option maxRecDepth 20000 in
set_option maxHeartbeats 4000000 in
theorem T_X4_open_0 {X : CX} {Q : HS → Prop} (C : Cx X cX4_open RX4 3 rm_X4_open) (E : ReV X rm_X4_open Q) (ht : (xh X).sig.returnType = none) (hn : (xh X).name = yX4_open.name) {v0 : Nat} {v1 : Nat} {v2 : Int32} {S : HS} (h : P_X4_open_0 Q v0 v1 v2 S) : WS X 3 0 0 0 [(0, .ref v0), (1, .ref v1), (2, .int v2)] [] S := by
  refine r_aload_n (pc := 0) C dX4_open_0 0 rfl ?_
  refine r_aload_n (pc := 1) C dX4_open_1 1 rfl ?_
  obtain ⟨o_v0, h⟩ := h
  refine r_putr (pc := 2) C pfL_X4_9 dX4_open_2 o_v0 ?_
  refine r_heap (fun S1 eS1 => ?_)
  have h := h S1 eS1
  have o_v0 := ob_R eS1 o_v0
  refine r_aload_n (pc := 5) C dX4_open_5 0 rfl ?_
  refine r_iload_n (pc := 6) C dX4_open_6 2 rfl ?_
  refine r_aload_n (pc := 7) C dX4_open_7 1 rfl ?_
  obtain ⟨o_v1, h⟩ := h
  refine r_alen12 (pc := 8) C dX4_open_8 o_v1 ?_
  refine r_min (pc := 9) C g_442 dX4_open_9 (by decide) (Nat.le_of_ble_eq_true rfl) (by decide) (by decide) ?_
  refine r_topi (fun x2 ex2 => ?_)
  have h := h x2 ex2
  refine r_puti (pc := 12) C pfL_X4_104 dX4_open_12 o_v0 ?_
  refine r_heap (fun S3 eS3 => ?_)
  have h := h S3 eS3
  have o_v0 := ob_I eS3 o_v0
  have o_v1 := ob_I eS3 o_v1
  refine r_aload_n (pc := 15) C dX4_open_15 0 rfl ?_
  refine r_iconst (pc := 16) C (v := (0 : Int32)) dX4_open_16 (by decide) ?_
  refine r_puti (pc := 17) C pfL_X4_107 dX4_open_17 o_v0 ?_
  refine r_heap (fun S4 eS4 => ?_)
  have h := h S4 eS4
  have o_v0 := ob_I eS4 o_v0
  have o_v1 := ob_I eS4 o_v1
  refine r_aload_n (pc := 20) C dX4_open_20 0 rfl ?_
  refine r_iconst (pc := 21) C (v := (0 : Int32)) dX4_open_21 (by decide) ?_
  refine r_puti (pc := 22) C pfL_X4_110 dX4_open_22 o_v0 ?_
  refine r_heap (fun S5 eS5 => ?_)
  have h := h S5 eS5
  have o_v0 := ob_I eS5 o_v0
  have o_v1 := ob_I eS5 o_v1
  refine r_aload_n (pc := 25) C dX4_open_25 0 rfl ?_
  refine r_iconst (pc := 26) C (v := (0 : Int32)) dX4_open_26 (by decide) ?_
  refine r_puti (pc := 27) C pfL_X4_113 dX4_open_27 o_v0 ?_
  refine r_heap (fun S6 eS6 => ?_)
  have h := h S6 eS6
  have o_v0 := ob_I eS6 o_v0
  have o_v1 := ob_I eS6 o_v1
  refine r_aload_n (pc := 30) C dX4_open_30 0 rfl ?_
  refine r_iconst (pc := 31) C (v := (0 : Int32)) dX4_open_31 (by decide) ?_
  refine r_puti (pc := 32) C pfL_X4_116 dX4_open_32 o_v0 ?_
  refine r_heap (fun S7 eS7 => ?_)
  have h := h S7 eS7
  have o_v0 := ob_I eS7 o_v0
  have o_v1 := ob_I eS7 o_v1
  refine r_aload_n (pc := 35) C dX4_open_35 0 rfl ?_
  obtain ⟨a8, ea8, h⟩ := h
  refine r_getr (pc := 36) C fL_X4_18 dX4_open_36 o_v0 ea8 ?_
  obtain ⟨o_a8, h⟩ := h
  refine r_callVv0 (pc := 39) C (rest := []) (a := a8) o_a8 [] yV_X8_clear g_445 (c_X8_clear h) dX4_open_39 rfl rfl (Nat.le_of_ble_eq_true rfl) ⟨by decide, by decide⟩ ⟨by decide, by decide⟩ ⟨rfl, rfl⟩ (fun S9 h g10 => ?_)
  have h := h g10
  have o_a8 := gr_ob g10 o_a8
  have o_v0 := gr_ob g10 o_v0
  have o_v1 := gr_ob g10 o_v1
  refine r_aload_n (pc := 42) C dX4_open_42 0 rfl ?_
  refine r_callVv0 (pc := 43) C (rest := []) (a := v0) o_v0 [] yV_X4_next g_449 (c_X4_next h) dX4_open_43 rfl rfl (Nat.le_of_ble_eq_true rfl) ⟨by decide, by decide⟩ ⟨by decide, by decide⟩ ⟨rfl, rfl⟩ (fun S12 h g13 => ?_)
  have h := h g13
  have o_a8 := gr_ob g13 o_a8
  have o_v0 := gr_ob g13 o_v0
  have o_v1 := gr_ob g13 o_v1
  exact r_vret (pc := 46) C E ht dX4_open_46 (by decide) (by decide) h
def P_X4_open (v0 : Nat) (v1 : Nat) (v2 : Int32) (Q : HS → Prop) (S : HS) : Prop := P_X4_open_0 Q v0 v1 v2 S
theorem c_X4_open {l : Launch} {Ee : EE} {S : HS} {v0 : Nat} {v1 : Nat} {v2 : Int32} {Q : HS → Prop} (h : P_X4_open v0 v1 v2 Q S) : MV l yX4_open cX4_open 3 none rm_X4_open Ee S [.ref v0, .ref v1, .int v2] Q :=
  openV (by decide) (Nat.le_of_ble_eq_true rfl) (fun X C E ht hn hE hl => by subst hE; exact r_sub [0, 1, 2] rfl (T_X4_open_0 C E ht hn h))
def rm_X4_placeBut : Room := { frames := 7, cells := 0, slots := 0, locals := 165 }
def P_X4_placeBut_29 (Q : Int32 → HS → Prop) (v0 : Nat) (S : HS) : Prop := ob S v0 4 ∧ (P_X4_fail v0 (2 : Int32) (fun x3 S1 => Gr S S1 → bl x3 → (bl x3 ∧ Q x3 S1)) S)
set_option maxRecDepth 20000 in
set_option maxHeartbeats 4000000 in
theorem T_X4_placeBut_29 {X : CX} {Q : Int32 → HS → Prop} (C : Cx X cX4_placeBut RX4 3 rm_X4_placeBut) (E : ReI X rm_X4_placeBut (fun r S => bl r ∧ Q r S)) (ht : (xh X).sig.returnType = (some .boolean)) (hn : (xh X).name = yX4_placeBut.name) {v0 : Nat} {S : HS} (h : P_X4_placeBut_29 Q v0 S) : WS X 3 0 0 29 [(0, .ref v0)] [] S := by
  refine r_aload_n (pc := 29) C dX4_placeBut_29 0 rfl ?_
  refine r_iconst (pc := 30) C (v := (2 : Int32)) dX4_placeBut_30 (by decide) ?_
  obtain ⟨o_v0, h⟩ := h
  refine r_callVi0 (pc := 31) C (rest := []) (a := v0) o_v0 [.int (2 : Int32)] yV_X4_fail g_519 (c_X4_fail h) dX4_placeBut_31 rfl rfl (Nat.le_of_ble_eq_true rfl) ⟨by decide, by decide⟩ ⟨by decide, by decide⟩ ⟨rfl, rfl⟩ (fun x3 S1 h g2 => ?_)
  have bx3 := h.1
  have h := h.2 g2 bx3
  have o_v0 := gr_ob g2 o_v0
  exact r_zret (pc := 34) C E ht dX4_placeBut_34 (by decide) (by decide) h.1 h.2
def P_X4_placeBut_0 (Q : Int32 → HS → Prop) (v0 : Nat) (v1 : Int32) (S : HS) : Prop := ob S v0 4 ∧ (P_X4_canBeName v0 (fun x3 S1 => Gr S S1 → bl x3 → (((¬ x3 = 0) → (P_X4_findName v0 (fun x7 S5 => Gr S1 S5 → (((x7 = (-1 : Int32)) → (P_X4_placeBut_29 Q v0 S5)) ∧ ((¬ x7 = (-1 : Int32)) → (((x7 < (8 : Int32)) → (((¬ x7 = v1) → (∀ S11 : HS, S11 = sI S5 v0 9 x7 → (P_X4_next v0 (fun S12 => Gr S11 S12 → (Q (1 : Int32) S12)) S11))) ∧ ((x7 = v1) → (P_X4_fail v0 (3 : Int32) (fun x17 S15 => Gr S5 S15 → bl x17 → (bl x17 ∧ Q x17 S15)) S5)))) ∧ ((¬ x7 < (8 : Int32)) → (P_X4_placeBut_29 Q v0 S5)))))) S1)) ∧ ((x3 = 0) → (P_X4_fail v0 (1 : Int32) (fun x20 S18 => Gr S1 S18 → bl x20 → (bl x20 ∧ Q x20 S18)) S1)))) S)
set_option maxRecDepth 20000 in
set_option maxHeartbeats 4000000 in
theorem T_X4_placeBut_0 {X : CX} {Q : Int32 → HS → Prop} (C : Cx X cX4_placeBut RX4 3 rm_X4_placeBut) (E : ReI X rm_X4_placeBut (fun r S => bl r ∧ Q r S)) (ht : (xh X).sig.returnType = (some .boolean)) (hn : (xh X).name = yX4_placeBut.name) {v0 : Nat} {v1 : Int32} {S : HS} (h : P_X4_placeBut_0 Q v0 v1 S) : WS X 3 0 0 0 [(0, .ref v0), (1, .int v1)] [] S := by
  refine r_aload_n (pc := 0) C dX4_placeBut_0 0 rfl ?_
  obtain ⟨o_v0, h⟩ := h
  refine r_callVi0 (pc := 1) C (rest := []) (a := v0) o_v0 [] yV_X4_canBeName g_566 (c_X4_canBeName h) dX4_placeBut_1 rfl rfl (Nat.le_of_ble_eq_true rfl) ⟨by decide, by decide⟩ ⟨by decide, by decide⟩ ⟨rfl, rfl⟩ (fun x3 S1 h g2 => ?_)
  have bx3 := h.1
  have h := h.2 g2 bx3
  have o_v0 := gr_ob g2 o_v0
  refine r_if_ne (pc := 4) C (tgt := 13) dX4_placeBut_4 (by decide) (fun c4 => ?_) (fun c4 => ?_)
  · have h := h.1 c4
    refine r_aload_n (pc := 13) C dX4_placeBut_13 0 rfl ?_
    refine r_callVi0 (pc := 14) C (rest := []) (a := v0) o_v0 [] yV_X4_findName g_576 (c_X4_findName h) dX4_placeBut_14 rfl rfl (Nat.le_of_ble_eq_true rfl) ⟨by decide, by decide⟩ ⟨by decide, by decide⟩ ⟨rfl, rfl⟩ (fun x7 S5 h g6 => ?_)
    have h := h g6
    have o_v0 := gr_ob g6 o_v0
    refine r_istore_n (pc := 17) C dX4_placeBut_17 rfl (by decide) (lv' := [(2, .int x7), (0, .ref v0), (1, .int v1)]) rfl ?_
    refine r_iload_n (pc := 18) C dX4_placeBut_18 0 rfl ?_
    refine r_iconst (pc := 19) C (v := (-1 : Int32)) dX4_placeBut_19 (by decide) ?_
    refine r_icmp_eq (pc := 20) C (tgt := 29) dX4_placeBut_20 (by decide) (fun c8 => ?_) (fun c8 => ?_)
    · have h := h.1 c8
      exact r_sub [1] rfl (T_X4_placeBut_29 C E ht hn h)
    · have h := h.2 c8
      refine r_iload_n (pc := 23) C dX4_placeBut_23 0 rfl ?_
      refine r_bipush (pc := 24) C (v := (8 : Int32)) dX4_placeBut_24 (by decide) ?_
      refine r_icmp_lt (pc := 26) C (tgt := 35) dX4_placeBut_26 (by decide) (fun c9 => ?_) (fun c9 => ?_)
      · have h := h.1 c9
        refine r_iload_n (pc := 35) C dX4_placeBut_35 0 rfl ?_
        refine r_iload_n (pc := 36) C dX4_placeBut_36 2 rfl ?_
        refine r_icmp_ne (pc := 37) C (tgt := 46) dX4_placeBut_37 (by decide) (fun c10 => ?_) (fun c10 => ?_)
        · have h := h.1 c10
          refine r_aload_n (pc := 46) C dX4_placeBut_46 1 rfl ?_
          refine r_iload_n (pc := 47) C dX4_placeBut_47 0 rfl ?_
          refine r_puti (pc := 48) C pfL_X4_147 dX4_placeBut_48 o_v0 ?_
          refine r_heap (fun S11 eS11 => ?_)
          have h := h S11 eS11
          have o_v0 := ob_I eS11 o_v0
          refine r_aload_n (pc := 51) C dX4_placeBut_51 1 rfl ?_
          refine r_callVv0 (pc := 52) C (rest := []) (a := v0) o_v0 [] yV_X4_next g_449 (c_X4_next h) dX4_placeBut_52 rfl rfl (Nat.le_of_ble_eq_true rfl) ⟨by decide, by decide⟩ ⟨by decide, by decide⟩ ⟨rfl, rfl⟩ (fun S12 h g13 => ?_)
          have h := h g13
          have o_v0 := gr_ob g13 o_v0
          refine r_iconst (pc := 55) C (v := (1 : Int32)) dX4_placeBut_55 (by decide) ?_
          exact r_zret (pc := 56) C E ht dX4_placeBut_56 (by decide) (by decide) (Or.inr rfl) h
        · have h := h.2 c10
          refine r_aload_n (pc := 40) C dX4_placeBut_40 1 rfl ?_
          refine r_iconst (pc := 41) C (v := (3 : Int32)) dX4_placeBut_41 (by decide) ?_
          refine r_callVi0 (pc := 42) C (rest := []) (a := v0) o_v0 [.int (3 : Int32)] yV_X4_fail g_519 (c_X4_fail h) dX4_placeBut_42 rfl rfl (Nat.le_of_ble_eq_true rfl) ⟨by decide, by decide⟩ ⟨by decide, by decide⟩ ⟨rfl, rfl⟩ (fun x17 S15 h g16 => ?_)
          have bx17 := h.1
          have h := h.2 g16 bx17
          have o_v0 := gr_ob g16 o_v0
          exact r_zret (pc := 45) C E ht dX4_placeBut_45 (by decide) (by decide) h.1 h.2
      · have h := h.2 c9
        exact r_sub [1] rfl (T_X4_placeBut_29 C E ht hn h)
  · have h := h.2 c4
    refine r_aload_n (pc := 7) C dX4_placeBut_7 0 rfl ?_
    refine r_iconst (pc := 8) C (v := (1 : Int32)) dX4_placeBut_8 (by decide) ?_
    refine r_callVi0 (pc := 9) C (rest := []) (a := v0) o_v0 [.int (1 : Int32)] yV_X4_fail g_519 (c_X4_fail h) dX4_placeBut_9 rfl rfl (Nat.le_of_ble_eq_true rfl) ⟨by decide, by decide⟩ ⟨by decide, by decide⟩ ⟨rfl, rfl⟩ (fun x20 S18 h g19 => ?_)
    have bx20 := h.1
    have h := h.2 g19 bx20
    have o_v0 := gr_ob g19 o_v0
    exact r_zret (pc := 12) C E ht dX4_placeBut_12 (by decide) (by decide) h.1 h.2
def P_X4_placeBut (v0 : Nat) (v1 : Int32) (Q : Int32 → HS → Prop) (S : HS) : Prop := P_X4_placeBut_0 Q v0 v1 S
theorem c_X4_placeBut {l : Launch} {Ee : EE} {S : HS} {v0 : Nat} {v1 : Int32} {Q : Int32 → HS → Prop} (h : P_X4_placeBut v0 v1 Q S) : MI l yX4_placeBut cX4_placeBut 3 (some .boolean) rm_X4_placeBut Ee S [.ref v0, .int v1] (fun r S => bl r ∧ Q r S) :=
  openI (by decide) (Nat.le_of_ble_eq_true rfl) (fun X C E ht hn hE hl => by subst hE; exact r_sub [0, 1] rfl (T_X4_placeBut_0 C E ht hn h))
def rm_X4_placeLine : Room := { frames := 8, cells := 0, slots := 0, locals := 188 }
def P_X4_placeLine_64 (Q : Int32 → HS → Prop) (v0 : Nat) (v1 : Int32) (S : HS) : Prop := ob S v0 4 ∧ (∃ a1 : Nat, fR S v0 5 = some a1 ∧ (ob S a1 8 ∧ (∃ a2 : Nat, fR S a1 7 = some a2 ∧ (∃ a3 : Nat, fR S v0 5 = some a3 ∧ (ob S a3 8 ∧ (∀ x4 : Int32, x4 = fI S a3 2 → (ob S a2 13 ∧ (vp_in x4 (hN S a2) ∧ (∀ S6 : HS, S6 = sI S a2 x4.toNatClampNeg v1 → (∃ a7 : Nat, fR S6 v0 5 = some a7 ∧ (ob S6 a7 8 ∧ (∀ x8 : Int32, x8 = fI S6 a7 2 → (∀ x9 : Int32, x9 = x8 + (1 : Int32) → (∀ S10 : HS, S10 = sI S6 a7 2 x9 → (Q (1 : Int32) S10)))))))))))))))
set_option maxRecDepth 20000 in
set_option maxHeartbeats 4000000 in
theorem T_X4_placeLine_64 {X : CX} {Q : Int32 → HS → Prop} (C : Cx X cX4_placeLine RX4 2 rm_X4_placeLine) (E : ReI X rm_X4_placeLine (fun r S => bl r ∧ Q r S)) (ht : (xh X).sig.returnType = (some .boolean)) (hn : (xh X).name = yX4_placeLine.name) {v0 : Nat} {v1 : Int32} {S : HS} (h : P_X4_placeLine_64 Q v0 v1 S) : WS X 2 0 0 64 [(0, .ref v0), (1, .int v1)] [] S := by
  refine r_aload_n (pc := 64) C dX4_placeLine_64 0 rfl ?_
  obtain ⟨o_v0, h⟩ := h
  obtain ⟨a1, ea1, h⟩ := h
  refine r_getr (pc := 65) C fL_X4_18 dX4_placeLine_65 o_v0 ea1 ?_
  obtain ⟨o_a1, h⟩ := h
  obtain ⟨a2, ea2, h⟩ := h
  refine r_getr (pc := 68) C fL_X4_218 dX4_placeLine_68 o_a1 ea2 ?_
  refine r_aload_n (pc := 71) C dX4_placeLine_71 0 rfl ?_
  obtain ⟨a3, ea3, h⟩ := h
  refine r_getr (pc := 72) C fL_X4_18 dX4_placeLine_72 o_v0 ea3 ?_
  obtain ⟨o_a3, h⟩ := h
  refine r_geti (pc := 75) C fL_X4_58 dX4_placeLine_75 o_a3 ?_
  refine r_topi (fun x4 ex4 => ?_)
  have h := h x4 ex4
  refine r_iload_n (pc := 78) C dX4_placeLine_78 1 rfl ?_
  obtain ⟨o_a2, h⟩ := h
  obtain ⟨i5, h⟩ := h
  refine r_iast (pc := 79) C dX4_placeLine_79 o_a2 i5 ?_
  refine r_heap (fun S6 eS6 => ?_)
  have h := h S6 eS6
  have o_a1 := ob_I eS6 o_a1
  have o_a2 := ob_I eS6 o_a2
  have o_a3 := ob_I eS6 o_a3
  have o_v0 := ob_I eS6 o_v0
  refine r_aload_n (pc := 80) C dX4_placeLine_80 0 rfl ?_
  obtain ⟨a7, ea7, h⟩ := h
  refine r_getr (pc := 81) C fL_X4_18 dX4_placeLine_81 o_v0 ea7 ?_
  refine r_dup (pc := 84) C dX4_placeLine_84 rfl ?_
  obtain ⟨o_a7, h⟩ := h
  refine r_geti (pc := 85) C fL_X4_58 dX4_placeLine_85 o_a7 ?_
  refine r_topi (fun x8 ex8 => ?_)
  have h := h x8 ex8
  refine r_iconst (pc := 88) C (v := (1 : Int32)) dX4_placeLine_88 (by decide) ?_
  refine r_iadd (pc := 89) C dX4_placeLine_89 ?_
  refine r_topi (fun x9 ex9 => ?_)
  have h := h x9 ex9
  refine r_puti (pc := 90) C pfL_X4_58 dX4_placeLine_90 o_a7 ?_
  refine r_heap (fun S10 eS10 => ?_)
  have h := h S10 eS10
  have o_a1 := ob_I eS10 o_a1
  have o_a2 := ob_I eS10 o_a2
  have o_a3 := ob_I eS10 o_a3
  have o_a7 := ob_I eS10 o_a7
  have o_v0 := ob_I eS10 o_v0
  refine r_iconst (pc := 93) C (v := (1 : Int32)) dX4_placeLine_93 (by decide) ?_
  exact r_zret (pc := 94) C E ht dX4_placeLine_94 (by decide) (by decide) (Or.inr rfl) h
def P_X4_placeLine_0 (Q : Int32 → HS → Prop) (v0 : Nat) (S : HS) : Prop := ob S v0 4 ∧ (∃ a1 : Nat, fR S v0 5 = some a1 ∧ (ob S a1 8 ∧ (∀ x2 : Int32, x2 = fI S a1 2 → (P_X4_newName v0 x2 (fun x5 S3 => Gr S S3 → bl x5 → (((¬ x5 = 0) → (P_X4_is v0 15 (fun x9 S7 => Gr S3 S7 → bl x9 → (((x9 = 0) → (P_X4_is v0 16 (fun x13 S11 => Gr S7 S11 → bl x13 → (((x13 = 0) → (P_X4_placeLine_64 Q v0 (-1 : Int32) S11)) ∧ ((¬ x13 = 0) → (P_X4_wordAndWhole v0 16 (0 : Int32) (9 : Int32) (fun x17 S15 => Gr S11 S15 → bl x17 → (((¬ x17 = 0) → (∀ x19 : Int32, x19 = fI S15 v0 9 → (P_X4_placeLine_64 Q v0 x19 S15))) ∧ ((x17 = 0) → (Q (0 : Int32) S15)))) S11)))) S7)) ∧ ((¬ x9 = 0) → (P_X4_next v0 (fun S20 => Gr S7 S20 → (P_X4_placeLine_64 Q v0 (0 : Int32) S20)) S7)))) S3)) ∧ ((x5 = 0) → (Q (0 : Int32) S3)))) S))))
set_option maxRecDepth 20000 in
set_option maxHeartbeats 4000000 in
theorem T_X4_placeLine_0 {X : CX} {Q : Int32 → HS → Prop} (C : Cx X cX4_placeLine RX4 2 rm_X4_placeLine) (E : ReI X rm_X4_placeLine (fun r S => bl r ∧ Q r S)) (ht : (xh X).sig.returnType = (some .boolean)) (hn : (xh X).name = yX4_placeLine.name) {v0 : Nat} {S : HS} (h : P_X4_placeLine_0 Q v0 S) : WS X 2 0 0 0 [(0, .ref v0)] [] S := by
  refine r_aload_n (pc := 0) C dX4_placeLine_0 0 rfl ?_
  refine r_aload_n (pc := 1) C dX4_placeLine_1 0 rfl ?_
  obtain ⟨o_v0, h⟩ := h
  obtain ⟨a1, ea1, h⟩ := h
  refine r_getr (pc := 2) C fL_X4_18 dX4_placeLine_2 o_v0 ea1 ?_
  obtain ⟨o_a1, h⟩ := h
  refine r_geti (pc := 5) C fL_X4_58 dX4_placeLine_5 o_a1 ?_
  refine r_topi (fun x2 ex2 => ?_)
  have h := h x2 ex2
  refine r_callVi0 (pc := 8) C (rest := []) (a := v0) o_v0 [.int x2] yV_X4_newName g_562 (c_X4_newName h) dX4_placeLine_8 rfl rfl (Nat.le_of_ble_eq_true rfl) ⟨by decide, by decide⟩ ⟨by decide, by decide⟩ ⟨rfl, rfl⟩ (fun x5 S3 h g4 => ?_)
  have bx5 := h.1
  have h := h.2 g4 bx5
  have o_a1 := gr_ob g4 o_a1
  have o_v0 := gr_ob g4 o_v0
  refine r_if_ne (pc := 11) C (tgt := 16) dX4_placeLine_11 (by decide) (fun c6 => ?_) (fun c6 => ?_)
  · have h := h.1 c6
    refine r_iconst (pc := 16) C (v := (-1 : Int32)) dX4_placeLine_16 (by decide) ?_
    refine r_istore_n (pc := 17) C dX4_placeLine_17 rfl (by decide) (lv' := [(1, .int (-1 : Int32)), (0, .ref v0)]) rfl ?_
    refine r_aload_n (pc := 18) C dX4_placeLine_18 1 rfl ?_
    refine r_lds (pc := 19) C 15 rfl dX4_placeLine_19 ?_
    refine r_callVi0 (pc := 21) C (rest := []) (a := v0) o_v0 [.ref (eK (xE X) 15)] yV_X4_is g_458 (c_X4_is h) dX4_placeLine_21 rfl rfl (Nat.le_of_ble_eq_true rfl) ⟨by decide, by decide⟩ ⟨by decide, by decide⟩ ⟨rfl, rfl⟩ (fun x9 S7 h g8 => ?_)
    have bx9 := h.1
    have h := h.2 g8 bx9
    have o_a1 := gr_ob g8 o_a1
    have o_v0 := gr_ob g8 o_v0
    refine r_if_eq (pc := 24) C (tgt := 36) dX4_placeLine_24 (by decide) (fun c10 => ?_) (fun c10 => ?_)
    · have h := h.1 c10
      refine r_aload_n (pc := 36) C dX4_placeLine_36 1 rfl ?_
      refine r_lds (pc := 37) C 16 rfl dX4_placeLine_37 ?_
      refine r_callVi0 (pc := 39) C (rest := []) (a := v0) o_v0 [.ref (eK (xE X) 16)] yV_X4_is g_458 (c_X4_is h) dX4_placeLine_39 rfl rfl (Nat.le_of_ble_eq_true rfl) ⟨by decide, by decide⟩ ⟨by decide, by decide⟩ ⟨rfl, rfl⟩ (fun x13 S11 h g12 => ?_)
      have bx13 := h.1
      have h := h.2 g12 bx13
      have o_a1 := gr_ob g12 o_a1
      have o_v0 := gr_ob g12 o_v0
      refine r_if_eq (pc := 42) C (tgt := 64) dX4_placeLine_42 (by decide) (fun c14 => ?_) (fun c14 => ?_)
      · have h := h.1 c14
        exact r_sub [1, 0] rfl (T_X4_placeLine_64 C E ht hn h)
      · have h := h.2 c14
        refine r_aload_n (pc := 45) C dX4_placeLine_45 1 rfl ?_
        refine r_lds (pc := 46) C 16 rfl dX4_placeLine_46 ?_
        refine r_iconst (pc := 48) C (v := (0 : Int32)) dX4_placeLine_48 (by decide) ?_
        refine r_bipush (pc := 49) C (v := (9 : Int32)) dX4_placeLine_49 (by decide) ?_
        refine r_callVi0 (pc := 51) C (rest := []) (a := v0) o_v0 [.ref (eK (xE X) 16), .int (0 : Int32), .int (9 : Int32)] yV_X4_wordAndWhole g_524 (c_X4_wordAndWhole h) dX4_placeLine_51 rfl rfl (Nat.le_of_ble_eq_true rfl) ⟨by decide, by decide⟩ ⟨by decide, by decide⟩ ⟨rfl, rfl⟩ (fun x17 S15 h g16 => ?_)
        have bx17 := h.1
        have h := h.2 g16 bx17
        have o_a1 := gr_ob g16 o_a1
        have o_v0 := gr_ob g16 o_v0
        refine r_if_ne (pc := 54) C (tgt := 59) dX4_placeLine_54 (by decide) (fun c18 => ?_) (fun c18 => ?_)
        · have h := h.1 c18
          refine r_aload_n (pc := 59) C dX4_placeLine_59 1 rfl ?_
          refine r_geti (pc := 60) C fL_X4_147 dX4_placeLine_60 o_v0 ?_
          refine r_topi (fun x19 ex19 => ?_)
          have h := h x19 ex19
          refine r_istore_n (pc := 63) C dX4_placeLine_63 rfl (by decide) (lv' := [(1, .int x19), (0, .ref v0)]) rfl ?_
          exact r_sub [1, 0] rfl (T_X4_placeLine_64 C E ht hn h)
        · have h := h.2 c18
          refine r_iconst (pc := 57) C (v := (0 : Int32)) dX4_placeLine_57 (by decide) ?_
          exact r_zret (pc := 58) C E ht dX4_placeLine_58 (by decide) (by decide) (Or.inl rfl) h
    · have h := h.2 c10
      refine r_iconst (pc := 27) C (v := (0 : Int32)) dX4_placeLine_27 (by decide) ?_
      refine r_istore_n (pc := 28) C dX4_placeLine_28 rfl (by decide) (lv' := [(1, .int (0 : Int32)), (0, .ref v0)]) rfl ?_
      refine r_aload_n (pc := 29) C dX4_placeLine_29 1 rfl ?_
      refine r_callVv0 (pc := 30) C (rest := []) (a := v0) o_v0 [] yV_X4_next g_449 (c_X4_next h) dX4_placeLine_30 rfl rfl (Nat.le_of_ble_eq_true rfl) ⟨by decide, by decide⟩ ⟨by decide, by decide⟩ ⟨rfl, rfl⟩ (fun S20 h g21 => ?_)
      have h := h g21
      have o_a1 := gr_ob g21 o_a1
      have o_v0 := gr_ob g21 o_v0
      refine r_goto (pc := 33) C (tgt := 64) dX4_placeLine_33 (by decide) ?_
      exact r_sub [1, 0] rfl (T_X4_placeLine_64 C E ht hn h)
  · have h := h.2 c6
    refine r_iconst (pc := 14) C (v := (0 : Int32)) dX4_placeLine_14 (by decide) ?_
    exact r_zret (pc := 15) C E ht dX4_placeLine_15 (by decide) (by decide) (Or.inl rfl) h
def P_X4_placeLine (v0 : Nat) (Q : Int32 → HS → Prop) (S : HS) : Prop := P_X4_placeLine_0 Q v0 S
theorem c_X4_placeLine {l : Launch} {Ee : EE} {S : HS} {v0 : Nat} {Q : Int32 → HS → Prop} (h : P_X4_placeLine v0 Q S) : MI l yX4_placeLine cX4_placeLine 2 (some .boolean) rm_X4_placeLine Ee S [.ref v0] (fun r S => bl r ∧ Q r S) :=
  openI (by decide) (Nat.le_of_ble_eq_true rfl) (fun X C E ht hn hE hl => by subst hE; exact r_sub [0] rfl (T_X4_placeLine_0 C E ht hn h))
def rm_X4_side : Room := { frames := 6, cells := 0, slots := 0, locals := 144 }
def P_X4_side_74 (Q : Int32 → HS → Prop) (v0 : Nat) (S : HS) : Prop := ob S v0 4 ∧ (P_X4_next v0 (fun S1 => Gr S S1 → (Q (1 : Int32) S1)) S)
set_option maxRecDepth 20000 in
set_option maxHeartbeats 4000000 in
theorem T_X4_side_74 {X : CX} {Q : Int32 → HS → Prop} (C : Cx X cX4_side RX4 1 rm_X4_side) (E : ReI X rm_X4_side (fun r S => bl r ∧ Q r S)) (ht : (xh X).sig.returnType = (some .boolean)) (hn : (xh X).name = yX4_side.name) {v0 : Nat} {S : HS} (h : P_X4_side_74 Q v0 S) : WS X 1 0 0 74 [(0, .ref v0)] [] S := by
  refine r_aload_n (pc := 74) C dX4_side_74 0 rfl ?_
  obtain ⟨o_v0, h⟩ := h
  refine r_callVv0 (pc := 75) C (rest := []) (a := v0) o_v0 [] yV_X4_next g_449 (c_X4_next h) dX4_side_75 rfl rfl (Nat.le_of_ble_eq_true rfl) ⟨by decide, by decide⟩ ⟨by decide, by decide⟩ ⟨rfl, rfl⟩ (fun S1 h g2 => ?_)
  have h := h g2
  have o_v0 := gr_ob g2 o_v0
  refine r_iconst (pc := 78) C (v := (1 : Int32)) dX4_side_78 (by decide) ?_
  exact r_zret (pc := 79) C E ht dX4_side_79 (by decide) (by decide) (Or.inr rfl) h
def P_X4_side_0 (Q : Int32 → HS → Prop) (v0 : Nat) (S : HS) : Prop := ob S v0 4 ∧ (P_X4_is v0 6 (fun x3 S1 => Gr S S1 → bl x3 → (((x3 = 0) → (P_X4_is v0 7 (fun x7 S5 => Gr S1 S5 → bl x7 → (((x7 = 0) → (P_X4_is v0 8 (fun x11 S9 => Gr S5 S9 → bl x11 → (((x11 = 0) → (P_X4_is v0 9 (fun x15 S13 => Gr S9 S13 → bl x15 → (((x15 = 0) → (P_X4_fail v0 (1 : Int32) (fun x19 S17 => Gr S13 S17 → bl x19 → (bl x19 ∧ Q x19 S17)) S13)) ∧ ((¬ x15 = 0) → (∀ S20 : HS, S20 = sI S13 v0 9 (3 : Int32) → (P_X4_side_74 Q v0 S20))))) S9)) ∧ ((¬ x11 = 0) → (∀ S21 : HS, S21 = sI S9 v0 9 (2 : Int32) → (P_X4_side_74 Q v0 S21))))) S5)) ∧ ((¬ x7 = 0) → (∀ S22 : HS, S22 = sI S5 v0 9 (1 : Int32) → (P_X4_side_74 Q v0 S22))))) S1)) ∧ ((¬ x3 = 0) → (∀ S23 : HS, S23 = sI S1 v0 9 (0 : Int32) → (P_X4_side_74 Q v0 S23))))) S)
set_option maxRecDepth 20000 in
set_option maxHeartbeats 4000000 in
theorem T_X4_side_0 {X : CX} {Q : Int32 → HS → Prop} (C : Cx X cX4_side RX4 1 rm_X4_side) (E : ReI X rm_X4_side (fun r S => bl r ∧ Q r S)) (ht : (xh X).sig.returnType = (some .boolean)) (hn : (xh X).name = yX4_side.name) {v0 : Nat} {S : HS} (h : P_X4_side_0 Q v0 S) : WS X 1 0 0 0 [(0, .ref v0)] [] S := by
  refine r_aload_n (pc := 0) C dX4_side_0 0 rfl ?_
  refine r_lds (pc := 1) C 6 rfl dX4_side_1 ?_
  obtain ⟨o_v0, h⟩ := h
  refine r_callVi0 (pc := 3) C (rest := []) (a := v0) o_v0 [.ref (eK (xE X) 6)] yV_X4_is g_458 (c_X4_is h) dX4_side_3 rfl rfl (Nat.le_of_ble_eq_true rfl) ⟨by decide, by decide⟩ ⟨by decide, by decide⟩ ⟨rfl, rfl⟩ (fun x3 S1 h g2 => ?_)
  have bx3 := h.1
  have h := h.2 g2 bx3
  have o_v0 := gr_ob g2 o_v0
  refine r_if_eq (pc := 6) C (tgt := 17) dX4_side_6 (by decide) (fun c4 => ?_) (fun c4 => ?_)
  · have h := h.1 c4
    refine r_aload_n (pc := 17) C dX4_side_17 0 rfl ?_
    refine r_lds (pc := 18) C 7 rfl dX4_side_18 ?_
    refine r_callVi0 (pc := 20) C (rest := []) (a := v0) o_v0 [.ref (eK (xE X) 7)] yV_X4_is g_458 (c_X4_is h) dX4_side_20 rfl rfl (Nat.le_of_ble_eq_true rfl) ⟨by decide, by decide⟩ ⟨by decide, by decide⟩ ⟨rfl, rfl⟩ (fun x7 S5 h g6 => ?_)
    have bx7 := h.1
    have h := h.2 g6 bx7
    have o_v0 := gr_ob g6 o_v0
    refine r_if_eq (pc := 23) C (tgt := 34) dX4_side_23 (by decide) (fun c8 => ?_) (fun c8 => ?_)
    · have h := h.1 c8
      refine r_aload_n (pc := 34) C dX4_side_34 0 rfl ?_
      refine r_lds (pc := 35) C 8 rfl dX4_side_35 ?_
      refine r_callVi0 (pc := 37) C (rest := []) (a := v0) o_v0 [.ref (eK (xE X) 8)] yV_X4_is g_458 (c_X4_is h) dX4_side_37 rfl rfl (Nat.le_of_ble_eq_true rfl) ⟨by decide, by decide⟩ ⟨by decide, by decide⟩ ⟨rfl, rfl⟩ (fun x11 S9 h g10 => ?_)
      have bx11 := h.1
      have h := h.2 g10 bx11
      have o_v0 := gr_ob g10 o_v0
      refine r_if_eq (pc := 40) C (tgt := 51) dX4_side_40 (by decide) (fun c12 => ?_) (fun c12 => ?_)
      · have h := h.1 c12
        refine r_aload_n (pc := 51) C dX4_side_51 0 rfl ?_
        refine r_lds (pc := 52) C 9 rfl dX4_side_52 ?_
        refine r_callVi0 (pc := 54) C (rest := []) (a := v0) o_v0 [.ref (eK (xE X) 9)] yV_X4_is g_458 (c_X4_is h) dX4_side_54 rfl rfl (Nat.le_of_ble_eq_true rfl) ⟨by decide, by decide⟩ ⟨by decide, by decide⟩ ⟨rfl, rfl⟩ (fun x15 S13 h g14 => ?_)
        have bx15 := h.1
        have h := h.2 g14 bx15
        have o_v0 := gr_ob g14 o_v0
        refine r_if_eq (pc := 57) C (tgt := 68) dX4_side_57 (by decide) (fun c16 => ?_) (fun c16 => ?_)
        · have h := h.1 c16
          refine r_aload_n (pc := 68) C dX4_side_68 0 rfl ?_
          refine r_iconst (pc := 69) C (v := (1 : Int32)) dX4_side_69 (by decide) ?_
          refine r_callVi0 (pc := 70) C (rest := []) (a := v0) o_v0 [.int (1 : Int32)] yV_X4_fail g_519 (c_X4_fail h) dX4_side_70 rfl rfl (Nat.le_of_ble_eq_true rfl) ⟨by decide, by decide⟩ ⟨by decide, by decide⟩ ⟨rfl, rfl⟩ (fun x19 S17 h g18 => ?_)
          have bx19 := h.1
          have h := h.2 g18 bx19
          have o_v0 := gr_ob g18 o_v0
          exact r_zret (pc := 73) C E ht dX4_side_73 (by decide) (by decide) h.1 h.2
        · have h := h.2 c16
          refine r_aload_n (pc := 60) C dX4_side_60 0 rfl ?_
          refine r_iconst (pc := 61) C (v := (3 : Int32)) dX4_side_61 (by decide) ?_
          refine r_puti (pc := 62) C pfL_X4_147 dX4_side_62 o_v0 ?_
          refine r_heap (fun S20 eS20 => ?_)
          have h := h S20 eS20
          have o_v0 := ob_I eS20 o_v0
          refine r_goto (pc := 65) C (tgt := 74) dX4_side_65 (by decide) ?_
          exact r_sub [0] rfl (T_X4_side_74 C E ht hn h)
      · have h := h.2 c12
        refine r_aload_n (pc := 43) C dX4_side_43 0 rfl ?_
        refine r_iconst (pc := 44) C (v := (2 : Int32)) dX4_side_44 (by decide) ?_
        refine r_puti (pc := 45) C pfL_X4_147 dX4_side_45 o_v0 ?_
        refine r_heap (fun S21 eS21 => ?_)
        have h := h S21 eS21
        have o_v0 := ob_I eS21 o_v0
        refine r_goto (pc := 48) C (tgt := 74) dX4_side_48 (by decide) ?_
        exact r_sub [0] rfl (T_X4_side_74 C E ht hn h)
    · have h := h.2 c8
      refine r_aload_n (pc := 26) C dX4_side_26 0 rfl ?_
      refine r_iconst (pc := 27) C (v := (1 : Int32)) dX4_side_27 (by decide) ?_
      refine r_puti (pc := 28) C pfL_X4_147 dX4_side_28 o_v0 ?_
      refine r_heap (fun S22 eS22 => ?_)
      have h := h S22 eS22
      have o_v0 := ob_I eS22 o_v0
      refine r_goto (pc := 31) C (tgt := 74) dX4_side_31 (by decide) ?_
      exact r_sub [0] rfl (T_X4_side_74 C E ht hn h)
  · have h := h.2 c4
    refine r_aload_n (pc := 9) C dX4_side_9 0 rfl ?_
    refine r_iconst (pc := 10) C (v := (0 : Int32)) dX4_side_10 (by decide) ?_
    refine r_puti (pc := 11) C pfL_X4_147 dX4_side_11 o_v0 ?_
    refine r_heap (fun S23 eS23 => ?_)
    have h := h S23 eS23
    have o_v0 := ob_I eS23 o_v0
    refine r_goto (pc := 14) C (tgt := 74) dX4_side_14 (by decide) ?_
    exact r_sub [0] rfl (T_X4_side_74 C E ht hn h)
def P_X4_side (v0 : Nat) (Q : Int32 → HS → Prop) (S : HS) : Prop := P_X4_side_0 Q v0 S
theorem c_X4_side {l : Launch} {Ee : EE} {S : HS} {v0 : Nat} {Q : Int32 → HS → Prop} (h : P_X4_side v0 Q S) : MI l yX4_side cX4_side 1 (some .boolean) rm_X4_side Ee S [.ref v0] (fun r S => bl r ∧ Q r S) :=
  openI (by decide) (Nat.le_of_ble_eq_true rfl) (fun X C E ht hn hE hl => by subst hE; exact r_sub [0] rfl (T_X4_side_0 C E ht hn h))
def rm_X4_rainLine : Room := { frames := 8, cells := 0, slots := 0, locals := 188 }
def P_X4_rainLine_0 (Q : Int32 → HS → Prop) (v0 : Nat) (S : HS) : Prop := ob S v0 4 ∧ (∃ a1 : Nat, fR S v0 5 = some a1 ∧ (ob S a1 8 ∧ (∃ a2 : Nat, fR S a1 6 = some a2 ∧ (∃ a3 : Nat, fR S v0 5 = some a3 ∧ (ob S a3 8 ∧ (∀ x4 : Int32, x4 = fI S a3 1 → (ob S a2 17 ∧ (vp_in x4 (hN S a2) ∧ ∃ a6 : Nat, fR S a2 x4.toNatClampNeg = some a6 ∧ (P_X4_wordAndWhole v0 3 (0 : Int32) (9 : Int32) (fun x9 S7 => Gr S S7 → bl x9 → (((¬ x9 = 0) → (∀ x11 : Int32, x11 = fI S7 v0 9 → (ob S7 a6 3 ∧ (∀ S12 : HS, S12 = sI S7 a6 0 x11 → (P_X4_wordAndWhole v0 4 (1 : Int32) (9 : Int32) (fun x15 S13 => Gr S12 S13 → bl x15 → (((¬ x15 = 0) → (∀ x17 : Int32, x17 = fI S13 v0 9 → (∀ S18 : HS, S18 = sI S13 a6 1 x17 → (P_X4_word v0 5 (fun x21 S19 => Gr S18 S19 → bl x21 → (((x21 = 0) → (Q (0 : Int32) S19)) ∧ ((¬ x21 = 0) → (P_X4_side v0 (fun x25 S23 => Gr S19 S23 → bl x25 → (((¬ x25 = 0) → (∀ x27 : Int32, x27 = fI S23 v0 9 → (∀ S28 : HS, S28 = sI S23 a6 2 x27 → (P_X4_whole v0 (0 : Int32) (9 : Int32) (fun x31 S29 => Gr S28 S29 → bl x31 → (((¬ x31 = 0) → (∀ x33 : Int32, x33 = fI S29 v0 9 → (∀ S34 : HS, S34 = sI S29 a6 3 x33 → (P_X4_wordAndWhole v0 10 (0 : Int32) (100 : Int32) (fun x37 S35 => Gr S34 S35 → bl x37 → (((¬ x37 = 0) → (∀ x39 : Int32, x39 = fI S35 v0 9 → (∀ S40 : HS, S40 = sI S35 a6 4 x39 → (∃ a41 : Nat, fR S40 v0 5 = some a41 ∧ (ob S40 a41 8 ∧ (∀ x42 : Int32, x42 = fI S40 a41 1 → (∀ x43 : Int32, x43 = x42 + (1 : Int32) → (∀ S44 : HS, S44 = sI S40 a41 1 x43 → (Q (1 : Int32) S44))))))))) ∧ ((x37 = 0) → (Q (0 : Int32) S35)))) S34)))) ∧ ((x31 = 0) → (Q (0 : Int32) S29)))) S28)))) ∧ ((x25 = 0) → (Q (0 : Int32) S23)))) S19)))) S18)))) ∧ ((x15 = 0) → (Q (0 : Int32) S13)))) S12))))) ∧ ((x9 = 0) → (Q (0 : Int32) S7)))) S)))))))))
set_option maxRecDepth 20000 in
set_option maxHeartbeats 4000000 in
theorem T_X4_rainLine_0 {X : CX} {Q : Int32 → HS → Prop} (C : Cx X cX4_rainLine RX4 2 rm_X4_rainLine) (E : ReI X rm_X4_rainLine (fun r S => bl r ∧ Q r S)) (ht : (xh X).sig.returnType = (some .boolean)) (hn : (xh X).name = yX4_rainLine.name) {v0 : Nat} {S : HS} (h : P_X4_rainLine_0 Q v0 S) : WS X 2 0 0 0 [(0, .ref v0)] [] S := by
  refine r_aload_n (pc := 0) C dX4_rainLine_0 0 rfl ?_
  obtain ⟨o_v0, h⟩ := h
  obtain ⟨a1, ea1, h⟩ := h
  refine r_getr (pc := 1) C fL_X4_18 dX4_rainLine_1 o_v0 ea1 ?_
  obtain ⟨o_a1, h⟩ := h
  obtain ⟨a2, ea2, h⟩ := h
  refine r_getr (pc := 4) C fL_X4_188 dX4_rainLine_4 o_a1 ea2 ?_
  refine r_aload_n (pc := 7) C dX4_rainLine_7 0 rfl ?_
  obtain ⟨a3, ea3, h⟩ := h
  refine r_getr (pc := 8) C fL_X4_18 dX4_rainLine_8 o_v0 ea3 ?_
  obtain ⟨o_a3, h⟩ := h
  refine r_geti (pc := 11) C fL_X4_45 dX4_rainLine_11 o_a3 ?_
  refine r_topi (fun x4 ex4 => ?_)
  have h := h x4 ex4
  obtain ⟨o_a2, h⟩ := h
  obtain ⟨i5, a6, ea6, h⟩ := h
  refine r_aald17 (pc := 14) C dX4_rainLine_14 o_a2 i5 ea6 ?_
  refine r_astore_n (pc := 15) C dX4_rainLine_15 rfl (by decide) (lv' := [(1, .ref a6), (0, .ref v0)]) rfl ?_
  refine r_aload_n (pc := 16) C dX4_rainLine_16 1 rfl ?_
  refine r_lds (pc := 17) C 3 rfl dX4_rainLine_17 ?_
  refine r_iconst (pc := 19) C (v := (0 : Int32)) dX4_rainLine_19 (by decide) ?_
  refine r_bipush (pc := 20) C (v := (9 : Int32)) dX4_rainLine_20 (by decide) ?_
  refine r_callVi0 (pc := 22) C (rest := []) (a := v0) o_v0 [.ref (eK (xE X) 3), .int (0 : Int32), .int (9 : Int32)] yV_X4_wordAndWhole g_524 (c_X4_wordAndWhole h) dX4_rainLine_22 rfl rfl (Nat.le_of_ble_eq_true rfl) ⟨by decide, by decide⟩ ⟨by decide, by decide⟩ ⟨rfl, rfl⟩ (fun x9 S7 h g8 => ?_)
  have bx9 := h.1
  have h := h.2 g8 bx9
  have o_a1 := gr_ob g8 o_a1
  have o_a2 := gr_ob g8 o_a2
  have o_a3 := gr_ob g8 o_a3
  have o_v0 := gr_ob g8 o_v0
  refine r_if_ne (pc := 25) C (tgt := 30) dX4_rainLine_25 (by decide) (fun c10 => ?_) (fun c10 => ?_)
  · have h := h.1 c10
    refine r_aload_n (pc := 30) C dX4_rainLine_30 0 rfl ?_
    refine r_aload_n (pc := 31) C dX4_rainLine_31 1 rfl ?_
    refine r_geti (pc := 32) C fL_X4_147 dX4_rainLine_32 o_v0 ?_
    refine r_topi (fun x11 ex11 => ?_)
    have h := h x11 ex11
    obtain ⟨o_a6, h⟩ := h
    refine r_puti (pc := 35) C pfL_X4_193 dX4_rainLine_35 o_a6 ?_
    refine r_heap (fun S12 eS12 => ?_)
    have h := h S12 eS12
    have o_a1 := ob_I eS12 o_a1
    have o_a2 := ob_I eS12 o_a2
    have o_a3 := ob_I eS12 o_a3
    have o_a6 := ob_I eS12 o_a6
    have o_v0 := ob_I eS12 o_v0
    refine r_aload_n (pc := 38) C dX4_rainLine_38 1 rfl ?_
    refine r_lds (pc := 39) C 4 rfl dX4_rainLine_39 ?_
    refine r_iconst (pc := 41) C (v := (1 : Int32)) dX4_rainLine_41 (by decide) ?_
    refine r_bipush (pc := 42) C (v := (9 : Int32)) dX4_rainLine_42 (by decide) ?_
    refine r_callVi0 (pc := 44) C (rest := []) (a := v0) o_v0 [.ref (eK (xE X) 4), .int (1 : Int32), .int (9 : Int32)] yV_X4_wordAndWhole g_524 (c_X4_wordAndWhole h) dX4_rainLine_44 rfl rfl (Nat.le_of_ble_eq_true rfl) ⟨by decide, by decide⟩ ⟨by decide, by decide⟩ ⟨rfl, rfl⟩ (fun x15 S13 h g14 => ?_)
    have bx15 := h.1
    have h := h.2 g14 bx15
    have o_a1 := gr_ob g14 o_a1
    have o_a2 := gr_ob g14 o_a2
    have o_a3 := gr_ob g14 o_a3
    have o_a6 := gr_ob g14 o_a6
    have o_v0 := gr_ob g14 o_v0
    refine r_if_ne (pc := 47) C (tgt := 52) dX4_rainLine_47 (by decide) (fun c16 => ?_) (fun c16 => ?_)
    · have h := h.1 c16
      refine r_aload_n (pc := 52) C dX4_rainLine_52 0 rfl ?_
      refine r_aload_n (pc := 53) C dX4_rainLine_53 1 rfl ?_
      refine r_geti (pc := 54) C fL_X4_147 dX4_rainLine_54 o_v0 ?_
      refine r_topi (fun x17 ex17 => ?_)
      have h := h x17 ex17
      refine r_puti (pc := 57) C pfL_X4_199 dX4_rainLine_57 o_a6 ?_
      refine r_heap (fun S18 eS18 => ?_)
      have h := h S18 eS18
      have o_a1 := ob_I eS18 o_a1
      have o_a2 := ob_I eS18 o_a2
      have o_a3 := ob_I eS18 o_a3
      have o_a6 := ob_I eS18 o_a6
      have o_v0 := ob_I eS18 o_v0
      refine r_aload_n (pc := 60) C dX4_rainLine_60 1 rfl ?_
      refine r_lds (pc := 61) C 5 rfl dX4_rainLine_61 ?_
      refine r_callVi0 (pc := 63) C (rest := []) (a := v0) o_v0 [.ref (eK (xE X) 5)] yV_X4_word g_528 (c_X4_word h) dX4_rainLine_63 rfl rfl (Nat.le_of_ble_eq_true rfl) ⟨by decide, by decide⟩ ⟨by decide, by decide⟩ ⟨rfl, rfl⟩ (fun x21 S19 h g20 => ?_)
      have bx21 := h.1
      have h := h.2 g20 bx21
      have o_a1 := gr_ob g20 o_a1
      have o_a2 := gr_ob g20 o_a2
      have o_a3 := gr_ob g20 o_a3
      have o_a6 := gr_ob g20 o_a6
      have o_v0 := gr_ob g20 o_v0
      refine r_if_eq (pc := 66) C (tgt := 76) dX4_rainLine_66 (by decide) (fun c22 => ?_) (fun c22 => ?_)
      · have h := h.1 c22
        refine r_iconst (pc := 76) C (v := (0 : Int32)) dX4_rainLine_76 (by decide) ?_
        exact r_zret (pc := 77) C E ht dX4_rainLine_77 (by decide) (by decide) (Or.inl rfl) h
      · have h := h.2 c22
        refine r_aload_n (pc := 69) C dX4_rainLine_69 1 rfl ?_
        refine r_callVi0 (pc := 70) C (rest := []) (a := v0) o_v0 [] yV_X4_side g_548 (c_X4_side h) dX4_rainLine_70 rfl rfl (Nat.le_of_ble_eq_true rfl) ⟨by decide, by decide⟩ ⟨by decide, by decide⟩ ⟨rfl, rfl⟩ (fun x25 S23 h g24 => ?_)
        have bx25 := h.1
        have h := h.2 g24 bx25
        have o_a1 := gr_ob g24 o_a1
        have o_a2 := gr_ob g24 o_a2
        have o_a3 := gr_ob g24 o_a3
        have o_a6 := gr_ob g24 o_a6
        have o_v0 := gr_ob g24 o_v0
        refine r_if_ne (pc := 73) C (tgt := 78) dX4_rainLine_73 (by decide) (fun c26 => ?_) (fun c26 => ?_)
        · have h := h.1 c26
          refine r_aload_n (pc := 78) C dX4_rainLine_78 0 rfl ?_
          refine r_aload_n (pc := 79) C dX4_rainLine_79 1 rfl ?_
          refine r_geti (pc := 80) C fL_X4_147 dX4_rainLine_80 o_v0 ?_
          refine r_topi (fun x27 ex27 => ?_)
          have h := h x27 ex27
          refine r_puti (pc := 83) C pfL_X4_206 dX4_rainLine_83 o_a6 ?_
          refine r_heap (fun S28 eS28 => ?_)
          have h := h S28 eS28
          have o_a1 := ob_I eS28 o_a1
          have o_a2 := ob_I eS28 o_a2
          have o_a3 := ob_I eS28 o_a3
          have o_a6 := ob_I eS28 o_a6
          have o_v0 := ob_I eS28 o_v0
          refine r_aload_n (pc := 86) C dX4_rainLine_86 1 rfl ?_
          refine r_iconst (pc := 87) C (v := (0 : Int32)) dX4_rainLine_87 (by decide) ?_
          refine r_bipush (pc := 88) C (v := (9 : Int32)) dX4_rainLine_88 (by decide) ?_
          refine r_callVi0 (pc := 90) C (rest := []) (a := v0) o_v0 [.int (0 : Int32), .int (9 : Int32)] yV_X4_whole g_532 (c_X4_whole h) dX4_rainLine_90 rfl rfl (Nat.le_of_ble_eq_true rfl) ⟨by decide, by decide⟩ ⟨by decide, by decide⟩ ⟨rfl, rfl⟩ (fun x31 S29 h g30 => ?_)
          have bx31 := h.1
          have h := h.2 g30 bx31
          have o_a1 := gr_ob g30 o_a1
          have o_a2 := gr_ob g30 o_a2
          have o_a3 := gr_ob g30 o_a3
          have o_a6 := gr_ob g30 o_a6
          have o_v0 := gr_ob g30 o_v0
          refine r_if_ne (pc := 93) C (tgt := 98) dX4_rainLine_93 (by decide) (fun c32 => ?_) (fun c32 => ?_)
          · have h := h.1 c32
            refine r_aload_n (pc := 98) C dX4_rainLine_98 0 rfl ?_
            refine r_aload_n (pc := 99) C dX4_rainLine_99 1 rfl ?_
            refine r_geti (pc := 100) C fL_X4_147 dX4_rainLine_100 o_v0 ?_
            refine r_topi (fun x33 ex33 => ?_)
            have h := h x33 ex33
            refine r_puti (pc := 103) C pfL_X4_209 dX4_rainLine_103 o_a6 ?_
            refine r_heap (fun S34 eS34 => ?_)
            have h := h S34 eS34
            have o_a1 := ob_I eS34 o_a1
            have o_a2 := ob_I eS34 o_a2
            have o_a3 := ob_I eS34 o_a3
            have o_a6 := ob_I eS34 o_a6
            have o_v0 := ob_I eS34 o_v0
            refine r_aload_n (pc := 106) C dX4_rainLine_106 1 rfl ?_
            refine r_lds (pc := 107) C 10 rfl dX4_rainLine_107 ?_
            refine r_iconst (pc := 109) C (v := (0 : Int32)) dX4_rainLine_109 (by decide) ?_
            refine r_bipush (pc := 110) C (v := (100 : Int32)) dX4_rainLine_110 (by decide) ?_
            refine r_callVi0 (pc := 112) C (rest := []) (a := v0) o_v0 [.ref (eK (xE X) 10), .int (0 : Int32), .int (100 : Int32)] yV_X4_wordAndWhole g_524 (c_X4_wordAndWhole h) dX4_rainLine_112 rfl rfl (Nat.le_of_ble_eq_true rfl) ⟨by decide, by decide⟩ ⟨by decide, by decide⟩ ⟨rfl, rfl⟩ (fun x37 S35 h g36 => ?_)
            have bx37 := h.1
            have h := h.2 g36 bx37
            have o_a1 := gr_ob g36 o_a1
            have o_a2 := gr_ob g36 o_a2
            have o_a3 := gr_ob g36 o_a3
            have o_a6 := gr_ob g36 o_a6
            have o_v0 := gr_ob g36 o_v0
            refine r_if_ne (pc := 115) C (tgt := 120) dX4_rainLine_115 (by decide) (fun c38 => ?_) (fun c38 => ?_)
            · have h := h.1 c38
              refine r_aload_n (pc := 120) C dX4_rainLine_120 0 rfl ?_
              refine r_aload_n (pc := 121) C dX4_rainLine_121 1 rfl ?_
              refine r_geti (pc := 122) C fL_X4_147 dX4_rainLine_122 o_v0 ?_
              refine r_topi (fun x39 ex39 => ?_)
              have h := h x39 ex39
              refine r_puti (pc := 125) C pfL_X4_213 dX4_rainLine_125 o_a6 ?_
              refine r_heap (fun S40 eS40 => ?_)
              have h := h S40 eS40
              have o_a1 := ob_I eS40 o_a1
              have o_a2 := ob_I eS40 o_a2
              have o_a3 := ob_I eS40 o_a3
              have o_a6 := ob_I eS40 o_a6
              have o_v0 := ob_I eS40 o_v0
              refine r_aload_n (pc := 128) C dX4_rainLine_128 1 rfl ?_
              obtain ⟨a41, ea41, h⟩ := h
              refine r_getr (pc := 129) C fL_X4_18 dX4_rainLine_129 o_v0 ea41 ?_
              refine r_dup (pc := 132) C dX4_rainLine_132 rfl ?_
              obtain ⟨o_a41, h⟩ := h
              refine r_geti (pc := 133) C fL_X4_45 dX4_rainLine_133 o_a41 ?_
              refine r_topi (fun x42 ex42 => ?_)
              have h := h x42 ex42
              refine r_iconst (pc := 136) C (v := (1 : Int32)) dX4_rainLine_136 (by decide) ?_
              refine r_iadd (pc := 137) C dX4_rainLine_137 ?_
              refine r_topi (fun x43 ex43 => ?_)
              have h := h x43 ex43
              refine r_puti (pc := 138) C pfL_X4_45 dX4_rainLine_138 o_a41 ?_
              refine r_heap (fun S44 eS44 => ?_)
              have h := h S44 eS44
              have o_a1 := ob_I eS44 o_a1
              have o_a2 := ob_I eS44 o_a2
              have o_a3 := ob_I eS44 o_a3
              have o_a41 := ob_I eS44 o_a41
              have o_a6 := ob_I eS44 o_a6
              have o_v0 := ob_I eS44 o_v0
              refine r_iconst (pc := 141) C (v := (1 : Int32)) dX4_rainLine_141 (by decide) ?_
              exact r_zret (pc := 142) C E ht dX4_rainLine_142 (by decide) (by decide) (Or.inr rfl) h
            · have h := h.2 c38
              refine r_iconst (pc := 118) C (v := (0 : Int32)) dX4_rainLine_118 (by decide) ?_
              exact r_zret (pc := 119) C E ht dX4_rainLine_119 (by decide) (by decide) (Or.inl rfl) h
          · have h := h.2 c32
            refine r_iconst (pc := 96) C (v := (0 : Int32)) dX4_rainLine_96 (by decide) ?_
            exact r_zret (pc := 97) C E ht dX4_rainLine_97 (by decide) (by decide) (Or.inl rfl) h
        · have h := h.2 c26
          refine r_iconst (pc := 76) C (v := (0 : Int32)) dX4_rainLine_76 (by decide) ?_
          exact r_zret (pc := 77) C E ht dX4_rainLine_77 (by decide) (by decide) (Or.inl rfl) h
    · have h := h.2 c16
      refine r_iconst (pc := 50) C (v := (0 : Int32)) dX4_rainLine_50 (by decide) ?_
      exact r_zret (pc := 51) C E ht dX4_rainLine_51 (by decide) (by decide) (Or.inl rfl) h
  · have h := h.2 c10
    refine r_iconst (pc := 28) C (v := (0 : Int32)) dX4_rainLine_28 (by decide) ?_
    exact r_zret (pc := 29) C E ht dX4_rainLine_29 (by decide) (by decide) (Or.inl rfl) h
def P_X4_rainLine (v0 : Nat) (Q : Int32 → HS → Prop) (S : HS) : Prop := P_X4_rainLine_0 Q v0 S
theorem c_X4_rainLine {l : Launch} {Ee : EE} {S : HS} {v0 : Nat} {Q : Int32 → HS → Prop} (h : P_X4_rainLine v0 Q S) : MI l yX4_rainLine cX4_rainLine 2 (some .boolean) rm_X4_rainLine Ee S [.ref v0] (fun r S => bl r ∧ Q r S) :=
  openI (by decide) (Nat.le_of_ble_eq_true rfl) (fun X C E ht hn hE hl => by subst hE; exact r_sub [0] rfl (T_X4_rainLine_0 C E ht hn h))
def rm_X4_roadLine : Room := { frames := 8, cells := 0, slots := 0, locals := 188 }
def P_X4_roadLine_130 (Q : Int32 → HS → Prop) (v0 : Nat) (S : HS) : Prop := ob S v0 4 ∧ (∃ a1 : Nat, fR S v0 5 = some a1 ∧ (ob S a1 8 ∧ (∀ x2 : Int32, x2 = fI S a1 3 → (∀ x3 : Int32, x3 = x2 + (1 : Int32) → (∀ S4 : HS, S4 = sI S a1 3 x3 → (Q (1 : Int32) S4))))))
set_option maxRecDepth 20000 in
set_option maxHeartbeats 4000000 in
theorem T_X4_roadLine_130 {X : CX} {Q : Int32 → HS → Prop} (C : Cx X cX4_roadLine RX4 2 rm_X4_roadLine) (E : ReI X rm_X4_roadLine (fun r S => bl r ∧ Q r S)) (ht : (xh X).sig.returnType = (some .boolean)) (hn : (xh X).name = yX4_roadLine.name) {v0 : Nat} {S : HS} (h : P_X4_roadLine_130 Q v0 S) : WS X 2 0 0 130 [(0, .ref v0)] [] S := by
  refine r_aload_n (pc := 130) C dX4_roadLine_130 0 rfl ?_
  obtain ⟨o_v0, h⟩ := h
  obtain ⟨a1, ea1, h⟩ := h
  refine r_getr (pc := 131) C fL_X4_18 dX4_roadLine_131 o_v0 ea1 ?_
  refine r_dup (pc := 134) C dX4_roadLine_134 rfl ?_
  obtain ⟨o_a1, h⟩ := h
  refine r_geti (pc := 135) C fL_X4_66 dX4_roadLine_135 o_a1 ?_
  refine r_topi (fun x2 ex2 => ?_)
  have h := h x2 ex2
  refine r_iconst (pc := 138) C (v := (1 : Int32)) dX4_roadLine_138 (by decide) ?_
  refine r_iadd (pc := 139) C dX4_roadLine_139 ?_
  refine r_topi (fun x3 ex3 => ?_)
  have h := h x3 ex3
  refine r_puti (pc := 140) C pfL_X4_66 dX4_roadLine_140 o_a1 ?_
  refine r_heap (fun S4 eS4 => ?_)
  have h := h S4 eS4
  have o_a1 := ob_I eS4 o_a1
  have o_v0 := ob_I eS4 o_v0
  refine r_iconst (pc := 143) C (v := (1 : Int32)) dX4_roadLine_143 (by decide) ?_
  exact r_zret (pc := 144) C E ht dX4_roadLine_144 (by decide) (by decide) (Or.inr rfl) h
def P_X4_roadLine_0 (Q : Int32 → HS → Prop) (v0 : Nat) (S : HS) : Prop := ob S v0 4 ∧ (∃ a1 : Nat, fR S v0 5 = some a1 ∧ (ob S a1 8 ∧ (∃ a2 : Nat, fR S a1 8 = some a2 ∧ (∃ a3 : Nat, fR S v0 5 = some a3 ∧ (ob S a3 8 ∧ (∀ x4 : Int32, x4 = fI S a3 3 → (ob S a2 18 ∧ (vp_in x4 (hN S a2) ∧ ∃ a6 : Nat, fR S a2 x4.toNatClampNeg = some a6 ∧ (P_X4_placeBut v0 (-1 : Int32) (fun x9 S7 => Gr S S7 → bl x9 → (((¬ x9 = 0) → (∀ x11 : Int32, x11 = fI S7 v0 9 → (ob S7 a6 5 ∧ (∀ S12 : HS, S12 = sI S7 a6 0 x11 → (P_X4_side v0 (fun x15 S13 => Gr S12 S13 → bl x15 → (((¬ x15 = 0) → (∀ x17 : Int32, x17 = fI S13 v0 9 → (∀ S18 : HS, S18 = sI S13 a6 2 x17 → (P_X4_whole v0 (1 : Int32) (60 : Int32) (fun x21 S19 => Gr S18 S19 → bl x21 → (((¬ x21 = 0) → (∀ x23 : Int32, x23 = fI S19 v0 9 → (∀ S24 : HS, S24 = sI S19 a6 3 x23 → (∀ x25 : Int32, x25 = fI S24 a6 0 → (P_X4_placeBut v0 x25 (fun x28 S26 => Gr S24 S26 → bl x28 → (((¬ x28 = 0) → (∀ x30 : Int32, x30 = fI S26 v0 9 → (∀ S31 : HS, S31 = sI S26 a6 1 x30 → (∀ S32 : HS, S32 = sI S31 a6 4 (0 : Int32) → (P_X4_is v0 17 (fun x35 S33 => Gr S32 S33 → bl x35 → (((x35 = 0) → (P_X4_roadLine_130 Q v0 S33)) ∧ ((¬ x35 = 0) → (∀ x37 : Int32, x37 = fI S33 a6 3 → (P_X4_wordAndWhole v0 17 (0 : Int32) x37 (fun x40 S38 => Gr S33 S38 → bl x40 → (((¬ x40 = 0) → (∀ x42 : Int32, x42 = fI S38 v0 9 → (∀ S43 : HS, S43 = sI S38 a6 4 x42 → (P_X4_roadLine_130 Q v0 S43)))) ∧ ((x40 = 0) → (Q (0 : Int32) S38)))) S33))))) S32))))) ∧ ((x28 = 0) → (Q (0 : Int32) S26)))) S24))))) ∧ ((x21 = 0) → (Q (0 : Int32) S19)))) S18)))) ∧ ((x15 = 0) → (Q (0 : Int32) S13)))) S12))))) ∧ ((x9 = 0) → (Q (0 : Int32) S7)))) S)))))))))
set_option maxRecDepth 20000 in
set_option maxHeartbeats 4000000 in
theorem T_X4_roadLine_0 {X : CX} {Q : Int32 → HS → Prop} (C : Cx X cX4_roadLine RX4 2 rm_X4_roadLine) (E : ReI X rm_X4_roadLine (fun r S => bl r ∧ Q r S)) (ht : (xh X).sig.returnType = (some .boolean)) (hn : (xh X).name = yX4_roadLine.name) {v0 : Nat} {S : HS} (h : P_X4_roadLine_0 Q v0 S) : WS X 2 0 0 0 [(0, .ref v0)] [] S := by
  refine r_aload_n (pc := 0) C dX4_roadLine_0 0 rfl ?_
  obtain ⟨o_v0, h⟩ := h
  obtain ⟨a1, ea1, h⟩ := h
  refine r_getr (pc := 1) C fL_X4_18 dX4_roadLine_1 o_v0 ea1 ?_
  obtain ⟨o_a1, h⟩ := h
  obtain ⟨a2, ea2, h⟩ := h
  refine r_getr (pc := 4) C fL_X4_221 dX4_roadLine_4 o_a1 ea2 ?_
  refine r_aload_n (pc := 7) C dX4_roadLine_7 0 rfl ?_
  obtain ⟨a3, ea3, h⟩ := h
  refine r_getr (pc := 8) C fL_X4_18 dX4_roadLine_8 o_v0 ea3 ?_
  obtain ⟨o_a3, h⟩ := h
  refine r_geti (pc := 11) C fL_X4_66 dX4_roadLine_11 o_a3 ?_
  refine r_topi (fun x4 ex4 => ?_)
  have h := h x4 ex4
  obtain ⟨o_a2, h⟩ := h
  obtain ⟨i5, a6, ea6, h⟩ := h
  refine r_aald18 (pc := 14) C dX4_roadLine_14 o_a2 i5 ea6 ?_
  refine r_astore_n (pc := 15) C dX4_roadLine_15 rfl (by decide) (lv' := [(1, .ref a6), (0, .ref v0)]) rfl ?_
  refine r_aload_n (pc := 16) C dX4_roadLine_16 1 rfl ?_
  refine r_iconst (pc := 17) C (v := (-1 : Int32)) dX4_roadLine_17 (by decide) ?_
  refine r_callVi0 (pc := 18) C (rest := []) (a := v0) o_v0 [.int (-1 : Int32)] yV_X4_placeBut g_584 (c_X4_placeBut h) dX4_roadLine_18 rfl rfl (Nat.le_of_ble_eq_true rfl) ⟨by decide, by decide⟩ ⟨by decide, by decide⟩ ⟨rfl, rfl⟩ (fun x9 S7 h g8 => ?_)
  have bx9 := h.1
  have h := h.2 g8 bx9
  have o_a1 := gr_ob g8 o_a1
  have o_a2 := gr_ob g8 o_a2
  have o_a3 := gr_ob g8 o_a3
  have o_v0 := gr_ob g8 o_v0
  refine r_if_ne (pc := 21) C (tgt := 26) dX4_roadLine_21 (by decide) (fun c10 => ?_) (fun c10 => ?_)
  · have h := h.1 c10
    refine r_aload_n (pc := 26) C dX4_roadLine_26 0 rfl ?_
    refine r_aload_n (pc := 27) C dX4_roadLine_27 1 rfl ?_
    refine r_geti (pc := 28) C fL_X4_147 dX4_roadLine_28 o_v0 ?_
    refine r_topi (fun x11 ex11 => ?_)
    have h := h x11 ex11
    obtain ⟨o_a6, h⟩ := h
    refine r_puti (pc := 31) C pfL_X4_227 dX4_roadLine_31 o_a6 ?_
    refine r_heap (fun S12 eS12 => ?_)
    have h := h S12 eS12
    have o_a1 := ob_I eS12 o_a1
    have o_a2 := ob_I eS12 o_a2
    have o_a3 := ob_I eS12 o_a3
    have o_a6 := ob_I eS12 o_a6
    have o_v0 := ob_I eS12 o_v0
    refine r_aload_n (pc := 34) C dX4_roadLine_34 1 rfl ?_
    refine r_callVi0 (pc := 35) C (rest := []) (a := v0) o_v0 [] yV_X4_side g_548 (c_X4_side h) dX4_roadLine_35 rfl rfl (Nat.le_of_ble_eq_true rfl) ⟨by decide, by decide⟩ ⟨by decide, by decide⟩ ⟨rfl, rfl⟩ (fun x15 S13 h g14 => ?_)
    have bx15 := h.1
    have h := h.2 g14 bx15
    have o_a1 := gr_ob g14 o_a1
    have o_a2 := gr_ob g14 o_a2
    have o_a3 := gr_ob g14 o_a3
    have o_a6 := gr_ob g14 o_a6
    have o_v0 := gr_ob g14 o_v0
    refine r_if_ne (pc := 38) C (tgt := 43) dX4_roadLine_38 (by decide) (fun c16 => ?_) (fun c16 => ?_)
    · have h := h.1 c16
      refine r_aload_n (pc := 43) C dX4_roadLine_43 0 rfl ?_
      refine r_aload_n (pc := 44) C dX4_roadLine_44 1 rfl ?_
      refine r_geti (pc := 45) C fL_X4_147 dX4_roadLine_45 o_v0 ?_
      refine r_topi (fun x17 ex17 => ?_)
      have h := h x17 ex17
      refine r_puti (pc := 48) C pfL_X4_232 dX4_roadLine_48 o_a6 ?_
      refine r_heap (fun S18 eS18 => ?_)
      have h := h S18 eS18
      have o_a1 := ob_I eS18 o_a1
      have o_a2 := ob_I eS18 o_a2
      have o_a3 := ob_I eS18 o_a3
      have o_a6 := ob_I eS18 o_a6
      have o_v0 := ob_I eS18 o_v0
      refine r_aload_n (pc := 51) C dX4_roadLine_51 1 rfl ?_
      refine r_iconst (pc := 52) C (v := (1 : Int32)) dX4_roadLine_52 (by decide) ?_
      refine r_bipush (pc := 53) C (v := (60 : Int32)) dX4_roadLine_53 (by decide) ?_
      refine r_callVi0 (pc := 55) C (rest := []) (a := v0) o_v0 [.int (1 : Int32), .int (60 : Int32)] yV_X4_whole g_532 (c_X4_whole h) dX4_roadLine_55 rfl rfl (Nat.le_of_ble_eq_true rfl) ⟨by decide, by decide⟩ ⟨by decide, by decide⟩ ⟨rfl, rfl⟩ (fun x21 S19 h g20 => ?_)
      have bx21 := h.1
      have h := h.2 g20 bx21
      have o_a1 := gr_ob g20 o_a1
      have o_a2 := gr_ob g20 o_a2
      have o_a3 := gr_ob g20 o_a3
      have o_a6 := gr_ob g20 o_a6
      have o_v0 := gr_ob g20 o_v0
      refine r_if_ne (pc := 58) C (tgt := 63) dX4_roadLine_58 (by decide) (fun c22 => ?_) (fun c22 => ?_)
      · have h := h.1 c22
        refine r_aload_n (pc := 63) C dX4_roadLine_63 0 rfl ?_
        refine r_aload_n (pc := 64) C dX4_roadLine_64 1 rfl ?_
        refine r_geti (pc := 65) C fL_X4_147 dX4_roadLine_65 o_v0 ?_
        refine r_topi (fun x23 ex23 => ?_)
        have h := h x23 ex23
        refine r_puti (pc := 68) C pfL_X4_234 dX4_roadLine_68 o_a6 ?_
        refine r_heap (fun S24 eS24 => ?_)
        have h := h S24 eS24
        have o_a1 := ob_I eS24 o_a1
        have o_a2 := ob_I eS24 o_a2
        have o_a3 := ob_I eS24 o_a3
        have o_a6 := ob_I eS24 o_a6
        have o_v0 := ob_I eS24 o_v0
        refine r_aload_n (pc := 71) C dX4_roadLine_71 1 rfl ?_
        refine r_aload_n (pc := 72) C dX4_roadLine_72 0 rfl ?_
        refine r_geti (pc := 73) C fL_X4_227 dX4_roadLine_73 o_a6 ?_
        refine r_topi (fun x25 ex25 => ?_)
        have h := h x25 ex25
        refine r_callVi0 (pc := 76) C (rest := []) (a := v0) o_v0 [.int x25] yV_X4_placeBut g_584 (c_X4_placeBut h) dX4_roadLine_76 rfl rfl (Nat.le_of_ble_eq_true rfl) ⟨by decide, by decide⟩ ⟨by decide, by decide⟩ ⟨rfl, rfl⟩ (fun x28 S26 h g27 => ?_)
        have bx28 := h.1
        have h := h.2 g27 bx28
        have o_a1 := gr_ob g27 o_a1
        have o_a2 := gr_ob g27 o_a2
        have o_a3 := gr_ob g27 o_a3
        have o_a6 := gr_ob g27 o_a6
        have o_v0 := gr_ob g27 o_v0
        refine r_if_ne (pc := 79) C (tgt := 84) dX4_roadLine_79 (by decide) (fun c29 => ?_) (fun c29 => ?_)
        · have h := h.1 c29
          refine r_aload_n (pc := 84) C dX4_roadLine_84 0 rfl ?_
          refine r_aload_n (pc := 85) C dX4_roadLine_85 1 rfl ?_
          refine r_geti (pc := 86) C fL_X4_147 dX4_roadLine_86 o_v0 ?_
          refine r_topi (fun x30 ex30 => ?_)
          have h := h x30 ex30
          refine r_puti (pc := 89) C pfL_X4_235 dX4_roadLine_89 o_a6 ?_
          refine r_heap (fun S31 eS31 => ?_)
          have h := h S31 eS31
          have o_a1 := ob_I eS31 o_a1
          have o_a2 := ob_I eS31 o_a2
          have o_a3 := ob_I eS31 o_a3
          have o_a6 := ob_I eS31 o_a6
          have o_v0 := ob_I eS31 o_v0
          refine r_aload_n (pc := 92) C dX4_roadLine_92 0 rfl ?_
          refine r_iconst (pc := 93) C (v := (0 : Int32)) dX4_roadLine_93 (by decide) ?_
          refine r_puti (pc := 94) C pfL_X4_238 dX4_roadLine_94 o_a6 ?_
          refine r_heap (fun S32 eS32 => ?_)
          have h := h S32 eS32
          have o_a1 := ob_I eS32 o_a1
          have o_a2 := ob_I eS32 o_a2
          have o_a3 := ob_I eS32 o_a3
          have o_a6 := ob_I eS32 o_a6
          have o_v0 := ob_I eS32 o_v0
          refine r_aload_n (pc := 97) C dX4_roadLine_97 1 rfl ?_
          refine r_lds (pc := 98) C 17 rfl dX4_roadLine_98 ?_
          refine r_callVi0 (pc := 100) C (rest := []) (a := v0) o_v0 [.ref (eK (xE X) 17)] yV_X4_is g_458 (c_X4_is h) dX4_roadLine_100 rfl rfl (Nat.le_of_ble_eq_true rfl) ⟨by decide, by decide⟩ ⟨by decide, by decide⟩ ⟨rfl, rfl⟩ (fun x35 S33 h g34 => ?_)
          have bx35 := h.1
          have h := h.2 g34 bx35
          have o_a1 := gr_ob g34 o_a1
          have o_a2 := gr_ob g34 o_a2
          have o_a3 := gr_ob g34 o_a3
          have o_a6 := gr_ob g34 o_a6
          have o_v0 := gr_ob g34 o_v0
          refine r_if_eq (pc := 103) C (tgt := 130) dX4_roadLine_103 (by decide) (fun c36 => ?_) (fun c36 => ?_)
          · have h := h.1 c36
            exact r_sub [1] rfl (T_X4_roadLine_130 C E ht hn h)
          · have h := h.2 c36
            refine r_aload_n (pc := 106) C dX4_roadLine_106 1 rfl ?_
            refine r_lds (pc := 107) C 17 rfl dX4_roadLine_107 ?_
            refine r_iconst (pc := 109) C (v := (0 : Int32)) dX4_roadLine_109 (by decide) ?_
            refine r_aload_n (pc := 110) C dX4_roadLine_110 0 rfl ?_
            refine r_geti (pc := 111) C fL_X4_234 dX4_roadLine_111 o_a6 ?_
            refine r_topi (fun x37 ex37 => ?_)
            have h := h x37 ex37
            refine r_callVi0 (pc := 114) C (rest := []) (a := v0) o_v0 [.ref (eK (xE X) 17), .int (0 : Int32), .int x37] yV_X4_wordAndWhole g_524 (c_X4_wordAndWhole h) dX4_roadLine_114 rfl rfl (Nat.le_of_ble_eq_true rfl) ⟨by decide, by decide⟩ ⟨by decide, by decide⟩ ⟨rfl, rfl⟩ (fun x40 S38 h g39 => ?_)
            have bx40 := h.1
            have h := h.2 g39 bx40
            have o_a1 := gr_ob g39 o_a1
            have o_a2 := gr_ob g39 o_a2
            have o_a3 := gr_ob g39 o_a3
            have o_a6 := gr_ob g39 o_a6
            have o_v0 := gr_ob g39 o_v0
            refine r_if_ne (pc := 117) C (tgt := 122) dX4_roadLine_117 (by decide) (fun c41 => ?_) (fun c41 => ?_)
            · have h := h.1 c41
              refine r_aload_n (pc := 122) C dX4_roadLine_122 0 rfl ?_
              refine r_aload_n (pc := 123) C dX4_roadLine_123 1 rfl ?_
              refine r_geti (pc := 124) C fL_X4_147 dX4_roadLine_124 o_v0 ?_
              refine r_topi (fun x42 ex42 => ?_)
              have h := h x42 ex42
              refine r_puti (pc := 127) C pfL_X4_238 dX4_roadLine_127 o_a6 ?_
              refine r_heap (fun S43 eS43 => ?_)
              have h := h S43 eS43
              have o_a1 := ob_I eS43 o_a1
              have o_a2 := ob_I eS43 o_a2
              have o_a3 := ob_I eS43 o_a3
              have o_a6 := ob_I eS43 o_a6
              have o_v0 := ob_I eS43 o_v0
              exact r_sub [1] rfl (T_X4_roadLine_130 C E ht hn h)
            · have h := h.2 c41
              refine r_iconst (pc := 120) C (v := (0 : Int32)) dX4_roadLine_120 (by decide) ?_
              exact r_zret (pc := 121) C E ht dX4_roadLine_121 (by decide) (by decide) (Or.inl rfl) h
        · have h := h.2 c29
          refine r_iconst (pc := 82) C (v := (0 : Int32)) dX4_roadLine_82 (by decide) ?_
          exact r_zret (pc := 83) C E ht dX4_roadLine_83 (by decide) (by decide) (Or.inl rfl) h
      · have h := h.2 c22
        refine r_iconst (pc := 61) C (v := (0 : Int32)) dX4_roadLine_61 (by decide) ?_
        exact r_zret (pc := 62) C E ht dX4_roadLine_62 (by decide) (by decide) (Or.inl rfl) h
    · have h := h.2 c16
      refine r_iconst (pc := 41) C (v := (0 : Int32)) dX4_roadLine_41 (by decide) ?_
      exact r_zret (pc := 42) C E ht dX4_roadLine_42 (by decide) (by decide) (Or.inl rfl) h
  · have h := h.2 c10
    refine r_iconst (pc := 24) C (v := (0 : Int32)) dX4_roadLine_24 (by decide) ?_
    exact r_zret (pc := 25) C E ht dX4_roadLine_25 (by decide) (by decide) (Or.inl rfl) h
def P_X4_roadLine (v0 : Nat) (Q : Int32 → HS → Prop) (S : HS) : Prop := P_X4_roadLine_0 Q v0 S
theorem c_X4_roadLine {l : Launch} {Ee : EE} {S : HS} {v0 : Nat} {Q : Int32 → HS → Prop} (h : P_X4_roadLine v0 Q S) : MI l yX4_roadLine cX4_roadLine 2 (some .boolean) rm_X4_roadLine Ee S [.ref v0] (fun r S => bl r ∧ Q r S) :=
  openI (by decide) (Nat.le_of_ble_eq_true rfl) (fun X C E ht hn hE hl => by subst hE; exact r_sub [0] rfl (T_X4_roadLine_0 C E ht hn h))
end
