def rm_X4_sign : Room := { frames := 2, cells := 0, slots := 0, locals := 46 }
def P_X4_sign_0 (Q : Int32 → HS → Prop) (v0 : Nat) (v1 : Int32) (S : HS) : Prop := ob S v0 4 ∧ (∀ x1 : Int32, x1 = fI S v0 6 → (((x1 = v1) → (P_X4_next v0 (fun S3 => Gr S S3 → (Q (1 : Int32) S3)) S)) ∧ ((¬ x1 = v1) → (P_X4_fail v0 (1 : Int32) (fun x8 S6 => Gr S S6 → bl x8 → (bl x8 ∧ Q x8 S6)) S))))
set_option maxRecDepth 20000 in
set_option maxHeartbeats 4000000 in
theorem T_X4_sign_0 {X : CX} {Q : Int32 → HS → Prop} (C : Cx X cX4_sign RX4 2 rm_X4_sign) (E : ReI X rm_X4_sign (fun r S => bl r ∧ Q r S)) (ht : (xh X).sig.returnType = (some .boolean)) (hn : (xh X).name = yX4_sign.name) {v0 : Nat} {v1 : Int32} {S : HS} (h : P_X4_sign_0 Q v0 v1 S) : WS X 2 0 0 0 [(0, .ref v0), (1, .int v1)] [] S := by
  refine r_aload_n (pc := 0) C dX4_sign_0 0 rfl ?_
  obtain ⟨o_v0, h⟩ := h
  refine r_geti (pc := 1) C fL_X4_92 dX4_sign_1 o_v0 ?_
  refine r_topi (fun x1 ex1 => ?_)
  have h := h x1 ex1
  refine r_iload_n (pc := 4) C dX4_sign_4 1 rfl ?_
  refine r_icmp_eq (pc := 5) C (tgt := 14) dX4_sign_5 (by decide) (fun c2 => ?_) (fun c2 => ?_)
  · have h := h.1 c2
    refine r_aload_n (pc := 14) C dX4_sign_14 0 rfl ?_
    refine r_callVv0 (pc := 15) C (rest := []) (a := v0) o_v0 [] yV_X4_next g_449 (c_X4_next h) dX4_sign_15 rfl rfl (Nat.le_of_ble_eq_true rfl) ⟨by decide, by decide⟩ ⟨by decide, by decide⟩ ⟨rfl, rfl⟩ (fun S3 h g4 => ?_)
    have h := h g4
    have o_v0 := gr_ob g4 o_v0
    refine r_iconst (pc := 18) C (v := (1 : Int32)) dX4_sign_18 (by decide) ?_
    exact r_zret (pc := 19) C E ht dX4_sign_19 (by decide) (by decide) (Or.inr rfl) h
  · have h := h.2 c2
    refine r_aload_n (pc := 8) C dX4_sign_8 0 rfl ?_
    refine r_iconst (pc := 9) C (v := (1 : Int32)) dX4_sign_9 (by decide) ?_
    refine r_callVi0 (pc := 10) C (rest := []) (a := v0) o_v0 [.int (1 : Int32)] yV_X4_fail g_519 (c_X4_fail h) dX4_sign_10 rfl rfl (Nat.le_of_ble_eq_true rfl) ⟨by decide, by decide⟩ ⟨by decide, by decide⟩ ⟨rfl, rfl⟩ (fun x8 S6 h g7 => ?_)
    have bx8 := h.1
    have h := h.2 g7 bx8
    have o_v0 := gr_ob g7 o_v0
    exact r_zret (pc := 13) C E ht dX4_sign_13 (by decide) (by decide) h.1 h.2
def P_X4_sign (v0 : Nat) (v1 : Int32) (Q : Int32 → HS → Prop) (S : HS) : Prop := P_X4_sign_0 Q v0 v1 S
theorem c_X4_sign {l : Launch} {Ee : EE} {S : HS} {v0 : Nat} {v1 : Int32} {Q : Int32 → HS → Prop} (h : P_X4_sign v0 v1 Q S) : MI l yX4_sign cX4_sign 2 (some .boolean) rm_X4_sign Ee S [.ref v0, .int v1] (fun r S => bl r ∧ Q r S) :=
  openI (by decide) (Nat.le_of_ble_eq_true rfl) (fun X C E ht hn hE hl => by subst hE; exact r_sub [0, 1] rfl (T_X4_sign_0 C E ht hn h))
def rm_X4_someWalker : Room := { frames := 7, cells := 0, slots := 0, locals := 165 }
def P_X4_someWalker_0 (Q : Int32 → HS → Prop) (v0 : Nat) (S : HS) : Prop := ob S v0 4 ∧ (P_X4_canBeName v0 (fun x3 S1 => Gr S S1 → bl x3 → (((¬ x3 = 0) → (P_X4_findName v0 (fun x7 S5 => Gr S1 S5 → ((((8 : Int32) ≤ x7) → (∀ x9 : Int32, x9 = x7 - (8 : Int32) → (∀ S10 : HS, S10 = sI S5 v0 9 x9 → (P_X4_next v0 (fun S11 => Gr S10 S11 → (Q (1 : Int32) S11)) S10)))) ∧ ((¬ (8 : Int32) ≤ x7) → (P_X4_fail v0 (2 : Int32) (fun x16 S14 => Gr S5 S14 → bl x16 → (bl x16 ∧ Q x16 S14)) S5)))) S1)) ∧ ((x3 = 0) → (P_X4_fail v0 (1 : Int32) (fun x19 S17 => Gr S1 S17 → bl x19 → (bl x19 ∧ Q x19 S17)) S1)))) S)
set_option maxRecDepth 20000 in
set_option maxHeartbeats 4000000 in
theorem T_X4_someWalker_0 {X : CX} {Q : Int32 → HS → Prop} (C : Cx X cX4_someWalker RX4 2 rm_X4_someWalker) (E : ReI X rm_X4_someWalker (fun r S => bl r ∧ Q r S)) (ht : (xh X).sig.returnType = (some .boolean)) (hn : (xh X).name = yX4_someWalker.name) {v0 : Nat} {S : HS} (h : P_X4_someWalker_0 Q v0 S) : WS X 2 0 0 0 [(0, .ref v0)] [] S := by
  refine r_aload_n (pc := 0) C dX4_someWalker_0 0 rfl ?_
  obtain ⟨o_v0, h⟩ := h
  refine r_callVi0 (pc := 1) C (rest := []) (a := v0) o_v0 [] yV_X4_canBeName g_566 (c_X4_canBeName h) dX4_someWalker_1 rfl rfl (Nat.le_of_ble_eq_true rfl) ⟨by decide, by decide⟩ ⟨by decide, by decide⟩ ⟨rfl, rfl⟩ (fun x3 S1 h g2 => ?_)
  have bx3 := h.1
  have h := h.2 g2 bx3
  have o_v0 := gr_ob g2 o_v0
  refine r_if_ne (pc := 4) C (tgt := 13) dX4_someWalker_4 (by decide) (fun c4 => ?_) (fun c4 => ?_)
  · have h := h.1 c4
    refine r_aload_n (pc := 13) C dX4_someWalker_13 0 rfl ?_
    refine r_callVi0 (pc := 14) C (rest := []) (a := v0) o_v0 [] yV_X4_findName g_576 (c_X4_findName h) dX4_someWalker_14 rfl rfl (Nat.le_of_ble_eq_true rfl) ⟨by decide, by decide⟩ ⟨by decide, by decide⟩ ⟨rfl, rfl⟩ (fun x7 S5 h g6 => ?_)
    have h := h g6
    have o_v0 := gr_ob g6 o_v0
    refine r_istore_n (pc := 17) C dX4_someWalker_17 rfl (by decide) (lv' := [(1, .int x7), (0, .ref v0)]) rfl ?_
    refine r_iload_n (pc := 18) C dX4_someWalker_18 0 rfl ?_
    refine r_bipush (pc := 19) C (v := (8 : Int32)) dX4_someWalker_19 (by decide) ?_
    refine r_icmp_ge (pc := 21) C (tgt := 30) dX4_someWalker_21 (by decide) (fun c8 => ?_) (fun c8 => ?_)
    · have h := h.1 c8
      refine r_aload_n (pc := 30) C dX4_someWalker_30 1 rfl ?_
      refine r_iload_n (pc := 31) C dX4_someWalker_31 0 rfl ?_
      refine r_bipush (pc := 32) C (v := (8 : Int32)) dX4_someWalker_32 (by decide) ?_
      refine r_isub (pc := 34) C dX4_someWalker_34 ?_
      refine r_topi (fun x9 ex9 => ?_)
      have h := h x9 ex9
      refine r_puti (pc := 35) C pfL_X4_147 dX4_someWalker_35 o_v0 ?_
      refine r_heap (fun S10 eS10 => ?_)
      have h := h S10 eS10
      have o_v0 := ob_I eS10 o_v0
      refine r_aload_n (pc := 38) C dX4_someWalker_38 1 rfl ?_
      refine r_callVv0 (pc := 39) C (rest := []) (a := v0) o_v0 [] yV_X4_next g_449 (c_X4_next h) dX4_someWalker_39 rfl rfl (Nat.le_of_ble_eq_true rfl) ⟨by decide, by decide⟩ ⟨by decide, by decide⟩ ⟨rfl, rfl⟩ (fun S11 h g12 => ?_)
      have h := h g12
      have o_v0 := gr_ob g12 o_v0
      refine r_iconst (pc := 42) C (v := (1 : Int32)) dX4_someWalker_42 (by decide) ?_
      exact r_zret (pc := 43) C E ht dX4_someWalker_43 (by decide) (by decide) (Or.inr rfl) h
    · have h := h.2 c8
      refine r_aload_n (pc := 24) C dX4_someWalker_24 1 rfl ?_
      refine r_iconst (pc := 25) C (v := (2 : Int32)) dX4_someWalker_25 (by decide) ?_
      refine r_callVi0 (pc := 26) C (rest := []) (a := v0) o_v0 [.int (2 : Int32)] yV_X4_fail g_519 (c_X4_fail h) dX4_someWalker_26 rfl rfl (Nat.le_of_ble_eq_true rfl) ⟨by decide, by decide⟩ ⟨by decide, by decide⟩ ⟨rfl, rfl⟩ (fun x16 S14 h g15 => ?_)
      have bx16 := h.1
      have h := h.2 g15 bx16
      have o_v0 := gr_ob g15 o_v0
      exact r_zret (pc := 29) C E ht dX4_someWalker_29 (by decide) (by decide) h.1 h.2
  · have h := h.2 c4
    refine r_aload_n (pc := 7) C dX4_someWalker_7 0 rfl ?_
    refine r_iconst (pc := 8) C (v := (1 : Int32)) dX4_someWalker_8 (by decide) ?_
    refine r_callVi0 (pc := 9) C (rest := []) (a := v0) o_v0 [.int (1 : Int32)] yV_X4_fail g_519 (c_X4_fail h) dX4_someWalker_9 rfl rfl (Nat.le_of_ble_eq_true rfl) ⟨by decide, by decide⟩ ⟨by decide, by decide⟩ ⟨rfl, rfl⟩ (fun x19 S17 h g18 => ?_)
    have bx19 := h.1
    have h := h.2 g18 bx19
    have o_v0 := gr_ob g18 o_v0
    exact r_zret (pc := 12) C E ht dX4_someWalker_12 (by decide) (by decide) h.1 h.2
def P_X4_someWalker (v0 : Nat) (Q : Int32 → HS → Prop) (S : HS) : Prop := P_X4_someWalker_0 Q v0 S
theorem c_X4_someWalker {l : Launch} {Ee : EE} {S : HS} {v0 : Nat} {Q : Int32 → HS → Prop} (h : P_X4_someWalker v0 Q S) : MI l yX4_someWalker cX4_someWalker 2 (some .boolean) rm_X4_someWalker Ee S [.ref v0] (fun r S => bl r ∧ Q r S) :=
  openI (by decide) (Nat.le_of_ble_eq_true rfl) (fun X C E ht hn hE hl => by subst hE; exact r_sub [0] rfl (T_X4_someWalker_0 C E ht hn h))
def rm_X4_seenLine : Room := { frames := 8, cells := 0, slots := 0, locals := 186 }
def P_X4_seenLine_47 (Q : Int32 → HS → Prop) (X30 : Nat → Int32 → HS → Prop) (v0 : Nat) (v1 : Int32) (S : HS) : Prop := ob S v0 4 ∧ (P_X4_whole v0 (0 : Int32) (999 : Int32) (fun x3 S1 => Gr S S1 → bl x3 → (((¬ x3 = 0) → (∃ a5 : Nat, fR S1 v0 5 = some a5 ∧ (ob S1 a5 8 ∧ (∃ a6 : Nat, fR S1 a5 11 = some a6 ∧ (∃ a7 : Nat, fR S1 v0 5 = some a7 ∧ (ob S1 a7 8 ∧ (∀ x8 : Int32, x8 = fI S1 a7 5 → (∀ x9 : Int32, x9 = fI S1 v0 9 → (ob S1 a6 13 ∧ (vp_in ((x8 * (5 : Int32)) + v1) (hN S1 a6) ∧ (∀ S11 : HS, S11 = sI S1 a6 ((x8 * (5 : Int32)) + v1).toNatClampNeg x9 → (∀ x12 : Int32, x12 = v1 + (1 : Int32) → (X30 v0 x12 S11))))))))))))) ∧ ((x3 = 0) → (Q (0 : Int32) S1)))) S)
set_option maxRecDepth 20000 in
set_option maxHeartbeats 4000000 in
theorem T_X4_seenLine_47 {X : CX} {Q : Int32 → HS → Prop} (C : Cx X cX4_seenLine RX4 2 rm_X4_seenLine) (E : ReI X rm_X4_seenLine (fun r S => bl r ∧ Q r S)) (ht : (xh X).sig.returnType = (some .boolean)) (hn : (xh X).name = yX4_seenLine.name) {X30 : Nat → Int32 → HS → Prop} (hX30 : ∀ (v0 : Nat) (v1 : Int32) (S : HS), X30 v0 v1 S → WS X 2 0 0 30 [(0, .ref v0), (1, .int v1)] [] S) {v0 : Nat} {v1 : Int32} {S : HS} (h : P_X4_seenLine_47 Q X30 v0 v1 S) : WS X 2 0 0 47 [(0, .ref v0), (1, .int v1)] [] S := by
  refine r_aload_n (pc := 47) C dX4_seenLine_47 0 rfl ?_
  refine r_iconst (pc := 48) C (v := (0 : Int32)) dX4_seenLine_48 (by decide) ?_
  refine r_sipush (pc := 49) C (v := (999 : Int32)) dX4_seenLine_49 (by decide) ?_
  obtain ⟨o_v0, h⟩ := h
  refine r_callVi0 (pc := 52) C (rest := []) (a := v0) o_v0 [.int (0 : Int32), .int (999 : Int32)] yV_X4_whole g_532 (c_X4_whole h) dX4_seenLine_52 rfl rfl (Nat.le_of_ble_eq_true rfl) ⟨by decide, by decide⟩ ⟨by decide, by decide⟩ ⟨rfl, rfl⟩ (fun x3 S1 h g2 => ?_)
  have bx3 := h.1
  have h := h.2 g2 bx3
  have o_v0 := gr_ob g2 o_v0
  refine r_if_ne (pc := 55) C (tgt := 60) dX4_seenLine_55 (by decide) (fun c4 => ?_) (fun c4 => ?_)
  · have h := h.1 c4
    refine r_aload_n (pc := 60) C dX4_seenLine_60 0 rfl ?_
    obtain ⟨a5, ea5, h⟩ := h
    refine r_getr (pc := 61) C fL_X4_18 dX4_seenLine_61 o_v0 ea5 ?_
    obtain ⟨o_a5, h⟩ := h
    obtain ⟨a6, ea6, h⟩ := h
    refine r_getr (pc := 64) C fL_X4_292 dX4_seenLine_64 o_a5 ea6 ?_
    refine r_aload_n (pc := 67) C dX4_seenLine_67 0 rfl ?_
    obtain ⟨a7, ea7, h⟩ := h
    refine r_getr (pc := 68) C fL_X4_18 dX4_seenLine_68 o_v0 ea7 ?_
    obtain ⟨o_a7, h⟩ := h
    refine r_geti (pc := 71) C fL_X4_82 dX4_seenLine_71 o_a7 ?_
    refine r_topi (fun x8 ex8 => ?_)
    have h := h x8 ex8
    refine r_iconst (pc := 74) C (v := (5 : Int32)) dX4_seenLine_74 (by decide) ?_
    refine r_imul (pc := 75) C dX4_seenLine_75 ?_
    refine r_iload_n (pc := 76) C dX4_seenLine_76 1 rfl ?_
    refine r_iadd (pc := 77) C dX4_seenLine_77 ?_
    refine r_aload_n (pc := 78) C dX4_seenLine_78 0 rfl ?_
    refine r_geti (pc := 79) C fL_X4_147 dX4_seenLine_79 o_v0 ?_
    refine r_topi (fun x9 ex9 => ?_)
    have h := h x9 ex9
    obtain ⟨o_a6, h⟩ := h
    obtain ⟨i10, h⟩ := h
    refine r_iast (pc := 82) C dX4_seenLine_82 o_a6 i10 ?_
    refine r_heap (fun S11 eS11 => ?_)
    have h := h S11 eS11
    have o_a5 := ob_I eS11 o_a5
    have o_a6 := ob_I eS11 o_a6
    have o_a7 := ob_I eS11 o_a7
    have o_v0 := ob_I eS11 o_v0
    obtain ⟨x12, ex12⟩ : ∃ z : Int32, z = v1 + (1 : Int32) := ⟨_, rfl⟩
    have h := h x12 ex12
    refine r_iinc (pc := 83) C (v := x12) (lv' := [(1, .int x12), (0, .ref v0)]) dX4_seenLine_83 1 rfl ex12.symm (by decide) rfl ?_
    refine r_goto (pc := 86) C (tgt := 30) dX4_seenLine_86 (by decide) ?_
    exact r_sub [1, 0] rfl (hX30 v0 x12 S11 h)
  · have h := h.2 c4
    refine r_iconst (pc := 58) C (v := (0 : Int32)) dX4_seenLine_58 (by decide) ?_
    exact r_zret (pc := 59) C E ht dX4_seenLine_59 (by decide) (by decide) (Or.inl rfl) h
def B_X4_seenLine_30 (Q : Int32 → HS → Prop) (X30 : Nat → Int32 → HS → Prop) (v0 : Nat) (v1 : Int32) (S : HS) : Prop := (((5 : Int32) ≤ v1) → (ob S v0 4 ∧ (∃ a2 : Nat, fR S v0 5 = some a2 ∧ (ob S a2 8 ∧ (∀ x3 : Int32, x3 = fI S a2 5 → (∀ x4 : Int32, x4 = x3 + (1 : Int32) → (∀ S5 : HS, S5 = sI S a2 5 x4 → (Q (1 : Int32) S5)))))))) ∧ ((¬ (5 : Int32) ≤ v1) → (((v1 ≤ 0) → (P_X4_seenLine_47 Q X30 v0 v1 S)) ∧ ((¬ v1 ≤ 0) → (ob S v0 4 ∧ (P_X4_sign v0 (4 : Int32) (fun x9 S7 => Gr S S7 → bl x9 → (((x9 = 0) → (Q (0 : Int32) S7)) ∧ ((¬ x9 = 0) → (P_X4_seenLine_47 Q X30 v0 v1 S7)))) S)))))
def P_X4_seenLine_30 (Q : Int32 → HS → Prop) (v0 : Nat) (v1 : Int32) (S : HS) : Prop := ∀ X30 : Nat → Int32 → HS → Prop, (∀ (v0 : Nat) (v1 : Int32) (S : HS), B_X4_seenLine_30 Q X30 v0 v1 S → X30 v0 v1 S) → X30 v0 v1 S
set_option maxRecDepth 20000 in
set_option maxHeartbeats 4000000 in
theorem TB_X4_seenLine_30 {X : CX} {Q : Int32 → HS → Prop} (C : Cx X cX4_seenLine RX4 2 rm_X4_seenLine) (E : ReI X rm_X4_seenLine (fun r S => bl r ∧ Q r S)) (ht : (xh X).sig.returnType = (some .boolean)) (hn : (xh X).name = yX4_seenLine.name) {X30 : Nat → Int32 → HS → Prop} (hX30 : ∀ (v0 : Nat) (v1 : Int32) (S : HS), X30 v0 v1 S → WS X 2 0 0 30 [(0, .ref v0), (1, .int v1)] [] S) {v0 : Nat} {v1 : Int32} {S : HS} (h : B_X4_seenLine_30 Q X30 v0 v1 S) : WS X 2 0 0 30 [(0, .ref v0), (1, .int v1)] [] S := by
  refine r_iload_n (pc := 30) C dX4_seenLine_30 1 rfl ?_
  refine r_iconst (pc := 31) C (v := (5 : Int32)) dX4_seenLine_31 (by decide) ?_
  refine r_icmp_ge (pc := 32) C (tgt := 89) dX4_seenLine_32 (by decide) (fun c1 => ?_) (fun c1 => ?_)
  · have h := h.1 c1
    refine r_aload_n (pc := 89) C dX4_seenLine_89 0 rfl ?_
    obtain ⟨o_v0, h⟩ := h
    obtain ⟨a2, ea2, h⟩ := h
    refine r_getr (pc := 90) C fL_X4_18 dX4_seenLine_90 o_v0 ea2 ?_
    refine r_dup (pc := 93) C dX4_seenLine_93 rfl ?_
    obtain ⟨o_a2, h⟩ := h
    refine r_geti (pc := 94) C fL_X4_82 dX4_seenLine_94 o_a2 ?_
    refine r_topi (fun x3 ex3 => ?_)
    have h := h x3 ex3
    refine r_iconst (pc := 97) C (v := (1 : Int32)) dX4_seenLine_97 (by decide) ?_
    refine r_iadd (pc := 98) C dX4_seenLine_98 ?_
    refine r_topi (fun x4 ex4 => ?_)
    have h := h x4 ex4
    refine r_puti (pc := 99) C pfL_X4_82 dX4_seenLine_99 o_a2 ?_
    refine r_heap (fun S5 eS5 => ?_)
    have h := h S5 eS5
    have o_a2 := ob_I eS5 o_a2
    have o_v0 := ob_I eS5 o_v0
    refine r_iconst (pc := 102) C (v := (1 : Int32)) dX4_seenLine_102 (by decide) ?_
    exact r_zret (pc := 103) C E ht dX4_seenLine_103 (by decide) (by decide) (Or.inr rfl) h
  · have h := h.2 c1
    refine r_iload_n (pc := 35) C dX4_seenLine_35 1 rfl ?_
    refine r_if_le (pc := 36) C (tgt := 47) dX4_seenLine_36 (by decide) (fun c6 => ?_) (fun c6 => ?_)
    · have h := h.1 c6
      exact r_sub [0, 1] rfl (T_X4_seenLine_47 C E ht hn hX30 h)
    · have h := h.2 c6
      refine r_aload_n (pc := 39) C dX4_seenLine_39 0 rfl ?_
      refine r_iconst (pc := 40) C (v := (4 : Int32)) dX4_seenLine_40 (by decide) ?_
      obtain ⟨o_v0, h⟩ := h
      refine r_callVi0 (pc := 41) C (rest := []) (a := v0) o_v0 [.int (4 : Int32)] yV_X4_sign g_621 (c_X4_sign h) dX4_seenLine_41 rfl rfl (Nat.le_of_ble_eq_true rfl) ⟨by decide, by decide⟩ ⟨by decide, by decide⟩ ⟨rfl, rfl⟩ (fun x9 S7 h g8 => ?_)
      have bx9 := h.1
      have h := h.2 g8 bx9
      have o_v0 := gr_ob g8 o_v0
      refine r_if_eq (pc := 44) C (tgt := 58) dX4_seenLine_44 (by decide) (fun c10 => ?_) (fun c10 => ?_)
      · have h := h.1 c10
        refine r_iconst (pc := 58) C (v := (0 : Int32)) dX4_seenLine_58 (by decide) ?_
        exact r_zret (pc := 59) C E ht dX4_seenLine_59 (by decide) (by decide) (Or.inl rfl) h
      · have h := h.2 c10
        exact r_sub [0, 1] rfl (T_X4_seenLine_47 C E ht hn hX30 h)
theorem T_X4_seenLine_30 {X : CX} {Q : Int32 → HS → Prop} (C : Cx X cX4_seenLine RX4 2 rm_X4_seenLine) (E : ReI X rm_X4_seenLine (fun r S => bl r ∧ Q r S)) (ht : (xh X).sig.returnType = (some .boolean)) (hn : (xh X).name = yX4_seenLine.name) {v0 : Nat} {v1 : Int32} {S : HS} (h : P_X4_seenLine_30 Q v0 v1 S) : WS X 2 0 0 30 [(0, .ref v0), (1, .int v1)] [] S :=
  h (fun v0 v1 S => WS X 2 0 0 30 [(0, .ref v0), (1, .int v1)] [] S) (fun v0 v1 S hh => TB_X4_seenLine_30 C E ht hn (fun v0 v1 S z => z) hh)
def P_X4_seenLine_0 (Q : Int32 → HS → Prop) (v0 : Nat) (S : HS) : Prop := ob S v0 4 ∧ (P_X4_someWalker v0 (fun x3 S1 => Gr S S1 → bl x3 → (((¬ x3 = 0) → (∃ a5 : Nat, fR S1 v0 5 = some a5 ∧ (ob S1 a5 8 ∧ (∃ a6 : Nat, fR S1 a5 10 = some a6 ∧ (∃ a7 : Nat, fR S1 v0 5 = some a7 ∧ (ob S1 a7 8 ∧ (∀ x8 : Int32, x8 = fI S1 a7 5 → (∀ x9 : Int32, x9 = fI S1 v0 9 → (ob S1 a6 13 ∧ (vp_in x8 (hN S1 a6) ∧ (∀ S11 : HS, S11 = sI S1 a6 x8.toNatClampNeg x9 → (P_X4_seenLine_30 Q v0 (0 : Int32) S11)))))))))))) ∧ ((x3 = 0) → (Q (0 : Int32) S1)))) S)
set_option maxRecDepth 20000 in
set_option maxHeartbeats 4000000 in
theorem T_X4_seenLine_0 {X : CX} {Q : Int32 → HS → Prop} (C : Cx X cX4_seenLine RX4 2 rm_X4_seenLine) (E : ReI X rm_X4_seenLine (fun r S => bl r ∧ Q r S)) (ht : (xh X).sig.returnType = (some .boolean)) (hn : (xh X).name = yX4_seenLine.name) {v0 : Nat} {S : HS} (h : P_X4_seenLine_0 Q v0 S) : WS X 2 0 0 0 [(0, .ref v0)] [] S := by
  refine r_aload_n (pc := 0) C dX4_seenLine_0 0 rfl ?_
  obtain ⟨o_v0, h⟩ := h
  refine r_callVi0 (pc := 1) C (rest := []) (a := v0) o_v0 [] yV_X4_someWalker g_617 (c_X4_someWalker h) dX4_seenLine_1 rfl rfl (Nat.le_of_ble_eq_true rfl) ⟨by decide, by decide⟩ ⟨by decide, by decide⟩ ⟨rfl, rfl⟩ (fun x3 S1 h g2 => ?_)
  have bx3 := h.1
  have h := h.2 g2 bx3
  have o_v0 := gr_ob g2 o_v0
  refine r_if_ne (pc := 4) C (tgt := 9) dX4_seenLine_4 (by decide) (fun c4 => ?_) (fun c4 => ?_)
  · have h := h.1 c4
    refine r_aload_n (pc := 9) C dX4_seenLine_9 0 rfl ?_
    obtain ⟨a5, ea5, h⟩ := h
    refine r_getr (pc := 10) C fL_X4_18 dX4_seenLine_10 o_v0 ea5 ?_
    obtain ⟨o_a5, h⟩ := h
    obtain ⟨a6, ea6, h⟩ := h
    refine r_getr (pc := 13) C fL_X4_289 dX4_seenLine_13 o_a5 ea6 ?_
    refine r_aload_n (pc := 16) C dX4_seenLine_16 0 rfl ?_
    obtain ⟨a7, ea7, h⟩ := h
    refine r_getr (pc := 17) C fL_X4_18 dX4_seenLine_17 o_v0 ea7 ?_
    obtain ⟨o_a7, h⟩ := h
    refine r_geti (pc := 20) C fL_X4_82 dX4_seenLine_20 o_a7 ?_
    refine r_topi (fun x8 ex8 => ?_)
    have h := h x8 ex8
    refine r_aload_n (pc := 23) C dX4_seenLine_23 0 rfl ?_
    refine r_geti (pc := 24) C fL_X4_147 dX4_seenLine_24 o_v0 ?_
    refine r_topi (fun x9 ex9 => ?_)
    have h := h x9 ex9
    obtain ⟨o_a6, h⟩ := h
    obtain ⟨i10, h⟩ := h
    refine r_iast (pc := 27) C dX4_seenLine_27 o_a6 i10 ?_
    refine r_heap (fun S11 eS11 => ?_)
    have h := h S11 eS11
    have o_a5 := ob_I eS11 o_a5
    have o_a6 := ob_I eS11 o_a6
    have o_a7 := ob_I eS11 o_a7
    have o_v0 := ob_I eS11 o_v0
    refine r_iconst (pc := 28) C (v := (0 : Int32)) dX4_seenLine_28 (by decide) ?_
    refine r_istore_n (pc := 29) C dX4_seenLine_29 rfl (by decide) (lv' := [(1, .int (0 : Int32)), (0, .ref v0)]) rfl ?_
    exact r_sub [1, 0] rfl (T_X4_seenLine_30 C E ht hn h)
  · have h := h.2 c4
    refine r_iconst (pc := 7) C (v := (0 : Int32)) dX4_seenLine_7 (by decide) ?_
    exact r_zret (pc := 8) C E ht dX4_seenLine_8 (by decide) (by decide) (Or.inl rfl) h
def P_X4_seenLine (v0 : Nat) (Q : Int32 → HS → Prop) (S : HS) : Prop := P_X4_seenLine_0 Q v0 S
theorem c_X4_seenLine {l : Launch} {Ee : EE} {S : HS} {v0 : Nat} {Q : Int32 → HS → Prop} (h : P_X4_seenLine v0 Q S) : MI l yX4_seenLine cX4_seenLine 2 (some .boolean) rm_X4_seenLine Ee S [.ref v0] (fun r S => bl r ∧ Q r S) :=
  openI (by decide) (Nat.le_of_ble_eq_true rfl) (fun X C E ht hn hE hl => by subst hE; exact r_sub [0] rfl (T_X4_seenLine_0 C E ht hn h))
def rm_X4_walkerLine : Room := { frames := 9, cells := 0, slots := 0, locals := 212 }
def P_X4_walkerLine_0 (Q : Int32 → HS → Prop) (v0 : Nat) (S : HS) : Prop := ob S v0 4 ∧ (∃ a1 : Nat, fR S v0 5 = some a1 ∧ (ob S a1 8 ∧ (∃ a2 : Nat, fR S a1 9 = some a2 ∧ (∃ a3 : Nat, fR S v0 5 = some a3 ∧ (ob S a3 8 ∧ (∀ x4 : Int32, x4 = fI S a3 4 → (ob S a2 19 ∧ (vp_in x4 (hN S a2) ∧ ∃ a6 : Nat, fR S a2 x4.toNatClampNeg = some a6 ∧ (∃ a7 : Nat, fR S v0 5 = some a7 ∧ (ob S a7 8 ∧ (∀ x8 : Int32, x8 = fI S a7 4 → (P_X4_newName v0 ((8 : Int32) + x8) (fun x11 S9 => Gr S S9 → bl x11 → (((x11 = 0) → (Q (0 : Int32) S9)) ∧ ((¬ x11 = 0) → (P_X4_kindOf v0 a6 (fun x15 S13 => Gr S9 S13 → bl x15 → (((x15 = 0) → (Q (0 : Int32) S13)) ∧ ((¬ x15 = 0) → (P_X4_bodyOf v0 a6 (fun x19 S17 => Gr S13 S17 → bl x19 → (((¬ x19 = 0) → (P_X4_wordAndWhole v0 25 (1 : Int32) (9 : Int32) (fun x23 S21 => Gr S17 S21 → bl x23 → (((¬ x23 = 0) → (∀ x25 : Int32, x25 = fI S21 v0 9 → (ob S21 a6 6 ∧ (∀ S26 : HS, S26 = sI S21 a6 5 x25 → (∀ x27 : Int32, x27 = fI S26 a6 5 → (P_X4_wordAndWhole v0 26 x27 (9 : Int32) (fun x30 S28 => Gr S26 S28 → bl x30 → (((¬ x30 = 0) → (∀ x32 : Int32, x32 = fI S28 v0 9 → (∀ S33 : HS, S33 = sI S28 a6 6 x32 → (∃ a34 : Nat, fR S33 v0 5 = some a34 ∧ (ob S33 a34 8 ∧ (∀ x35 : Int32, x35 = fI S33 a34 4 → (∀ x36 : Int32, x36 = x35 + (1 : Int32) → (∀ S37 : HS, S37 = sI S33 a34 4 x36 → (Q (1 : Int32) S37))))))))) ∧ ((x30 = 0) → (Q (0 : Int32) S28)))) S26)))))) ∧ ((x23 = 0) → (Q (0 : Int32) S21)))) S17)) ∧ ((x19 = 0) → (Q (0 : Int32) S17)))) S13)))) S9)))) S))))))))))))
set_option maxRecDepth 20000 in
set_option maxHeartbeats 4000000 in
theorem T_X4_walkerLine_0 {X : CX} {Q : Int32 → HS → Prop} (C : Cx X cX4_walkerLine RX4 2 rm_X4_walkerLine) (E : ReI X rm_X4_walkerLine (fun r S => bl r ∧ Q r S)) (ht : (xh X).sig.returnType = (some .boolean)) (hn : (xh X).name = yX4_walkerLine.name) {v0 : Nat} {S : HS} (h : P_X4_walkerLine_0 Q v0 S) : WS X 2 0 0 0 [(0, .ref v0)] [] S := by
  refine r_aload_n (pc := 0) C dX4_walkerLine_0 0 rfl ?_
  obtain ⟨o_v0, h⟩ := h
  obtain ⟨a1, ea1, h⟩ := h
  refine r_getr (pc := 1) C fL_X4_18 dX4_walkerLine_1 o_v0 ea1 ?_
  obtain ⟨o_a1, h⟩ := h
  obtain ⟨a2, ea2, h⟩ := h
  refine r_getr (pc := 4) C fL_X4_240 dX4_walkerLine_4 o_a1 ea2 ?_
  refine r_aload_n (pc := 7) C dX4_walkerLine_7 0 rfl ?_
  obtain ⟨a3, ea3, h⟩ := h
  refine r_getr (pc := 8) C fL_X4_18 dX4_walkerLine_8 o_v0 ea3 ?_
  obtain ⟨o_a3, h⟩ := h
  refine r_geti (pc := 11) C fL_X4_74 dX4_walkerLine_11 o_a3 ?_
  refine r_topi (fun x4 ex4 => ?_)
  have h := h x4 ex4
  obtain ⟨o_a2, h⟩ := h
  obtain ⟨i5, a6, ea6, h⟩ := h
  refine r_aald19 (pc := 14) C dX4_walkerLine_14 o_a2 i5 ea6 ?_
  refine r_astore_n (pc := 15) C dX4_walkerLine_15 rfl (by decide) (lv' := [(1, .ref a6), (0, .ref v0)]) rfl ?_
  refine r_aload_n (pc := 16) C dX4_walkerLine_16 1 rfl ?_
  refine r_bipush (pc := 17) C (v := (8 : Int32)) dX4_walkerLine_17 (by decide) ?_
  refine r_aload_n (pc := 19) C dX4_walkerLine_19 1 rfl ?_
  obtain ⟨a7, ea7, h⟩ := h
  refine r_getr (pc := 20) C fL_X4_18 dX4_walkerLine_20 o_v0 ea7 ?_
  obtain ⟨o_a7, h⟩ := h
  refine r_geti (pc := 23) C fL_X4_74 dX4_walkerLine_23 o_a7 ?_
  refine r_topi (fun x8 ex8 => ?_)
  have h := h x8 ex8
  refine r_iadd (pc := 26) C dX4_walkerLine_26 ?_
  refine r_callVi0 (pc := 27) C (rest := []) (a := v0) o_v0 [.int ((8 : Int32) + x8)] yV_X4_newName g_562 (c_X4_newName h) dX4_walkerLine_27 rfl rfl (Nat.le_of_ble_eq_true rfl) ⟨by decide, by decide⟩ ⟨by decide, by decide⟩ ⟨rfl, rfl⟩ (fun x11 S9 h g10 => ?_)
  have bx11 := h.1
  have h := h.2 g10 bx11
  have o_a1 := gr_ob g10 o_a1
  have o_a2 := gr_ob g10 o_a2
  have o_a3 := gr_ob g10 o_a3
  have o_a7 := gr_ob g10 o_a7
  have o_v0 := gr_ob g10 o_v0
  refine r_if_eq (pc := 30) C (tgt := 49) dX4_walkerLine_30 (by decide) (fun c12 => ?_) (fun c12 => ?_)
  · have h := h.1 c12
    refine r_iconst (pc := 49) C (v := (0 : Int32)) dX4_walkerLine_49 (by decide) ?_
    exact r_zret (pc := 50) C E ht dX4_walkerLine_50 (by decide) (by decide) (Or.inl rfl) h
  · have h := h.2 c12
    refine r_aload_n (pc := 33) C dX4_walkerLine_33 1 rfl ?_
    refine r_aload_n (pc := 34) C dX4_walkerLine_34 0 rfl ?_
    refine r_callVi0 (pc := 35) C (rest := []) (a := v0) o_v0 [.ref a6] yV_X4_kindOf g_592 (c_X4_kindOf h) dX4_walkerLine_35 rfl rfl (Nat.le_of_ble_eq_true rfl) ⟨by decide, by decide⟩ ⟨by decide, by decide⟩ ⟨rfl, rfl⟩ (fun x15 S13 h g14 => ?_)
    have bx15 := h.1
    have h := h.2 g14 bx15
    have o_a1 := gr_ob g14 o_a1
    have o_a2 := gr_ob g14 o_a2
    have o_a3 := gr_ob g14 o_a3
    have o_a7 := gr_ob g14 o_a7
    have o_v0 := gr_ob g14 o_v0
    refine r_if_eq (pc := 38) C (tgt := 49) dX4_walkerLine_38 (by decide) (fun c16 => ?_) (fun c16 => ?_)
    · have h := h.1 c16
      refine r_iconst (pc := 49) C (v := (0 : Int32)) dX4_walkerLine_49 (by decide) ?_
      exact r_zret (pc := 50) C E ht dX4_walkerLine_50 (by decide) (by decide) (Or.inl rfl) h
    · have h := h.2 c16
      refine r_aload_n (pc := 41) C dX4_walkerLine_41 1 rfl ?_
      refine r_aload_n (pc := 42) C dX4_walkerLine_42 0 rfl ?_
      refine r_callVi0 (pc := 43) C (rest := []) (a := v0) o_v0 [.ref a6] yV_X4_bodyOf g_600 (c_X4_bodyOf h) dX4_walkerLine_43 rfl rfl (Nat.le_of_ble_eq_true rfl) ⟨by decide, by decide⟩ ⟨by decide, by decide⟩ ⟨rfl, rfl⟩ (fun x19 S17 h g18 => ?_)
      have bx19 := h.1
      have h := h.2 g18 bx19
      have o_a1 := gr_ob g18 o_a1
      have o_a2 := gr_ob g18 o_a2
      have o_a3 := gr_ob g18 o_a3
      have o_a7 := gr_ob g18 o_a7
      have o_v0 := gr_ob g18 o_v0
      refine r_if_ne (pc := 46) C (tgt := 51) dX4_walkerLine_46 (by decide) (fun c20 => ?_) (fun c20 => ?_)
      · have h := h.1 c20
        refine r_aload_n (pc := 51) C dX4_walkerLine_51 1 rfl ?_
        refine r_lds (pc := 52) C 25 rfl dX4_walkerLine_52 ?_
        refine r_iconst (pc := 54) C (v := (1 : Int32)) dX4_walkerLine_54 (by decide) ?_
        refine r_bipush (pc := 55) C (v := (9 : Int32)) dX4_walkerLine_55 (by decide) ?_
        refine r_callVi0 (pc := 57) C (rest := []) (a := v0) o_v0 [.ref (eK (xE X) 25), .int (1 : Int32), .int (9 : Int32)] yV_X4_wordAndWhole g_524 (c_X4_wordAndWhole h) dX4_walkerLine_57 rfl rfl (Nat.le_of_ble_eq_true rfl) ⟨by decide, by decide⟩ ⟨by decide, by decide⟩ ⟨rfl, rfl⟩ (fun x23 S21 h g22 => ?_)
        have bx23 := h.1
        have h := h.2 g22 bx23
        have o_a1 := gr_ob g22 o_a1
        have o_a2 := gr_ob g22 o_a2
        have o_a3 := gr_ob g22 o_a3
        have o_a7 := gr_ob g22 o_a7
        have o_v0 := gr_ob g22 o_v0
        refine r_if_ne (pc := 60) C (tgt := 65) dX4_walkerLine_60 (by decide) (fun c24 => ?_) (fun c24 => ?_)
        · have h := h.1 c24
          refine r_aload_n (pc := 65) C dX4_walkerLine_65 0 rfl ?_
          refine r_aload_n (pc := 66) C dX4_walkerLine_66 1 rfl ?_
          refine r_geti (pc := 67) C fL_X4_147 dX4_walkerLine_67 o_v0 ?_
          refine r_topi (fun x25 ex25 => ?_)
          have h := h x25 ex25
          obtain ⟨o_a6, h⟩ := h
          refine r_puti (pc := 70) C pfL_X4_252 dX4_walkerLine_70 o_a6 ?_
          refine r_heap (fun S26 eS26 => ?_)
          have h := h S26 eS26
          have o_a1 := ob_I eS26 o_a1
          have o_a2 := ob_I eS26 o_a2
          have o_a3 := ob_I eS26 o_a3
          have o_a6 := ob_I eS26 o_a6
          have o_a7 := ob_I eS26 o_a7
          have o_v0 := ob_I eS26 o_v0
          refine r_aload_n (pc := 73) C dX4_walkerLine_73 1 rfl ?_
          refine r_ldsw (pc := 74) C 26 rfl dX4_walkerLine_74 ?_
          refine r_aload_n (pc := 77) C dX4_walkerLine_77 0 rfl ?_
          refine r_geti (pc := 78) C fL_X4_252 dX4_walkerLine_78 o_a6 ?_
          refine r_topi (fun x27 ex27 => ?_)
          have h := h x27 ex27
          refine r_bipush (pc := 81) C (v := (9 : Int32)) dX4_walkerLine_81 (by decide) ?_
          refine r_callVi0 (pc := 83) C (rest := []) (a := v0) o_v0 [.ref (eK (xE X) 26), .int x27, .int (9 : Int32)] yV_X4_wordAndWhole g_524 (c_X4_wordAndWhole h) dX4_walkerLine_83 rfl rfl (Nat.le_of_ble_eq_true rfl) ⟨by decide, by decide⟩ ⟨by decide, by decide⟩ ⟨rfl, rfl⟩ (fun x30 S28 h g29 => ?_)
          have bx30 := h.1
          have h := h.2 g29 bx30
          have o_a1 := gr_ob g29 o_a1
          have o_a2 := gr_ob g29 o_a2
          have o_a3 := gr_ob g29 o_a3
          have o_a6 := gr_ob g29 o_a6
          have o_a7 := gr_ob g29 o_a7
          have o_v0 := gr_ob g29 o_v0
          refine r_if_ne (pc := 86) C (tgt := 91) dX4_walkerLine_86 (by decide) (fun c31 => ?_) (fun c31 => ?_)
          · have h := h.1 c31
            refine r_aload_n (pc := 91) C dX4_walkerLine_91 0 rfl ?_
            refine r_aload_n (pc := 92) C dX4_walkerLine_92 1 rfl ?_
            refine r_geti (pc := 93) C fL_X4_147 dX4_walkerLine_93 o_v0 ?_
            refine r_topi (fun x32 ex32 => ?_)
            have h := h x32 ex32
            refine r_puti (pc := 96) C pfL_X4_259 dX4_walkerLine_96 o_a6 ?_
            refine r_heap (fun S33 eS33 => ?_)
            have h := h S33 eS33
            have o_a1 := ob_I eS33 o_a1
            have o_a2 := ob_I eS33 o_a2
            have o_a3 := ob_I eS33 o_a3
            have o_a6 := ob_I eS33 o_a6
            have o_a7 := ob_I eS33 o_a7
            have o_v0 := ob_I eS33 o_v0
            refine r_aload_n (pc := 99) C dX4_walkerLine_99 1 rfl ?_
            obtain ⟨a34, ea34, h⟩ := h
            refine r_getr (pc := 100) C fL_X4_18 dX4_walkerLine_100 o_v0 ea34 ?_
            refine r_dup (pc := 103) C dX4_walkerLine_103 rfl ?_
            obtain ⟨o_a34, h⟩ := h
            refine r_geti (pc := 104) C fL_X4_74 dX4_walkerLine_104 o_a34 ?_
            refine r_topi (fun x35 ex35 => ?_)
            have h := h x35 ex35
            refine r_iconst (pc := 107) C (v := (1 : Int32)) dX4_walkerLine_107 (by decide) ?_
            refine r_iadd (pc := 108) C dX4_walkerLine_108 ?_
            refine r_topi (fun x36 ex36 => ?_)
            have h := h x36 ex36
            refine r_puti (pc := 109) C pfL_X4_74 dX4_walkerLine_109 o_a34 ?_
            refine r_heap (fun S37 eS37 => ?_)
            have h := h S37 eS37
            have o_a1 := ob_I eS37 o_a1
            have o_a2 := ob_I eS37 o_a2
            have o_a3 := ob_I eS37 o_a3
            have o_a34 := ob_I eS37 o_a34
            have o_a6 := ob_I eS37 o_a6
            have o_a7 := ob_I eS37 o_a7
            have o_v0 := ob_I eS37 o_v0
            refine r_iconst (pc := 112) C (v := (1 : Int32)) dX4_walkerLine_112 (by decide) ?_
            exact r_zret (pc := 113) C E ht dX4_walkerLine_113 (by decide) (by decide) (Or.inr rfl) h
          · have h := h.2 c31
            refine r_iconst (pc := 89) C (v := (0 : Int32)) dX4_walkerLine_89 (by decide) ?_
            exact r_zret (pc := 90) C E ht dX4_walkerLine_90 (by decide) (by decide) (Or.inl rfl) h
        · have h := h.2 c24
          refine r_iconst (pc := 63) C (v := (0 : Int32)) dX4_walkerLine_63 (by decide) ?_
          exact r_zret (pc := 64) C E ht dX4_walkerLine_64 (by decide) (by decide) (Or.inl rfl) h
      · have h := h.2 c20
        refine r_iconst (pc := 49) C (v := (0 : Int32)) dX4_walkerLine_49 (by decide) ?_
        exact r_zret (pc := 50) C E ht dX4_walkerLine_50 (by decide) (by decide) (Or.inl rfl) h
def P_X4_walkerLine (v0 : Nat) (Q : Int32 → HS → Prop) (S : HS) : Prop := P_X4_walkerLine_0 Q v0 S
theorem c_X4_walkerLine {l : Launch} {Ee : EE} {S : HS} {v0 : Nat} {Q : Int32 → HS → Prop} (h : P_X4_walkerLine v0 Q S) : MI l yX4_walkerLine cX4_walkerLine 2 (some .boolean) rm_X4_walkerLine Ee S [.ref v0] (fun r S => bl r ∧ Q r S) :=
  openI (by decide) (Nat.le_of_ble_eq_true rfl) (fun X C E ht hn hE hl => by subst hE; exact r_sub [0] rfl (T_X4_walkerLine_0 C E ht hn h))
def rm_X4_worldLine : Room := { frames := 8, cells := 0, slots := 0, locals := 188 }
def P_X4_worldLine_0 (Q : Int32 → HS → Prop) (v0 : Nat) (S : HS) : Prop := ob S v0 4 ∧ (∃ a1 : Nat, fR S v0 5 = some a1 ∧ (ob S a1 8 ∧ (P_X8_isTold a1 (fun x4 S2 => Gr S S2 → bl x4 → (((x4 = 0) → (P_X4_next v0 (fun S6 => Gr S2 S6 → (P_X4_wordAndWhole v0 1 (5 : Int32) (60 : Int32) (fun x11 S9 => Gr S6 S9 → bl x11 → (((¬ x11 = 0) → (∃ a13 : Nat, fR S9 v0 5 = some a13 ∧ (∀ x14 : Int32, x14 = fI S9 v0 9 → (ob S9 a13 8 ∧ (∀ S15 : HS, S15 = sI S9 a13 0 x14 → (Q (1 : Int32) S15)))))) ∧ ((x11 = 0) → (Q (0 : Int32) S9)))) S6)) S2)) ∧ ((¬ x4 = 0) → (P_X4_fail v0 (3 : Int32) (fun x18 S16 => Gr S2 S16 → bl x18 → (bl x18 ∧ Q x18 S16)) S2)))) S)))
set_option maxRecDepth 20000 in
set_option maxHeartbeats 4000000 in
theorem T_X4_worldLine_0 {X : CX} {Q : Int32 → HS → Prop} (C : Cx X cX4_worldLine RX4 1 rm_X4_worldLine) (E : ReI X rm_X4_worldLine (fun r S => bl r ∧ Q r S)) (ht : (xh X).sig.returnType = (some .boolean)) (hn : (xh X).name = yX4_worldLine.name) {v0 : Nat} {S : HS} (h : P_X4_worldLine_0 Q v0 S) : WS X 1 0 0 0 [(0, .ref v0)] [] S := by
  refine r_aload_n (pc := 0) C dX4_worldLine_0 0 rfl ?_
  obtain ⟨o_v0, h⟩ := h
  obtain ⟨a1, ea1, h⟩ := h
  refine r_getr (pc := 1) C fL_X4_18 dX4_worldLine_1 o_v0 ea1 ?_
  obtain ⟨o_a1, h⟩ := h
  refine r_callVi0 (pc := 4) C (rest := []) (a := a1) o_a1 [] yV_X8_isTold g_515 (c_X8_isTold h) dX4_worldLine_4 rfl rfl (Nat.le_of_ble_eq_true rfl) ⟨by decide, by decide⟩ ⟨by decide, by decide⟩ ⟨rfl, rfl⟩ (fun x4 S2 h g3 => ?_)
  have bx4 := h.1
  have h := h.2 g3 bx4
  have o_a1 := gr_ob g3 o_a1
  have o_v0 := gr_ob g3 o_v0
  refine r_if_eq (pc := 7) C (tgt := 16) dX4_worldLine_7 (by decide) (fun c5 => ?_) (fun c5 => ?_)
  · have h := h.1 c5
    refine r_aload_n (pc := 16) C dX4_worldLine_16 0 rfl ?_
    refine r_callVv0 (pc := 17) C (rest := []) (a := v0) o_v0 [] yV_X4_next g_449 (c_X4_next h) dX4_worldLine_17 rfl rfl (Nat.le_of_ble_eq_true rfl) ⟨by decide, by decide⟩ ⟨by decide, by decide⟩ ⟨rfl, rfl⟩ (fun S6 h g7 => ?_)
    have h := h g7
    have o_a1 := gr_ob g7 o_a1
    have o_v0 := gr_ob g7 o_v0
    refine r_aload_n (pc := 20) C dX4_worldLine_20 0 rfl ?_
    refine r_lds (pc := 21) C 1 rfl dX4_worldLine_21 ?_
    refine r_iconst (pc := 23) C (v := (5 : Int32)) dX4_worldLine_23 (by decide) ?_
    refine r_bipush (pc := 24) C (v := (60 : Int32)) dX4_worldLine_24 (by decide) ?_
    refine r_callVi0 (pc := 26) C (rest := []) (a := v0) o_v0 [.ref (eK (xE X) 1), .int (5 : Int32), .int (60 : Int32)] yV_X4_wordAndWhole g_524 (c_X4_wordAndWhole h) dX4_worldLine_26 rfl rfl (Nat.le_of_ble_eq_true rfl) ⟨by decide, by decide⟩ ⟨by decide, by decide⟩ ⟨rfl, rfl⟩ (fun x11 S9 h g10 => ?_)
    have bx11 := h.1
    have h := h.2 g10 bx11
    have o_a1 := gr_ob g10 o_a1
    have o_v0 := gr_ob g10 o_v0
    refine r_if_ne (pc := 29) C (tgt := 34) dX4_worldLine_29 (by decide) (fun c12 => ?_) (fun c12 => ?_)
    · have h := h.1 c12
      refine r_aload_n (pc := 34) C dX4_worldLine_34 0 rfl ?_
      obtain ⟨a13, ea13, h⟩ := h
      refine r_getr (pc := 35) C fL_X4_18 dX4_worldLine_35 o_v0 ea13 ?_
      refine r_aload_n (pc := 38) C dX4_worldLine_38 0 rfl ?_
      refine r_geti (pc := 39) C fL_X4_147 dX4_worldLine_39 o_v0 ?_
      refine r_topi (fun x14 ex14 => ?_)
      have h := h x14 ex14
      obtain ⟨o_a13, h⟩ := h
      refine r_puti (pc := 42) C pfL_X4_185 dX4_worldLine_42 o_a13 ?_
      refine r_heap (fun S15 eS15 => ?_)
      have h := h S15 eS15
      have o_a1 := ob_I eS15 o_a1
      have o_a13 := ob_I eS15 o_a13
      have o_v0 := ob_I eS15 o_v0
      refine r_iconst (pc := 45) C (v := (1 : Int32)) dX4_worldLine_45 (by decide) ?_
      exact r_zret (pc := 46) C E ht dX4_worldLine_46 (by decide) (by decide) (Or.inr rfl) h
    · have h := h.2 c12
      refine r_iconst (pc := 32) C (v := (0 : Int32)) dX4_worldLine_32 (by decide) ?_
      exact r_zret (pc := 33) C E ht dX4_worldLine_33 (by decide) (by decide) (Or.inl rfl) h
  · have h := h.2 c5
    refine r_aload_n (pc := 10) C dX4_worldLine_10 0 rfl ?_
    refine r_iconst (pc := 11) C (v := (3 : Int32)) dX4_worldLine_11 (by decide) ?_
    refine r_callVi0 (pc := 12) C (rest := []) (a := v0) o_v0 [.int (3 : Int32)] yV_X4_fail g_519 (c_X4_fail h) dX4_worldLine_12 rfl rfl (Nat.le_of_ble_eq_true rfl) ⟨by decide, by decide⟩ ⟨by decide, by decide⟩ ⟨rfl, rfl⟩ (fun x18 S16 h g17 => ?_)
    have bx18 := h.1
    have h := h.2 g17 bx18
    have o_a1 := gr_ob g17 o_a1
    have o_v0 := gr_ob g17 o_v0
    exact r_zret (pc := 15) C E ht dX4_worldLine_15 (by decide) (by decide) h.1 h.2
def P_X4_worldLine (v0 : Nat) (Q : Int32 → HS → Prop) (S : HS) : Prop := P_X4_worldLine_0 Q v0 S
theorem c_X4_worldLine {l : Launch} {Ee : EE} {S : HS} {v0 : Nat} {Q : Int32 → HS → Prop} (h : P_X4_worldLine v0 Q S) : MI l yX4_worldLine cX4_worldLine 1 (some .boolean) rm_X4_worldLine Ee S [.ref v0] (fun r S => bl r ∧ Q r S) :=
  openI (by decide) (Nat.le_of_ble_eq_true rfl) (fun X C E ht hn hE hl => by subst hE; exact r_sub [0] rfl (T_X4_worldLine_0 C E ht hn h))
def rm_X4_read : Room := { frames := 10, cells := 0, slots := 0, locals := 233 }
def P_X4_read_280 (Q : Int32 → HS → Prop) (v0 : Nat) (S : HS) : Prop := ob S v0 4 ∧ (P_X4_fail v0 (6 : Int32) (fun x3 S1 => Gr S S1 → bl x3 → (((x3 = 0) → (Q (0 : Int32) S1)) ∧ ((¬ x3 = 0) → (Q (1 : Int32) S1)))) S)
set_option maxRecDepth 20000 in
set_option maxHeartbeats 4000000 in
theorem T_X4_read_280 {X : CX} {Q : Int32 → HS → Prop} (C : Cx X cX4_read RX4 5 rm_X4_read) (E : ReI X rm_X4_read (fun r S => bl r ∧ Q r S)) (ht : (xh X).sig.returnType = (some .boolean)) (hn : (xh X).name = yX4_read.name) {v0 : Nat} {S : HS} (h : P_X4_read_280 Q v0 S) : WS X 5 0 0 280 [(0, .ref v0)] [] S := by
  refine r_aload_n (pc := 280) C dX4_read_280 0 rfl ?_
  refine r_bipush (pc := 281) C (v := (6 : Int32)) dX4_read_281 (by decide) ?_
  obtain ⟨o_v0, h⟩ := h
  refine r_callVi0 (pc := 283) C (rest := []) (a := v0) o_v0 [.int (6 : Int32)] yV_X4_fail g_519 (c_X4_fail h) dX4_read_283 rfl rfl (Nat.le_of_ble_eq_true rfl) ⟨by decide, by decide⟩ ⟨by decide, by decide⟩ ⟨rfl, rfl⟩ (fun x3 S1 h g2 => ?_)
  have bx3 := h.1
  have h := h.2 g2 bx3
  have o_v0 := gr_ob g2 o_v0
  refine r_if_eq (pc := 286) C (tgt := 293) dX4_read_286 (by decide) (fun c4 => ?_) (fun c4 => ?_)
  · have h := h.1 c4
    refine r_iconst (pc := 293) C (v := (0 : Int32)) dX4_read_293 (by decide) ?_
    exact r_zret (pc := 294) C E ht dX4_read_294 (by decide) (by decide) (Or.inl rfl) h
  · have h := h.2 c4
    refine r_iconst (pc := 289) C (v := (1 : Int32)) dX4_read_289 (by decide) ?_
    refine r_goto (pc := 290) C (tgt := 294) dX4_read_290 (by decide) ?_
    exact r_zret (pc := 294) C E ht dX4_read_294 (by decide) (by decide) (Or.inr rfl) h
def P_X4_read_295 (Q : Int32 → HS → Prop) (X8 : Nat → Int32 → HS → Prop) (v0 : Nat) (v3 : Int32) (v4 : Int32) (S : HS) : Prop := ((v4 = 0) → (Q (0 : Int32) S)) ∧ ((¬ v4 = 0) → (ob S v0 4 ∧ (P_X4_sign v0 (3 : Int32) (fun x4 S2 => Gr S S2 → bl x4 → (((¬ x4 = 0) → (∀ x6 : Int32, x6 = v3 + (1 : Int32) → (X8 v0 x6 S2))) ∧ ((x4 = 0) → (Q (0 : Int32) S2)))) S)))
set_option maxRecDepth 20000 in
set_option maxHeartbeats 4000000 in
theorem T_X4_read_295 {X : CX} {Q : Int32 → HS → Prop} (C : Cx X cX4_read RX4 5 rm_X4_read) (E : ReI X rm_X4_read (fun r S => bl r ∧ Q r S)) (ht : (xh X).sig.returnType = (some .boolean)) (hn : (xh X).name = yX4_read.name) {X8 : Nat → Int32 → HS → Prop} (hX8 : ∀ (v0 : Nat) (v3 : Int32) (S : HS), X8 v0 v3 S → WS X 5 0 0 8 [(0, .ref v0), (3, .int v3)] [] S) {v0 : Nat} {v3 : Int32} {v4 : Int32} {S : HS} (h : P_X4_read_295 Q X8 v0 v3 v4 S) : WS X 5 0 0 295 [(0, .ref v0), (3, .int v3), (4, .int v4)] [] S := by
  refine r_iload (pc := 295) C dX4_read_295 2 rfl ?_
  refine r_if_eq (pc := 297) C (tgt := 308) dX4_read_297 (by decide) (fun c1 => ?_) (fun c1 => ?_)
  · have h := h.1 c1
    refine r_iconst (pc := 308) C (v := (0 : Int32)) dX4_read_308 (by decide) ?_
    exact r_zret (pc := 309) C E ht dX4_read_309 (by decide) (by decide) (Or.inl rfl) h
  · have h := h.2 c1
    refine r_aload_n (pc := 300) C dX4_read_300 0 rfl ?_
    refine r_iconst (pc := 301) C (v := (3 : Int32)) dX4_read_301 (by decide) ?_
    obtain ⟨o_v0, h⟩ := h
    refine r_callVi0 (pc := 302) C (rest := []) (a := v0) o_v0 [.int (3 : Int32)] yV_X4_sign g_621 (c_X4_sign h) dX4_read_302 rfl rfl (Nat.le_of_ble_eq_true rfl) ⟨by decide, by decide⟩ ⟨by decide, by decide⟩ ⟨rfl, rfl⟩ (fun x4 S2 h g3 => ?_)
    have bx4 := h.1
    have h := h.2 g3 bx4
    have o_v0 := gr_ob g3 o_v0
    refine r_if_ne (pc := 305) C (tgt := 310) dX4_read_305 (by decide) (fun c5 => ?_) (fun c5 => ?_)
    · have h := h.1 c5
      obtain ⟨x6, ex6⟩ : ∃ z : Int32, z = v3 + (1 : Int32) := ⟨_, rfl⟩
      have h := h x6 ex6
      refine r_iinc (pc := 310) C (v := x6) (lv' := [(3, .int x6), (0, .ref v0), (4, .int v4)]) dX4_read_310 1 rfl ex6.symm (by decide) rfl ?_
      refine r_goto (pc := 313) C (tgt := 8) dX4_read_313 (by decide) ?_
      exact r_sub [1, 0] rfl (hX8 v0 x6 S2 h)
    · have h := h.2 c5
      refine r_iconst (pc := 308) C (v := (0 : Int32)) dX4_read_308 (by decide) ?_
      exact r_zret (pc := 309) C E ht dX4_read_309 (by decide) (by decide) (Or.inl rfl) h
def P_X4_read_248 (Q : Int32 → HS → Prop) (X8 : Nat → Int32 → HS → Prop) (v0 : Nat) (v3 : Int32) (v4 : Int32) (S : HS) : Prop := ((v4 = 0) → (P_X4_read_295 Q X8 v0 v3 v4 S)) ∧ ((¬ v4 = 0) → (ob S v0 4 ∧ (∀ x2 : Int32, x2 = fI S v0 6 → (((¬ x2 = 0) → (P_X4_read_295 Q X8 v0 v3 v4 S)) ∧ ((x2 = 0) → (∃ a4 : Nat, fR S v0 5 = some a4 ∧ (ob S a4 8 ∧ (∀ x5 : Int32, x5 = fI S a4 2 → (((x5 ≤ 0) → (P_X4_read_280 Q v0 S)) ∧ ((¬ x5 ≤ 0) → (∃ a7 : Nat, fR S v0 5 = some a7 ∧ (ob S a7 8 ∧ (∀ x8 : Int32, x8 = fI S a7 4 → (((0 < x8) → (Q (1 : Int32) S)) ∧ ((¬ 0 < x8) → (P_X4_read_280 Q v0 S))))))))))))))))
set_option maxRecDepth 20000 in
set_option maxHeartbeats 4000000 in
theorem T_X4_read_248 {X : CX} {Q : Int32 → HS → Prop} (C : Cx X cX4_read RX4 5 rm_X4_read) (E : ReI X rm_X4_read (fun r S => bl r ∧ Q r S)) (ht : (xh X).sig.returnType = (some .boolean)) (hn : (xh X).name = yX4_read.name) {X8 : Nat → Int32 → HS → Prop} (hX8 : ∀ (v0 : Nat) (v3 : Int32) (S : HS), X8 v0 v3 S → WS X 5 0 0 8 [(0, .ref v0), (3, .int v3)] [] S) {v0 : Nat} {v3 : Int32} {v4 : Int32} {S : HS} (h : P_X4_read_248 Q X8 v0 v3 v4 S) : WS X 5 0 0 248 [(0, .ref v0), (3, .int v3), (4, .int v4)] [] S := by
  refine r_iload (pc := 248) C dX4_read_248 2 rfl ?_
  refine r_if_eq (pc := 250) C (tgt := 295) dX4_read_250 (by decide) (fun c1 => ?_) (fun c1 => ?_)
  · have h := h.1 c1
    exact r_sub [0, 1, 2] rfl (T_X4_read_295 C E ht hn hX8 h)
  · have h := h.2 c1
    refine r_aload_n (pc := 253) C dX4_read_253 0 rfl ?_
    obtain ⟨o_v0, h⟩ := h
    refine r_geti (pc := 254) C fL_X4_92 dX4_read_254 o_v0 ?_
    refine r_topi (fun x2 ex2 => ?_)
    have h := h x2 ex2
    refine r_if_ne (pc := 257) C (tgt := 295) dX4_read_257 (by decide) (fun c3 => ?_) (fun c3 => ?_)
    · have h := h.1 c3
      exact r_sub [0, 1, 2] rfl (T_X4_read_295 C E ht hn hX8 h)
    · have h := h.2 c3
      refine r_aload_n (pc := 260) C dX4_read_260 0 rfl ?_
      obtain ⟨a4, ea4, h⟩ := h
      refine r_getr (pc := 261) C fL_X4_18 dX4_read_261 o_v0 ea4 ?_
      obtain ⟨o_a4, h⟩ := h
      refine r_geti (pc := 264) C fL_X4_58 dX4_read_264 o_a4 ?_
      refine r_topi (fun x5 ex5 => ?_)
      have h := h x5 ex5
      refine r_if_le (pc := 267) C (tgt := 280) dX4_read_267 (by decide) (fun c6 => ?_) (fun c6 => ?_)
      · have h := h.1 c6
        exact r_sub [0] rfl (T_X4_read_280 C E ht hn h)
      · have h := h.2 c6
        refine r_aload_n (pc := 270) C dX4_read_270 0 rfl ?_
        obtain ⟨a7, ea7, h⟩ := h
        refine r_getr (pc := 271) C fL_X4_18 dX4_read_271 o_v0 ea7 ?_
        obtain ⟨o_a7, h⟩ := h
        refine r_geti (pc := 274) C fL_X4_74 dX4_read_274 o_a7 ?_
        refine r_topi (fun x8 ex8 => ?_)
        have h := h x8 ex8
        refine r_if_gt (pc := 277) C (tgt := 289) dX4_read_277 (by decide) (fun c9 => ?_) (fun c9 => ?_)
        · have h := h.1 c9
          refine r_iconst (pc := 289) C (v := (1 : Int32)) dX4_read_289 (by decide) ?_
          refine r_goto (pc := 290) C (tgt := 294) dX4_read_290 (by decide) ?_
          exact r_zret (pc := 294) C E ht dX4_read_294 (by decide) (by decide) (Or.inr rfl) h
        · have h := h.2 c9
          exact r_sub [0] rfl (T_X4_read_280 C E ht hn h)
def P_X4_read_70 (Q : Int32 → HS → Prop) (X8 : Nat → Int32 → HS → Prop) (v0 : Nat) (v3 : Int32) (s0 : Int32) (S : HS) : Prop := P_X4_read_248 Q X8 v0 v3 s0 S
set_option maxRecDepth 20000 in
set_option maxHeartbeats 4000000 in
theorem T_X4_read_70 {X : CX} {Q : Int32 → HS → Prop} (C : Cx X cX4_read RX4 5 rm_X4_read) (E : ReI X rm_X4_read (fun r S => bl r ∧ Q r S)) (ht : (xh X).sig.returnType = (some .boolean)) (hn : (xh X).name = yX4_read.name) {X8 : Nat → Int32 → HS → Prop} (hX8 : ∀ (v0 : Nat) (v3 : Int32) (S : HS), X8 v0 v3 S → WS X 5 0 0 8 [(0, .ref v0), (3, .int v3)] [] S) {v0 : Nat} {v3 : Int32} {s0 : Int32} {S : HS} (h : P_X4_read_70 Q X8 v0 v3 s0 S) : WS X 5 0 0 70 [(0, .ref v0), (3, .int v3)] [.int s0] S := by
  refine r_istore (pc := 70) C dX4_read_70 (by decide) (lv' := [(4, .int s0), (0, .ref v0), (3, .int v3)]) rfl ?_
  refine r_goto (pc := 72) C (tgt := 248) dX4_read_72 (by decide) ?_
  exact r_sub [1, 2, 0] rfl (T_X4_read_248 C E ht hn hX8 h)
def P_X4_read_69 (Q : Int32 → HS → Prop) (X8 : Nat → Int32 → HS → Prop) (v0 : Nat) (v3 : Int32) (S : HS) : Prop := P_X4_read_70 Q X8 v0 v3 (0 : Int32) S
set_option maxRecDepth 20000 in
set_option maxHeartbeats 4000000 in
theorem T_X4_read_69 {X : CX} {Q : Int32 → HS → Prop} (C : Cx X cX4_read RX4 5 rm_X4_read) (E : ReI X rm_X4_read (fun r S => bl r ∧ Q r S)) (ht : (xh X).sig.returnType = (some .boolean)) (hn : (xh X).name = yX4_read.name) {X8 : Nat → Int32 → HS → Prop} (hX8 : ∀ (v0 : Nat) (v3 : Int32) (S : HS), X8 v0 v3 S → WS X 5 0 0 8 [(0, .ref v0), (3, .int v3)] [] S) {v0 : Nat} {v3 : Int32} {S : HS} (h : P_X4_read_69 Q X8 v0 v3 S) : WS X 5 0 0 69 [(0, .ref v0), (3, .int v3)] [] S := by
  refine r_iconst (pc := 69) C (v := (0 : Int32)) dX4_read_69 (by decide) ?_
  exact r_sub [0, 1] rfl (T_X4_read_70 C E ht hn hX8 h)
def P_X4_read_112 (Q : Int32 → HS → Prop) (X8 : Nat → Int32 → HS → Prop) (v0 : Nat) (v3 : Int32) (s0 : Int32) (S : HS) : Prop := P_X4_read_248 Q X8 v0 v3 s0 S
set_option maxRecDepth 20000 in
set_option maxHeartbeats 4000000 in
theorem T_X4_read_112 {X : CX} {Q : Int32 → HS → Prop} (C : Cx X cX4_read RX4 5 rm_X4_read) (E : ReI X rm_X4_read (fun r S => bl r ∧ Q r S)) (ht : (xh X).sig.returnType = (some .boolean)) (hn : (xh X).name = yX4_read.name) {X8 : Nat → Int32 → HS → Prop} (hX8 : ∀ (v0 : Nat) (v3 : Int32) (S : HS), X8 v0 v3 S → WS X 5 0 0 8 [(0, .ref v0), (3, .int v3)] [] S) {v0 : Nat} {v3 : Int32} {s0 : Int32} {S : HS} (h : P_X4_read_112 Q X8 v0 v3 s0 S) : WS X 5 0 0 112 [(0, .ref v0), (3, .int v3)] [.int s0] S := by
  refine r_istore (pc := 112) C dX4_read_112 (by decide) (lv' := [(4, .int s0), (0, .ref v0), (3, .int v3)]) rfl ?_
  refine r_goto (pc := 114) C (tgt := 248) dX4_read_114 (by decide) ?_
  exact r_sub [1, 2, 0] rfl (T_X4_read_248 C E ht hn hX8 h)
def P_X4_read_111 (Q : Int32 → HS → Prop) (X8 : Nat → Int32 → HS → Prop) (v0 : Nat) (v3 : Int32) (S : HS) : Prop := P_X4_read_112 Q X8 v0 v3 (0 : Int32) S
set_option maxRecDepth 20000 in
set_option maxHeartbeats 4000000 in
theorem T_X4_read_111 {X : CX} {Q : Int32 → HS → Prop} (C : Cx X cX4_read RX4 5 rm_X4_read) (E : ReI X rm_X4_read (fun r S => bl r ∧ Q r S)) (ht : (xh X).sig.returnType = (some .boolean)) (hn : (xh X).name = yX4_read.name) {X8 : Nat → Int32 → HS → Prop} (hX8 : ∀ (v0 : Nat) (v3 : Int32) (S : HS), X8 v0 v3 S → WS X 5 0 0 8 [(0, .ref v0), (3, .int v3)] [] S) {v0 : Nat} {v3 : Int32} {S : HS} (h : P_X4_read_111 Q X8 v0 v3 S) : WS X 5 0 0 111 [(0, .ref v0), (3, .int v3)] [] S := by
  refine r_iconst (pc := 111) C (v := (0 : Int32)) dX4_read_111 (by decide) ?_
  exact r_sub [0, 1] rfl (T_X4_read_112 C E ht hn hX8 h)
def P_X4_read_154 (Q : Int32 → HS → Prop) (X8 : Nat → Int32 → HS → Prop) (v0 : Nat) (v3 : Int32) (s0 : Int32) (S : HS) : Prop := P_X4_read_248 Q X8 v0 v3 s0 S
set_option maxRecDepth 20000 in
set_option maxHeartbeats 4000000 in
theorem T_X4_read_154 {X : CX} {Q : Int32 → HS → Prop} (C : Cx X cX4_read RX4 5 rm_X4_read) (E : ReI X rm_X4_read (fun r S => bl r ∧ Q r S)) (ht : (xh X).sig.returnType = (some .boolean)) (hn : (xh X).name = yX4_read.name) {X8 : Nat → Int32 → HS → Prop} (hX8 : ∀ (v0 : Nat) (v3 : Int32) (S : HS), X8 v0 v3 S → WS X 5 0 0 8 [(0, .ref v0), (3, .int v3)] [] S) {v0 : Nat} {v3 : Int32} {s0 : Int32} {S : HS} (h : P_X4_read_154 Q X8 v0 v3 s0 S) : WS X 5 0 0 154 [(0, .ref v0), (3, .int v3)] [.int s0] S := by
  refine r_istore (pc := 154) C dX4_read_154 (by decide) (lv' := [(4, .int s0), (0, .ref v0), (3, .int v3)]) rfl ?_
  refine r_goto (pc := 156) C (tgt := 248) dX4_read_156 (by decide) ?_
  exact r_sub [1, 2, 0] rfl (T_X4_read_248 C E ht hn hX8 h)
def P_X4_read_153 (Q : Int32 → HS → Prop) (X8 : Nat → Int32 → HS → Prop) (v0 : Nat) (v3 : Int32) (S : HS) : Prop := P_X4_read_154 Q X8 v0 v3 (0 : Int32) S
set_option maxRecDepth 20000 in
set_option maxHeartbeats 4000000 in
theorem T_X4_read_153 {X : CX} {Q : Int32 → HS → Prop} (C : Cx X cX4_read RX4 5 rm_X4_read) (E : ReI X rm_X4_read (fun r S => bl r ∧ Q r S)) (ht : (xh X).sig.returnType = (some .boolean)) (hn : (xh X).name = yX4_read.name) {X8 : Nat → Int32 → HS → Prop} (hX8 : ∀ (v0 : Nat) (v3 : Int32) (S : HS), X8 v0 v3 S → WS X 5 0 0 8 [(0, .ref v0), (3, .int v3)] [] S) {v0 : Nat} {v3 : Int32} {S : HS} (h : P_X4_read_153 Q X8 v0 v3 S) : WS X 5 0 0 153 [(0, .ref v0), (3, .int v3)] [] S := by
  refine r_iconst (pc := 153) C (v := (0 : Int32)) dX4_read_153 (by decide) ?_
  exact r_sub [0, 1] rfl (T_X4_read_154 C E ht hn hX8 h)
def P_X4_read_195 (Q : Int32 → HS → Prop) (X8 : Nat → Int32 → HS → Prop) (v0 : Nat) (v3 : Int32) (s0 : Int32) (S : HS) : Prop := P_X4_read_248 Q X8 v0 v3 s0 S
set_option maxRecDepth 20000 in
set_option maxHeartbeats 4000000 in
theorem T_X4_read_195 {X : CX} {Q : Int32 → HS → Prop} (C : Cx X cX4_read RX4 5 rm_X4_read) (E : ReI X rm_X4_read (fun r S => bl r ∧ Q r S)) (ht : (xh X).sig.returnType = (some .boolean)) (hn : (xh X).name = yX4_read.name) {X8 : Nat → Int32 → HS → Prop} (hX8 : ∀ (v0 : Nat) (v3 : Int32) (S : HS), X8 v0 v3 S → WS X 5 0 0 8 [(0, .ref v0), (3, .int v3)] [] S) {v0 : Nat} {v3 : Int32} {s0 : Int32} {S : HS} (h : P_X4_read_195 Q X8 v0 v3 s0 S) : WS X 5 0 0 195 [(0, .ref v0), (3, .int v3)] [.int s0] S := by
  refine r_istore (pc := 195) C dX4_read_195 (by decide) (lv' := [(4, .int s0), (0, .ref v0), (3, .int v3)]) rfl ?_
  refine r_goto (pc := 197) C (tgt := 248) dX4_read_197 (by decide) ?_
  exact r_sub [1, 2, 0] rfl (T_X4_read_248 C E ht hn hX8 h)
def P_X4_read_194 (Q : Int32 → HS → Prop) (X8 : Nat → Int32 → HS → Prop) (v0 : Nat) (v3 : Int32) (S : HS) : Prop := P_X4_read_195 Q X8 v0 v3 (0 : Int32) S
set_option maxRecDepth 20000 in
set_option maxHeartbeats 4000000 in
theorem T_X4_read_194 {X : CX} {Q : Int32 → HS → Prop} (C : Cx X cX4_read RX4 5 rm_X4_read) (E : ReI X rm_X4_read (fun r S => bl r ∧ Q r S)) (ht : (xh X).sig.returnType = (some .boolean)) (hn : (xh X).name = yX4_read.name) {X8 : Nat → Int32 → HS → Prop} (hX8 : ∀ (v0 : Nat) (v3 : Int32) (S : HS), X8 v0 v3 S → WS X 5 0 0 8 [(0, .ref v0), (3, .int v3)] [] S) {v0 : Nat} {v3 : Int32} {S : HS} (h : P_X4_read_194 Q X8 v0 v3 S) : WS X 5 0 0 194 [(0, .ref v0), (3, .int v3)] [] S := by
  refine r_iconst (pc := 194) C (v := (0 : Int32)) dX4_read_194 (by decide) ?_
  exact r_sub [0, 1] rfl (T_X4_read_195 C E ht hn hX8 h)
def P_X4_read_236 (Q : Int32 → HS → Prop) (X8 : Nat → Int32 → HS → Prop) (v0 : Nat) (v3 : Int32) (s0 : Int32) (S : HS) : Prop := P_X4_read_248 Q X8 v0 v3 s0 S
set_option maxRecDepth 20000 in
set_option maxHeartbeats 4000000 in
theorem T_X4_read_236 {X : CX} {Q : Int32 → HS → Prop} (C : Cx X cX4_read RX4 5 rm_X4_read) (E : ReI X rm_X4_read (fun r S => bl r ∧ Q r S)) (ht : (xh X).sig.returnType = (some .boolean)) (hn : (xh X).name = yX4_read.name) {X8 : Nat → Int32 → HS → Prop} (hX8 : ∀ (v0 : Nat) (v3 : Int32) (S : HS), X8 v0 v3 S → WS X 5 0 0 8 [(0, .ref v0), (3, .int v3)] [] S) {v0 : Nat} {v3 : Int32} {s0 : Int32} {S : HS} (h : P_X4_read_236 Q X8 v0 v3 s0 S) : WS X 5 0 0 236 [(0, .ref v0), (3, .int v3)] [.int s0] S := by
  refine r_istore (pc := 236) C dX4_read_236 (by decide) (lv' := [(4, .int s0), (0, .ref v0), (3, .int v3)]) rfl ?_
  refine r_goto (pc := 238) C (tgt := 248) dX4_read_238 (by decide) ?_
  exact r_sub [1, 2, 0] rfl (T_X4_read_248 C E ht hn hX8 h)
def P_X4_read_235 (Q : Int32 → HS → Prop) (X8 : Nat → Int32 → HS → Prop) (v0 : Nat) (v3 : Int32) (S : HS) : Prop := P_X4_read_236 Q X8 v0 v3 (0 : Int32) S
set_option maxRecDepth 20000 in
set_option maxHeartbeats 4000000 in
theorem T_X4_read_235 {X : CX} {Q : Int32 → HS → Prop} (C : Cx X cX4_read RX4 5 rm_X4_read) (E : ReI X rm_X4_read (fun r S => bl r ∧ Q r S)) (ht : (xh X).sig.returnType = (some .boolean)) (hn : (xh X).name = yX4_read.name) {X8 : Nat → Int32 → HS → Prop} (hX8 : ∀ (v0 : Nat) (v3 : Int32) (S : HS), X8 v0 v3 S → WS X 5 0 0 8 [(0, .ref v0), (3, .int v3)] [] S) {v0 : Nat} {v3 : Int32} {S : HS} (h : P_X4_read_235 Q X8 v0 v3 S) : WS X 5 0 0 235 [(0, .ref v0), (3, .int v3)] [] S := by
  refine r_iconst (pc := 235) C (v := (0 : Int32)) dX4_read_235 (by decide) ?_
  exact r_sub [0, 1] rfl (T_X4_read_236 C E ht hn hX8 h)
def B_X4_read_8 (Q : Int32 → HS → Prop) (X8 : Nat → Int32 → HS → Prop) (v0 : Nat) (v3 : Int32) (S : HS) : Prop := (((900 : Int32) < v3) → (ob S v0 4 ∧ (P_X4_fail v0 (1 : Int32) (fun x4 S2 => Gr S S2 → bl x4 → (bl x4 ∧ Q x4 S2)) S))) ∧ ((¬ (900 : Int32) < v3) → (ob S v0 4 ∧ (P_X4_is v0 0 (fun x7 S5 => Gr S S5 → bl x7 → (((x7 = 0) → (P_X4_is v0 2 (fun x11 S9 => Gr S5 S9 → bl x11 → (((x11 = 0) → (P_X4_is v0 11 (fun x15 S13 => Gr S9 S13 → bl x15 → (((x15 = 0) → (P_X4_is v0 12 (fun x19 S17 => Gr S13 S17 → bl x19 → (((x19 = 0) → (P_X4_is v0 13 (fun x23 S21 => Gr S17 S21 → bl x23 → (((x23 = 0) → (P_X4_is v0 14 (fun x27 S25 => Gr S21 S25 → bl x27 → (((x27 = 0) → (P_X4_fail v0 (1 : Int32) (fun x31 S29 => Gr S25 S29 → bl x31 → (P_X4_read_248 Q X8 v0 v3 x31 S29)) S25)) ∧ ((¬ x27 = 0) → (∃ a32 : Nat, fR S25 v0 5 = some a32 ∧ (ob S25 a32 8 ∧ (∀ x33 : Int32, x33 = fI S25 a32 5 → (P_X4_hasRoom v0 x33 (4 : Int32) (fun x36 S34 => Gr S25 S34 → bl x36 → (((x36 = 0) → (P_X4_read_235 Q X8 v0 v3 S34)) ∧ ((¬ x36 = 0) → (P_X4_seenLine v0 (fun x40 S38 => Gr S34 S38 → bl x40 → (((x40 = 0) → (P_X4_read_235 Q X8 v0 v3 S38)) ∧ ((¬ x40 = 0) → (P_X4_read_236 Q X8 v0 v3 (1 : Int32) S38)))) S34)))) S25))))))) S21)) ∧ ((¬ x23 = 0) → (∃ a42 : Nat, fR S21 v0 5 = some a42 ∧ (ob S21 a42 8 ∧ (∀ x43 : Int32, x43 = fI S21 a42 4 → (P_X4_hasRoom v0 x43 (4 : Int32) (fun x46 S44 => Gr S21 S44 → bl x46 → (((x46 = 0) → (P_X4_read_194 Q X8 v0 v3 S44)) ∧ ((¬ x46 = 0) → (P_X4_walkerLine v0 (fun x50 S48 => Gr S44 S48 → bl x50 → (((x50 = 0) → (P_X4_read_194 Q X8 v0 v3 S48)) ∧ ((¬ x50 = 0) → (P_X4_read_195 Q X8 v0 v3 (1 : Int32) S48)))) S44)))) S21))))))) S17)) ∧ ((¬ x19 = 0) → (∃ a52 : Nat, fR S17 v0 5 = some a52 ∧ (ob S17 a52 8 ∧ (∀ x53 : Int32, x53 = fI S17 a52 3 → (P_X4_hasRoom v0 x53 (12 : Int32) (fun x56 S54 => Gr S17 S54 → bl x56 → (((x56 = 0) → (P_X4_read_153 Q X8 v0 v3 S54)) ∧ ((¬ x56 = 0) → (P_X4_roadLine v0 (fun x60 S58 => Gr S54 S58 → bl x60 → (((x60 = 0) → (P_X4_read_153 Q X8 v0 v3 S58)) ∧ ((¬ x60 = 0) → (P_X4_read_154 Q X8 v0 v3 (1 : Int32) S58)))) S54)))) S17))))))) S13)) ∧ ((¬ x15 = 0) → (∃ a62 : Nat, fR S13 v0 5 = some a62 ∧ (ob S13 a62 8 ∧ (∀ x63 : Int32, x63 = fI S13 a62 2 → (P_X4_hasRoom v0 x63 (8 : Int32) (fun x66 S64 => Gr S13 S64 → bl x66 → (((x66 = 0) → (P_X4_read_111 Q X8 v0 v3 S64)) ∧ ((¬ x66 = 0) → (P_X4_placeLine v0 (fun x70 S68 => Gr S64 S68 → bl x70 → (((x70 = 0) → (P_X4_read_111 Q X8 v0 v3 S68)) ∧ ((¬ x70 = 0) → (P_X4_read_112 Q X8 v0 v3 (1 : Int32) S68)))) S64)))) S13))))))) S9)) ∧ ((¬ x11 = 0) → (∃ a72 : Nat, fR S9 v0 5 = some a72 ∧ (ob S9 a72 8 ∧ (∀ x73 : Int32, x73 = fI S9 a72 1 → (P_X4_hasRoom v0 x73 (6 : Int32) (fun x76 S74 => Gr S9 S74 → bl x76 → (((x76 = 0) → (P_X4_read_69 Q X8 v0 v3 S74)) ∧ ((¬ x76 = 0) → (P_X4_rainLine v0 (fun x80 S78 => Gr S74 S78 → bl x80 → (((x80 = 0) → (P_X4_read_69 Q X8 v0 v3 S78)) ∧ ((¬ x80 = 0) → (P_X4_read_70 Q X8 v0 v3 (1 : Int32) S78)))) S74)))) S9))))))) S5)) ∧ ((¬ x7 = 0) → (P_X4_worldLine v0 (fun x84 S82 => Gr S5 S82 → bl x84 → (P_X4_read_248 Q X8 v0 v3 x84 S82)) S5)))) S)))
def P_X4_read_8 (Q : Int32 → HS → Prop) (v0 : Nat) (v3 : Int32) (S : HS) : Prop := ∀ X8 : Nat → Int32 → HS → Prop, (∀ (v0 : Nat) (v3 : Int32) (S : HS), B_X4_read_8 Q X8 v0 v3 S → X8 v0 v3 S) → X8 v0 v3 S
set_option maxRecDepth 20000 in
set_option maxHeartbeats 4000000 in
theorem TB_X4_read_8 {X : CX} {Q : Int32 → HS → Prop} (C : Cx X cX4_read RX4 5 rm_X4_read) (E : ReI X rm_X4_read (fun r S => bl r ∧ Q r S)) (ht : (xh X).sig.returnType = (some .boolean)) (hn : (xh X).name = yX4_read.name) {X8 : Nat → Int32 → HS → Prop} (hX8 : ∀ (v0 : Nat) (v3 : Int32) (S : HS), X8 v0 v3 S → WS X 5 0 0 8 [(0, .ref v0), (3, .int v3)] [] S) {v0 : Nat} {v3 : Int32} {S : HS} (h : B_X4_read_8 Q X8 v0 v3 S) : WS X 5 0 0 8 [(0, .ref v0), (3, .int v3)] [] S := by
  refine r_iload_n (pc := 8) C dX4_read_8 1 rfl ?_
  refine r_sipush (pc := 9) C (v := (900 : Int32)) dX4_read_9 (by decide) ?_
  refine r_icmp_gt (pc := 12) C (tgt := 316) dX4_read_12 (by decide) (fun c1 => ?_) (fun c1 => ?_)
  · have h := h.1 c1
    refine r_aload_n (pc := 316) C dX4_read_316 0 rfl ?_
    refine r_iconst (pc := 317) C (v := (1 : Int32)) dX4_read_317 (by decide) ?_
    obtain ⟨o_v0, h⟩ := h
    refine r_callVi0 (pc := 318) C (rest := []) (a := v0) o_v0 [.int (1 : Int32)] yV_X4_fail g_519 (c_X4_fail h) dX4_read_318 rfl rfl (Nat.le_of_ble_eq_true rfl) ⟨by decide, by decide⟩ ⟨by decide, by decide⟩ ⟨rfl, rfl⟩ (fun x4 S2 h g3 => ?_)
    have bx4 := h.1
    have h := h.2 g3 bx4
    have o_v0 := gr_ob g3 o_v0
    exact r_zret (pc := 321) C E ht dX4_read_321 (by decide) (by decide) h.1 h.2
  · have h := h.2 c1
    refine r_aload_n (pc := 15) C dX4_read_15 0 rfl ?_
    refine r_lds (pc := 16) C 0 rfl dX4_read_16 ?_
    obtain ⟨o_v0, h⟩ := h
    refine r_callVi0 (pc := 18) C (rest := []) (a := v0) o_v0 [.ref (eK (xE X) 0)] yV_X4_is g_458 (c_X4_is h) dX4_read_18 rfl rfl (Nat.le_of_ble_eq_true rfl) ⟨by decide, by decide⟩ ⟨by decide, by decide⟩ ⟨rfl, rfl⟩ (fun x7 S5 h g6 => ?_)
    have bx7 := h.1
    have h := h.2 g6 bx7
    have o_v0 := gr_ob g6 o_v0
    refine r_if_eq (pc := 21) C (tgt := 33) dX4_read_21 (by decide) (fun c8 => ?_) (fun c8 => ?_)
    · have h := h.1 c8
      refine r_aload_n (pc := 33) C dX4_read_33 0 rfl ?_
      refine r_lds (pc := 34) C 2 rfl dX4_read_34 ?_
      refine r_callVi0 (pc := 36) C (rest := []) (a := v0) o_v0 [.ref (eK (xE X) 2)] yV_X4_is g_458 (c_X4_is h) dX4_read_36 rfl rfl (Nat.le_of_ble_eq_true rfl) ⟨by decide, by decide⟩ ⟨by decide, by decide⟩ ⟨rfl, rfl⟩ (fun x11 S9 h g10 => ?_)
      have bx11 := h.1
      have h := h.2 g10 bx11
      have o_v0 := gr_ob g10 o_v0
      refine r_if_eq (pc := 39) C (tgt := 75) dX4_read_39 (by decide) (fun c12 => ?_) (fun c12 => ?_)
      · have h := h.1 c12
        refine r_aload_n (pc := 75) C dX4_read_75 0 rfl ?_
        refine r_lds (pc := 76) C 11 rfl dX4_read_76 ?_
        refine r_callVi0 (pc := 78) C (rest := []) (a := v0) o_v0 [.ref (eK (xE X) 11)] yV_X4_is g_458 (c_X4_is h) dX4_read_78 rfl rfl (Nat.le_of_ble_eq_true rfl) ⟨by decide, by decide⟩ ⟨by decide, by decide⟩ ⟨rfl, rfl⟩ (fun x15 S13 h g14 => ?_)
        have bx15 := h.1
        have h := h.2 g14 bx15
        have o_v0 := gr_ob g14 o_v0
        refine r_if_eq (pc := 81) C (tgt := 117) dX4_read_81 (by decide) (fun c16 => ?_) (fun c16 => ?_)
        · have h := h.1 c16
          refine r_aload_n (pc := 117) C dX4_read_117 0 rfl ?_
          refine r_lds (pc := 118) C 12 rfl dX4_read_118 ?_
          refine r_callVi0 (pc := 120) C (rest := []) (a := v0) o_v0 [.ref (eK (xE X) 12)] yV_X4_is g_458 (c_X4_is h) dX4_read_120 rfl rfl (Nat.le_of_ble_eq_true rfl) ⟨by decide, by decide⟩ ⟨by decide, by decide⟩ ⟨rfl, rfl⟩ (fun x19 S17 h g18 => ?_)
          have bx19 := h.1
          have h := h.2 g18 bx19
          have o_v0 := gr_ob g18 o_v0
          refine r_if_eq (pc := 123) C (tgt := 159) dX4_read_123 (by decide) (fun c20 => ?_) (fun c20 => ?_)
          · have h := h.1 c20
            refine r_aload_n (pc := 159) C dX4_read_159 0 rfl ?_
            refine r_lds (pc := 160) C 13 rfl dX4_read_160 ?_
            refine r_callVi0 (pc := 162) C (rest := []) (a := v0) o_v0 [.ref (eK (xE X) 13)] yV_X4_is g_458 (c_X4_is h) dX4_read_162 rfl rfl (Nat.le_of_ble_eq_true rfl) ⟨by decide, by decide⟩ ⟨by decide, by decide⟩ ⟨rfl, rfl⟩ (fun x23 S21 h g22 => ?_)
            have bx23 := h.1
            have h := h.2 g22 bx23
            have o_v0 := gr_ob g22 o_v0
            refine r_if_eq (pc := 165) C (tgt := 200) dX4_read_165 (by decide) (fun c24 => ?_) (fun c24 => ?_)
            · have h := h.1 c24
              refine r_aload_n (pc := 200) C dX4_read_200 0 rfl ?_
              refine r_lds (pc := 201) C 14 rfl dX4_read_201 ?_
              refine r_callVi0 (pc := 203) C (rest := []) (a := v0) o_v0 [.ref (eK (xE X) 14)] yV_X4_is g_458 (c_X4_is h) dX4_read_203 rfl rfl (Nat.le_of_ble_eq_true rfl) ⟨by decide, by decide⟩ ⟨by decide, by decide⟩ ⟨rfl, rfl⟩ (fun x27 S25 h g26 => ?_)
              have bx27 := h.1
              have h := h.2 g26 bx27
              have o_v0 := gr_ob g26 o_v0
              refine r_if_eq (pc := 206) C (tgt := 241) dX4_read_206 (by decide) (fun c28 => ?_) (fun c28 => ?_)
              · have h := h.1 c28
                refine r_aload_n (pc := 241) C dX4_read_241 0 rfl ?_
                refine r_iconst (pc := 242) C (v := (1 : Int32)) dX4_read_242 (by decide) ?_
                refine r_callVi0 (pc := 243) C (rest := []) (a := v0) o_v0 [.int (1 : Int32)] yV_X4_fail g_519 (c_X4_fail h) dX4_read_243 rfl rfl (Nat.le_of_ble_eq_true rfl) ⟨by decide, by decide⟩ ⟨by decide, by decide⟩ ⟨rfl, rfl⟩ (fun x31 S29 h g30 => ?_)
                have bx31 := h.1
                have h := h.2 g30 bx31
                have o_v0 := gr_ob g30 o_v0
                refine r_istore (pc := 246) C dX4_read_246 (by decide) (lv' := [(4, .int x31), (0, .ref v0), (3, .int v3)]) rfl ?_
                exact r_sub [1, 2, 0] rfl (T_X4_read_248 C E ht hn hX8 h)
              · have h := h.2 c28
                refine r_aload_n (pc := 209) C dX4_read_209 0 rfl ?_
                refine r_aload_n (pc := 210) C dX4_read_210 0 rfl ?_
                obtain ⟨a32, ea32, h⟩ := h
                refine r_getr (pc := 211) C fL_X4_18 dX4_read_211 o_v0 ea32 ?_
                obtain ⟨o_a32, h⟩ := h
                refine r_geti (pc := 214) C fL_X4_82 dX4_read_214 o_a32 ?_
                refine r_topi (fun x33 ex33 => ?_)
                have h := h x33 ex33
                refine r_iconst (pc := 217) C (v := (4 : Int32)) dX4_read_217 (by decide) ?_
                refine r_callVi0 (pc := 218) C (rest := []) (a := v0) o_v0 [.int x33, .int (4 : Int32)] yV_X4_hasRoom g_537 (c_X4_hasRoom h) dX4_read_218 rfl rfl (Nat.le_of_ble_eq_true rfl) ⟨by decide, by decide⟩ ⟨by decide, by decide⟩ ⟨rfl, rfl⟩ (fun x36 S34 h g35 => ?_)
                have bx36 := h.1
                have h := h.2 g35 bx36
                have o_a32 := gr_ob g35 o_a32
                have o_v0 := gr_ob g35 o_v0
                refine r_if_eq (pc := 221) C (tgt := 235) dX4_read_221 (by decide) (fun c37 => ?_) (fun c37 => ?_)
                · have h := h.1 c37
                  exact r_sub [0, 1] rfl (T_X4_read_235 C E ht hn hX8 h)
                · have h := h.2 c37
                  refine r_aload_n (pc := 224) C dX4_read_224 0 rfl ?_
                  refine r_callVi0 (pc := 225) C (rest := []) (a := v0) o_v0 [] yV_X4_seenLine g_613 (c_X4_seenLine h) dX4_read_225 rfl rfl (Nat.le_of_ble_eq_true rfl) ⟨by decide, by decide⟩ ⟨by decide, by decide⟩ ⟨rfl, rfl⟩ (fun x40 S38 h g39 => ?_)
                  have bx40 := h.1
                  have h := h.2 g39 bx40
                  have o_a32 := gr_ob g39 o_a32
                  have o_v0 := gr_ob g39 o_v0
                  refine r_if_eq (pc := 228) C (tgt := 235) dX4_read_228 (by decide) (fun c41 => ?_) (fun c41 => ?_)
                  · have h := h.1 c41
                    exact r_sub [0, 1] rfl (T_X4_read_235 C E ht hn hX8 h)
                  · have h := h.2 c41
                    refine r_iconst (pc := 231) C (v := (1 : Int32)) dX4_read_231 (by decide) ?_
                    refine r_goto (pc := 232) C (tgt := 236) dX4_read_232 (by decide) ?_
                    exact r_sub [0, 1] rfl (T_X4_read_236 C E ht hn hX8 h)
            · have h := h.2 c24
              refine r_aload_n (pc := 168) C dX4_read_168 0 rfl ?_
              refine r_aload_n (pc := 169) C dX4_read_169 0 rfl ?_
              obtain ⟨a42, ea42, h⟩ := h
              refine r_getr (pc := 170) C fL_X4_18 dX4_read_170 o_v0 ea42 ?_
              obtain ⟨o_a42, h⟩ := h
              refine r_geti (pc := 173) C fL_X4_74 dX4_read_173 o_a42 ?_
              refine r_topi (fun x43 ex43 => ?_)
              have h := h x43 ex43
              refine r_iconst (pc := 176) C (v := (4 : Int32)) dX4_read_176 (by decide) ?_
              refine r_callVi0 (pc := 177) C (rest := []) (a := v0) o_v0 [.int x43, .int (4 : Int32)] yV_X4_hasRoom g_537 (c_X4_hasRoom h) dX4_read_177 rfl rfl (Nat.le_of_ble_eq_true rfl) ⟨by decide, by decide⟩ ⟨by decide, by decide⟩ ⟨rfl, rfl⟩ (fun x46 S44 h g45 => ?_)
              have bx46 := h.1
              have h := h.2 g45 bx46
              have o_a42 := gr_ob g45 o_a42
              have o_v0 := gr_ob g45 o_v0
              refine r_if_eq (pc := 180) C (tgt := 194) dX4_read_180 (by decide) (fun c47 => ?_) (fun c47 => ?_)
              · have h := h.1 c47
                exact r_sub [0, 1] rfl (T_X4_read_194 C E ht hn hX8 h)
              · have h := h.2 c47
                refine r_aload_n (pc := 183) C dX4_read_183 0 rfl ?_
                refine r_callVi0 (pc := 184) C (rest := []) (a := v0) o_v0 [] yV_X4_walkerLine g_588 (c_X4_walkerLine h) dX4_read_184 rfl rfl (Nat.le_of_ble_eq_true rfl) ⟨by decide, by decide⟩ ⟨by decide, by decide⟩ ⟨rfl, rfl⟩ (fun x50 S48 h g49 => ?_)
                have bx50 := h.1
                have h := h.2 g49 bx50
                have o_a42 := gr_ob g49 o_a42
                have o_v0 := gr_ob g49 o_v0
                refine r_if_eq (pc := 187) C (tgt := 194) dX4_read_187 (by decide) (fun c51 => ?_) (fun c51 => ?_)
                · have h := h.1 c51
                  exact r_sub [0, 1] rfl (T_X4_read_194 C E ht hn hX8 h)
                · have h := h.2 c51
                  refine r_iconst (pc := 190) C (v := (1 : Int32)) dX4_read_190 (by decide) ?_
                  refine r_goto (pc := 191) C (tgt := 195) dX4_read_191 (by decide) ?_
                  exact r_sub [0, 1] rfl (T_X4_read_195 C E ht hn hX8 h)
          · have h := h.2 c20
            refine r_aload_n (pc := 126) C dX4_read_126 0 rfl ?_
            refine r_aload_n (pc := 127) C dX4_read_127 0 rfl ?_
            obtain ⟨a52, ea52, h⟩ := h
            refine r_getr (pc := 128) C fL_X4_18 dX4_read_128 o_v0 ea52 ?_
            obtain ⟨o_a52, h⟩ := h
            refine r_geti (pc := 131) C fL_X4_66 dX4_read_131 o_a52 ?_
            refine r_topi (fun x53 ex53 => ?_)
            have h := h x53 ex53
            refine r_bipush (pc := 134) C (v := (12 : Int32)) dX4_read_134 (by decide) ?_
            refine r_callVi0 (pc := 136) C (rest := []) (a := v0) o_v0 [.int x53, .int (12 : Int32)] yV_X4_hasRoom g_537 (c_X4_hasRoom h) dX4_read_136 rfl rfl (Nat.le_of_ble_eq_true rfl) ⟨by decide, by decide⟩ ⟨by decide, by decide⟩ ⟨rfl, rfl⟩ (fun x56 S54 h g55 => ?_)
            have bx56 := h.1
            have h := h.2 g55 bx56
            have o_a52 := gr_ob g55 o_a52
            have o_v0 := gr_ob g55 o_v0
            refine r_if_eq (pc := 139) C (tgt := 153) dX4_read_139 (by decide) (fun c57 => ?_) (fun c57 => ?_)
            · have h := h.1 c57
              exact r_sub [0, 1] rfl (T_X4_read_153 C E ht hn hX8 h)
            · have h := h.2 c57
              refine r_aload_n (pc := 142) C dX4_read_142 0 rfl ?_
              refine r_callVi0 (pc := 143) C (rest := []) (a := v0) o_v0 [] yV_X4_roadLine g_580 (c_X4_roadLine h) dX4_read_143 rfl rfl (Nat.le_of_ble_eq_true rfl) ⟨by decide, by decide⟩ ⟨by decide, by decide⟩ ⟨rfl, rfl⟩ (fun x60 S58 h g59 => ?_)
              have bx60 := h.1
              have h := h.2 g59 bx60
              have o_a52 := gr_ob g59 o_a52
              have o_v0 := gr_ob g59 o_v0
              refine r_if_eq (pc := 146) C (tgt := 153) dX4_read_146 (by decide) (fun c61 => ?_) (fun c61 => ?_)
              · have h := h.1 c61
                exact r_sub [0, 1] rfl (T_X4_read_153 C E ht hn hX8 h)
              · have h := h.2 c61
                refine r_iconst (pc := 149) C (v := (1 : Int32)) dX4_read_149 (by decide) ?_
                refine r_goto (pc := 150) C (tgt := 154) dX4_read_150 (by decide) ?_
                exact r_sub [0, 1] rfl (T_X4_read_154 C E ht hn hX8 h)
        · have h := h.2 c16
          refine r_aload_n (pc := 84) C dX4_read_84 0 rfl ?_
          refine r_aload_n (pc := 85) C dX4_read_85 0 rfl ?_
          obtain ⟨a62, ea62, h⟩ := h
          refine r_getr (pc := 86) C fL_X4_18 dX4_read_86 o_v0 ea62 ?_
          obtain ⟨o_a62, h⟩ := h
          refine r_geti (pc := 89) C fL_X4_58 dX4_read_89 o_a62 ?_
          refine r_topi (fun x63 ex63 => ?_)
          have h := h x63 ex63
          refine r_bipush (pc := 92) C (v := (8 : Int32)) dX4_read_92 (by decide) ?_
          refine r_callVi0 (pc := 94) C (rest := []) (a := v0) o_v0 [.int x63, .int (8 : Int32)] yV_X4_hasRoom g_537 (c_X4_hasRoom h) dX4_read_94 rfl rfl (Nat.le_of_ble_eq_true rfl) ⟨by decide, by decide⟩ ⟨by decide, by decide⟩ ⟨rfl, rfl⟩ (fun x66 S64 h g65 => ?_)
          have bx66 := h.1
          have h := h.2 g65 bx66
          have o_a62 := gr_ob g65 o_a62
          have o_v0 := gr_ob g65 o_v0
          refine r_if_eq (pc := 97) C (tgt := 111) dX4_read_97 (by decide) (fun c67 => ?_) (fun c67 => ?_)
          · have h := h.1 c67
            exact r_sub [0, 1] rfl (T_X4_read_111 C E ht hn hX8 h)
          · have h := h.2 c67
            refine r_aload_n (pc := 100) C dX4_read_100 0 rfl ?_
            refine r_callVi0 (pc := 101) C (rest := []) (a := v0) o_v0 [] yV_X4_placeLine g_558 (c_X4_placeLine h) dX4_read_101 rfl rfl (Nat.le_of_ble_eq_true rfl) ⟨by decide, by decide⟩ ⟨by decide, by decide⟩ ⟨rfl, rfl⟩ (fun x70 S68 h g69 => ?_)
            have bx70 := h.1
            have h := h.2 g69 bx70
            have o_a62 := gr_ob g69 o_a62
            have o_v0 := gr_ob g69 o_v0
            refine r_if_eq (pc := 104) C (tgt := 111) dX4_read_104 (by decide) (fun c71 => ?_) (fun c71 => ?_)
            · have h := h.1 c71
              exact r_sub [0, 1] rfl (T_X4_read_111 C E ht hn hX8 h)
            · have h := h.2 c71
              refine r_iconst (pc := 107) C (v := (1 : Int32)) dX4_read_107 (by decide) ?_
              refine r_goto (pc := 108) C (tgt := 112) dX4_read_108 (by decide) ?_
              exact r_sub [0, 1] rfl (T_X4_read_112 C E ht hn hX8 h)
      · have h := h.2 c12
        refine r_aload_n (pc := 42) C dX4_read_42 0 rfl ?_
        refine r_aload_n (pc := 43) C dX4_read_43 0 rfl ?_
        obtain ⟨a72, ea72, h⟩ := h
        refine r_getr (pc := 44) C fL_X4_18 dX4_read_44 o_v0 ea72 ?_
        obtain ⟨o_a72, h⟩ := h
        refine r_geti (pc := 47) C fL_X4_45 dX4_read_47 o_a72 ?_
        refine r_topi (fun x73 ex73 => ?_)
        have h := h x73 ex73
        refine r_bipush (pc := 50) C (v := (6 : Int32)) dX4_read_50 (by decide) ?_
        refine r_callVi0 (pc := 52) C (rest := []) (a := v0) o_v0 [.int x73, .int (6 : Int32)] yV_X4_hasRoom g_537 (c_X4_hasRoom h) dX4_read_52 rfl rfl (Nat.le_of_ble_eq_true rfl) ⟨by decide, by decide⟩ ⟨by decide, by decide⟩ ⟨rfl, rfl⟩ (fun x76 S74 h g75 => ?_)
        have bx76 := h.1
        have h := h.2 g75 bx76
        have o_a72 := gr_ob g75 o_a72
        have o_v0 := gr_ob g75 o_v0
        refine r_if_eq (pc := 55) C (tgt := 69) dX4_read_55 (by decide) (fun c77 => ?_) (fun c77 => ?_)
        · have h := h.1 c77
          exact r_sub [0, 1] rfl (T_X4_read_69 C E ht hn hX8 h)
        · have h := h.2 c77
          refine r_aload_n (pc := 58) C dX4_read_58 0 rfl ?_
          refine r_callVi0 (pc := 59) C (rest := []) (a := v0) o_v0 [] yV_X4_rainLine g_541 (c_X4_rainLine h) dX4_read_59 rfl rfl (Nat.le_of_ble_eq_true rfl) ⟨by decide, by decide⟩ ⟨by decide, by decide⟩ ⟨rfl, rfl⟩ (fun x80 S78 h g79 => ?_)
          have bx80 := h.1
          have h := h.2 g79 bx80
          have o_a72 := gr_ob g79 o_a72
          have o_v0 := gr_ob g79 o_v0
          refine r_if_eq (pc := 62) C (tgt := 69) dX4_read_62 (by decide) (fun c81 => ?_) (fun c81 => ?_)
          · have h := h.1 c81
            exact r_sub [0, 1] rfl (T_X4_read_69 C E ht hn hX8 h)
          · have h := h.2 c81
            refine r_iconst (pc := 65) C (v := (1 : Int32)) dX4_read_65 (by decide) ?_
            refine r_goto (pc := 66) C (tgt := 70) dX4_read_66 (by decide) ?_
            exact r_sub [0, 1] rfl (T_X4_read_70 C E ht hn hX8 h)
    · have h := h.2 c8
      refine r_aload_n (pc := 24) C dX4_read_24 0 rfl ?_
      refine r_callVi0 (pc := 25) C (rest := []) (a := v0) o_v0 [] yV_X4_worldLine g_511 (c_X4_worldLine h) dX4_read_25 rfl rfl (Nat.le_of_ble_eq_true rfl) ⟨by decide, by decide⟩ ⟨by decide, by decide⟩ ⟨rfl, rfl⟩ (fun x84 S82 h g83 => ?_)
      have bx84 := h.1
      have h := h.2 g83 bx84
      have o_v0 := gr_ob g83 o_v0
      refine r_istore (pc := 28) C dX4_read_28 (by decide) (lv' := [(4, .int x84), (0, .ref v0), (3, .int v3)]) rfl ?_
      refine r_goto (pc := 30) C (tgt := 248) dX4_read_30 (by decide) ?_
      exact r_sub [1, 2, 0] rfl (T_X4_read_248 C E ht hn hX8 h)
theorem T_X4_read_8 {X : CX} {Q : Int32 → HS → Prop} (C : Cx X cX4_read RX4 5 rm_X4_read) (E : ReI X rm_X4_read (fun r S => bl r ∧ Q r S)) (ht : (xh X).sig.returnType = (some .boolean)) (hn : (xh X).name = yX4_read.name) {v0 : Nat} {v3 : Int32} {S : HS} (h : P_X4_read_8 Q v0 v3 S) : WS X 5 0 0 8 [(0, .ref v0), (3, .int v3)] [] S :=
  h (fun v0 v3 S => WS X 5 0 0 8 [(0, .ref v0), (3, .int v3)] [] S) (fun v0 v3 S hh => TB_X4_read_8 C E ht hn (fun v0 v3 S z => z) hh)
def P_X4_read_0 (Q : Int32 → HS → Prop) (v0 : Nat) (v1 : Nat) (v2 : Int32) (S : HS) : Prop := ob S v0 4 ∧ (P_X4_open v0 v1 v2 (fun S1 => Gr S S1 → (P_X4_read_8 Q v0 (0 : Int32) S1)) S)
set_option maxRecDepth 20000 in
set_option maxHeartbeats 4000000 in
theorem T_X4_read_0 {X : CX} {Q : Int32 → HS → Prop} (C : Cx X cX4_read RX4 5 rm_X4_read) (E : ReI X rm_X4_read (fun r S => bl r ∧ Q r S)) (ht : (xh X).sig.returnType = (some .boolean)) (hn : (xh X).name = yX4_read.name) {v0 : Nat} {v1 : Nat} {v2 : Int32} {S : HS} (h : P_X4_read_0 Q v0 v1 v2 S) : WS X 5 0 0 0 [(0, .ref v0), (1, .ref v1), (2, .int v2)] [] S := by
  refine r_aload_n (pc := 0) C dX4_read_0 0 rfl ?_
  refine r_aload_n (pc := 1) C dX4_read_1 1 rfl ?_
  refine r_iload_n (pc := 2) C dX4_read_2 2 rfl ?_
  obtain ⟨o_v0, h⟩ := h
  refine r_callVv0 (pc := 3) C (rest := []) (a := v0) o_v0 [.ref v1, .int v2] yV_X4_open g_438 (c_X4_open h) dX4_read_3 rfl rfl (Nat.le_of_ble_eq_true rfl) ⟨by decide, by decide⟩ ⟨by decide, by decide⟩ ⟨rfl, rfl⟩ (fun S1 h g2 => ?_)
  have h := h g2
  have o_v0 := gr_ob g2 o_v0
  refine r_iconst (pc := 6) C (v := (0 : Int32)) dX4_read_6 (by decide) ?_
  refine r_istore_n (pc := 7) C dX4_read_7 rfl (by decide) (lv' := [(3, .int (0 : Int32)), (0, .ref v0), (1, .ref v1), (2, .int v2)]) rfl ?_
  exact r_sub [1, 0] rfl (T_X4_read_8 C E ht hn h)
def P_X4_read (v0 : Nat) (v1 : Nat) (v2 : Int32) (Q : Int32 → HS → Prop) (S : HS) : Prop := P_X4_read_0 Q v0 v1 v2 S
theorem c_X4_read {l : Launch} {Ee : EE} {S : HS} {v0 : Nat} {v1 : Nat} {v2 : Int32} {Q : Int32 → HS → Prop} (h : P_X4_read v0 v1 v2 Q S) : MI l yX4_read cX4_read 5 (some .boolean) rm_X4_read Ee S [.ref v0, .ref v1, .int v2] (fun r S => bl r ∧ Q r S) :=
  openI (by decide) (Nat.le_of_ble_eq_true rfl) (fun X C E ht hn hE hl => by subst hE; exact r_sub [0, 1, 2] rfl (T_X4_read_0 C E ht hn h))
def rm_X5_endOf : Room := { frames := 0, cells := 0, slots := 0, locals := 0 }
def P_X5_endOf_0 (Q : Int32 → HS → Prop) (v0 : Nat) (v1 : Int32) (S : HS) : Prop := ((¬ v1 = 0) → (ob S v0 5 ∧ (∀ x2 : Int32, x2 = fI S v0 0 → (Q x2 S)))) ∧ ((v1 = 0) → (ob S v0 5 ∧ (∀ x3 : Int32, x3 = fI S v0 1 → (Q x3 S))))
set_option maxRecDepth 20000 in
set_option maxHeartbeats 4000000 in
theorem T_X5_endOf_0 {X : CX} {Q : Int32 → HS → Prop} (C : Cx X cX5_endOf RX5 2 rm_X5_endOf) (E : ReI X rm_X5_endOf Q) (ht : (xh X).sig.returnType = (some .int)) (hn : (xh X).name = yX5_endOf.name) {v0 : Nat} {v1 : Int32} {S : HS} (h : P_X5_endOf_0 Q v0 v1 S) : WS X 2 0 0 0 [(0, .ref v0), (1, .int v1)] [] S := by
  refine r_iload_n (pc := 0) C dX5_endOf_0 1 rfl ?_
  refine r_if_ne (pc := 1) C (tgt := 11) dX5_endOf_1 (by decide) (fun c1 => ?_) (fun c1 => ?_)
  · have h := h.1 c1
    refine r_aload_n (pc := 11) C dX5_endOf_11 0 rfl ?_
    obtain ⟨o_v0, h⟩ := h
    refine r_geti (pc := 12) C fL_X5_7 dX5_endOf_12 o_v0 ?_
    refine r_topi (fun x2 ex2 => ?_)
    have h := h x2 ex2
    exact r_iret (pc := 15) C E ht dX5_endOf_15 (by decide) (by decide) h
  · have h := h.2 c1
    refine r_aload_n (pc := 4) C dX5_endOf_4 0 rfl ?_
    obtain ⟨o_v0, h⟩ := h
    refine r_geti (pc := 5) C fL_X5_13 dX5_endOf_5 o_v0 ?_
    refine r_topi (fun x3 ex3 => ?_)
    have h := h x3 ex3
    refine r_goto (pc := 8) C (tgt := 15) dX5_endOf_8 (by decide) ?_
    exact r_iret (pc := 15) C E ht dX5_endOf_15 (by decide) (by decide) h
def P_X5_endOf (v0 : Nat) (v1 : Int32) (Q : Int32 → HS → Prop) (S : HS) : Prop := P_X5_endOf_0 Q v0 v1 S
theorem c_X5_endOf {l : Launch} {Ee : EE} {S : HS} {v0 : Nat} {v1 : Int32} {Q : Int32 → HS → Prop} (h : P_X5_endOf v0 v1 Q S) : MI l yX5_endOf cX5_endOf 2 (some .int) rm_X5_endOf Ee S [.ref v0, .int v1] Q :=
  openI (by decide) (Nat.le_of_ble_eq_true rfl) (fun X C E ht hn hE hl => by subst hE; exact r_sub [0, 1] rfl (T_X5_endOf_0 C E ht hn h))
def rm_X5_minutesAt : Room := { frames := 0, cells := 0, slots := 0, locals := 0 }
def P_X5_minutesAt_0 (Q : Int32 → HS → Prop) (v0 : Nat) (v1 : Int32) (S : HS) : Prop := ((v1 ≤ 0) → (Q (0 : Int32) S)) ∧ ((¬ v1 ≤ 0) → (ob S v0 5 ∧ (∀ x2 : Int32, x2 = fI S v0 3 → (¬ v1 = 0 ∧ ∀ x4 : Int32, x4 = ((x2 + v1) - (1 : Int32)) / v1 → (Q x4 S)))))
set_option maxRecDepth 20000 in
set_option maxHeartbeats 4000000 in
theorem T_X5_minutesAt_0 {X : CX} {Q : Int32 → HS → Prop} (C : Cx X cX5_minutesAt RX5 2 rm_X5_minutesAt) (E : ReI X rm_X5_minutesAt Q) (ht : (xh X).sig.returnType = (some .int)) (hn : (xh X).name = yX5_minutesAt.name) {v0 : Nat} {v1 : Int32} {S : HS} (h : P_X5_minutesAt_0 Q v0 v1 S) : WS X 2 0 0 0 [(0, .ref v0), (1, .int v1)] [] S := by
  refine r_iload_n (pc := 0) C dX5_minutesAt_0 1 rfl ?_
  refine r_if_le (pc := 1) C (tgt := 17) dX5_minutesAt_1 (by decide) (fun c1 => ?_) (fun c1 => ?_)
  · have h := h.1 c1
    refine r_iconst (pc := 17) C (v := (0 : Int32)) dX5_minutesAt_17 (by decide) ?_
    exact r_iret (pc := 18) C E ht dX5_minutesAt_18 (by decide) (by decide) h
  · have h := h.2 c1
    refine r_aload_n (pc := 4) C dX5_minutesAt_4 0 rfl ?_
    obtain ⟨o_v0, h⟩ := h
    refine r_geti (pc := 5) C fL_X5_16 dX5_minutesAt_5 o_v0 ?_
    refine r_topi (fun x2 ex2 => ?_)
    have h := h x2 ex2
    refine r_iload_n (pc := 8) C dX5_minutesAt_8 1 rfl ?_
    refine r_iadd (pc := 9) C dX5_minutesAt_9 ?_
    refine r_iconst (pc := 10) C (v := (1 : Int32)) dX5_minutesAt_10 (by decide) ?_
    refine r_isub (pc := 11) C dX5_minutesAt_11 ?_
    refine r_iload_n (pc := 12) C dX5_minutesAt_12 1 rfl ?_
    obtain ⟨q3, h⟩ := h
    refine r_idiv (pc := 13) C dX5_minutesAt_13 q3 ?_
    refine r_topi (fun x4 ex4 => ?_)
    have h := h x4 ex4
    refine r_goto (pc := 14) C (tgt := 18) dX5_minutesAt_14 (by decide) ?_
    exact r_iret (pc := 18) C E ht dX5_minutesAt_18 (by decide) (by decide) h
def P_X5_minutesAt (v0 : Nat) (v1 : Int32) (Q : Int32 → HS → Prop) (S : HS) : Prop := P_X5_minutesAt_0 Q v0 v1 S
theorem c_X5_minutesAt {l : Launch} {Ee : EE} {S : HS} {v0 : Nat} {v1 : Int32} {Q : Int32 → HS → Prop} (h : P_X5_minutesAt v0 v1 Q S) : MI l yX5_minutesAt cX5_minutesAt 2 (some .int) rm_X5_minutesAt Ee S [.ref v0, .int v1] Q :=
  openI (by decide) (Nat.le_of_ble_eq_true rfl) (fun X C E ht hn hE hl => by subst hE; exact r_sub [0, 1] rfl (T_X5_minutesAt_0 C E ht hn h))
def rm_X5_startOf : Room := { frames := 0, cells := 0, slots := 0, locals := 0 }
def P_X5_startOf_0 (Q : Int32 → HS → Prop) (v0 : Nat) (v1 : Int32) (S : HS) : Prop := ((¬ v1 = 0) → (ob S v0 5 ∧ (∀ x2 : Int32, x2 = fI S v0 1 → (Q x2 S)))) ∧ ((v1 = 0) → (ob S v0 5 ∧ (∀ x3 : Int32, x3 = fI S v0 0 → (Q x3 S))))
set_option maxRecDepth 20000 in
set_option maxHeartbeats 4000000 in
theorem T_X5_startOf_0 {X : CX} {Q : Int32 → HS → Prop} (C : Cx X cX5_startOf RX5 2 rm_X5_startOf) (E : ReI X rm_X5_startOf Q) (ht : (xh X).sig.returnType = (some .int)) (hn : (xh X).name = yX5_startOf.name) {v0 : Nat} {v1 : Int32} {S : HS} (h : P_X5_startOf_0 Q v0 v1 S) : WS X 2 0 0 0 [(0, .ref v0), (1, .int v1)] [] S := by
  refine r_iload_n (pc := 0) C dX5_startOf_0 1 rfl ?_
  refine r_if_ne (pc := 1) C (tgt := 11) dX5_startOf_1 (by decide) (fun c1 => ?_) (fun c1 => ?_)
  · have h := h.1 c1
    refine r_aload_n (pc := 11) C dX5_startOf_11 0 rfl ?_
    obtain ⟨o_v0, h⟩ := h
    refine r_geti (pc := 12) C fL_X5_13 dX5_startOf_12 o_v0 ?_
    refine r_topi (fun x2 ex2 => ?_)
    have h := h x2 ex2
    exact r_iret (pc := 15) C E ht dX5_startOf_15 (by decide) (by decide) h
  · have h := h.2 c1
    refine r_aload_n (pc := 4) C dX5_startOf_4 0 rfl ?_
    obtain ⟨o_v0, h⟩ := h
    refine r_geti (pc := 5) C fL_X5_7 dX5_startOf_5 o_v0 ?_
    refine r_topi (fun x3 ex3 => ?_)
    have h := h x3 ex3
    refine r_goto (pc := 8) C (tgt := 15) dX5_startOf_8 (by decide) ?_
    exact r_iret (pc := 15) C E ht dX5_startOf_15 (by decide) (by decide) h
def P_X5_startOf (v0 : Nat) (v1 : Int32) (Q : Int32 → HS → Prop) (S : HS) : Prop := P_X5_startOf_0 Q v0 v1 S
theorem c_X5_startOf {l : Launch} {Ee : EE} {S : HS} {v0 : Nat} {v1 : Int32} {Q : Int32 → HS → Prop} (h : P_X5_startOf v0 v1 Q S) : MI l yX5_startOf cX5_startOf 2 (some .int) rm_X5_startOf Ee S [.ref v0, .int v1] Q :=
  openI (by decide) (Nat.le_of_ble_eq_true rfl) (fun X C E ht hn hE hl => by subst hE; exact r_sub [0, 1] rfl (T_X5_startOf_0 C E ht hn h))
def rm_X5_tell : Room := { frames := 0, cells := 0, slots := 0, locals := 0 }
def P_X5_tell_0 (Q : Int32 → HS → Prop) (v0 : Nat) (v1 : Int32) (S : HS) : Prop := (v1.toInt < 0 ∨ 3 < v1.toInt → (ob S v0 5 ∧ (∀ x2 : Int32, x2 = fI S v0 4 → (Q x2 S)))) ∧ (v1.toInt = 0 → (ob S v0 5 ∧ (∀ x3 : Int32, x3 = fI S v0 0 → (Q x3 S)))) ∧ (v1.toInt = 1 → (ob S v0 5 ∧ (∀ x4 : Int32, x4 = fI S v0 1 → (Q x4 S)))) ∧ (v1.toInt = 2 → (ob S v0 5 ∧ (∀ x5 : Int32, x5 = fI S v0 2 → (Q x5 S)))) ∧ (v1.toInt = 3 → (ob S v0 5 ∧ (∀ x6 : Int32, x6 = fI S v0 3 → (Q x6 S))))
set_option maxRecDepth 20000 in
set_option maxHeartbeats 4000000 in
theorem T_X5_tell_0 {X : CX} {Q : Int32 → HS → Prop} (C : Cx X cX5_tell RX5 2 rm_X5_tell) (E : ReI X rm_X5_tell Q) (ht : (xh X).sig.returnType = (some .int)) (hn : (xh X).name = yX5_tell.name) {v0 : Nat} {v1 : Int32} {S : HS} (h : P_X5_tell_0 Q v0 v1 S) : WS X 2 0 0 0 [(0, .ref v0), (1, .int v1)] [] S := by
  refine r_iload_n (pc := 0) C dX5_tell_0 1 rfl ?_
  refine r_table (pc := 1) C (tgt := 52) dX5_tell_1 (by decide) (fun c1 => ?_) (fun j hj hx => ?_)
  · have h := h.1 c1
    refine r_aload_n (pc := 52) C dX5_tell_52 0 rfl ?_
    obtain ⟨o_v0, h⟩ := h
    refine r_geti (pc := 53) C fL_X5_34 dX5_tell_53 o_v0 ?_
    refine r_topi (fun x2 ex2 => ?_)
    have h := h x2 ex2
    exact r_iret (pc := 56) C E ht dX5_tell_56 (by decide) (by decide) h
  · match j, hj, hx with
    | 0, _, hx =>
      refine ⟨31, 32, rfl, by decide, ?_⟩
      have h := h.2.1 (by simpa using hx)
      refine r_aload_n (pc := 32) C dX5_tell_32 0 rfl ?_
      obtain ⟨o_v0, h⟩ := h
      refine r_geti (pc := 33) C fL_X5_7 dX5_tell_33 o_v0 ?_
      refine r_topi (fun x3 ex3 => ?_)
      have h := h x3 ex3
      exact r_iret (pc := 36) C E ht dX5_tell_36 (by decide) (by decide) h
    | 1, _, hx =>
      refine ⟨36, 37, rfl, by decide, ?_⟩
      have h := h.2.2.1 (by simpa using hx)
      refine r_aload_n (pc := 37) C dX5_tell_37 0 rfl ?_
      obtain ⟨o_v0, h⟩ := h
      refine r_geti (pc := 38) C fL_X5_13 dX5_tell_38 o_v0 ?_
      refine r_topi (fun x4 ex4 => ?_)
      have h := h x4 ex4
      exact r_iret (pc := 41) C E ht dX5_tell_41 (by decide) (by decide) h
    | 2, _, hx =>
      refine ⟨41, 42, rfl, by decide, ?_⟩
      have h := h.2.2.2.1 (by simpa using hx)
      refine r_aload_n (pc := 42) C dX5_tell_42 0 rfl ?_
      obtain ⟨o_v0, h⟩ := h
      refine r_geti (pc := 43) C fL_X5_19 dX5_tell_43 o_v0 ?_
      refine r_topi (fun x5 ex5 => ?_)
      have h := h x5 ex5
      exact r_iret (pc := 46) C E ht dX5_tell_46 (by decide) (by decide) h
    | 3, _, hx =>
      refine ⟨46, 47, rfl, by decide, ?_⟩
      have h := h.2.2.2.2 (by simpa using hx)
      refine r_aload_n (pc := 47) C dX5_tell_47 0 rfl ?_
      obtain ⟨o_v0, h⟩ := h
      refine r_geti (pc := 48) C fL_X5_16 dX5_tell_48 o_v0 ?_
      refine r_topi (fun x6 ex6 => ?_)
      have h := h x6 ex6
      exact r_iret (pc := 51) C E ht dX5_tell_51 (by decide) (by decide) h
    | j + 4, hj, _ => exact absurd hj (by omega)
def P_X5_tell (v0 : Nat) (v1 : Int32) (Q : Int32 → HS → Prop) (S : HS) : Prop := P_X5_tell_0 Q v0 v1 S
theorem c_X5_tell {l : Launch} {Ee : EE} {S : HS} {v0 : Nat} {v1 : Int32} {Q : Int32 → HS → Prop} (h : P_X5_tell v0 v1 Q S) : MI l yX5_tell cX5_tell 2 (some .int) rm_X5_tell Ee S [.ref v0, .int v1] Q :=
  openI (by decide) (Nat.le_of_ble_eq_true rfl) (fun X C E ht hn hE hl => by subst hE; exact r_sub [0, 1] rfl (T_X5_tell_0 C E ht hn h))
def rm_X5_touches : Room := { frames := 0, cells := 0, slots := 0, locals := 0 }
def P_X5_touches_0 (Q : Int32 → HS → Prop) (v0 : Nat) (v1 : Int32) (S : HS) : Prop := ob S v0 5 ∧ (∀ x1 : Int32, x1 = fI S v0 0 → (((x1 = v1) → (Q (1 : Int32) S)) ∧ ((¬ x1 = v1) → (∀ x3 : Int32, x3 = fI S v0 1 → (((¬ x3 = v1) → (Q (0 : Int32) S)) ∧ ((x3 = v1) → (Q (1 : Int32) S)))))))
set_option maxRecDepth 20000 in
set_option maxHeartbeats 4000000 in
theorem T_X5_touches_0 {X : CX} {Q : Int32 → HS → Prop} (C : Cx X cX5_touches RX5 2 rm_X5_touches) (E : ReI X rm_X5_touches (fun r S => bl r ∧ Q r S)) (ht : (xh X).sig.returnType = (some .boolean)) (hn : (xh X).name = yX5_touches.name) {v0 : Nat} {v1 : Int32} {S : HS} (h : P_X5_touches_0 Q v0 v1 S) : WS X 2 0 0 0 [(0, .ref v0), (1, .int v1)] [] S := by
  refine r_aload_n (pc := 0) C dX5_touches_0 0 rfl ?_
  obtain ⟨o_v0, h⟩ := h
  refine r_geti (pc := 1) C fL_X5_7 dX5_touches_1 o_v0 ?_
  refine r_topi (fun x1 ex1 => ?_)
  have h := h x1 ex1
  refine r_iload_n (pc := 4) C dX5_touches_4 1 rfl ?_
  refine r_icmp_eq (pc := 5) C (tgt := 16) dX5_touches_5 (by decide) (fun c2 => ?_) (fun c2 => ?_)
  · have h := h.1 c2
    refine r_iconst (pc := 16) C (v := (1 : Int32)) dX5_touches_16 (by decide) ?_
    refine r_goto (pc := 17) C (tgt := 21) dX5_touches_17 (by decide) ?_
    exact r_zret (pc := 21) C E ht dX5_touches_21 (by decide) (by decide) (Or.inr rfl) h
  · have h := h.2 c2
    refine r_aload_n (pc := 8) C dX5_touches_8 0 rfl ?_
    refine r_geti (pc := 9) C fL_X5_13 dX5_touches_9 o_v0 ?_
    refine r_topi (fun x3 ex3 => ?_)
    have h := h x3 ex3
    refine r_iload_n (pc := 12) C dX5_touches_12 1 rfl ?_
    refine r_icmp_ne (pc := 13) C (tgt := 20) dX5_touches_13 (by decide) (fun c4 => ?_) (fun c4 => ?_)
    · have h := h.1 c4
      refine r_iconst (pc := 20) C (v := (0 : Int32)) dX5_touches_20 (by decide) ?_
      exact r_zret (pc := 21) C E ht dX5_touches_21 (by decide) (by decide) (Or.inl rfl) h
    · have h := h.2 c4
      refine r_iconst (pc := 16) C (v := (1 : Int32)) dX5_touches_16 (by decide) ?_
      refine r_goto (pc := 17) C (tgt := 21) dX5_touches_17 (by decide) ?_
      exact r_zret (pc := 21) C E ht dX5_touches_21 (by decide) (by decide) (Or.inr rfl) h
def P_X5_touches (v0 : Nat) (v1 : Int32) (Q : Int32 → HS → Prop) (S : HS) : Prop := P_X5_touches_0 Q v0 v1 S
theorem c_X5_touches {l : Launch} {Ee : EE} {S : HS} {v0 : Nat} {v1 : Int32} {Q : Int32 → HS → Prop} (h : P_X5_touches v0 v1 Q S) : MI l yX5_touches cX5_touches 2 (some .boolean) rm_X5_touches Ee S [.ref v0, .int v1] (fun r S => bl r ∧ Q r S) :=
  openI (by decide) (Nat.le_of_ble_eq_true rfl) (fun X C E ht hn hE hl => by subst hE; exact r_sub [0, 1] rfl (T_X5_touches_0 C E ht hn h))
def rm_X6_tell : Room := { frames := 0, cells := 0, slots := 0, locals := 0 }
def P_X6_tell_0 (Q : Int32 → HS → Prop) (v0 : Nat) (v1 : Int32) (S : HS) : Prop := (v1.toInt < 0 ∨ 5 < v1.toInt → (ob S v0 6 ∧ (∀ x2 : Int32, x2 = fI S v0 6 → (Q x2 S)))) ∧ (v1.toInt = 0 → (ob S v0 6 ∧ (∀ x3 : Int32, x3 = fI S v0 0 → (Q x3 S)))) ∧ (v1.toInt = 1 → (ob S v0 6 ∧ (∀ x4 : Int32, x4 = fI S v0 1 → (Q x4 S)))) ∧ (v1.toInt = 2 → (ob S v0 6 ∧ (∀ x5 : Int32, x5 = fI S v0 2 → (Q x5 S)))) ∧ (v1.toInt = 3 → (ob S v0 6 ∧ (∀ x6 : Int32, x6 = fI S v0 3 → (Q x6 S)))) ∧ (v1.toInt = 4 → (ob S v0 6 ∧ (∀ x7 : Int32, x7 = fI S v0 4 → (Q x7 S)))) ∧ (v1.toInt = 5 → (ob S v0 6 ∧ (∀ x8 : Int32, x8 = fI S v0 5 → (Q x8 S))))
set_option maxRecDepth 20000 in
set_option maxHeartbeats 4000000 in
theorem T_X6_tell_0 {X : CX} {Q : Int32 → HS → Prop} (C : Cx X cX6_tell RX6 2 rm_X6_tell) (E : ReI X rm_X6_tell Q) (ht : (xh X).sig.returnType = (some .int)) (hn : (xh X).name = yX6_tell.name) {v0 : Nat} {v1 : Int32} {S : HS} (h : P_X6_tell_0 Q v0 v1 S) : WS X 2 0 0 0 [(0, .ref v0), (1, .int v1)] [] S := by
  refine r_iload_n (pc := 0) C dX6_tell_0 1 rfl ?_
  refine r_table (pc := 1) C (tgt := 70) dX6_tell_1 (by decide) (fun c1 => ?_) (fun j hj hx => ?_)
  · have h := h.1 c1
    refine r_aload_n (pc := 70) C dX6_tell_70 0 rfl ?_
    obtain ⟨o_v0, h⟩ := h
    refine r_geti (pc := 71) C fL_X6_30 dX6_tell_71 o_v0 ?_
    refine r_topi (fun x2 ex2 => ?_)
    have h := h x2 ex2
    exact r_iret (pc := 74) C E ht dX6_tell_74 (by decide) (by decide) h
  · match j, hj, hx with
    | 0, _, hx =>
      refine ⟨39, 40, rfl, by decide, ?_⟩
      have h := h.2.1 (by simpa using hx)
      refine r_aload_n (pc := 40) C dX6_tell_40 0 rfl ?_
      obtain ⟨o_v0, h⟩ := h
      refine r_geti (pc := 41) C fL_X6_9 dX6_tell_41 o_v0 ?_
      refine r_topi (fun x3 ex3 => ?_)
      have h := h x3 ex3
      exact r_iret (pc := 44) C E ht dX6_tell_44 (by decide) (by decide) h
    | 1, _, hx =>
      refine ⟨44, 45, rfl, by decide, ?_⟩
      have h := h.2.2.1 (by simpa using hx)
      refine r_aload_n (pc := 45) C dX6_tell_45 0 rfl ?_
      obtain ⟨o_v0, h⟩ := h
      refine r_geti (pc := 46) C fL_X6_15 dX6_tell_46 o_v0 ?_
      refine r_topi (fun x4 ex4 => ?_)
      have h := h x4 ex4
      exact r_iret (pc := 49) C E ht dX6_tell_49 (by decide) (by decide) h
    | 2, _, hx =>
      refine ⟨49, 50, rfl, by decide, ?_⟩
      have h := h.2.2.2.1 (by simpa using hx)
      refine r_aload_n (pc := 50) C dX6_tell_50 0 rfl ?_
      obtain ⟨o_v0, h⟩ := h
      refine r_geti (pc := 51) C fL_X6_18 dX6_tell_51 o_v0 ?_
      refine r_topi (fun x5 ex5 => ?_)
      have h := h x5 ex5
      exact r_iret (pc := 54) C E ht dX6_tell_54 (by decide) (by decide) h
    | 3, _, hx =>
      refine ⟨54, 55, rfl, by decide, ?_⟩
      have h := h.2.2.2.2.1 (by simpa using hx)
      refine r_aload_n (pc := 55) C dX6_tell_55 0 rfl ?_
      obtain ⟨o_v0, h⟩ := h
      refine r_geti (pc := 56) C fL_X6_21 dX6_tell_56 o_v0 ?_
      refine r_topi (fun x6 ex6 => ?_)
      have h := h x6 ex6
      exact r_iret (pc := 59) C E ht dX6_tell_59 (by decide) (by decide) h
    | 4, _, hx =>
      refine ⟨59, 60, rfl, by decide, ?_⟩
      have h := h.2.2.2.2.2.1 (by simpa using hx)
      refine r_aload_n (pc := 60) C dX6_tell_60 0 rfl ?_
      obtain ⟨o_v0, h⟩ := h
      refine r_geti (pc := 61) C fL_X6_24 dX6_tell_61 o_v0 ?_
      refine r_topi (fun x7 ex7 => ?_)
      have h := h x7 ex7
      exact r_iret (pc := 64) C E ht dX6_tell_64 (by decide) (by decide) h
    | 5, _, hx =>
      refine ⟨64, 65, rfl, by decide, ?_⟩
      have h := h.2.2.2.2.2.2 (by simpa using hx)
      refine r_aload_n (pc := 65) C dX6_tell_65 0 rfl ?_
      obtain ⟨o_v0, h⟩ := h
      refine r_geti (pc := 66) C fL_X6_27 dX6_tell_66 o_v0 ?_
      refine r_topi (fun x8 ex8 => ?_)
      have h := h x8 ex8
      exact r_iret (pc := 69) C E ht dX6_tell_69 (by decide) (by decide) h
    | j + 6, hj, _ => exact absurd hj (by omega)
def P_X6_tell (v0 : Nat) (v1 : Int32) (Q : Int32 → HS → Prop) (S : HS) : Prop := P_X6_tell_0 Q v0 v1 S
theorem c_X6_tell {l : Launch} {Ee : EE} {S : HS} {v0 : Nat} {v1 : Int32} {Q : Int32 → HS → Prop} (h : P_X6_tell v0 v1 Q S) : MI l yX6_tell cX6_tell 2 (some .int) rm_X6_tell Ee S [.ref v0, .int v1] Q :=
  openI (by decide) (Nat.le_of_ble_eq_true rfl) (fun X C E ht hn hE hl => by subst hE; exact r_sub [0, 1] rfl (T_X6_tell_0 C E ht hn h))
def rm_X7_addMove : Room := { frames := 0, cells := 0, slots := 0, locals := 0 }
def P_X7_addMove_0 (Q : HS → Prop) (v0 : Nat) (v1 : Int32) (v2 : Int32) (v3 : Int32) (v4 : Int64) (v6 : Int32) (S : HS) : Prop := ob S v0 7 ∧ (∀ x1 : Int32, x1 = fI S v0 11 → (((v1 = x1) → (Q S)) ∧ ((¬ v1 = x1) → (∀ x3 : Int32, x3 = fI S v0 3 → (((x3 < 0) → (Q S)) ∧ ((¬ x3 < 0) → (∀ x5 : Int32, x5 = fI S v0 3 → (((x5 < (224 : Int32)) → (∃ a7 : Nat, fR S v0 4 = some a7 ∧ (∀ x8 : Int32, x8 = fI S v0 3 → (ob S a7 13 ∧ (∀ x10 : Int32, x10 = v1 * (401 : Int32) → (vp_in x8 (hN S a7) ∧ (∀ S11 : HS, S11 = sI S a7 x8.toNatClampNeg x10 → (∃ a12 : Nat, fR S11 v0 5 = some a12 ∧ (∀ x13 : Int32, x13 = fI S11 v0 3 → (ob S11 a12 13 ∧ (∀ x15 : Int32, x15 = (v2 * (401 : Int32)) + v3 → (vp_in x13 (hN S11 a12) ∧ (∀ S16 : HS, S16 = sI S11 a12 x13.toNatClampNeg x15 → (∃ a17 : Nat, fR S16 v0 6 = some a17 ∧ (∀ x18 : Int32, x18 = fI S16 v0 3 → (ob S16 a17 13 ∧ (vp_in x18 (hN S16 a17) ∧ (∀ S20 : HS, S20 = sI S16 a17 x18.toNatClampNeg v3 → (∃ a21 : Nat, fR S20 v0 7 = some a21 ∧ (∀ x22 : Int32, x22 = fI S20 v0 3 → (ob S20 a21 14 ∧ (∀ x24 : Int64, x24 = v4 * (512 : Int64) → (vp_in x22 (hN S20 a21) ∧ (∀ S25 : HS, S25 = sJ S20 a21 x22.toNatClampNeg x24 → (∃ a26 : Nat, fR S25 v0 8 = some a26 ∧ (∀ x27 : Int32, x27 = fI S25 v0 3 → (ob S25 a26 13 ∧ (vp_in x27 (hN S25 a26) ∧ (∀ S29 : HS, S29 = sI S25 a26 x27.toNatClampNeg v6 → (∀ x30 : Int32, x30 = fI S29 v0 3 → (∀ x31 : Int32, x31 = x30 + (1 : Int32) → (∀ S32 : HS, S32 = sI S29 v0 3 x31 → (Q S32))))))))))))))))))))))))))))))))) ∧ ((¬ x5 < (224 : Int32)) → (Q S))))))))))
set_option maxRecDepth 20000 in
set_option maxHeartbeats 4000000 in
theorem T_X7_addMove_0 {X : CX} {Q : HS → Prop} (C : Cx X cX7_addMove RX7 7 rm_X7_addMove) (E : ReV X rm_X7_addMove Q) (ht : (xh X).sig.returnType = none) (hn : (xh X).name = yX7_addMove.name) {v0 : Nat} {v1 : Int32} {v2 : Int32} {v3 : Int32} {v4 : Int64} {v6 : Int32} {S : HS} (h : P_X7_addMove_0 Q v0 v1 v2 v3 v4 v6 S) : WS X 7 0 0 0 [(0, .ref v0), (1, .int v1), (2, .int v2), (3, .int v3), (4, .long v4), (6, .int v6)] [] S := by
  refine r_iload_n (pc := 0) C dX7_addMove_0 1 rfl ?_
  refine r_aload_n (pc := 1) C dX7_addMove_1 0 rfl ?_
  obtain ⟨o_v0, h⟩ := h
  refine r_geti (pc := 2) C fL_X7_44 dX7_addMove_2 o_v0 ?_
  refine r_topi (fun x1 ex1 => ?_)
  have h := h x1 ex1
  refine r_icmp_eq (pc := 5) C (tgt := 25) dX7_addMove_5 (by decide) (fun c2 => ?_) (fun c2 => ?_)
  · have h := h.1 c2
    exact r_vret (pc := 25) C E ht dX7_addMove_25 (by decide) (by decide) h
  · have h := h.2 c2
    refine r_aload_n (pc := 8) C dX7_addMove_8 0 rfl ?_
    refine r_geti (pc := 9) C fL_X7_82 dX7_addMove_9 o_v0 ?_
    refine r_topi (fun x3 ex3 => ?_)
    have h := h x3 ex3
    refine r_if_lt (pc := 12) C (tgt := 25) dX7_addMove_12 (by decide) (fun c4 => ?_) (fun c4 => ?_)
    · have h := h.1 c4
      exact r_vret (pc := 25) C E ht dX7_addMove_25 (by decide) (by decide) h
    · have h := h.2 c4
      refine r_aload_n (pc := 15) C dX7_addMove_15 0 rfl ?_
      refine r_geti (pc := 16) C fL_X7_82 dX7_addMove_16 o_v0 ?_
      refine r_topi (fun x5 ex5 => ?_)
      have h := h x5 ex5
      refine r_sipush (pc := 19) C (v := (224 : Int32)) dX7_addMove_19 (by decide) ?_
      refine r_icmp_lt (pc := 22) C (tgt := 26) dX7_addMove_22 (by decide) (fun c6 => ?_) (fun c6 => ?_)
      · have h := h.1 c6
        refine r_aload_n (pc := 26) C dX7_addMove_26 0 rfl ?_
        obtain ⟨a7, ea7, h⟩ := h
        refine r_getr (pc := 27) C fL_X7_22 dX7_addMove_27 o_v0 ea7 ?_
        refine r_aload_n (pc := 30) C dX7_addMove_30 0 rfl ?_
        refine r_geti (pc := 31) C fL_X7_82 dX7_addMove_31 o_v0 ?_
        refine r_topi (fun x8 ex8 => ?_)
        have h := h x8 ex8
        refine r_iload_n (pc := 34) C dX7_addMove_34 1 rfl ?_
        refine r_sipush (pc := 35) C (v := (401 : Int32)) dX7_addMove_35 (by decide) ?_
        refine r_imul (pc := 38) C dX7_addMove_38 ?_
        obtain ⟨o_a7, h⟩ := h
        refine r_topi (fun x10 ex10 => ?_)
        have h := h x10 ex10
        obtain ⟨i9, h⟩ := h
        refine r_iast (pc := 39) C dX7_addMove_39 o_a7 i9 ?_
        refine r_heap (fun S11 eS11 => ?_)
        have h := h S11 eS11
        have o_a7 := ob_I eS11 o_a7
        have o_v0 := ob_I eS11 o_v0
        refine r_aload_n (pc := 40) C dX7_addMove_40 0 rfl ?_
        obtain ⟨a12, ea12, h⟩ := h
        refine r_getr (pc := 41) C fL_X7_25 dX7_addMove_41 o_v0 ea12 ?_
        refine r_aload_n (pc := 44) C dX7_addMove_44 0 rfl ?_
        refine r_geti (pc := 45) C fL_X7_82 dX7_addMove_45 o_v0 ?_
        refine r_topi (fun x13 ex13 => ?_)
        have h := h x13 ex13
        refine r_iload_n (pc := 48) C dX7_addMove_48 2 rfl ?_
        refine r_sipush (pc := 49) C (v := (401 : Int32)) dX7_addMove_49 (by decide) ?_
        refine r_imul (pc := 52) C dX7_addMove_52 ?_
        refine r_iload_n (pc := 53) C dX7_addMove_53 3 rfl ?_
        refine r_iadd (pc := 54) C dX7_addMove_54 ?_
        obtain ⟨o_a12, h⟩ := h
        refine r_topi (fun x15 ex15 => ?_)
        have h := h x15 ex15
        obtain ⟨i14, h⟩ := h
        refine r_iast (pc := 55) C dX7_addMove_55 o_a12 i14 ?_
        refine r_heap (fun S16 eS16 => ?_)
        have h := h S16 eS16
        have o_a12 := ob_I eS16 o_a12
        have o_a7 := ob_I eS16 o_a7
        have o_v0 := ob_I eS16 o_v0
        refine r_aload_n (pc := 56) C dX7_addMove_56 0 rfl ?_
        obtain ⟨a17, ea17, h⟩ := h
        refine r_getr (pc := 57) C fL_X7_28 dX7_addMove_57 o_v0 ea17 ?_
        refine r_aload_n (pc := 60) C dX7_addMove_60 0 rfl ?_
        refine r_geti (pc := 61) C fL_X7_82 dX7_addMove_61 o_v0 ?_
        refine r_topi (fun x18 ex18 => ?_)
        have h := h x18 ex18
        refine r_iload_n (pc := 64) C dX7_addMove_64 3 rfl ?_
        obtain ⟨o_a17, h⟩ := h
        obtain ⟨i19, h⟩ := h
        refine r_iast (pc := 65) C dX7_addMove_65 o_a17 i19 ?_
        refine r_heap (fun S20 eS20 => ?_)
        have h := h S20 eS20
        have o_a12 := ob_I eS20 o_a12
        have o_a17 := ob_I eS20 o_a17
        have o_a7 := ob_I eS20 o_a7
        have o_v0 := ob_I eS20 o_v0
        refine r_aload_n (pc := 66) C dX7_addMove_66 0 rfl ?_
        obtain ⟨a21, ea21, h⟩ := h
        refine r_getr (pc := 67) C fL_X7_31 dX7_addMove_67 o_v0 ea21 ?_
        refine r_aload_n (pc := 70) C dX7_addMove_70 0 rfl ?_
        refine r_geti (pc := 71) C fL_X7_82 dX7_addMove_71 o_v0 ?_
        refine r_topi (fun x22 ex22 => ?_)
        have h := h x22 ex22
        refine r_lload (pc := 74) C dX7_addMove_74 4 rfl ?_
        refine r_ldc2 (pc := 76) C (v := (512 : Int64)) dX7_addMove_76 g_857 ?_
        refine r_lmul (pc := 79) C dX7_addMove_79 ?_
        obtain ⟨o_a21, h⟩ := h
        refine r_topl (fun x24 ex24 => ?_)
        have h := h x24 ex24
        obtain ⟨i23, h⟩ := h
        refine r_last (pc := 80) C dX7_addMove_80 o_a21 i23 ?_
        refine r_heap (fun S25 eS25 => ?_)
        have h := h S25 eS25
        have o_a12 := ob_J eS25 o_a12
        have o_a17 := ob_J eS25 o_a17
        have o_a21 := ob_J eS25 o_a21
        have o_a7 := ob_J eS25 o_a7
        have o_v0 := ob_J eS25 o_v0
        refine r_aload_n (pc := 81) C dX7_addMove_81 0 rfl ?_
        obtain ⟨a26, ea26, h⟩ := h
        refine r_getr (pc := 82) C fL_X7_34 dX7_addMove_82 o_v0 ea26 ?_
        refine r_aload_n (pc := 85) C dX7_addMove_85 0 rfl ?_
        refine r_geti (pc := 86) C fL_X7_82 dX7_addMove_86 o_v0 ?_
        refine r_topi (fun x27 ex27 => ?_)
        have h := h x27 ex27
        refine r_iload (pc := 89) C dX7_addMove_89 5 rfl ?_
        obtain ⟨o_a26, h⟩ := h
        obtain ⟨i28, h⟩ := h
        refine r_iast (pc := 91) C dX7_addMove_91 o_a26 i28 ?_
        refine r_heap (fun S29 eS29 => ?_)
        have h := h S29 eS29
        have o_a12 := ob_I eS29 o_a12
        have o_a17 := ob_I eS29 o_a17
        have o_a21 := ob_I eS29 o_a21
        have o_a26 := ob_I eS29 o_a26
        have o_a7 := ob_I eS29 o_a7
        have o_v0 := ob_I eS29 o_v0
        refine r_aload_n (pc := 92) C dX7_addMove_92 0 rfl ?_
        refine r_dup (pc := 93) C dX7_addMove_93 rfl ?_
        refine r_geti (pc := 94) C fL_X7_82 dX7_addMove_94 o_v0 ?_
        refine r_topi (fun x30 ex30 => ?_)
        have h := h x30 ex30
        refine r_iconst (pc := 97) C (v := (1 : Int32)) dX7_addMove_97 (by decide) ?_
        refine r_iadd (pc := 98) C dX7_addMove_98 ?_
        refine r_topi (fun x31 ex31 => ?_)
        have h := h x31 ex31
        refine r_puti (pc := 99) C pfL_X7_82 dX7_addMove_99 o_v0 ?_
        refine r_heap (fun S32 eS32 => ?_)
        have h := h S32 eS32
        have o_a12 := ob_I eS32 o_a12
        have o_a17 := ob_I eS32 o_a17
        have o_a21 := ob_I eS32 o_a21
        have o_a26 := ob_I eS32 o_a26
        have o_a7 := ob_I eS32 o_a7
        have o_v0 := ob_I eS32 o_v0
        exact r_vret (pc := 102) C E ht dX7_addMove_102 (by decide) (by decide) h
      · have h := h.2 c6
        exact r_vret (pc := 25) C E ht dX7_addMove_25 (by decide) (by decide) h
def P_X7_addMove (v0 : Nat) (v1 : Int32) (v2 : Int32) (v3 : Int32) (v4 : Int64) (v6 : Int32) (Q : HS → Prop) (S : HS) : Prop := P_X7_addMove_0 Q v0 v1 v2 v3 v4 v6 S
theorem c_X7_addMove {l : Launch} {Ee : EE} {S : HS} {v0 : Nat} {v1 : Int32} {v2 : Int32} {v3 : Int32} {v4 : Int64} {v6 : Int32} {Q : HS → Prop} (h : P_X7_addMove v0 v1 v2 v3 v4 v6 Q S) : MV l yX7_addMove cX7_addMove 7 none rm_X7_addMove Ee S [.ref v0, .int v1, .int v2, .int v3, .long v4, .int v6] Q :=
  openV (by decide) (Nat.le_of_ble_eq_true rfl) (fun X C E ht hn hE hl => by subst hE; exact r_sub [0, 1, 2, 3, 4, 5] rfl (T_X7_addMove_0 C E ht hn h))
def rm_X7_addLeg : Room := { frames := 1, cells := 0, slots := 0, locals := 26 }
def P_X7_addLeg_82 (Q : HS → Prop) (v0 : Nat) (v1 : Nat) (v2 : Int32) (v4 : Int64) (v6 : Int32) (v7 : Int32) (S : HS) : Prop := ob S v1 5 ∧ (P_X5_startOf v1 v2 (fun x3 S1 => Gr S S1 → (P_X5_endOf v1 v2 (fun x6 S4 => Gr S1 S4 → (ob S4 v0 7 ∧ (P_X7_addMove v0 x3 x6 v7 v4 v6 (fun S7 => Gr S4 S7 → (Q S7)) S4))) S1)) S)
set_option maxRecDepth 20000 in
set_option maxHeartbeats 4000000 in
theorem T_X7_addLeg_82 {X : CX} {Q : HS → Prop} (C : Cx X cX7_addLeg RX7 9 rm_X7_addLeg) (E : ReV X rm_X7_addLeg Q) (ht : (xh X).sig.returnType = none) (hn : (xh X).name = yX7_addLeg.name) {v0 : Nat} {v1 : Nat} {v2 : Int32} {v4 : Int64} {v6 : Int32} {v7 : Int32} {S : HS} (h : P_X7_addLeg_82 Q v0 v1 v2 v4 v6 v7 S) : WS X 9 0 0 82 [(0, .ref v0), (1, .ref v1), (2, .int v2), (4, .long v4), (6, .int v6), (7, .int v7)] [] S := by
  refine r_aload_n (pc := 82) C dX7_addLeg_82 0 rfl ?_
  refine r_aload_n (pc := 83) C dX7_addLeg_83 1 rfl ?_
  refine r_iload_n (pc := 84) C dX7_addLeg_84 2 rfl ?_
  obtain ⟨o_v1, h⟩ := h
  refine r_callVi0 (pc := 85) C (rest := [.ref v0]) (a := v1) o_v1 [.int v2] yV_X5_startOf g_858 (c_X5_startOf h) dX7_addLeg_85 rfl rfl (Nat.le_of_ble_eq_true rfl) ⟨by decide, by decide⟩ ⟨by decide, by decide⟩ ⟨rfl, rfl⟩ (fun x3 S1 h g2 => ?_)
  have h := h g2
  have o_v1 := gr_ob g2 o_v1
  refine r_aload_n (pc := 88) C dX7_addLeg_88 1 rfl ?_
  refine r_iload_n (pc := 89) C dX7_addLeg_89 2 rfl ?_
  refine r_callVi0 (pc := 90) C (rest := [.int x3, .ref v0]) (a := v1) o_v1 [.int v2] yV_X5_endOf g_862 (c_X5_endOf h) dX7_addLeg_90 rfl rfl (Nat.le_of_ble_eq_true rfl) ⟨by decide, by decide⟩ ⟨by decide, by decide⟩ ⟨rfl, rfl⟩ (fun x6 S4 h g5 => ?_)
  have h := h g5
  have o_v1 := gr_ob g5 o_v1
  refine r_iload (pc := 93) C dX7_addLeg_93 5 rfl ?_
  refine r_lload (pc := 95) C dX7_addLeg_95 3 rfl ?_
  refine r_iload (pc := 97) C dX7_addLeg_97 4 rfl ?_
  obtain ⟨o_v0, h⟩ := h
  refine r_callVv0 (pc := 99) C (rest := []) (a := v0) o_v0 [.int x3, .int x6, .int v7, .long v4, .int v6] yV_X7_addMove g_866 (c_X7_addMove h) dX7_addLeg_99 rfl rfl (Nat.le_of_ble_eq_true rfl) ⟨by decide, by decide⟩ ⟨by decide, by decide⟩ ⟨rfl, rfl⟩ (fun S7 h g8 => ?_)
  have h := h g8
  have o_v0 := gr_ob g8 o_v0
  have o_v1 := gr_ob g8 o_v1
  exact r_vret (pc := 102) C E ht dX7_addLeg_102 (by decide) (by decide) h
def P_X7_addLeg_0 (Q : HS → Prop) (v0 : Nat) (v1 : Nat) (v2 : Int32) (v3 : Int32) (v4 : Int64) (v6 : Int32) (S : HS) : Prop := ob S v1 5 ∧ (P_X5_minutesAt v1 v3 (fun x3 S1 => Gr S S1 → (ob S1 v0 7 ∧ (∀ x4 : Int32, x4 = fI S1 v0 3 → (∀ x5 : Int32, x5 = x4 - (1 : Int32) → (((x5 < 0) → (P_X7_addLeg_82 Q v0 v1 v2 v4 v6 x3 S1)) ∧ ((¬ x5 < 0) → ((((224 : Int32) ≤ x5) → (P_X7_addLeg_82 Q v0 v1 v2 v4 v6 x3 S1)) ∧ ((¬ (224 : Int32) ≤ x5) → (∃ a8 : Nat, fR S1 v0 8 = some a8 ∧ (ob S1 a8 13 ∧ (vp_in x5 (hN S1 a8) ∧ ∀ x10 : Int32, x10 = fI S1 a8 x5.toNatClampNeg → (∀ x11 : Int32, x11 = x10 / (10 : Int32) → (∀ x12 : Int32, x12 = v6 / (10 : Int32) → (((¬ x11 = x12) → (P_X7_addLeg_82 Q v0 v1 v2 v4 v6 x3 S1)) ∧ ((x11 = x12) → (∃ a14 : Nat, fR S1 v0 6 = some a14 ∧ (ob S1 a14 13 ∧ (vp_in x5 (hN S1 a14) ∧ ∀ x16 : Int32, x16 = fI S1 a14 x5.toNatClampNeg → (((¬ x16 = x3) → (P_X7_addLeg_82 Q v0 v1 v2 v4 v6 x3 S1)) ∧ ((x16 = x3) → (∃ a18 : Nat, fR S1 v0 7 = some a18 ∧ (ob S1 a18 14 ∧ (vp_in x5 (hN S1 a18) ∧ ∀ x20 : Int64, x20 = fJ S1 a18 x5.toNatClampNeg → (((0 < (lg_cmp x20 (v4 * (512 : Int64)))) → (∀ S22 : HS, S22 = sI S1 v0 3 x5 → (P_X7_addLeg_82 Q v0 v1 v2 v4 v6 x3 S22))) ∧ ((¬ 0 < (lg_cmp x20 (v4 * (512 : Int64)))) → (Q S1)))))))))))))))))))))))))) S)
set_option maxRecDepth 20000 in
set_option maxHeartbeats 4000000 in
theorem T_X7_addLeg_0 {X : CX} {Q : HS → Prop} (C : Cx X cX7_addLeg RX7 9 rm_X7_addLeg) (E : ReV X rm_X7_addLeg Q) (ht : (xh X).sig.returnType = none) (hn : (xh X).name = yX7_addLeg.name) {v0 : Nat} {v1 : Nat} {v2 : Int32} {v3 : Int32} {v4 : Int64} {v6 : Int32} {S : HS} (h : P_X7_addLeg_0 Q v0 v1 v2 v3 v4 v6 S) : WS X 9 0 0 0 [(0, .ref v0), (1, .ref v1), (2, .int v2), (3, .int v3), (4, .long v4), (6, .int v6)] [] S := by
  refine r_aload_n (pc := 0) C dX7_addLeg_0 1 rfl ?_
  refine r_iload_n (pc := 1) C dX7_addLeg_1 3 rfl ?_
  obtain ⟨o_v1, h⟩ := h
  refine r_callVi0 (pc := 2) C (rest := []) (a := v1) o_v1 [.int v3] yV_X5_minutesAt g_856 (c_X5_minutesAt h) dX7_addLeg_2 rfl rfl (Nat.le_of_ble_eq_true rfl) ⟨by decide, by decide⟩ ⟨by decide, by decide⟩ ⟨rfl, rfl⟩ (fun x3 S1 h g2 => ?_)
  have h := h g2
  have o_v1 := gr_ob g2 o_v1
  refine r_istore (pc := 5) C dX7_addLeg_5 (by decide) (lv' := [(7, .int x3), (0, .ref v0), (1, .ref v1), (2, .int v2), (3, .int v3), (4, .long v4), (6, .int v6)]) rfl ?_
  refine r_aload_n (pc := 7) C dX7_addLeg_7 1 rfl ?_
  obtain ⟨o_v0, h⟩ := h
  refine r_geti (pc := 8) C fL_X7_82 dX7_addLeg_8 o_v0 ?_
  refine r_topi (fun x4 ex4 => ?_)
  have h := h x4 ex4
  refine r_iconst (pc := 11) C (v := (1 : Int32)) dX7_addLeg_11 (by decide) ?_
  refine r_isub (pc := 12) C dX7_addLeg_12 ?_
  refine r_topi (fun x5 ex5 => ?_)
  have h := h x5 ex5
  refine r_istore (pc := 13) C dX7_addLeg_13 (by decide) (lv' := [(8, .int x5), (7, .int x3), (0, .ref v0), (1, .ref v1), (2, .int v2), (3, .int v3), (4, .long v4), (6, .int v6)]) rfl ?_
  refine r_iload (pc := 15) C dX7_addLeg_15 0 rfl ?_
  refine r_if_lt (pc := 17) C (tgt := 82) dX7_addLeg_17 (by decide) (fun c6 => ?_) (fun c6 => ?_)
  · have h := h.1 c6
    exact r_sub [2, 3, 4, 6, 7, 1] rfl (T_X7_addLeg_82 C E ht hn h)
  · have h := h.2 c6
    refine r_iload (pc := 20) C dX7_addLeg_20 0 rfl ?_
    refine r_sipush (pc := 22) C (v := (224 : Int32)) dX7_addLeg_22 (by decide) ?_
    refine r_icmp_ge (pc := 25) C (tgt := 82) dX7_addLeg_25 (by decide) (fun c7 => ?_) (fun c7 => ?_)
    · have h := h.1 c7
      exact r_sub [2, 3, 4, 6, 7, 1] rfl (T_X7_addLeg_82 C E ht hn h)
    · have h := h.2 c7
      refine r_aload_n (pc := 28) C dX7_addLeg_28 2 rfl ?_
      obtain ⟨a8, ea8, h⟩ := h
      refine r_getr (pc := 29) C fL_X7_34 dX7_addLeg_29 o_v0 ea8 ?_
      refine r_iload (pc := 32) C dX7_addLeg_32 0 rfl ?_
      obtain ⟨o_a8, h⟩ := h
      obtain ⟨i9, h⟩ := h
      refine r_iald (pc := 34) C dX7_addLeg_34 o_a8 i9 ?_
      refine r_topi (fun x10 ex10 => ?_)
      have h := h x10 ex10
      refine r_bipush (pc := 35) C (v := (10 : Int32)) dX7_addLeg_35 (by decide) ?_
      refine r_idiv (pc := 37) C dX7_addLeg_37 (by decide) ?_
      refine r_topi (fun x11 ex11 => ?_)
      have h := h x11 ex11
      refine r_iload (pc := 38) C dX7_addLeg_38 7 rfl ?_
      refine r_bipush (pc := 40) C (v := (10 : Int32)) dX7_addLeg_40 (by decide) ?_
      refine r_idiv (pc := 42) C dX7_addLeg_42 (by decide) ?_
      refine r_topi (fun x12 ex12 => ?_)
      have h := h x12 ex12
      refine r_icmp_ne (pc := 43) C (tgt := 82) dX7_addLeg_43 (by decide) (fun c13 => ?_) (fun c13 => ?_)
      · have h := h.1 c13
        exact r_sub [2, 3, 4, 6, 7, 1] rfl (T_X7_addLeg_82 C E ht hn h)
      · have h := h.2 c13
        refine r_aload_n (pc := 46) C dX7_addLeg_46 2 rfl ?_
        obtain ⟨a14, ea14, h⟩ := h
        refine r_getr (pc := 47) C fL_X7_28 dX7_addLeg_47 o_v0 ea14 ?_
        refine r_iload (pc := 50) C dX7_addLeg_50 0 rfl ?_
        obtain ⟨o_a14, h⟩ := h
        obtain ⟨i15, h⟩ := h
        refine r_iald (pc := 52) C dX7_addLeg_52 o_a14 i15 ?_
        refine r_topi (fun x16 ex16 => ?_)
        have h := h x16 ex16
        refine r_iload (pc := 53) C dX7_addLeg_53 1 rfl ?_
        refine r_icmp_ne (pc := 55) C (tgt := 82) dX7_addLeg_55 (by decide) (fun c17 => ?_) (fun c17 => ?_)
        · have h := h.1 c17
          exact r_sub [2, 3, 4, 6, 7, 1] rfl (T_X7_addLeg_82 C E ht hn h)
        · have h := h.2 c17
          refine r_aload_n (pc := 58) C dX7_addLeg_58 2 rfl ?_
          obtain ⟨a18, ea18, h⟩ := h
          refine r_getr (pc := 59) C fL_X7_31 dX7_addLeg_59 o_v0 ea18 ?_
          refine r_iload (pc := 62) C dX7_addLeg_62 0 rfl ?_
          obtain ⟨o_a18, h⟩ := h
          obtain ⟨i19, h⟩ := h
          refine r_lald (pc := 64) C dX7_addLeg_64 o_a18 i19 ?_
          refine r_topl (fun x20 ex20 => ?_)
          have h := h x20 ex20
          refine r_lload (pc := 65) C dX7_addLeg_65 6 rfl ?_
          refine r_ldc2 (pc := 67) C (v := (512 : Int64)) dX7_addLeg_67 g_857 ?_
          refine r_lmul (pc := 70) C dX7_addLeg_70 ?_
          refine r_lcmp (pc := 71) C dX7_addLeg_71 ?_
          refine r_if_gt (pc := 72) C (tgt := 76) dX7_addLeg_72 (by decide) (fun c21 => ?_) (fun c21 => ?_)
          · have h := h.1 c21
            refine r_aload_n (pc := 76) C dX7_addLeg_76 2 rfl ?_
            refine r_iload (pc := 77) C dX7_addLeg_77 0 rfl ?_
            refine r_puti (pc := 79) C pfL_X7_82 dX7_addLeg_79 o_v0 ?_
            refine r_heap (fun S22 eS22 => ?_)
            have h := h S22 eS22
            have o_a14 := ob_I eS22 o_a14
            have o_a18 := ob_I eS22 o_a18
            have o_a8 := ob_I eS22 o_a8
            have o_v0 := ob_I eS22 o_v0
            have o_v1 := ob_I eS22 o_v1
            exact r_sub [2, 3, 4, 6, 7, 1] rfl (T_X7_addLeg_82 C E ht hn h)
          · have h := h.2 c21
            exact r_vret (pc := 75) C E ht dX7_addLeg_75 (by decide) (by decide) h
def P_X7_addLeg (v0 : Nat) (v1 : Nat) (v2 : Int32) (v3 : Int32) (v4 : Int64) (v6 : Int32) (Q : HS → Prop) (S : HS) : Prop := P_X7_addLeg_0 Q v0 v1 v2 v3 v4 v6 S
theorem c_X7_addLeg {l : Launch} {Ee : EE} {S : HS} {v0 : Nat} {v1 : Nat} {v2 : Int32} {v3 : Int32} {v4 : Int64} {v6 : Int32} {Q : HS → Prop} (h : P_X7_addLeg v0 v1 v2 v3 v4 v6 Q S) : MV l yX7_addLeg cX7_addLeg 9 none rm_X7_addLeg Ee S [.ref v0, .ref v1, .int v2, .int v3, .long v4, .int v6] Q :=
  openV (by decide) (Nat.le_of_ble_eq_true rfl) (fun X C E ht hn hE hl => by subst hE; exact r_sub [0, 1, 2, 3, 4, 5] rfl (T_X7_addLeg_0 C E ht hn h))
def rm_X7_keyOf : Room := { frames := 0, cells := 0, slots := 0, locals := 0 }
def P_X7_keyOf_0 (Q : Int64 → HS → Prop) (v0 : Nat) (v1 : Int32) (v2 : Int32) (S : HS) : Prop := ∀ x1 : Int32, x1 = (v1 * (401 : Int32)) + v2 → (((x1 < 0) → (Q (4611686018427387904 : Int64) S)) ∧ ((¬ x1 < 0) → (ob S v0 7 ∧ (∃ a3 : Nat, fR S v0 1 = some a3 ∧ (ob S a3 14 ∧ ((((nI (hN S a3)) ≤ x1) → (Q (4611686018427387904 : Int64) S)) ∧ ((¬ (nI (hN S a3)) ≤ x1) → (∃ a5 : Nat, fR S v0 1 = some a5 ∧ (ob S a5 14 ∧ (vp_in x1 (hN S a5) ∧ ∀ x7 : Int64, x7 = fJ S a5 x1.toNatClampNeg → (Q x7 S)))))))))))
set_option maxRecDepth 20000 in
set_option maxHeartbeats 4000000 in
theorem T_X7_keyOf_0 {X : CX} {Q : Int64 → HS → Prop} (C : Cx X cX7_keyOf RX7 4 rm_X7_keyOf) (E : ReJ X rm_X7_keyOf Q) (ht : (xh X).sig.returnType = (some .long)) (hn : (xh X).name = yX7_keyOf.name) {v0 : Nat} {v1 : Int32} {v2 : Int32} {S : HS} (h : P_X7_keyOf_0 Q v0 v1 v2 S) : WS X 4 0 0 0 [(0, .ref v0), (1, .int v1), (2, .int v2)] [] S := by
  refine r_iload_n (pc := 0) C dX7_keyOf_0 1 rfl ?_
  refine r_sipush (pc := 1) C (v := (401 : Int32)) dX7_keyOf_1 (by decide) ?_
  refine r_imul (pc := 4) C dX7_keyOf_4 ?_
  refine r_iload_n (pc := 5) C dX7_keyOf_5 2 rfl ?_
  refine r_iadd (pc := 6) C dX7_keyOf_6 ?_
  refine r_topi (fun x1 ex1 => ?_)
  have h := h x1 ex1
  refine r_istore_n (pc := 7) C dX7_keyOf_7 rfl (by decide) (lv' := [(3, .int x1), (0, .ref v0), (1, .int v1), (2, .int v2)]) rfl ?_
  refine r_iload_n (pc := 8) C dX7_keyOf_8 0 rfl ?_
  refine r_if_lt (pc := 9) C (tgt := 30) dX7_keyOf_9 (by decide) (fun c2 => ?_) (fun c2 => ?_)
  · have h := h.1 c2
    refine r_ldc2 (pc := 30) C (v := (4611686018427387904 : Int64)) dX7_keyOf_30 g_887 ?_
    exact r_lret (pc := 33) C E ht dX7_keyOf_33 (by decide) (by decide) h
  · have h := h.2 c2
    refine r_iload_n (pc := 12) C dX7_keyOf_12 0 rfl ?_
    refine r_aload_n (pc := 13) C dX7_keyOf_13 1 rfl ?_
    obtain ⟨o_v0, h⟩ := h
    obtain ⟨a3, ea3, h⟩ := h
    refine r_getr (pc := 14) C fL_X7_15 dX7_keyOf_14 o_v0 ea3 ?_
    obtain ⟨o_a3, h⟩ := h
    refine r_alen14 (pc := 17) C dX7_keyOf_17 o_a3 ?_
    refine r_icmp_ge (pc := 18) C (tgt := 30) dX7_keyOf_18 (by decide) (fun c4 => ?_) (fun c4 => ?_)
    · have h := h.1 c4
      refine r_ldc2 (pc := 30) C (v := (4611686018427387904 : Int64)) dX7_keyOf_30 g_887 ?_
      exact r_lret (pc := 33) C E ht dX7_keyOf_33 (by decide) (by decide) h
    · have h := h.2 c4
      refine r_aload_n (pc := 21) C dX7_keyOf_21 1 rfl ?_
      obtain ⟨a5, ea5, h⟩ := h
      refine r_getr (pc := 22) C fL_X7_15 dX7_keyOf_22 o_v0 ea5 ?_
      refine r_iload_n (pc := 25) C dX7_keyOf_25 0 rfl ?_
      obtain ⟨o_a5, h⟩ := h
      obtain ⟨i6, h⟩ := h
      refine r_lald (pc := 26) C dX7_keyOf_26 o_a5 i6 ?_
      refine r_topl (fun x7 ex7 => ?_)
      have h := h x7 ex7
      refine r_goto (pc := 27) C (tgt := 33) dX7_keyOf_27 (by decide) ?_
      exact r_lret (pc := 33) C E ht dX7_keyOf_33 (by decide) (by decide) h
def P_X7_keyOf (v0 : Nat) (v1 : Int32) (v2 : Int32) (Q : Int64 → HS → Prop) (S : HS) : Prop := P_X7_keyOf_0 Q v0 v1 v2 S
theorem c_X7_keyOf {l : Launch} {Ee : EE} {S : HS} {v0 : Nat} {v1 : Int32} {v2 : Int32} {Q : Int64 → HS → Prop} (h : P_X7_keyOf v0 v1 v2 Q S) : MJ l yX7_keyOf cX7_keyOf 4 (some .long) rm_X7_keyOf Ee S [.ref v0, .int v1, .int v2] Q :=
  openJ (by decide) (Nat.le_of_ble_eq_true rfl) (fun X C E ht hn hE hl => by subst hE; exact r_sub [0, 1, 2] rfl (T_X7_keyOf_0 C E ht hn h))
def rm_X7_endFrom : Room := { frames := 1, cells := 0, slots := 0, locals := 23 }
def P_X7_endFrom_0 (Q : Int32 → HS → Prop) (v0 : Nat) (v1 : Int32) (v2 : Int32) (S : HS) : Prop := ob S v0 7 ∧ (P_X7_keyOf v0 v1 v2 (fun x3 S1 => Gr S S1 → (∀ x4 : Int64, x4 = x3 - x3 / (512 : Int64) * (512 : Int64) → (Q x4.toInt32 S1))) S)
set_option maxRecDepth 20000 in
set_option maxHeartbeats 4000000 in
theorem T_X7_endFrom_0 {X : CX} {Q : Int32 → HS → Prop} (C : Cx X cX7_endFrom RX7 3 rm_X7_endFrom) (E : ReI X rm_X7_endFrom Q) (ht : (xh X).sig.returnType = (some .int)) (hn : (xh X).name = yX7_endFrom.name) {v0 : Nat} {v1 : Int32} {v2 : Int32} {S : HS} (h : P_X7_endFrom_0 Q v0 v1 v2 S) : WS X 3 0 0 0 [(0, .ref v0), (1, .int v1), (2, .int v2)] [] S := by
  refine r_aload_n (pc := 0) C dX7_endFrom_0 0 rfl ?_
  refine r_iload_n (pc := 1) C dX7_endFrom_1 1 rfl ?_
  refine r_iload_n (pc := 2) C dX7_endFrom_2 2 rfl ?_
  obtain ⟨o_v0, h⟩ := h
  refine r_callVl0 (pc := 3) C (rest := []) (a := v0) o_v0 [.int v1, .int v2] yV_X7_keyOf g_892 (c_X7_keyOf h) dX7_endFrom_3 rfl rfl (Nat.le_of_ble_eq_true rfl) ⟨by decide, by decide⟩ ⟨by decide, by decide⟩ ⟨rfl, rfl⟩ (fun x3 S1 h g2 => ?_)
  have h := h g2
  have o_v0 := gr_ob g2 o_v0
  refine r_ldc2 (pc := 6) C (v := (512 : Int64)) dX7_endFrom_6 g_857 ?_
  refine r_lrem (pc := 9) C dX7_endFrom_9 (by decide) ?_
  refine r_topl (fun x4 ex4 => ?_)
  have h := h x4 ex4
  refine r_l2i (pc := 10) C dX7_endFrom_10 ?_
  exact r_iret (pc := 11) C E ht dX7_endFrom_11 (by decide) (by decide) h
def P_X7_endFrom (v0 : Nat) (v1 : Int32) (v2 : Int32) (Q : Int32 → HS → Prop) (S : HS) : Prop := P_X7_endFrom_0 Q v0 v1 v2 S
theorem c_X7_endFrom {l : Launch} {Ee : EE} {S : HS} {v0 : Nat} {v1 : Int32} {v2 : Int32} {Q : Int32 → HS → Prop} (h : P_X7_endFrom v0 v1 v2 Q S) : MI l yX7_endFrom cX7_endFrom 3 (some .int) rm_X7_endFrom Ee S [.ref v0, .int v1, .int v2] Q :=
  openI (by decide) (Nat.le_of_ble_eq_true rfl) (fun X C E ht hn hE hl => by subst hE; exact r_sub [0, 1, 2] rfl (T_X7_endFrom_0 C E ht hn h))
def rm_X7_forget : Room := { frames := 0, cells := 0, slots := 0, locals := 0 }
def P_X7_forget_0 (Q : HS → Prop) (v0 : Nat) (S : HS) : Prop := ob S v0 7 ∧ (∀ S1 : HS, S1 = sI S v0 10 (-1 : Int32) → (Q S1))
set_option maxRecDepth 20000 in
set_option maxHeartbeats 4000000 in
theorem T_X7_forget_0 {X : CX} {Q : HS → Prop} (C : Cx X cX7_forget RX7 1 rm_X7_forget) (E : ReV X rm_X7_forget Q) (ht : (xh X).sig.returnType = none) (hn : (xh X).name = yX7_forget.name) {v0 : Nat} {S : HS} (h : P_X7_forget_0 Q v0 S) : WS X 1 0 0 0 [(0, .ref v0)] [] S := by
  refine r_aload_n (pc := 0) C dX7_forget_0 0 rfl ?_
  refine r_iconst (pc := 1) C (v := (-1 : Int32)) dX7_forget_1 (by decide) ?_
  obtain ⟨o_v0, h⟩ := h
  refine r_puti (pc := 2) C pfL_X7_41 dX7_forget_2 o_v0 ?_
  refine r_heap (fun S1 eS1 => ?_)
  have h := h S1 eS1
  have o_v0 := ob_I eS1 o_v0
  exact r_vret (pc := 5) C E ht dX7_forget_5 (by decide) (by decide) h
def P_X7_forget (v0 : Nat) (Q : HS → Prop) (S : HS) : Prop := P_X7_forget_0 Q v0 S
theorem c_X7_forget {l : Launch} {Ee : EE} {S : HS} {v0 : Nat} {Q : HS → Prop} (h : P_X7_forget v0 Q S) : MV l yX7_forget cX7_forget 1 none rm_X7_forget Ee S [.ref v0] Q :=
  openV (by decide) (Nat.le_of_ble_eq_true rfl) (fun X C E ht hn hE hl => by subst hE; exact r_sub [0] rfl (T_X7_forget_0 C E ht hn h))
def rm_X7_init : Room := { frames := 1, cells := 8, slots := 0, locals := 20 }
def P_X7_init_0 (Q : HS → Prop) (v0 : Nat) (S : HS) : Prop := ∀ a1 : Nat, a1 ∉ hL S → ∀ S2 : HS, S2 = nW S a1 13 0 → (ob S2 v0 7 ∧ (∀ S3 : HS, S3 = sR S2 v0 0 (some a1) → (∀ a4 : Nat, a4 ∉ hL S3 → ∀ S5 : HS, S5 = nW S3 a4 14 0 → (∀ S6 : HS, S6 = sR S5 v0 1 (some a4) → (∀ a7 : Nat, a7 ∉ hL S6 → ∀ S8 : HS, S8 = nW S6 a7 13 0 → (∀ S9 : HS, S9 = sR S8 v0 2 (some a7) → (∀ a10 : Nat, a10 ∉ hL S9 → ∀ S11 : HS, S11 = nW S9 a10 13 0 → (∀ S12 : HS, S12 = sR S11 v0 4 (some a10) → (∀ a13 : Nat, a13 ∉ hL S12 → ∀ S14 : HS, S14 = nW S12 a13 13 0 → (∀ S15 : HS, S15 = sR S14 v0 5 (some a13) → (∀ a16 : Nat, a16 ∉ hL S15 → ∀ S17 : HS, S17 = nW S15 a16 13 0 → (∀ S18 : HS, S18 = sR S17 v0 6 (some a16) → (∀ a19 : Nat, a19 ∉ hL S18 → ∀ S20 : HS, S20 = nW S18 a19 14 0 → (∀ S21 : HS, S21 = sR S20 v0 7 (some a19) → (∀ a22 : Nat, a22 ∉ hL S21 → ∀ S23 : HS, S23 = nW S21 a22 13 0 → (∀ S24 : HS, S24 = sR S23 v0 8 (some a22) → (∀ S25 : HS, S25 = sI S24 v0 9 (-1 : Int32) → (∀ S26 : HS, S26 = sI S25 v0 10 (-1 : Int32) → (∀ S27 : HS, S27 = sI S26 v0 11 (-1 : Int32) → (∀ S28 : HS, S28 = sI S27 v0 12 (-1 : Int32) → (Q S28)))))))))))))))))))))
set_option maxRecDepth 20000 in
set_option maxHeartbeats 4000000 in
theorem T_X7_init_0 {X : CX} {Q : HS → Prop} (C : Cx X cX7_init RX7 1 rm_X7_init) (E : ReV X rm_X7_init Q) (ht : (xh X).sig.returnType = none) (hn : (xh X).name = yX7_init.name) {v0 : Nat} {S : HS} (h : P_X7_init_0 Q v0 S) : WS X 1 0 0 0 [(0, .ref v0)] [] S := by
  refine r_aload_n (pc := 0) C dX7_init_0 0 rfl ?_
  refine r_objinit (pc := 1) C g_286 dX7_init_1 (by decide) (Nat.le_of_ble_eq_true rfl) ?_
  refine r_aload_n (pc := 4) C dX7_init_4 0 rfl ?_
  refine r_iconst (pc := 5) C (v := (0 : Int32)) dX7_init_5 (by decide) ?_
  refine r_newa13 (pc := 6) C (N := 0) g_72 dX7_init_6 (by decide) (by decide) (by decide) (by decide) (by decide) (fun a1 q43 => ?_)
  refine r_heap (fun S2 eS2 => ?_)
  have h := h a1 q43 S2 eS2
  have g44 := gr_of_new eS2 q43
  have o_a1 := ob_of_new eS2
  obtain ⟨o_v0, h⟩ := h
  refine r_putr (pc := 8) C pfL_X7_9 dX7_init_8 o_v0 ?_
  refine r_heap (fun S3 eS3 => ?_)
  have h := h S3 eS3
  have o_a1 := ob_R eS3 o_a1
  have o_v0 := ob_R eS3 o_v0
  refine r_aload_n (pc := 11) C dX7_init_11 0 rfl ?_
  refine r_iconst (pc := 12) C (v := (0 : Int32)) dX7_init_12 (by decide) ?_
  refine r_newa14 (pc := 13) C (N := 0) g_266 dX7_init_13 (by decide) (by decide) (by decide) (by decide) (by decide) (fun a4 q41 => ?_)
  refine r_heap (fun S5 eS5 => ?_)
  have h := h a4 q41 S5 eS5
  have g42 := gr_of_new eS5 q41
  have o_a4 := ob_of_new eS5
  have o_a1 := gr_ob g42 o_a1
  have o_v0 := gr_ob g42 o_v0
  refine r_putr (pc := 15) C pfL_X7_15 dX7_init_15 o_v0 ?_
  refine r_heap (fun S6 eS6 => ?_)
  have h := h S6 eS6
  have o_a1 := ob_R eS6 o_a1
  have o_a4 := ob_R eS6 o_a4
  have o_v0 := ob_R eS6 o_v0
  refine r_aload_n (pc := 18) C dX7_init_18 0 rfl ?_
  refine r_iconst (pc := 19) C (v := (0 : Int32)) dX7_init_19 (by decide) ?_
  refine r_newa13 (pc := 20) C (N := 0) g_72 dX7_init_20 (by decide) (by decide) (by decide) (by decide) (by decide) (fun a7 q39 => ?_)
  refine r_heap (fun S8 eS8 => ?_)
  have h := h a7 q39 S8 eS8
  have g40 := gr_of_new eS8 q39
  have o_a7 := ob_of_new eS8
  have o_a1 := gr_ob g40 o_a1
  have o_a4 := gr_ob g40 o_a4
  have o_v0 := gr_ob g40 o_v0
  refine r_putr (pc := 22) C pfL_X7_19 dX7_init_22 o_v0 ?_
  refine r_heap (fun S9 eS9 => ?_)
  have h := h S9 eS9
  have o_a1 := ob_R eS9 o_a1
  have o_a4 := ob_R eS9 o_a4
  have o_a7 := ob_R eS9 o_a7
  have o_v0 := ob_R eS9 o_v0
  refine r_aload_n (pc := 25) C dX7_init_25 0 rfl ?_
  refine r_iconst (pc := 26) C (v := (0 : Int32)) dX7_init_26 (by decide) ?_
  refine r_newa13 (pc := 27) C (N := 0) g_72 dX7_init_27 (by decide) (by decide) (by decide) (by decide) (by decide) (fun a10 q37 => ?_)
  refine r_heap (fun S11 eS11 => ?_)
  have h := h a10 q37 S11 eS11
  have g38 := gr_of_new eS11 q37
  have o_a10 := ob_of_new eS11
  have o_a1 := gr_ob g38 o_a1
  have o_a4 := gr_ob g38 o_a4
  have o_a7 := gr_ob g38 o_a7
  have o_v0 := gr_ob g38 o_v0
  refine r_putr (pc := 29) C pfL_X7_22 dX7_init_29 o_v0 ?_
  refine r_heap (fun S12 eS12 => ?_)
  have h := h S12 eS12
  have o_a1 := ob_R eS12 o_a1
  have o_a10 := ob_R eS12 o_a10
  have o_a4 := ob_R eS12 o_a4
  have o_a7 := ob_R eS12 o_a7
  have o_v0 := ob_R eS12 o_v0
  refine r_aload_n (pc := 32) C dX7_init_32 0 rfl ?_
  refine r_iconst (pc := 33) C (v := (0 : Int32)) dX7_init_33 (by decide) ?_
  refine r_newa13 (pc := 34) C (N := 0) g_72 dX7_init_34 (by decide) (by decide) (by decide) (by decide) (by decide) (fun a13 q35 => ?_)
  refine r_heap (fun S14 eS14 => ?_)
  have h := h a13 q35 S14 eS14
  have g36 := gr_of_new eS14 q35
  have o_a13 := ob_of_new eS14
  have o_a1 := gr_ob g36 o_a1
  have o_a10 := gr_ob g36 o_a10
  have o_a4 := gr_ob g36 o_a4
  have o_a7 := gr_ob g36 o_a7
  have o_v0 := gr_ob g36 o_v0
  refine r_putr (pc := 36) C pfL_X7_25 dX7_init_36 o_v0 ?_
  refine r_heap (fun S15 eS15 => ?_)
  have h := h S15 eS15
  have o_a1 := ob_R eS15 o_a1
  have o_a10 := ob_R eS15 o_a10
  have o_a13 := ob_R eS15 o_a13
  have o_a4 := ob_R eS15 o_a4
  have o_a7 := ob_R eS15 o_a7
  have o_v0 := ob_R eS15 o_v0
  refine r_aload_n (pc := 39) C dX7_init_39 0 rfl ?_
  refine r_iconst (pc := 40) C (v := (0 : Int32)) dX7_init_40 (by decide) ?_
  refine r_newa13 (pc := 41) C (N := 0) g_72 dX7_init_41 (by decide) (by decide) (by decide) (by decide) (by decide) (fun a16 q33 => ?_)
  refine r_heap (fun S17 eS17 => ?_)
  have h := h a16 q33 S17 eS17
  have g34 := gr_of_new eS17 q33
  have o_a16 := ob_of_new eS17
  have o_a1 := gr_ob g34 o_a1
  have o_a10 := gr_ob g34 o_a10
  have o_a13 := gr_ob g34 o_a13
  have o_a4 := gr_ob g34 o_a4
  have o_a7 := gr_ob g34 o_a7
  have o_v0 := gr_ob g34 o_v0
  refine r_putr (pc := 43) C pfL_X7_28 dX7_init_43 o_v0 ?_
  refine r_heap (fun S18 eS18 => ?_)
  have h := h S18 eS18
  have o_a1 := ob_R eS18 o_a1
  have o_a10 := ob_R eS18 o_a10
  have o_a13 := ob_R eS18 o_a13
  have o_a16 := ob_R eS18 o_a16
  have o_a4 := ob_R eS18 o_a4
  have o_a7 := ob_R eS18 o_a7
  have o_v0 := ob_R eS18 o_v0
  refine r_aload_n (pc := 46) C dX7_init_46 0 rfl ?_
  refine r_iconst (pc := 47) C (v := (0 : Int32)) dX7_init_47 (by decide) ?_
  refine r_newa14 (pc := 48) C (N := 0) g_266 dX7_init_48 (by decide) (by decide) (by decide) (by decide) (by decide) (fun a19 q31 => ?_)
  refine r_heap (fun S20 eS20 => ?_)
  have h := h a19 q31 S20 eS20
  have g32 := gr_of_new eS20 q31
  have o_a19 := ob_of_new eS20
  have o_a1 := gr_ob g32 o_a1
  have o_a10 := gr_ob g32 o_a10
  have o_a13 := gr_ob g32 o_a13
  have o_a16 := gr_ob g32 o_a16
  have o_a4 := gr_ob g32 o_a4
  have o_a7 := gr_ob g32 o_a7
  have o_v0 := gr_ob g32 o_v0
  refine r_putr (pc := 50) C pfL_X7_31 dX7_init_50 o_v0 ?_
  refine r_heap (fun S21 eS21 => ?_)
  have h := h S21 eS21
  have o_a1 := ob_R eS21 o_a1
  have o_a10 := ob_R eS21 o_a10
  have o_a13 := ob_R eS21 o_a13
  have o_a16 := ob_R eS21 o_a16
  have o_a19 := ob_R eS21 o_a19
  have o_a4 := ob_R eS21 o_a4
  have o_a7 := ob_R eS21 o_a7
  have o_v0 := ob_R eS21 o_v0
  refine r_aload_n (pc := 53) C dX7_init_53 0 rfl ?_
  refine r_iconst (pc := 54) C (v := (0 : Int32)) dX7_init_54 (by decide) ?_
  refine r_newa13 (pc := 55) C (N := 0) g_72 dX7_init_55 (by decide) (by decide) (by decide) (by decide) (by decide) (fun a22 q29 => ?_)
  refine r_heap (fun S23 eS23 => ?_)
  have h := h a22 q29 S23 eS23
  have g30 := gr_of_new eS23 q29
  have o_a22 := ob_of_new eS23
  have o_a1 := gr_ob g30 o_a1
  have o_a10 := gr_ob g30 o_a10
  have o_a13 := gr_ob g30 o_a13
  have o_a16 := gr_ob g30 o_a16
  have o_a19 := gr_ob g30 o_a19
  have o_a4 := gr_ob g30 o_a4
  have o_a7 := gr_ob g30 o_a7
  have o_v0 := gr_ob g30 o_v0
  refine r_putr (pc := 57) C pfL_X7_34 dX7_init_57 o_v0 ?_
  refine r_heap (fun S24 eS24 => ?_)
  have h := h S24 eS24
  have o_a1 := ob_R eS24 o_a1
  have o_a10 := ob_R eS24 o_a10
  have o_a13 := ob_R eS24 o_a13
  have o_a16 := ob_R eS24 o_a16
  have o_a19 := ob_R eS24 o_a19
  have o_a22 := ob_R eS24 o_a22
  have o_a4 := ob_R eS24 o_a4
  have o_a7 := ob_R eS24 o_a7
  have o_v0 := ob_R eS24 o_v0
  refine r_aload_n (pc := 60) C dX7_init_60 0 rfl ?_
  refine r_iconst (pc := 61) C (v := (-1 : Int32)) dX7_init_61 (by decide) ?_
  refine r_puti (pc := 62) C pfL_X7_37 dX7_init_62 o_v0 ?_
  refine r_heap (fun S25 eS25 => ?_)
  have h := h S25 eS25
  have o_a1 := ob_I eS25 o_a1
  have o_a10 := ob_I eS25 o_a10
  have o_a13 := ob_I eS25 o_a13
  have o_a16 := ob_I eS25 o_a16
  have o_a19 := ob_I eS25 o_a19
  have o_a22 := ob_I eS25 o_a22
  have o_a4 := ob_I eS25 o_a4
  have o_a7 := ob_I eS25 o_a7
  have o_v0 := ob_I eS25 o_v0
  refine r_aload_n (pc := 65) C dX7_init_65 0 rfl ?_
  refine r_iconst (pc := 66) C (v := (-1 : Int32)) dX7_init_66 (by decide) ?_
  refine r_puti (pc := 67) C pfL_X7_41 dX7_init_67 o_v0 ?_
  refine r_heap (fun S26 eS26 => ?_)
  have h := h S26 eS26
  have o_a1 := ob_I eS26 o_a1
  have o_a10 := ob_I eS26 o_a10
  have o_a13 := ob_I eS26 o_a13
  have o_a16 := ob_I eS26 o_a16
  have o_a19 := ob_I eS26 o_a19
  have o_a22 := ob_I eS26 o_a22
  have o_a4 := ob_I eS26 o_a4
  have o_a7 := ob_I eS26 o_a7
  have o_v0 := ob_I eS26 o_v0
  refine r_aload_n (pc := 70) C dX7_init_70 0 rfl ?_
  refine r_iconst (pc := 71) C (v := (-1 : Int32)) dX7_init_71 (by decide) ?_
  refine r_puti (pc := 72) C pfL_X7_44 dX7_init_72 o_v0 ?_
  refine r_heap (fun S27 eS27 => ?_)
  have h := h S27 eS27
  have o_a1 := ob_I eS27 o_a1
  have o_a10 := ob_I eS27 o_a10
  have o_a13 := ob_I eS27 o_a13
  have o_a16 := ob_I eS27 o_a16
  have o_a19 := ob_I eS27 o_a19
  have o_a22 := ob_I eS27 o_a22
  have o_a4 := ob_I eS27 o_a4
  have o_a7 := ob_I eS27 o_a7
  have o_v0 := ob_I eS27 o_v0
  refine r_aload_n (pc := 75) C dX7_init_75 0 rfl ?_
  refine r_iconst (pc := 76) C (v := (-1 : Int32)) dX7_init_76 (by decide) ?_
  refine r_puti (pc := 77) C pfL_X7_47 dX7_init_77 o_v0 ?_
  refine r_heap (fun S28 eS28 => ?_)
  have h := h S28 eS28
  have o_a1 := ob_I eS28 o_a1
  have o_a10 := ob_I eS28 o_a10
  have o_a13 := ob_I eS28 o_a13
  have o_a16 := ob_I eS28 o_a16
  have o_a19 := ob_I eS28 o_a19
  have o_a22 := ob_I eS28 o_a22
  have o_a4 := ob_I eS28 o_a4
  have o_a7 := ob_I eS28 o_a7
  have o_v0 := ob_I eS28 o_v0
  exact r_vret (pc := 80) C E ht dX7_init_80 (by decide) (by decide) h
def P_X7_init (v0 : Nat) (Q : HS → Prop) (S : HS) : Prop := P_X7_init_0 Q v0 S
theorem c_X7_init {l : Launch} {Ee : EE} {S : HS} {v0 : Nat} {Q : HS → Prop} (h : P_X7_init v0 Q S) : MV l yX7_init cX7_init 1 none rm_X7_init Ee S [.ref v0] Q :=
  openV (by decide) (Nat.le_of_ble_eq_true rfl) (fun X C E ht hn hE hl => by subst hE; exact r_sub [0] rfl (T_X7_init_0 C E ht hn h))
