section
def rm_X4_sign : Room := { frames := 2, cells := 0, slots := 0, locals := 46 }
def P_X4_sign_0 (Q : Int32 → HS → Prop) (v0 : Nat) (v1 : Int32) (S : HS) : Prop := ob S v0 4 ∧ (∀ x1 : Int32, x1 = fI S v0 6 → (((x1 = v1) → (P_X4_next v0 (fun S3 => Gr S S3 → (Q (1 : Int32) S3)) S)) ∧ ((¬ x1 = v1) → (P_X4_fail v0 (1 : Int32) (fun x8 S6 => Gr S S6 → bl x8 → (bl x8 ∧ Q x8 S6)) S))))
set_option maxRecDepth 20000 in
set_option maxHeartbeats 4000000 in
theorem T_X4_sign_0 {X : CX} {Q : Int32 → HS → Prop} (C : Cx X cX4_sign RX4 2 rm_X4_sign) (E : ReI X rm_X4_sign (fun r S => bl r ∧ Q r S)) (ht : (xh X).sig.returnType = (some .boolean)) (hn : (xh X).name = yX4_sign.name) {v0 : Nat} {v1 : Int32} {S : HS} (h : P_X4_sign_0 Q v0 v1 S) : WS X 2 0 0 0 [(0, .ref v0), (1, .int v1)] [] S := by
  refine r_aload_n (pc := 0) C dX4_sign_0 0 rfl ?_
  obtain ⟨o_v0, h⟩ := h
  refine r_geti (pc := 1) C fL_X4_92 dX4_sign_1 o_v0 ?_
  refine r_topi (fun x1 ex1 => ?_)
  have h := h x1 ex1
  refine r_iload_n (pc := 4) C dX4_sign_4 1 rfl ?_
  refine r_icmp_eq (pc := 5) C (tgt := 14) dX4_sign_5 (by decide) (fun c2 => ?_) (fun c2 => ?_)
  · have h := h.1 c2
    refine r_aload_n (pc := 14) C dX4_sign_14 0 rfl ?_
    refine r_callVv0 (pc := 15) C (rest := []) (a := v0) o_v0 [] yV_X4_next g_449 (c_X4_next h) dX4_sign_15 rfl rfl (Nat.le_of_ble_eq_true rfl) ⟨by decide, by decide⟩ ⟨by decide, by decide⟩ ⟨rfl, rfl⟩ (fun S3 h g4 => ?_)
    have h := h g4
    have o_v0 := gr_ob g4 o_v0
    refine r_iconst (pc := 18) C (v := (1 : Int32)) dX4_sign_18 (by decide) ?_
    exact r_zret (pc := 19) C E ht dX4_sign_19 (by decide) (by decide) (Or.inr rfl) h
  · have h := h.2 c2
    refine r_aload_n (pc := 8) C dX4_sign_8 0 rfl ?_
    refine r_iconst (pc := 9) C (v := (1 : Int32)) dX4_sign_9 (by decide) ?_
    refine r_callVi0 (pc := 10) C (rest := []) (a := v0) o_v0 [.int (1 : Int32)] yV_X4_fail g_519 (c_X4_fail h) dX4_sign_10 rfl rfl (Nat.le_of_ble_eq_true rfl) ⟨by decide, by decide⟩ ⟨by decide, by decide⟩ ⟨rfl, rfl⟩ (fun x8 S6 h g7 => ?_)
    have bx8 := h.1
    have h := h.2 g7 bx8
    have o_v0 := gr_ob g7 o_v0
    exact r_zret (pc := 13) C E ht dX4_sign_13 (by decide) (by decide) h.1 h.2
def P_X4_sign (v0 : Nat) (v1 : Int32) (Q : Int32 → HS → Prop) (S : HS) : Prop := P_X4_sign_0 Q v0 v1 S
theorem c_X4_sign {l : Launch} {Ee : EE} {S : HS} {v0 : Nat} {v1 : Int32} {Q : Int32 → HS → Prop} (h : P_X4_sign v0 v1 Q S) : MI l yX4_sign cX4_sign 2 (some .boolean) rm_X4_sign Ee S [.ref v0, .int v1] (fun r S => bl r ∧ Q r S) :=
  openI (by decide) (Nat.le_of_ble_eq_true rfl) (fun X C E ht hn hE hl => by subst hE; exact r_sub [0, 1] rfl (T_X4_sign_0 C E ht hn h))
def rm_X4_someWalker : Room := { frames := 7, cells := 0, slots := 0, locals := 165 }
def P_X4_someWalker_0 (Q : Int32 → HS → Prop) (v0 : Nat) (S : HS) : Prop := ob S v0 4 ∧ (P_X4_canBeName v0 (fun x3 S1 => Gr S S1 → bl x3 → (((¬ x3 = 0) → (P_X4_findName v0 (fun x7 S5 => Gr S1 S5 → ((((8 : Int32) ≤ x7) → (∀ x9 : Int32, x9 = x7 - (8 : Int32) → (∀ S10 : HS, S10 = sI S5 v0 9 x9 → (P_X4_next v0 (fun S11 => Gr S10 S11 → (Q (1 : Int32) S11)) S10)))) ∧ ((¬ (8 : Int32) ≤ x7) → (P_X4_fail v0 (2 : Int32) (fun x16 S14 => Gr S5 S14 → bl x16 → (bl x16 ∧ Q x16 S14)) S5)))) S1)) ∧ ((x3 = 0) → (P_X4_fail v0 (1 : Int32) (fun x19 S17 => Gr S1 S17 → bl x19 → (bl x19 ∧ Q x19 S17)) S1)))) S)
set_option maxRecDepth 20000 in
set_option maxHeartbeats 4000000 in
theorem T_X4_someWalker_0 {X : CX} {Q : Int32 → HS → Prop} (C : Cx X cX4_someWalker RX4 2 rm_X4_someWalker) (E : ReI X rm_X4_someWalker (fun r S => bl r ∧ Q r S)) (ht : (xh X).sig.returnType = (some .boolean)) (hn : (xh X).name = yX4_someWalker.name) {v0 : Nat} {S : HS} (h : P_X4_someWalker_0 Q v0 S) : WS X 2 0 0 0 [(0, .ref v0)] [] S := by
  refine r_aload_n (pc := 0) C dX4_someWalker_0 0 rfl ?_
  obtain ⟨o_v0, h⟩ := h
  refine r_callVi0 (pc := 1) C (rest := []) (a := v0) o_v0 [] yV_X4_canBeName g_566 (c_X4_canBeName h) dX4_someWalker_1 rfl rfl (Nat.le_of_ble_eq_true rfl) ⟨by decide, by decide⟩ ⟨by decide, by decide⟩ ⟨rfl, rfl⟩ (fun x3 S1 h g2 => ?_)
  have bx3 := h.1
  have h := h.2 g2 bx3
  have o_v0 := gr_ob g2 o_v0
  refine r_if_ne (pc := 4) C (tgt := 13) dX4_someWalker_4 (by decide) (fun c4 => ?_) (fun c4 => ?_)
  · have h := h.1 c4
    refine r_aload_n (pc := 13) C dX4_someWalker_13 0 rfl ?_
    refine r_callVi0 (pc := 14) C (rest := []) (a := v0) o_v0 [] yV_X4_findName g_576 (c_X4_findName h) dX4_someWalker_14 rfl rfl (Nat.le_of_ble_eq_true rfl) ⟨by decide, by decide⟩ ⟨by decide, by decide⟩ ⟨rfl, rfl⟩ (fun x7 S5 h g6 => ?_)
    have h := h g6
    have o_v0 := gr_ob g6 o_v0
    refine r_istore_n (pc := 17) C dX4_someWalker_17 rfl (by decide) (lv' := [(1, .int x7), (0, .ref v0)]) rfl ?_
    refine r_iload_n (pc := 18) C dX4_someWalker_18 0 rfl ?_
    refine r_bipush (pc := 19) C (v := (8 : Int32)) dX4_someWalker_19 (by decide) ?_
    refine r_icmp_ge (pc := 21) C (tgt := 30) dX4_someWalker_21 (by decide) (fun c8 => ?_) (fun c8 => ?_)
    · have h := h.1 c8
      refine r_aload_n (pc := 30) C dX4_someWalker_30 1 rfl ?_
      refine r_iload_n (pc := 31) C dX4_someWalker_31 0 rfl ?_
      refine r_bipush (pc := 32) C (v := (8 : Int32)) dX4_someWalker_32 (by decide) ?_
      refine r_isub (pc := 34) C dX4_someWalker_34 ?_
      refine r_topi (fun x9 ex9 => ?_)
      have h := h x9 ex9
      refine r_puti (pc := 35) C pfL_X4_147 dX4_someWalker_35 o_v0 ?_
      refine r_heap (fun S10 eS10 => ?_)
      have h := h S10 eS10
      have o_v0 := ob_I eS10 o_v0
      refine r_aload_n (pc := 38) C dX4_someWalker_38 1 rfl ?_
      refine r_callVv0 (pc := 39) C (rest := []) (a := v0) o_v0 [] yV_X4_next g_449 (c_X4_next h) dX4_someWalker_39 rfl rfl (Nat.le_of_ble_eq_true rfl) ⟨by decide, by decide⟩ ⟨by decide, by decide⟩ ⟨rfl, rfl⟩ (fun S11 h g12 => ?_)
      have h := h g12
      have o_v0 := gr_ob g12 o_v0
      refine r_iconst (pc := 42) C (v := (1 : Int32)) dX4_someWalker_42 (by decide) ?_
      exact r_zret (pc := 43) C E ht dX4_someWalker_43 (by decide) (by decide) (Or.inr rfl) h
    · have h := h.2 c8
      refine r_aload_n (pc := 24) C dX4_someWalker_24 1 rfl ?_
      refine r_iconst (pc := 25) C (v := (2 : Int32)) dX4_someWalker_25 (by decide) ?_
      refine r_callVi0 (pc := 26) C (rest := []) (a := v0) o_v0 [.int (2 : Int32)] yV_X4_fail g_519 (c_X4_fail h) dX4_someWalker_26 rfl rfl (Nat.le_of_ble_eq_true rfl) ⟨by decide, by decide⟩ ⟨by decide, by decide⟩ ⟨rfl, rfl⟩ (fun x16 S14 h g15 => ?_)
      have bx16 := h.1
      have h := h.2 g15 bx16
      have o_v0 := gr_ob g15 o_v0
      exact r_zret (pc := 29) C E ht dX4_someWalker_29 (by decide) (by decide) h.1 h.2
  · have h := h.2 c4
    refine r_aload_n (pc := 7) C dX4_someWalker_7 0 rfl ?_
    refine r_iconst (pc := 8) C (v := (1 : Int32)) dX4_someWalker_8 (by decide) ?_
    refine r_callVi0 (pc := 9) C (rest := []) (a := v0) o_v0 [.int (1 : Int32)] yV_X4_fail g_519 (c_X4_fail h) dX4_someWalker_9 rfl rfl (Nat.le_of_ble_eq_true rfl) ⟨by decide, by decide⟩ ⟨by decide, by decide⟩ ⟨rfl, rfl⟩ (fun x19 S17 h g18 => ?_)
    have bx19 := h.1
    have h := h.2 g18 bx19
    have o_v0 := gr_ob g18 o_v0
    exact r_zret (pc := 12) C E ht dX4_someWalker_12 (by decide) (by decide) h.1 h.2
def P_X4_someWalker (v0 : Nat) (Q : Int32 → HS → Prop) (S : HS) : Prop := P_X4_someWalker_0 Q v0 S
theorem c_X4_someWalker {l : Launch} {Ee : EE} {S : HS} {v0 : Nat} {Q : Int32 → HS → Prop} (h : P_X4_someWalker v0 Q S) : MI l yX4_someWalker cX4_someWalker 2 (some .boolean) rm_X4_someWalker Ee S [.ref v0] (fun r S => bl r ∧ Q r S) :=
  openI (by decide) (Nat.le_of_ble_eq_true rfl) (fun X C E ht hn hE hl => by subst hE; exact r_sub [0] rfl (T_X4_someWalker_0 C E ht hn h))
def rm_X4_seenLine : Room := { frames := 8, cells := 0, slots := 0, locals := 186 }
def P_X4_seenLine_47 (Q : Int32 → HS → Prop) (X30 : Nat → Int32 → HS → Prop) (v0 : Nat) (v1 : Int32) (S : HS) : Prop := ob S v0 4 ∧ (P_X4_whole v0 (0 : Int32) (999 : Int32) (fun x3 S1 => Gr S S1 → bl x3 → (((¬ x3 = 0) → (∃ a5 : Nat, fR S1 v0 5 = some a5 ∧ (ob S1 a5 8 ∧ (∃ a6 : Nat, fR S1 a5 11 = some a6 ∧ (∃ a7 : Nat, fR S1 v0 5 = some a7 ∧ (ob S1 a7 8 ∧ (∀ x8 : Int32, x8 = fI S1 a7 5 → (∀ x9 : Int32, x9 = fI S1 v0 9 → (ob S1 a6 13 ∧ (vp_in ((x8 * (5 : Int32)) + v1) (hN S1 a6) ∧ (∀ S11 : HS, S11 = sI S1 a6 ((x8 * (5 : Int32)) + v1).toNatClampNeg x9 → (∀ x12 : Int32, x12 = v1 + (1 : Int32) → (X30 v0 x12 S11))))))))))))) ∧ ((x3 = 0) → (Q (0 : Int32) S1)))) S)
set_option maxRecDepth 20000 in
set_option maxHeartbeats 4000000 in
theorem T_X4_seenLine_47 {X : CX} {Q : Int32 → HS → Prop} (C : Cx X cX4_seenLine RX4 2 rm_X4_seenLine) (E : ReI X rm_X4_seenLine (fun r S => bl r ∧ Q r S)) (ht : (xh X).sig.returnType = (some .boolean)) (hn : (xh X).name = yX4_seenLine.name) {X30 : Nat → Int32 → HS → Prop} (hX30 : ∀ (v0 : Nat) (v1 : Int32) (S : HS), X30 v0 v1 S → WS X 2 0 0 30 [(0, .ref v0), (1, .int v1)] [] S) {v0 : Nat} {v1 : Int32} {S : HS} (h : P_X4_seenLine_47 Q X30 v0 v1 S) : WS X 2 0 0 47 [(0, .ref v0), (1, .int v1)] [] S := by
  refine r_aload_n (pc := 47) C dX4_seenLine_47 0 rfl ?_
  refine r_iconst (pc := 48) C (v := (0 : Int32)) dX4_seenLine_48 (by decide) ?_
  refine r_sipush (pc := 49) C (v := (999 : Int32)) dX4_seenLine_49 (by decide) ?_
  obtain ⟨o_v0, h⟩ := h
  refine r_callVi0 (pc := 52) C (rest := []) (a := v0) o_v0 [.int (0 : Int32), .int (999 : Int32)] yV_X4_whole g_532 (c_X4_whole h) dX4_seenLine_52 rfl rfl (Nat.le_of_ble_eq_true rfl) ⟨by decide, by decide⟩ ⟨by decide, by decide⟩ ⟨rfl, rfl⟩ (fun x3 S1 h g2 => ?_)
  have bx3 := h.1
  have h := h.2 g2 bx3
  have o_v0 := gr_ob g2 o_v0
  refine r_if_ne (pc := 55) C (tgt := 60) dX4_seenLine_55 (by decide) (fun c4 => ?_) (fun c4 => ?_)
  · have h := h.1 c4
    refine r_aload_n (pc := 60) C dX4_seenLine_60 0 rfl ?_
    obtain ⟨a5, ea5, h⟩ := h
    refine r_getr (pc := 61) C fL_X4_18 dX4_seenLine_61 o_v0 ea5 ?_
    obtain ⟨o_a5, h⟩ := h
    obtain ⟨a6, ea6, h⟩ := h
    refine r_getr (pc := 64) C fL_X4_292 dX4_seenLine_64 o_a5 ea6 ?_
    refine r_aload_n (pc := 67) C dX4_seenLine_67 0 rfl ?_
    obtain ⟨a7, ea7, h⟩ := h
    refine r_getr (pc := 68) C fL_X4_18 dX4_seenLine_68 o_v0 ea7 ?_
    obtain ⟨o_a7, h⟩ := h
    refine r_geti (pc := 71) C fL_X4_82 dX4_seenLine_71 o_a7 ?_
    refine r_topi (fun x8 ex8 => ?_)
    have h := h x8 ex8
    refine r_iconst (pc := 74) C (v := (5 : Int32)) dX4_seenLine_74 (by decide) ?_
    refine r_imul (pc := 75) C dX4_seenLine_75 ?_
    refine r_iload_n (pc := 76) C dX4_seenLine_76 1 rfl ?_
    refine r_iadd (pc := 77) C dX4_seenLine_77 ?_
    refine r_aload_n (pc := 78) C dX4_seenLine_78 0 rfl ?_
    refine r_geti (pc := 79) C fL_X4_147 dX4_seenLine_79 o_v0 ?_
    refine r_topi (fun x9 ex9 => ?_)
    have h := h x9 ex9
    obtain ⟨o_a6, h⟩ := h
    obtain ⟨i10, h⟩ := h
    refine r_iast (pc := 82) C dX4_seenLine_82 o_a6 i10 ?_
    refine r_heap (fun S11 eS11 => ?_)
    have h := h S11 eS11
    have o_a5 := ob_I eS11 o_a5
    have o_a6 := ob_I eS11 o_a6
    have o_a7 := ob_I eS11 o_a7
    have o_v0 := ob_I eS11 o_v0
    obtain ⟨x12, ex12⟩ : ∃ z : Int32, z = v1 + (1 : Int32) := ⟨_, rfl⟩
    have h := h x12 ex12
    refine r_iinc (pc := 83) C (v := x12) (lv' := [(1, .int x12), (0, .ref v0)]) dX4_seenLine_83 1 rfl ex12.symm (by decide) rfl ?_
    refine r_goto (pc := 86) C (tgt := 30) dX4_seenLine_86 (by decide) ?_
    exact r_sub [1, 0] rfl (hX30 v0 x12 S11 h)
  · have h := h.2 c4
    refine r_iconst (pc := 58) C (v := (0 : Int32)) dX4_seenLine_58 (by decide) ?_
    exact r_zret (pc := 59) C E ht dX4_seenLine_59 (by decide) (by decide) (Or.inl rfl) h
def B_X4_seenLine_30 (Q : Int32 → HS → Prop) (X30 : Nat → Int32 → HS → Prop) (v0 : Nat) (v1 : Int32) (S : HS) : Prop := (((5 : Int32) ≤ v1) → (ob S v0 4 ∧ (∃ a2 : Nat, fR S v0 5 = some a2 ∧ (ob S a2 8 ∧ (∀ x3 : Int32, x3 = fI S a2 5 → (∀ x4 : Int32, x4 = x3 + (1 : Int32) → (∀ S5 : HS, S5 = sI S a2 5 x4 → (Q (1 : Int32) S5)))))))) ∧ ((¬ (5 : Int32) ≤ v1) → (((v1 ≤ 0) → (P_X4_seenLine_47 Q X30 v0 v1 S)) ∧ ((¬ v1 ≤ 0) → (ob S v0 4 ∧ (P_X4_sign v0 (4 : Int32) (fun x9 S7 => Gr S S7 → bl x9 → (((x9 = 0) → (Q (0 : Int32) S7)) ∧ ((¬ x9 = 0) → (P_X4_seenLine_47 Q X30 v0 v1 S7)))) S)))))
def P_X4_seenLine_30 (Q : Int32 → HS → Prop) (v0 : Nat) (v1 : Int32) (S : HS) : Prop := ∀ X30 : Nat → Int32 → HS → Prop, (∀ (v0 : Nat) (v1 : Int32) (S : HS), B_X4_seenLine_30 Q X30 v0 v1 S → X30 v0 v1 S) → X30 v0 v1 S
set_option maxRecDepth 20000 in
set_option maxHeartbeats 4000000 in
theorem TB_X4_seenLine_30 {X : CX} {Q : Int32 → HS → Prop} (C : Cx X cX4_seenLine RX4 2 rm_X4_seenLine) (E : ReI X rm_X4_seenLine (fun r S => bl r ∧ Q r S)) (ht : (xh X).sig.returnType = (some .boolean)) (hn : (xh X).name = yX4_seenLine.name) {X30 : Nat → Int32 → HS → Prop} (hX30 : ∀ (v0 : Nat) (v1 : Int32) (S : HS), X30 v0 v1 S → WS X 2 0 0 30 [(0, .ref v0), (1, .int v1)] [] S) {v0 : Nat} {v1 : Int32} {S : HS} (h : B_X4_seenLine_30 Q X30 v0 v1 S) : WS X 2 0 0 30 [(0, .ref v0), (1, .int v1)] [] S := by
  refine r_iload_n (pc := 30) C dX4_seenLine_30 1 rfl ?_
  refine r_iconst (pc := 31) C (v := (5 : Int32)) dX4_seenLine_31 (by decide) ?_
  refine r_icmp_ge (pc := 32) C (tgt := 89) dX4_seenLine_32 (by decide) (fun c1 => ?_) (fun c1 => ?_)
  · have h := h.1 c1
    refine r_aload_n (pc := 89) C dX4_seenLine_89 0 rfl ?_
    obtain ⟨o_v0, h⟩ := h
    obtain ⟨a2, ea2, h⟩ := h
    refine r_getr (pc := 90) C fL_X4_18 dX4_seenLine_90 o_v0 ea2 ?_
    refine r_dup (pc := 93) C dX4_seenLine_93 rfl ?_
    obtain ⟨o_a2, h⟩ := h
    refine r_geti (pc := 94) C fL_X4_82 dX4_seenLine_94 o_a2 ?_
    refine r_topi (fun x3 ex3 => ?_)
    have h := h x3 ex3
    refine r_iconst (pc := 97) C (v := (1 : Int32)) dX4_seenLine_97 (by decide) ?_
    refine r_iadd (pc := 98) C dX4_seenLine_98 ?_
    refine r_topi (fun x4 ex4 => ?_)
    have h := h x4 ex4
    refine r_puti (pc := 99) C pfL_X4_82 dX4_seenLine_99 o_a2 ?_
    refine r_heap (fun S5 eS5 => ?_)
    have h := h S5 eS5
    have o_a2 := ob_I eS5 o_a2
    have o_v0 := ob_I eS5 o_v0
    refine r_iconst (pc := 102) C (v := (1 : Int32)) dX4_seenLine_102 (by decide) ?_
    exact r_zret (pc := 103) C E ht dX4_seenLine_103 (by decide) (by decide) (Or.inr rfl) h
  · have h := h.2 c1
    refine r_iload_n (pc := 35) C dX4_seenLine_35 1 rfl ?_
    refine r_if_le (pc := 36) C (tgt := 47) dX4_seenLine_36 (by decide) (fun c6 => ?_) (fun c6 => ?_)
    · have h := h.1 c6
      exact r_sub [0, 1] rfl (T_X4_seenLine_47 C E ht hn hX30 h)
    · have h := h.2 c6
      refine r_aload_n (pc := 39) C dX4_seenLine_39 0 rfl ?_
      refine r_iconst (pc := 40) C (v := (4 : Int32)) dX4_seenLine_40 (by decide) ?_
      obtain ⟨o_v0, h⟩ := h
      refine r_callVi0 (pc := 41) C (rest := []) (a := v0) o_v0 [.int (4 : Int32)] yV_X4_sign g_621 (c_X4_sign h) dX4_seenLine_41 rfl rfl (Nat.le_of_ble_eq_true rfl) ⟨by decide, by decide⟩ ⟨by decide, by decide⟩ ⟨rfl, rfl⟩ (fun x9 S7 h g8 => ?_)
      have bx9 := h.1
      have h := h.2 g8 bx9
      have o_v0 := gr_ob g8 o_v0
      refine r_if_eq (pc := 44) C (tgt := 58) dX4_seenLine_44 (by decide) (fun c10 => ?_) (fun c10 => ?_)
      · have h := h.1 c10
        refine r_iconst (pc := 58) C (v := (0 : Int32)) dX4_seenLine_58 (by decide) ?_
        exact r_zret (pc := 59) C E ht dX4_seenLine_59 (by decide) (by decide) (Or.inl rfl) h
      · have h := h.2 c10
        exact r_sub [0, 1] rfl (T_X4_seenLine_47 C E ht hn hX30 h)
theorem T_X4_seenLine_30 {X : CX} {Q : Int32 → HS → Prop} (C : Cx X cX4_seenLine RX4 2 rm_X4_seenLine) (E : ReI X rm_X4_seenLine (fun r S => bl r ∧ Q r S)) (ht : (xh X).sig.returnType = (some .boolean)) (hn : (xh X).name = yX4_seenLine.name) {v0 : Nat} {v1 : Int32} {S : HS} (h : P_X4_seenLine_30 Q v0 v1 S) : WS X 2 0 0 30 [(0, .ref v0), (1, .int v1)] [] S :=
  h (fun v0 v1 S => WS X 2 0 0 30 [(0, .ref v0), (1, .int v1)] [] S) (fun v0 v1 S hh => TB_X4_seenLine_30 C E ht hn (fun v0 v1 S z => z) hh)
def P_X4_seenLine_0 (Q : Int32 → HS → Prop) (v0 : Nat) (S : HS) : Prop := ob S v0 4 ∧ (P_X4_someWalker v0 (fun x3 S1 => Gr S S1 → bl x3 → (((¬ x3 = 0) → (∃ a5 : Nat, fR S1 v0 5 = some a5 ∧ (ob S1 a5 8 ∧ (∃ a6 : Nat, fR S1 a5 10 = some a6 ∧ (∃ a7 : Nat, fR S1 v0 5 = some a7 ∧ (ob S1 a7 8 ∧ (∀ x8 : Int32, x8 = fI S1 a7 5 → (∀ x9 : Int32, x9 = fI S1 v0 9 → (ob S1 a6 13 ∧ (vp_in x8 (hN S1 a6) ∧ (∀ S11 : HS, S11 = sI S1 a6 x8.toNatClampNeg x9 → (P_X4_seenLine_30 Q v0 (0 : Int32) S11)))))))))))) ∧ ((x3 = 0) → (Q (0 : Int32) S1)))) S)
set_option maxRecDepth 20000 in
set_option maxHeartbeats 4000000 in
theorem T_X4_seenLine_0 {X : CX} {Q : Int32 → HS → Prop} (C : Cx X cX4_seenLine RX4 2 rm_X4_seenLine) (E : ReI X rm_X4_seenLine (fun r S => bl r ∧ Q r S)) (ht : (xh X).sig.returnType = (some .boolean)) (hn : (xh X).name = yX4_seenLine.name) {v0 : Nat} {S : HS} (h : P_X4_seenLine_0 Q v0 S) : WS X 2 0 0 0 [(0, .ref v0)] [] S := by
  refine r_aload_n (pc := 0) C dX4_seenLine_0 0 rfl ?_
  obtain ⟨o_v0, h⟩ := h
  refine r_callVi0 (pc := 1) C (rest := []) (a := v0) o_v0 [] yV_X4_someWalker g_617 (c_X4_someWalker h) dX4_seenLine_1 rfl rfl (Nat.le_of_ble_eq_true rfl) ⟨by decide, by decide⟩ ⟨by decide, by decide⟩ ⟨rfl, rfl⟩ (fun x3 S1 h g2 => ?_)
  have bx3 := h.1
  have h := h.2 g2 bx3
  have o_v0 := gr_ob g2 o_v0
  refine r_if_ne (pc := 4) C (tgt := 9) dX4_seenLine_4 (by decide) (fun c4 => ?_) (fun c4 => ?_)
  · have h := h.1 c4
    refine r_aload_n (pc := 9) C dX4_seenLine_9 0 rfl ?_
    obtain ⟨a5, ea5, h⟩ := h
    refine r_getr (pc := 10) C fL_X4_18 dX4_seenLine_10 o_v0 ea5 ?_
    obtain ⟨o_a5, h⟩ := h
    obtain ⟨a6, ea6, h⟩ := h
    refine r_getr (pc := 13) C fL_X4_289 dX4_seenLine_13 o_a5 ea6 ?_
    refine r_aload_n (pc := 16) C dX4_seenLine_16 0 rfl ?_
    obtain ⟨a7, ea7, h⟩ := h
    refine r_getr (pc := 17) C fL_X4_18 dX4_seenLine_17 o_v0 ea7 ?_
    obtain ⟨o_a7, h⟩ := h
    refine r_geti (pc := 20) C fL_X4_82 dX4_seenLine_20 o_a7 ?_
    refine r_topi (fun x8 ex8 => ?_)
    have h := h x8 ex8
    refine r_aload_n (pc := 23) C dX4_seenLine_23 0 rfl ?_
    refine r_geti (pc := 24) C fL_X4_147 dX4_seenLine_24 o_v0 ?_
    refine r_topi (fun x9 ex9 => ?_)
    have h := h x9 ex9
    obtain ⟨o_a6, h⟩ := h
    obtain ⟨i10, h⟩ := h
    refine r_iast (pc := 27) C dX4_seenLine_27 o_a6 i10 ?_
    refine r_heap (fun S11 eS11 => ?_)
    have h := h S11 eS11
    have o_a5 := ob_I eS11 o_a5
    have o_a6 := ob_I eS11 o_a6
    have o_a7 := ob_I eS11 o_a7
    have o_v0 := ob_I eS11 o_v0
    refine r_iconst (pc := 28) C (v := (0 : Int32)) dX4_seenLine_28 (by decide) ?_
    refine r_istore_n (pc := 29) C dX4_seenLine_29 rfl (by decide) (lv' := [(1, .int (0 : Int32)), (0, .ref v0)]) rfl ?_
    exact r_sub [1, 0] rfl (T_X4_seenLine_30 C E ht hn h)
  · have h := h.2 c4
    refine r_iconst (pc := 7) C (v := (0 : Int32)) dX4_seenLine_7 (by decide) ?_
    exact r_zret (pc := 8) C E ht dX4_seenLine_8 (by decide) (by decide) (Or.inl rfl) h
def P_X4_seenLine (v0 : Nat) (Q : Int32 → HS → Prop) (S : HS) : Prop := P_X4_seenLine_0 Q v0 S
theorem c_X4_seenLine {l : Launch} {Ee : EE} {S : HS} {v0 : Nat} {Q : Int32 → HS → Prop} (h : P_X4_seenLine v0 Q S) : MI l yX4_seenLine cX4_seenLine 2 (some .boolean) rm_X4_seenLine Ee S [.ref v0] (fun r S => bl r ∧ Q r S) :=
  openI (by decide) (Nat.le_of_ble_eq_true rfl) (fun X C E ht hn hE hl => by subst hE; exact r_sub [0] rfl (T_X4_seenLine_0 C E ht hn h))
def rm_X4_walkerLine : Room := { frames := 9, cells := 0, slots := 0, locals := 212 }
def P_X4_walkerLine_0 (Q : Int32 → HS → Prop) (v0 : Nat) (S : HS) : Prop := ob S v0 4 ∧ (∃ a1 : Nat, fR S v0 5 = some a1 ∧ (ob S a1 8 ∧ (∃ a2 : Nat, fR S a1 9 = some a2 ∧ (∃ a3 : Nat, fR S v0 5 = some a3 ∧ (ob S a3 8 ∧ (∀ x4 : Int32, x4 = fI S a3 4 → (ob S a2 19 ∧ (vp_in x4 (hN S a2) ∧ ∃ a6 : Nat, fR S a2 x4.toNatClampNeg = some a6 ∧ (∃ a7 : Nat, fR S v0 5 = some a7 ∧ (ob S a7 8 ∧ (∀ x8 : Int32, x8 = fI S a7 4 → (P_X4_newName v0 ((8 : Int32) + x8) (fun x11 S9 => Gr S S9 → bl x11 → (((x11 = 0) → (Q (0 : Int32) S9)) ∧ ((¬ x11 = 0) → (P_X4_kindOf v0 a6 (fun x15 S13 => Gr S9 S13 → bl x15 → (((x15 = 0) → (Q (0 : Int32) S13)) ∧ ((¬ x15 = 0) → (P_X4_bodyOf v0 a6 (fun x19 S17 => Gr S13 S17 → bl x19 → (((¬ x19 = 0) → (P_X4_wordAndWhole v0 25 (1 : Int32) (9 : Int32) (fun x23 S21 => Gr S17 S21 → bl x23 → (((¬ x23 = 0) → (∀ x25 : Int32, x25 = fI S21 v0 9 → (ob S21 a6 6 ∧ (∀ S26 : HS, S26 = sI S21 a6 5 x25 → (∀ x27 : Int32, x27 = fI S26 a6 5 → (P_X4_wordAndWhole v0 26 x27 (9 : Int32) (fun x30 S28 => Gr S26 S28 → bl x30 → (((¬ x30 = 0) → (∀ x32 : Int32, x32 = fI S28 v0 9 → (∀ S33 : HS, S33 = sI S28 a6 6 x32 → (∃ a34 : Nat, fR S33 v0 5 = some a34 ∧ (ob S33 a34 8 ∧ (∀ x35 : Int32, x35 = fI S33 a34 4 → (∀ x36 : Int32, x36 = x35 + (1 : Int32) → (∀ S37 : HS, S37 = sI S33 a34 4 x36 → (Q (1 : Int32) S37))))))))) ∧ ((x30 = 0) → (Q (0 : Int32) S28)))) S26)))))) ∧ ((x23 = 0) → (Q (0 : Int32) S21)))) S17)) ∧ ((x19 = 0) → (Q (0 : Int32) S17)))) S13)))) S9)))) S))))))))))))
set_option maxRecDepth 20000 in
set_option maxHeartbeats 4000000 in
theorem T_X4_walkerLine_0 {X : CX} {Q : Int32 → HS → Prop} (C : Cx X cX4_walkerLine RX4 2 rm_X4_walkerLine) (E : ReI X rm_X4_walkerLine (fun r S => bl r ∧ Q r S)) (ht : (xh X).sig.returnType = (some .boolean)) (hn : (xh X).name = yX4_walkerLine.name) {v0 : Nat} {S : HS} (h : P_X4_walkerLine_0 Q v0 S) : WS X 2 0 0 0 [(0, .ref v0)] [] S := by
  refine r_aload_n (pc := 0) C dX4_walkerLine_0 0 rfl ?_
  obtain ⟨o_v0, h⟩ := h
  obtain ⟨a1, ea1, h⟩ := h
  refine r_getr (pc := 1) C fL_X4_18 dX4_walkerLine_1 o_v0 ea1 ?_
  obtain ⟨o_a1, h⟩ := h
  obtain ⟨a2, ea2, h⟩ := h
  refine r_getr (pc := 4) C fL_X4_240 dX4_walkerLine_4 o_a1 ea2 ?_
  refine r_aload_n (pc := 7) C dX4_walkerLine_7 0 rfl ?_
  obtain ⟨a3, ea3, h⟩ := h
  refine r_getr (pc := 8) C fL_X4_18 dX4_walkerLine_8 o_v0 ea3 ?_
  obtain ⟨o_a3, h⟩ := h
  refine r_geti (pc := 11) C fL_X4_74 dX4_walkerLine_11 o_a3 ?_
  refine r_topi (fun x4 ex4 => ?_)
  have h := h x4 ex4
  obtain ⟨o_a2, h⟩ := h
  obtain ⟨i5, a6, ea6, h⟩ := h
  refine r_aald19 (pc := 14) C dX4_walkerLine_14 o_a2 i5 ea6 ?_
  refine r_astore_n (pc := 15) C dX4_walkerLine_15 rfl (by decide) (lv' := [(1, .ref a6), (0, .ref v0)]) rfl ?_
  refine r_aload_n (pc := 16) C dX4_walkerLine_16 1 rfl ?_
  refine r_bipush (pc := 17) C (v := (8 : Int32)) dX4_walkerLine_17 (by decide) ?_
  refine r_aload_n (pc := 19) C dX4_walkerLine_19 1 rfl ?_
  obtain ⟨a7, ea7, h⟩ := h
  refine r_getr (pc := 20) C fL_X4_18 dX4_walkerLine_20 o_v0 ea7 ?_
  obtain ⟨o_a7, h⟩ := h
  refine r_geti (pc := 23) C fL_X4_74 dX4_walkerLine_23 o_a7 ?_
  refine r_topi (fun x8 ex8 => ?_)
  have h := h x8 ex8
  refine r_iadd (pc := 26) C dX4_walkerLine_26 ?_
  refine r_callVi0 (pc := 27) C (rest := []) (a := v0) o_v0 [.int ((8 : Int32) + x8)] yV_X4_newName g_562 (c_X4_newName h) dX4_walkerLine_27 rfl rfl (Nat.le_of_ble_eq_true rfl) ⟨by decide, by decide⟩ ⟨by decide, by decide⟩ ⟨rfl, rfl⟩ (fun x11 S9 h g10 => ?_)
  have bx11 := h.1
  have h := h.2 g10 bx11
  have o_a1 := gr_ob g10 o_a1
  have o_a2 := gr_ob g10 o_a2
  have o_a3 := gr_ob g10 o_a3
  have o_a7 := gr_ob g10 o_a7
  have o_v0 := gr_ob g10 o_v0
  refine r_if_eq (pc := 30) C (tgt := 49) dX4_walkerLine_30 (by decide) (fun c12 => ?_) (fun c12 => ?_)
  · have h := h.1 c12
    refine r_iconst (pc := 49) C (v := (0 : Int32)) dX4_walkerLine_49 (by decide) ?_
    exact r_zret (pc := 50) C E ht dX4_walkerLine_50 (by decide) (by decide) (Or.inl rfl) h
  · have h := h.2 c12
    refine r_aload_n (pc := 33) C dX4_walkerLine_33 1 rfl ?_
    refine r_aload_n (pc := 34) C dX4_walkerLine_34 0 rfl ?_
    refine r_callVi0 (pc := 35) C (rest := []) (a := v0) o_v0 [.ref a6] yV_X4_kindOf g_592 (c_X4_kindOf h) dX4_walkerLine_35 rfl rfl (Nat.le_of_ble_eq_true rfl) ⟨by decide, by decide⟩ ⟨by decide, by decide⟩ ⟨rfl, rfl⟩ (fun x15 S13 h g14 => ?_)
    have bx15 := h.1
    have h := h.2 g14 bx15
    have o_a1 := gr_ob g14 o_a1
    have o_a2 := gr_ob g14 o_a2
    have o_a3 := gr_ob g14 o_a3
    have o_a7 := gr_ob g14 o_a7
    have o_v0 := gr_ob g14 o_v0
    refine r_if_eq (pc := 38) C (tgt := 49) dX4_walkerLine_38 (by decide) (fun c16 => ?_) (fun c16 => ?_)
    · have h := h.1 c16
      refine r_iconst (pc := 49) C (v := (0 : Int32)) dX4_walkerLine_49 (by decide) ?_
      exact r_zret (pc := 50) C E ht dX4_walkerLine_50 (by decide) (by decide) (Or.inl rfl) h
    · have h := h.2 c16
      refine r_aload_n (pc := 41) C dX4_walkerLine_41 1 rfl ?_
      refine r_aload_n (pc := 42) C dX4_walkerLine_42 0 rfl ?_
      refine r_callVi0 (pc := 43) C (rest := []) (a := v0) o_v0 [.ref a6] yV_X4_bodyOf g_600 (c_X4_bodyOf h) dX4_walkerLine_43 rfl rfl (Nat.le_of_ble_eq_true rfl) ⟨by decide, by decide⟩ ⟨by decide, by decide⟩ ⟨rfl, rfl⟩ (fun x19 S17 h g18 => ?_)
      have bx19 := h.1
      have h := h.2 g18 bx19
      have o_a1 := gr_ob g18 o_a1
      have o_a2 := gr_ob g18 o_a2
      have o_a3 := gr_ob g18 o_a3
      have o_a7 := gr_ob g18 o_a7
      have o_v0 := gr_ob g18 o_v0
      refine r_if_ne (pc := 46) C (tgt := 51) dX4_walkerLine_46 (by decide) (fun c20 => ?_) (fun c20 => ?_)
      · have h := h.1 c20
        refine r_aload_n (pc := 51) C dX4_walkerLine_51 1 rfl ?_
        refine r_lds (pc := 52) C 25 rfl dX4_walkerLine_52 ?_
        refine r_iconst (pc := 54) C (v := (1 : Int32)) dX4_walkerLine_54 (by decide) ?_
        refine r_bipush (pc := 55) C (v := (9 : Int32)) dX4_walkerLine_55 (by decide) ?_
        refine r_callVi0 (pc := 57) C (rest := []) (a := v0) o_v0 [.ref (eK (xE X) 25), .int (1 : Int32), .int (9 : Int32)] yV_X4_wordAndWhole g_524 (c_X4_wordAndWhole h) dX4_walkerLine_57 rfl rfl (Nat.le_of_ble_eq_true rfl) ⟨by decide, by decide⟩ ⟨by decide, by decide⟩ ⟨rfl, rfl⟩ (fun x23 S21 h g22 => ?_)
        have bx23 := h.1
        have h := h.2 g22 bx23
        have o_a1 := gr_ob g22 o_a1
        have o_a2 := gr_ob g22 o_a2
        have o_a3 := gr_ob g22 o_a3
        have o_a7 := gr_ob g22 o_a7
        have o_v0 := gr_ob g22 o_v0
        refine r_if_ne (pc := 60) C (tgt := 65) dX4_walkerLine_60 (by decide) (fun c24 => ?_) (fun c24 => ?_)
        · have h := h.1 c24
          refine r_aload_n (pc := 65) C dX4_walkerLine_65 0 rfl ?_
          refine r_aload_n (pc := 66) C dX4_walkerLine_66 1 rfl ?_
          refine r_geti (pc := 67) C fL_X4_147 dX4_walkerLine_67 o_v0 ?_
          refine r_topi (fun x25 ex25 => ?_)
          have h := h x25 ex25
          obtain ⟨o_a6, h⟩ := h
          refine r_puti (pc := 70) C pfL_X4_252 dX4_walkerLine_70 o_a6 ?_
          refine r_heap (fun S26 eS26 => ?_)
          have h := h S26 eS26
          have o_a1 := ob_I eS26 o_a1
          have o_a2 := ob_I eS26 o_a2
          have o_a3 := ob_I eS26 o_a3
          have o_a6 := ob_I eS26 o_a6
          have o_a7 := ob_I eS26 o_a7
          have o_v0 := ob_I eS26 o_v0
          refine r_aload_n (pc := 73) C dX4_walkerLine_73 1 rfl ?_
          refine r_ldsw (pc := 74) C 26 rfl dX4_walkerLine_74 ?_
          refine r_aload_n (pc := 77) C dX4_walkerLine_77 0 rfl ?_
          refine r_geti (pc := 78) C fL_X4_252 dX4_walkerLine_78 o_a6 ?_
          refine r_topi (fun x27 ex27 => ?_)
          have h := h x27 ex27
          refine r_bipush (pc := 81) C (v := (9 : Int32)) dX4_walkerLine_81 (by decide) ?_
          refine r_callVi0 (pc := 83) C (rest := []) (a := v0) o_v0 [.ref (eK (xE X) 26), .int x27, .int (9 : Int32)] yV_X4_wordAndWhole g_524 (c_X4_wordAndWhole h) dX4_walkerLine_83 rfl rfl (Nat.le_of_ble_eq_true rfl) ⟨by decide, by decide⟩ ⟨by decide, by decide⟩ ⟨rfl, rfl⟩ (fun x30 S28 h g29 => ?_)
          have bx30 := h.1
          have h := h.2 g29 bx30
          have o_a1 := gr_ob g29 o_a1
          have o_a2 := gr_ob g29 o_a2
          have o_a3 := gr_ob g29 o_a3
          have o_a6 := gr_ob g29 o_a6
          have o_a7 := gr_ob g29 o_a7
          have o_v0 := gr_ob g29 o_v0
          refine r_if_ne (pc := 86) C (tgt := 91) dX4_walkerLine_86 (by decide) (fun c31 => ?_) (fun c31 => ?_)
          · have h := h.1 c31
            refine r_aload_n (pc := 91) C dX4_walkerLine_91 0 rfl ?_
            refine r_aload_n (pc := 92) C dX4_walkerLine_92 1 rfl ?_
            refine r_geti (pc := 93) C fL_X4_147 dX4_walkerLine_93 o_v0 ?_
            refine r_topi (fun x32 ex32 => ?_)
            have h := h x32 ex32
            refine r_puti (pc := 96) C pfL_X4_259 dX4_walkerLine_96 o_a6 ?_
            refine r_heap (fun S33 eS33 => ?_)
            have h := h S33 eS33
            have o_a1 := ob_I eS33 o_a1
            have o_a2 := ob_I eS33 o_a2
            have o_a3 := ob_I eS33 o_a3
            have o_a6 := ob_I eS33 o_a6
            have o_a7 := ob_I eS33 o_a7
            have o_v0 := ob_I eS33 o_v0
            refine r_aload_n (pc := 99) C dX4_walkerLine_99 1 rfl ?_
            obtain ⟨a34, ea34, h⟩ := h
            refine r_getr (pc := 100) C fL_X4_18 dX4_walkerLine_100 o_v0 ea34 ?_
            refine r_dup (pc := 103) C dX4_walkerLine_103 rfl ?_
            obtain ⟨o_a34, h⟩ := h
            refine r_geti (pc := 104) C fL_X4_74 dX4_walkerLine_104 o_a34 ?_
            refine r_topi (fun x35 ex35 => ?_)
            have h := h x35 ex35
            refine r_iconst (pc := 107) C (v := (1 : Int32)) dX4_walkerLine_107 (by decide) ?_
            refine r_iadd (pc := 108) C dX4_walkerLine_108 ?_
            refine r_topi (fun x36 ex36 => ?_)
            have h := h x36 ex36
            refine r_puti (pc := 109) C pfL_X4_74 dX4_walkerLine_109 o_a34 ?_
            refine r_heap (fun S37 eS37 => ?_)
            have h := h S37 eS37
            have o_a1 := ob_I eS37 o_a1
            have o_a2 := ob_I eS37 o_a2
            have o_a3 := ob_I eS37 o_a3
            have o_a34 := ob_I eS37 o_a34
            have o_a6 := ob_I eS37 o_a6
            have o_a7 := ob_I eS37 o_a7
            have o_v0 := ob_I eS37 o_v0
            refine r_iconst (pc := 112) C (v := (1 : Int32)) dX4_walkerLine_112 (by decide) ?_
            exact r_zret (pc := 113) C E ht dX4_walkerLine_113 (by decide) (by decide) (Or.inr rfl) h
          · have h := h.2 c31
            refine r_iconst (pc := 89) C (v := (0 : Int32)) dX4_walkerLine_89 (by decide) ?_
            exact r_zret (pc := 90) C E ht dX4_walkerLine_90 (by decide) (by decide) (Or.inl rfl) h
        · have h := h.2 c24
          refine r_iconst (pc := 63) C (v := (0 : Int32)) dX4_walkerLine_63 (by decide) ?_
          exact r_zret (pc := 64) C E ht dX4_walkerLine_64 (by decide) (by decide) (Or.inl rfl) h
      · have h := h.2 c20
        refine r_iconst (pc := 49) C (v := (0 : Int32)) dX4_walkerLine_49 (by decide) ?_
        exact r_zret (pc := 50) C E ht dX4_walkerLine_50 (by decide) (by decide) (Or.inl rfl) h
def P_X4_walkerLine (v0 : Nat) (Q : Int32 → HS → Prop) (S : HS) : Prop := P_X4_walkerLine_0 Q v0 S
theorem c_X4_walkerLine {l : Launch} {Ee : EE} {S : HS} {v0 : Nat} {Q : Int32 → HS → Prop} (h : P_X4_walkerLine v0 Q S) : MI l yX4_walkerLine cX4_walkerLine 2 (some .boolean) rm_X4_walkerLine Ee S [.ref v0] (fun r S => bl r ∧ Q r S) :=
  openI (by decide) (Nat.le_of_ble_eq_true rfl) (fun X C E ht hn hE hl => by subst hE; exact r_sub [0] rfl (T_X4_walkerLine_0 C E ht hn h))
def rm_X4_worldLine : Room := { frames := 8, cells := 0, slots := 0, locals := 188 }
def P_X4_worldLine_0 (Q : Int32 → HS → Prop) (v0 : Nat) (S : HS) : Prop := ob S v0 4 ∧ (∃ a1 : Nat, fR S v0 5 = some a1 ∧ (ob S a1 8 ∧ (P_X8_isTold a1 (fun x4 S2 => Gr S S2 → bl x4 → (((x4 = 0) → (P_X4_next v0 (fun S6 => Gr S2 S6 → (P_X4_wordAndWhole v0 1 (5 : Int32) (60 : Int32) (fun x11 S9 => Gr S6 S9 → bl x11 → (((¬ x11 = 0) → (∃ a13 : Nat, fR S9 v0 5 = some a13 ∧ (∀ x14 : Int32, x14 = fI S9 v0 9 → (ob S9 a13 8 ∧ (∀ S15 : HS, S15 = sI S9 a13 0 x14 → (Q (1 : Int32) S15)))))) ∧ ((x11 = 0) → (Q (0 : Int32) S9)))) S6)) S2)) ∧ ((¬ x4 = 0) → (P_X4_fail v0 (3 : Int32) (fun x18 S16 => Gr S2 S16 → bl x18 → (bl x18 ∧ Q x18 S16)) S2)))) S)))
set_option maxRecDepth 20000 in
set_option maxHeartbeats 4000000 in
theorem T_X4_worldLine_0 {X : CX} {Q : Int32 → HS → Prop} (C : Cx X cX4_worldLine RX4 1 rm_X4_worldLine) (E : ReI X rm_X4_worldLine (fun r S => bl r ∧ Q r S)) (ht : (xh X).sig.returnType = (some .boolean)) (hn : (xh X).name = yX4_worldLine.name) {v0 : Nat} {S : HS} (h : P_X4_worldLine_0 Q v0 S) : WS X 1 0 0 0 [(0, .ref v0)] [] S := by
  refine r_aload_n (pc := 0) C dX4_worldLine_0 0 rfl ?_
  obtain ⟨o_v0, h⟩ := h
  obtain ⟨a1, ea1, h⟩ := h
  refine r_getr (pc := 1) C fL_X4_18 dX4_worldLine_1 o_v0 ea1 ?_
  obtain ⟨o_a1, h⟩ := h
  refine r_callVi0 (pc := 4) C (rest := []) (a := a1) o_a1 [] yV_X8_isTold g_515 (c_X8_isTold h) dX4_worldLine_4 rfl rfl (Nat.le_of_ble_eq_true rfl) ⟨by decide, by decide⟩ ⟨by decide, by decide⟩ ⟨rfl, rfl⟩ (fun x4 S2 h g3 => ?_)
  have bx4 := h.1
  have h := h.2 g3 bx4
  have o_a1 := gr_ob g3 o_a1
  have o_v0 := gr_ob g3 o_v0
  refine r_if_eq (pc := 7) C (tgt := 16) dX4_worldLine_7 (by decide) (fun c5 => ?_) (fun c5 => ?_)
  · have h := h.1 c5
    refine r_aload_n (pc := 16) C dX4_worldLine_16 0 rfl ?_
    refine r_callVv0 (pc := 17) C (rest := []) (a := v0) o_v0 [] yV_X4_next g_449 (c_X4_next h) dX4_worldLine_17 rfl rfl (Nat.le_of_ble_eq_true rfl) ⟨by decide, by decide⟩ ⟨by decide, by decide⟩ ⟨rfl, rfl⟩ (fun S6 h g7 => ?_)
    have h := h g7
    have o_a1 := gr_ob g7 o_a1
    have o_v0 := gr_ob g7 o_v0
    refine r_aload_n (pc := 20) C dX4_worldLine_20 0 rfl ?_
    refine r_lds (pc := 21) C 1 rfl dX4_worldLine_21 ?_
    refine r_iconst (pc := 23) C (v := (5 : Int32)) dX4_worldLine_23 (by decide) ?_
    refine r_bipush (pc := 24) C (v := (60 : Int32)) dX4_worldLine_24 (by decide) ?_
    refine r_callVi0 (pc := 26) C (rest := []) (a := v0) o_v0 [.ref (eK (xE X) 1), .int (5 : Int32), .int (60 : Int32)] yV_X4_wordAndWhole g_524 (c_X4_wordAndWhole h) dX4_worldLine_26 rfl rfl (Nat.le_of_ble_eq_true rfl) ⟨by decide, by decide⟩ ⟨by decide, by decide⟩ ⟨rfl, rfl⟩ (fun x11 S9 h g10 => ?_)
    have bx11 := h.1
    have h := h.2 g10 bx11
    have o_a1 := gr_ob g10 o_a1
    have o_v0 := gr_ob g10 o_v0
    refine r_if_ne (pc := 29) C (tgt := 34) dX4_worldLine_29 (by decide) (fun c12 => ?_) (fun c12 => ?_)
    · have h := h.1 c12
      refine r_aload_n (pc := 34) C dX4_worldLine_34 0 rfl ?_
      obtain ⟨a13, ea13, h⟩ := h
      refine r_getr (pc := 35) C fL_X4_18 dX4_worldLine_35 o_v0 ea13 ?_
      refine r_aload_n (pc := 38) C dX4_worldLine_38 0 rfl ?_
      refine r_geti (pc := 39) C fL_X4_147 dX4_worldLine_39 o_v0 ?_
      refine r_topi (fun x14 ex14 => ?_)
      have h := h x14 ex14
      obtain ⟨o_a13, h⟩ := h
      refine r_puti (pc := 42) C pfL_X4_185 dX4_worldLine_42 o_a13 ?_
      refine r_heap (fun S15 eS15 => ?_)
      have h := h S15 eS15
      have o_a1 := ob_I eS15 o_a1
      have o_a13 := ob_I eS15 o_a13
      have o_v0 := ob_I eS15 o_v0
      refine r_iconst (pc := 45) C (v := (1 : Int32)) dX4_worldLine_45 (by decide) ?_
      exact r_zret (pc := 46) C E ht dX4_worldLine_46 (by decide) (by decide) (Or.inr rfl) h
    · have h := h.2 c12
      refine r_iconst (pc := 32) C (v := (0 : Int32)) dX4_worldLine_32 (by decide) ?_
      exact r_zret (pc := 33) C E ht dX4_worldLine_33 (by decide) (by decide) (Or.inl rfl) h
  · have h := h.2 c5
    refine r_aload_n (pc := 10) C dX4_worldLine_10 0 rfl ?_
    refine r_iconst (pc := 11) C (v := (3 : Int32)) dX4_worldLine_11 (by decide) ?_
    refine r_callVi0 (pc := 12) C (rest := []) (a := v0) o_v0 [.int (3 : Int32)] yV_X4_fail g_519 (c_X4_fail h) dX4_worldLine_12 rfl rfl (Nat.le_of_ble_eq_true rfl) ⟨by decide, by decide⟩ ⟨by decide, by decide⟩ ⟨rfl, rfl⟩ (fun x18 S16 h g17 => ?_)
    have bx18 := h.1
    have h := h.2 g17 bx18
    have o_a1 := gr_ob g17 o_a1
    have o_v0 := gr_ob g17 o_v0
    exact r_zret (pc := 15) C E ht dX4_worldLine_15 (by decide) (by decide) h.1 h.2
def P_X4_worldLine (v0 : Nat) (Q : Int32 → HS → Prop) (S : HS) : Prop := P_X4_worldLine_0 Q v0 S
theorem c_X4_worldLine {l : Launch} {Ee : EE} {S : HS} {v0 : Nat} {Q : Int32 → HS → Prop} (h : P_X4_worldLine v0 Q S) : MI l yX4_worldLine cX4_worldLine 1 (some .boolean) rm_X4_worldLine Ee S [.ref v0] (fun r S => bl r ∧ Q r S) :=
  openI (by decide) (Nat.le_of_ble_eq_true rfl) (fun X C E ht hn hE hl => by subst hE; exact r_sub [0] rfl (T_X4_worldLine_0 C E ht hn h))
def rm_X4_read : Room := { frames := 10, cells := 0, slots := 0, locals := 233 }
def P_X4_read_280 (Q : Int32 → HS → Prop) (v0 : Nat) (S : HS) : Prop := ob S v0 4 ∧ (P_X4_fail v0 (6 : Int32) (fun x3 S1 => Gr S S1 → bl x3 → (((x3 = 0) → (Q (0 : Int32) S1)) ∧ ((¬ x3 = 0) → (Q (1 : Int32) S1)))) S)
set_option maxRecDepth 20000 in
set_option maxHeartbeats 4000000 in
theorem T_X4_read_280 {X : CX} {Q : Int32 → HS → Prop} (C : Cx X cX4_read RX4 5 rm_X4_read) (E : ReI X rm_X4_read (fun r S => bl r ∧ Q r S)) (ht : (xh X).sig.returnType = (some .boolean)) (hn : (xh X).name = yX4_read.name) {v0 : Nat} {S : HS} (h : P_X4_read_280 Q v0 S) : WS X 5 0 0 280 [(0, .ref v0)] [] S := by
  refine r_aload_n (pc := 280) C dX4_read_280 0 rfl ?_
  refine r_bipush (pc := 281) C (v := (6 : Int32)) dX4_read_281 (by decide) ?_
  obtain ⟨o_v0, h⟩ := h
  refine r_callVi0 (pc := 283) C (rest := []) (a := v0) o_v0 [.int (6 : Int32)] yV_X4_fail g_519 (c_X4_fail h) dX4_read_283 rfl rfl (Nat.le_of_ble_eq_true rfl) ⟨by decide, by decide⟩ ⟨by decide, by decide⟩ ⟨rfl, rfl⟩ (fun x3 S1 h g2 => ?_)
  have bx3 := h.1
  have h := h.2 g2 bx3
  have o_v0 := gr_ob g2 o_v0
  refine r_if_eq (pc := 286) C (tgt := 293) dX4_read_286 (by decide) (fun c4 => ?_) (fun c4 => ?_)
  · have h := h.1 c4
    refine r_iconst (pc := 293) C (v := (0 : Int32)) dX4_read_293 (by decide) ?_
    exact r_zret (pc := 294) C E ht dX4_read_294 (by decide) (by decide) (Or.inl rfl) h
  · have h := h.2 c4
    refine r_iconst (pc := 289) C (v := (1 : Int32)) dX4_read_289 (by decide) ?_
    refine r_goto (pc := 290) C (tgt := 294) dX4_read_290 (by decide) ?_
    exact r_zret (pc := 294) C E ht dX4_read_294 (by decide) (by decide) (Or.inr rfl) h
def P_X4_read_295 (Q : Int32 → HS → Prop) (X8 : Nat → Int32 → HS → Prop) (v0 : Nat) (v3 : Int32) (v4 : Int32) (S : HS) : Prop := ((v4 = 0) → (Q (0 : Int32) S)) ∧ ((¬ v4 = 0) → (ob S v0 4 ∧ (P_X4_sign v0 (3 : Int32) (fun x4 S2 => Gr S S2 → bl x4 → (((¬ x4 = 0) → (∀ x6 : Int32, x6 = v3 + (1 : Int32) → (X8 v0 x6 S2))) ∧ ((x4 = 0) → (Q (0 : Int32) S2)))) S)))
set_option maxRecDepth 20000 in
set_option maxHeartbeats 4000000 in
theorem T_X4_read_295 {X : CX} {Q : Int32 → HS → Prop} (C : Cx X cX4_read RX4 5 rm_X4_read) (E : ReI X rm_X4_read (fun r S => bl r ∧ Q r S)) (ht : (xh X).sig.returnType = (some .boolean)) (hn : (xh X).name = yX4_read.name) {X8 : Nat → Int32 → HS → Prop} (hX8 : ∀ (v0 : Nat) (v3 : Int32) (S : HS), X8 v0 v3 S → WS X 5 0 0 8 [(0, .ref v0), (3, .int v3)] [] S) {v0 : Nat} {v3 : Int32} {v4 : Int32} {S : HS} (h : P_X4_read_295 Q X8 v0 v3 v4 S) : WS X 5 0 0 295 [(0, .ref v0), (3, .int v3), (4, .int v4)] [] S := by
  refine r_iload (pc := 295) C dX4_read_295 2 rfl ?_
  refine r_if_eq (pc := 297) C (tgt := 308) dX4_read_297 (by decide) (fun c1 => ?_) (fun c1 => ?_)
  · have h := h.1 c1
    refine r_iconst (pc := 308) C (v := (0 : Int32)) dX4_read_308 (by decide) ?_
    exact r_zret (pc := 309) C E ht dX4_read_309 (by decide) (by decide) (Or.inl rfl) h
  · have h := h.2 c1
    refine r_aload_n (pc := 300) C dX4_read_300 0 rfl ?_
    refine r_iconst (pc := 301) C (v := (3 : Int32)) dX4_read_301 (by decide) ?_
    obtain ⟨o_v0, h⟩ := h
    refine r_callVi0 (pc := 302) C (rest := []) (a := v0) o_v0 [.int (3 : Int32)] yV_X4_sign g_621 (c_X4_sign h) dX4_read_302 rfl rfl (Nat.le_of_ble_eq_true rfl) ⟨by decide, by decide⟩ ⟨by decide, by decide⟩ ⟨rfl, rfl⟩ (fun x4 S2 h g3 => ?_)
    have bx4 := h.1
    have h := h.2 g3 bx4
    have o_v0 := gr_ob g3 o_v0
    refine r_if_ne (pc := 305) C (tgt := 310) dX4_read_305 (by decide) (fun c5 => ?_) (fun c5 => ?_)
    · have h := h.1 c5
      obtain ⟨x6, ex6⟩ : ∃ z : Int32, z = v3 + (1 : Int32) := ⟨_, rfl⟩
      have h := h x6 ex6
      refine r_iinc (pc := 310) C (v := x6) (lv' := [(3, .int x6), (0, .ref v0), (4, .int v4)]) dX4_read_310 1 rfl ex6.symm (by decide) rfl ?_
      refine r_goto (pc := 313) C (tgt := 8) dX4_read_313 (by decide) ?_
      exact r_sub [1, 0] rfl (hX8 v0 x6 S2 h)
    · have h := h.2 c5
      refine r_iconst (pc := 308) C (v := (0 : Int32)) dX4_read_308 (by decide) ?_
      exact r_zret (pc := 309) C E ht dX4_read_309 (by decide) (by decide) (Or.inl rfl) h
def P_X4_read_248 (Q : Int32 → HS → Prop) (X8 : Nat → Int32 → HS → Prop) (v0 : Nat) (v3 : Int32) (v4 : Int32) (S : HS) : Prop := ((v4 = 0) → (P_X4_read_295 Q X8 v0 v3 v4 S)) ∧ ((¬ v4 = 0) → (ob S v0 4 ∧ (∀ x2 : Int32, x2 = fI S v0 6 → (((¬ x2 = 0) → (P_X4_read_295 Q X8 v0 v3 v4 S)) ∧ ((x2 = 0) → (∃ a4 : Nat, fR S v0 5 = some a4 ∧ (ob S a4 8 ∧ (∀ x5 : Int32, x5 = fI S a4 2 → (((x5 ≤ 0) → (P_X4_read_280 Q v0 S)) ∧ ((¬ x5 ≤ 0) → (∃ a7 : Nat, fR S v0 5 = some a7 ∧ (ob S a7 8 ∧ (∀ x8 : Int32, x8 = fI S a7 4 → (((0 < x8) → (Q (1 : Int32) S)) ∧ ((¬ 0 < x8) → (P_X4_read_280 Q v0 S))))))))))))))))
set_option maxRecDepth 20000 in
set_option maxHeartbeats 4000000 in
theorem T_X4_read_248 {X : CX} {Q : Int32 → HS → Prop} (C : Cx X cX4_read RX4 5 rm_X4_read) (E : ReI X rm_X4_read (fun r S => bl r ∧ Q r S)) (ht : (xh X).sig.returnType = (some .boolean)) (hn : (xh X).name = yX4_read.name) {X8 : Nat → Int32 → HS → Prop} (hX8 : ∀ (v0 : Nat) (v3 : Int32) (S : HS), X8 v0 v3 S → WS X 5 0 0 8 [(0, .ref v0), (3, .int v3)] [] S) {v0 : Nat} {v3 : Int32} {v4 : Int32} {S : HS} (h : P_X4_read_248 Q X8 v0 v3 v4 S) : WS X 5 0 0 248 [(0, .ref v0), (3, .int v3), (4, .int v4)] [] S := by
  refine r_iload (pc := 248) C dX4_read_248 2 rfl ?_
  refine r_if_eq (pc := 250) C (tgt := 295) dX4_read_250 (by decide) (fun c1 => ?_) (fun c1 => ?_)
  · have h := h.1 c1
    exact r_sub [0, 1, 2] rfl (T_X4_read_295 C E ht hn hX8 h)
  · have h := h.2 c1
    refine r_aload_n (pc := 253) C dX4_read_253 0 rfl ?_
    obtain ⟨o_v0, h⟩ := h
    refine r_geti (pc := 254) C fL_X4_92 dX4_read_254 o_v0 ?_
    refine r_topi (fun x2 ex2 => ?_)
    have h := h x2 ex2
    refine r_if_ne (pc := 257) C (tgt := 295) dX4_read_257 (by decide) (fun c3 => ?_) (fun c3 => ?_)
    · have h := h.1 c3
      exact r_sub [0, 1, 2] rfl (T_X4_read_295 C E ht hn hX8 h)
    · have h := h.2 c3
      refine r_aload_n (pc := 260) C dX4_read_260 0 rfl ?_
      obtain ⟨a4, ea4, h⟩ := h
      refine r_getr (pc := 261) C fL_X4_18 dX4_read_261 o_v0 ea4 ?_
      obtain ⟨o_a4, h⟩ := h
      refine r_geti (pc := 264) C fL_X4_58 dX4_read_264 o_a4 ?_
      refine r_topi (fun x5 ex5 => ?_)
      have h := h x5 ex5
      refine r_if_le (pc := 267) C (tgt := 280) dX4_read_267 (by decide) (fun c6 => ?_) (fun c6 => ?_)
      · have h := h.1 c6
        exact r_sub [0] rfl (T_X4_read_280 C E ht hn h)
      · have h := h.2 c6
        refine r_aload_n (pc := 270) C dX4_read_270 0 rfl ?_
        obtain ⟨a7, ea7, h⟩ := h
        refine r_getr (pc := 271) C fL_X4_18 dX4_read_271 o_v0 ea7 ?_
        obtain ⟨o_a7, h⟩ := h
        refine r_geti (pc := 274) C fL_X4_74 dX4_read_274 o_a7 ?_
        refine r_topi (fun x8 ex8 => ?_)
        have h := h x8 ex8
        refine r_if_gt (pc := 277) C (tgt := 289) dX4_read_277 (by decide) (fun c9 => ?_) (fun c9 => ?_)
        · have h := h.1 c9
          refine r_iconst (pc := 289) C (v := (1 : Int32)) dX4_read_289 (by decide) ?_
          refine r_goto (pc := 290) C (tgt := 294) dX4_read_290 (by decide) ?_
          exact r_zret (pc := 294) C E ht dX4_read_294 (by decide) (by decide) (Or.inr rfl) h
        · have h := h.2 c9
          exact r_sub [0] rfl (T_X4_read_280 C E ht hn h)
def P_X4_read_70 (Q : Int32 → HS → Prop) (X8 : Nat → Int32 → HS → Prop) (v0 : Nat) (v3 : Int32) (s0 : Int32) (S : HS) : Prop := P_X4_read_248 Q X8 v0 v3 s0 S
set_option maxRecDepth 20000 in
set_option maxHeartbeats 4000000 in
theorem T_X4_read_70 {X : CX} {Q : Int32 → HS → Prop} (C : Cx X cX4_read RX4 5 rm_X4_read) (E : ReI X rm_X4_read (fun r S => bl r ∧ Q r S)) (ht : (xh X).sig.returnType = (some .boolean)) (hn : (xh X).name = yX4_read.name) {X8 : Nat → Int32 → HS → Prop} (hX8 : ∀ (v0 : Nat) (v3 : Int32) (S : HS), X8 v0 v3 S → WS X 5 0 0 8 [(0, .ref v0), (3, .int v3)] [] S) {v0 : Nat} {v3 : Int32} {s0 : Int32} {S : HS} (h : P_X4_read_70 Q X8 v0 v3 s0 S) : WS X 5 0 0 70 [(0, .ref v0), (3, .int v3)] [.int s0] S := by
  refine r_istore (pc := 70) C dX4_read_70 (by decide) (lv' := [(4, .int s0), (0, .ref v0), (3, .int v3)]) rfl ?_
  refine r_goto (pc := 72) C (tgt := 248) dX4_read_72 (by decide) ?_
  exact r_sub [1, 2, 0] rfl (T_X4_read_248 C E ht hn hX8 h)
def P_X4_read_69 (Q : Int32 → HS → Prop) (X8 : Nat → Int32 → HS → Prop) (v0 : Nat) (v3 : Int32) (S : HS) : Prop := P_X4_read_70 Q X8 v0 v3 (0 : Int32) S
set_option maxRecDepth 20000 in
set_option maxHeartbeats 4000000 in
theorem T_X4_read_69 {X : CX} {Q : Int32 → HS → Prop} (C : Cx X cX4_read RX4 5 rm_X4_read) (E : ReI X rm_X4_read (fun r S => bl r ∧ Q r S)) (ht : (xh X).sig.returnType = (some .boolean)) (hn : (xh X).name = yX4_read.name) {X8 : Nat → Int32 → HS → Prop} (hX8 : ∀ (v0 : Nat) (v3 : Int32) (S : HS), X8 v0 v3 S → WS X 5 0 0 8 [(0, .ref v0), (3, .int v3)] [] S) {v0 : Nat} {v3 : Int32} {S : HS} (h : P_X4_read_69 Q X8 v0 v3 S) : WS X 5 0 0 69 [(0, .ref v0), (3, .int v3)] [] S := by
  refine r_iconst (pc := 69) C (v := (0 : Int32)) dX4_read_69 (by decide) ?_
  exact r_sub [0, 1] rfl (T_X4_read_70 C E ht hn hX8 h)
def P_X4_read_112 (Q : Int32 → HS → Prop) (X8 : Nat → Int32 → HS → Prop) (v0 : Nat) (v3 : Int32) (s0 : Int32) (S : HS) : Prop := P_X4_read_248 Q X8 v0 v3 s0 S
set_option maxRecDepth 20000 in
set_option maxHeartbeats 4000000 in
theorem T_X4_read_112 {X : CX} {Q : Int32 → HS → Prop} (C : Cx X cX4_read RX4 5 rm_X4_read) (E : ReI X rm_X4_read (fun r S => bl r ∧ Q r S)) (ht : (xh X).sig.returnType = (some .boolean)) (hn : (xh X).name = yX4_read.name) {X8 : Nat → Int32 → HS → Prop} (hX8 : ∀ (v0 : Nat) (v3 : Int32) (S : HS), X8 v0 v3 S → WS X 5 0 0 8 [(0, .ref v0), (3, .int v3)] [] S) {v0 : Nat} {v3 : Int32} {s0 : Int32} {S : HS} (h : P_X4_read_112 Q X8 v0 v3 s0 S) : WS X 5 0 0 112 [(0, .ref v0), (3, .int v3)] [.int s0] S := by
  refine r_istore (pc := 112) C dX4_read_112 (by decide) (lv' := [(4, .int s0), (0, .ref v0), (3, .int v3)]) rfl ?_
  refine r_goto (pc := 114) C (tgt := 248) dX4_read_114 (by decide) ?_
  exact r_sub [1, 2, 0] rfl (T_X4_read_248 C E ht hn hX8 h)
def P_X4_read_111 (Q : Int32 → HS → Prop) (X8 : Nat → Int32 → HS → Prop) (v0 : Nat) (v3 : Int32) (S : HS) : Prop := P_X4_read_112 Q X8 v0 v3 (0 : Int32) S
set_option maxRecDepth 20000 in
set_option maxHeartbeats 4000000 in
theorem T_X4_read_111 {X : CX} {Q : Int32 → HS → Prop} (C : Cx X cX4_read RX4 5 rm_X4_read) (E : ReI X rm_X4_read (fun r S => bl r ∧ Q r S)) (ht : (xh X).sig.returnType = (some .boolean)) (hn : (xh X).name = yX4_read.name) {X8 : Nat → Int32 → HS → Prop} (hX8 : ∀ (v0 : Nat) (v3 : Int32) (S : HS), X8 v0 v3 S → WS X 5 0 0 8 [(0, .ref v0), (3, .int v3)] [] S) {v0 : Nat} {v3 : Int32} {S : HS} (h : P_X4_read_111 Q X8 v0 v3 S) : WS X 5 0 0 111 [(0, .ref v0), (3, .int v3)] [] S := by
  refine r_iconst (pc := 111) C (v := (0 : Int32)) dX4_read_111 (by decide) ?_
  exact r_sub [0, 1] rfl (T_X4_read_112 C E ht hn hX8 h)
def P_X4_read_154 (Q : Int32 → HS → Prop) (X8 : Nat → Int32 → HS → Prop) (v0 : Nat) (v3 : Int32) (s0 : Int32) (S : HS) : Prop := P_X4_read_248 Q X8 v0 v3 s0 S
set_option maxRecDepth 20000 in
set_option maxHeartbeats 4000000 in
theorem T_X4_read_154 {X : CX} {Q : Int32 → HS → Prop} (C : Cx X cX4_read RX4 5 rm_X4_read) (E : ReI X rm_X4_read (fun r S => bl r ∧ Q r S)) (ht : (xh X).sig.returnType = (some .boolean)) (hn : (xh X).name = yX4_read.name) {X8 : Nat → Int32 → HS → Prop} (hX8 : ∀ (v0 : Nat) (v3 : Int32) (S : HS), X8 v0 v3 S → WS X 5 0 0 8 [(0, .ref v0), (3, .int v3)] [] S) {v0 : Nat} {v3 : Int32} {s0 : Int32} {S : HS} (h : P_X4_read_154 Q X8 v0 v3 s0 S) : WS X 5 0 0 154 [(0, .ref v0), (3, .int v3)] [.int s0] S := by
  refine r_istore (pc := 154) C dX4_read_154 (by decide) (lv' := [(4, .int s0), (0, .ref v0), (3, .int v3)]) rfl ?_
  refine r_goto (pc := 156) C (tgt := 248) dX4_read_156 (by decide) ?_
  exact r_sub [1, 2, 0] rfl (T_X4_read_248 C E ht hn hX8 h)
def P_X4_read_153 (Q : Int32 → HS → Prop) (X8 : Nat → Int32 → HS → Prop) (v0 : Nat) (v3 : Int32) (S : HS) : Prop := P_X4_read_154 Q X8 v0 v3 (0 : Int32) S
set_option maxRecDepth 20000 in
set_option maxHeartbeats 4000000 in
theorem T_X4_read_153 {X : CX} {Q : Int32 → HS → Prop} (C : Cx X cX4_read RX4 5 rm_X4_read) (E : ReI X rm_X4_read (fun r S => bl r ∧ Q r S)) (ht : (xh X).sig.returnType = (some .boolean)) (hn : (xh X).name = yX4_read.name) {X8 : Nat → Int32 → HS → Prop} (hX8 : ∀ (v0 : Nat) (v3 : Int32) (S : HS), X8 v0 v3 S → WS X 5 0 0 8 [(0, .ref v0), (3, .int v3)] [] S) {v0 : Nat} {v3 : Int32} {S : HS} (h : P_X4_read_153 Q X8 v0 v3 S) : WS X 5 0 0 153 [(0, .ref v0), (3, .int v3)] [] S := by
  refine r_iconst (pc := 153) C (v := (0 : Int32)) dX4_read_153 (by decide) ?_
  exact r_sub [0, 1] rfl (T_X4_read_154 C E ht hn hX8 h)
def P_X4_read_195 (Q : Int32 → HS → Prop) (X8 : Nat → Int32 → HS → Prop) (v0 : Nat) (v3 : Int32) (s0 : Int32) (S : HS) : Prop := P_X4_read_248 Q X8 v0 v3 s0 S
set_option maxRecDepth 20000 in
set_option maxHeartbeats 4000000 in
theorem T_X4_read_195 {X : CX} {Q : Int32 → HS → Prop} (C : Cx X cX4_read RX4 5 rm_X4_read) (E : ReI X rm_X4_read (fun r S => bl r ∧ Q r S)) (ht : (xh X).sig.returnType = (some .boolean)) (hn : (xh X).name = yX4_read.name) {X8 : Nat → Int32 → HS → Prop} (hX8 : ∀ (v0 : Nat) (v3 : Int32) (S : HS), X8 v0 v3 S → WS X 5 0 0 8 [(0, .ref v0), (3, .int v3)] [] S) {v0 : Nat} {v3 : Int32} {s0 : Int32} {S : HS} (h : P_X4_read_195 Q X8 v0 v3 s0 S) : WS X 5 0 0 195 [(0, .ref v0), (3, .int v3)] [.int s0] S := by
  refine r_istore (pc := 195) C dX4_read_195 (by decide) (lv' := [(4, .int s0), (0, .ref v0), (3, .int v3)]) rfl ?_
  refine r_goto (pc := 197) C (tgt := 248) dX4_read_197 (by decide) ?_
  exact r_sub [1, 2, 0] rfl (T_X4_read_248 C E ht hn hX8 h)
def P_X4_read_194 (Q : Int32 → HS → Prop) (X8 : Nat → Int32 → HS → Prop) (v0 : Nat) (v3 : Int32) (S : HS) : Prop := P_X4_read_195 Q X8 v0 v3 (0 : Int32) S
set_option maxRecDepth 20000 in
set_option maxHeartbeats 4000000 in
theorem T_X4_read_194 {X : CX} {Q : Int32 → HS → Prop} (C : Cx X cX4_read RX4 5 rm_X4_read) (E : ReI X rm_X4_read (fun r S => bl r ∧ Q r S)) (ht : (xh X).sig.returnType = (some .boolean)) (hn : (xh X).name = yX4_read.name) {X8 : Nat → Int32 → HS → Prop} (hX8 : ∀ (v0 : Nat) (v3 : Int32) (S : HS), X8 v0 v3 S → WS X 5 0 0 8 [(0, .ref v0), (3, .int v3)] [] S) {v0 : Nat} {v3 : Int32} {S : HS} (h : P_X4_read_194 Q X8 v0 v3 S) : WS X 5 0 0 194 [(0, .ref v0), (3, .int v3)] [] S := by
  refine r_iconst (pc := 194) C (v := (0 : Int32)) dX4_read_194 (by decide) ?_
  exact r_sub [0, 1] rfl (T_X4_read_195 C E ht hn hX8 h)
def P_X4_read_236 (Q : Int32 → HS → Prop) (X8 : Nat → Int32 → HS → Prop) (v0 : Nat) (v3 : Int32) (s0 : Int32) (S : HS) : Prop := P_X4_read_248 Q X8 v0 v3 s0 S
set_option maxRecDepth 20000 in
set_option maxHeartbeats 4000000 in
theorem T_X4_read_236 {X : CX} {Q : Int32 → HS → Prop} (C : Cx X cX4_read RX4 5 rm_X4_read) (E : ReI X rm_X4_read (fun r S => bl r ∧ Q r S)) (ht : (xh X).sig.returnType = (some .boolean)) (hn : (xh X).name = yX4_read.name) {X8 : Nat → Int32 → HS → Prop} (hX8 : ∀ (v0 : Nat) (v3 : Int32) (S : HS), X8 v0 v3 S → WS X 5 0 0 8 [(0, .ref v0), (3, .int v3)] [] S) {v0 : Nat} {v3 : Int32} {s0 : Int32} {S : HS} (h : P_X4_read_236 Q X8 v0 v3 s0 S) : WS X 5 0 0 236 [(0, .ref v0), (3, .int v3)] [.int s0] S := by
  refine r_istore (pc := 236) C dX4_read_236 (by decide) (lv' := [(4, .int s0), (0, .ref v0), (3, .int v3)]) rfl ?_
  refine r_goto (pc := 238) C (tgt := 248) dX4_read_238 (by decide) ?_
  exact r_sub [1, 2, 0] rfl (T_X4_read_248 C E ht hn hX8 h)
def P_X4_read_235 (Q : Int32 → HS → Prop) (X8 : Nat → Int32 → HS → Prop) (v0 : Nat) (v3 : Int32) (S : HS) : Prop := P_X4_read_236 Q X8 v0 v3 (0 : Int32) S
set_option maxRecDepth 20000 in
set_option maxHeartbeats 4000000 in
theorem T_X4_read_235 {X : CX} {Q : Int32 → HS → Prop} (C : Cx X cX4_read RX4 5 rm_X4_read) (E : ReI X rm_X4_read (fun r S => bl r ∧ Q r S)) (ht : (xh X).sig.returnType = (some .boolean)) (hn : (xh X).name = yX4_read.name) {X8 : Nat → Int32 → HS → Prop} (hX8 : ∀ (v0 : Nat) (v3 : Int32) (S : HS), X8 v0 v3 S → WS X 5 0 0 8 [(0, .ref v0), (3, .int v3)] [] S) {v0 : Nat} {v3 : Int32} {S : HS} (h : P_X4_read_235 Q X8 v0 v3 S) : WS X 5 0 0 235 [(0, .ref v0), (3, .int v3)] [] S := by
  refine r_iconst (pc := 235) C (v := (0 : Int32)) dX4_read_235 (by decide) ?_
  exact r_sub [0, 1] rfl (T_X4_read_236 C E ht hn hX8 h)
def B_X4_read_8 (Q : Int32 → HS → Prop) (X8 : Nat → Int32 → HS → Prop) (v0 : Nat) (v3 : Int32) (S : HS) : Prop := (((900 : Int32) < v3) → (ob S v0 4 ∧ (P_X4_fail v0 (1 : Int32) (fun x4 S2 => Gr S S2 → bl x4 → (bl x4 ∧ Q x4 S2)) S))) ∧ ((¬ (900 : Int32) < v3) → (ob S v0 4 ∧ (P_X4_is v0 0 (fun x7 S5 => Gr S S5 → bl x7 → (((x7 = 0) → (P_X4_is v0 2 (fun x11 S9 => Gr S5 S9 → bl x11 → (((x11 = 0) → (P_X4_is v0 11 (fun x15 S13 => Gr S9 S13 → bl x15 → (((x15 = 0) → (P_X4_is v0 12 (fun x19 S17 => Gr S13 S17 → bl x19 → (((x19 = 0) → (P_X4_is v0 13 (fun x23 S21 => Gr S17 S21 → bl x23 → (((x23 = 0) → (P_X4_is v0 14 (fun x27 S25 => Gr S21 S25 → bl x27 → (((x27 = 0) → (P_X4_fail v0 (1 : Int32) (fun x31 S29 => Gr S25 S29 → bl x31 → (P_X4_read_248 Q X8 v0 v3 x31 S29)) S25)) ∧ ((¬ x27 = 0) → (∃ a32 : Nat, fR S25 v0 5 = some a32 ∧ (ob S25 a32 8 ∧ (∀ x33 : Int32, x33 = fI S25 a32 5 → (P_X4_hasRoom v0 x33 (4 : Int32) (fun x36 S34 => Gr S25 S34 → bl x36 → (((x36 = 0) → (P_X4_read_235 Q X8 v0 v3 S34)) ∧ ((¬ x36 = 0) → (P_X4_seenLine v0 (fun x40 S38 => Gr S34 S38 → bl x40 → (((x40 = 0) → (P_X4_read_235 Q X8 v0 v3 S38)) ∧ ((¬ x40 = 0) → (P_X4_read_236 Q X8 v0 v3 (1 : Int32) S38)))) S34)))) S25))))))) S21)) ∧ ((¬ x23 = 0) → (∃ a42 : Nat, fR S21 v0 5 = some a42 ∧ (ob S21 a42 8 ∧ (∀ x43 : Int32, x43 = fI S21 a42 4 → (P_X4_hasRoom v0 x43 (4 : Int32) (fun x46 S44 => Gr S21 S44 → bl x46 → (((x46 = 0) → (P_X4_read_194 Q X8 v0 v3 S44)) ∧ ((¬ x46 = 0) → (P_X4_walkerLine v0 (fun x50 S48 => Gr S44 S48 → bl x50 → (((x50 = 0) → (P_X4_read_194 Q X8 v0 v3 S48)) ∧ ((¬ x50 = 0) → (P_X4_read_195 Q X8 v0 v3 (1 : Int32) S48)))) S44)))) S21))))))) S17)) ∧ ((¬ x19 = 0) → (∃ a52 : Nat, fR S17 v0 5 = some a52 ∧ (ob S17 a52 8 ∧ (∀ x53 : Int32, x53 = fI S17 a52 3 → (P_X4_hasRoom v0 x53 (12 : Int32) (fun x56 S54 => Gr S17 S54 → bl x56 → (((x56 = 0) → (P_X4_read_153 Q X8 v0 v3 S54)) ∧ ((¬ x56 = 0) → (P_X4_roadLine v0 (fun x60 S58 => Gr S54 S58 → bl x60 → (((x60 = 0) → (P_X4_read_153 Q X8 v0 v3 S58)) ∧ ((¬ x60 = 0) → (P_X4_read_154 Q X8 v0 v3 (1 : Int32) S58)))) S54)))) S17))))))) S13)) ∧ ((¬ x15 = 0) → (∃ a62 : Nat, fR S13 v0 5 = some a62 ∧ (ob S13 a62 8 ∧ (∀ x63 : Int32, x63 = fI S13 a62 2 → (P_X4_hasRoom v0 x63 (8 : Int32) (fun x66 S64 => Gr S13 S64 → bl x66 → (((x66 = 0) → (P_X4_read_111 Q X8 v0 v3 S64)) ∧ ((¬ x66 = 0) → (P_X4_placeLine v0 (fun x70 S68 => Gr S64 S68 → bl x70 → (((x70 = 0) → (P_X4_read_111 Q X8 v0 v3 S68)) ∧ ((¬ x70 = 0) → (P_X4_read_112 Q X8 v0 v3 (1 : Int32) S68)))) S64)))) S13))))))) S9)) ∧ ((¬ x11 = 0) → (∃ a72 : Nat, fR S9 v0 5 = some a72 ∧ (ob S9 a72 8 ∧ (∀ x73 : Int32, x73 = fI S9 a72 1 → (P_X4_hasRoom v0 x73 (6 : Int32) (fun x76 S74 => Gr S9 S74 → bl x76 → (((x76 = 0) → (P_X4_read_69 Q X8 v0 v3 S74)) ∧ ((¬ x76 = 0) → (P_X4_rainLine v0 (fun x80 S78 => Gr S74 S78 → bl x80 → (((x80 = 0) → (P_X4_read_69 Q X8 v0 v3 S78)) ∧ ((¬ x80 = 0) → (P_X4_read_70 Q X8 v0 v3 (1 : Int32) S78)))) S74)))) S9))))))) S5)) ∧ ((¬ x7 = 0) → (P_X4_worldLine v0 (fun x84 S82 => Gr S5 S82 → bl x84 → (P_X4_read_248 Q X8 v0 v3 x84 S82)) S5)))) S)))
def P_X4_read_8 (Q : Int32 → HS → Prop) (v0 : Nat) (v3 : Int32) (S : HS) : Prop := ∀ X8 : Nat → Int32 → HS → Prop, (∀ (v0 : Nat) (v3 : Int32) (S : HS), B_X4_read_8 Q X8 v0 v3 S → X8 v0 v3 S) → X8 v0 v3 S
set_option maxRecDepth 20000 in
set_option maxHeartbeats 4000000 in
theorem TB_X4_read_8 {X : CX} {Q : Int32 → HS → Prop} (C : Cx X cX4_read RX4 5 rm_X4_read) (E : ReI X rm_X4_read (fun r S => bl r ∧ Q r S)) (ht : (xh X).sig.returnType = (some .boolean)) (hn : (xh X).name = yX4_read.name) {X8 : Nat → Int32 → HS → Prop} (hX8 : ∀ (v0 : Nat) (v3 : Int32) (S : HS), X8 v0 v3 S → WS X 5 0 0 8 [(0, .ref v0), (3, .int v3)] [] S) {v0 : Nat} {v3 : Int32} {S : HS} (h : B_X4_read_8 Q X8 v0 v3 S) : WS X 5 0 0 8 [(0, .ref v0), (3, .int v3)] [] S := by
  refine r_iload_n (pc := 8) C dX4_read_8 1 rfl ?_
  refine r_sipush (pc := 9) C (v := (900 : Int32)) dX4_read_9 (by decide) ?_
  refine r_icmp_gt (pc := 12) C (tgt := 316) dX4_read_12 (by decide) (fun c1 => ?_) (fun c1 => ?_)
  · have h := h.1 c1
    refine r_aload_n (pc := 316) C dX4_read_316 0 rfl ?_
    refine r_iconst (pc := 317) C (v := (1 : Int32)) dX4_read_317 (by decide) ?_
    obtain ⟨o_v0, h⟩ := h
    refine r_callVi0 (pc := 318) C (rest := []) (a := v0) o_v0 [.int (1 : Int32)] yV_X4_fail g_519 (c_X4_fail h) dX4_read_318 rfl rfl (Nat.le_of_ble_eq_true rfl) ⟨by decide, by decide⟩ ⟨by decide, by decide⟩ ⟨rfl, rfl⟩ (fun x4 S2 h g3 => ?_)
    have bx4 := h.1
    have h := h.2 g3 bx4
    have o_v0 := gr_ob g3 o_v0
    exact r_zret (pc := 321) C E ht dX4_read_321 (by decide) (by decide) h.1 h.2
  · have h := h.2 c1
    refine r_aload_n (pc := 15) C dX4_read_15 0 rfl ?_
    refine r_lds (pc := 16) C 0 rfl dX4_read_16 ?_
    obtain ⟨o_v0, h⟩ := h
    refine r_callVi0 (pc := 18) C (rest := []) (a := v0) o_v0 [.ref (eK (xE X) 0)] yV_X4_is g_458 (c_X4_is h) dX4_read_18 rfl rfl (Nat.le_of_ble_eq_true rfl) ⟨by decide, by decide⟩ ⟨by decide, by decide⟩ ⟨rfl, rfl⟩ (fun x7 S5 h g6 => ?_)
    have bx7 := h.1
    have h := h.2 g6 bx7
    have o_v0 := gr_ob g6 o_v0
    refine r_if_eq (pc := 21) C (tgt := 33) dX4_read_21 (by decide) (fun c8 => ?_) (fun c8 => ?_)
    · have h := h.1 c8
      refine r_aload_n (pc := 33) C dX4_read_33 0 rfl ?_
      refine r_lds (pc := 34) C 2 rfl dX4_read_34 ?_
      refine r_callVi0 (pc := 36) C (rest := []) (a := v0) o_v0 [.ref (eK (xE X) 2)] yV_X4_is g_458 (c_X4_is h) dX4_read_36 rfl rfl (Nat.le_of_ble_eq_true rfl) ⟨by decide, by decide⟩ ⟨by decide, by decide⟩ ⟨rfl, rfl⟩ (fun x11 S9 h g10 => ?_)
      have bx11 := h.1
      have h := h.2 g10 bx11
      have o_v0 := gr_ob g10 o_v0
      refine r_if_eq (pc := 39) C (tgt := 75) dX4_read_39 (by decide) (fun c12 => ?_) (fun c12 => ?_)
      · have h := h.1 c12
        refine r_aload_n (pc := 75) C dX4_read_75 0 rfl ?_
        refine r_lds (pc := 76) C 11 rfl dX4_read_76 ?_
        refine r_callVi0 (pc := 78) C (rest := []) (a := v0) o_v0 [.ref (eK (xE X) 11)] yV_X4_is g_458 (c_X4_is h) dX4_read_78 rfl rfl (Nat.le_of_ble_eq_true rfl) ⟨by decide, by decide⟩ ⟨by decide, by decide⟩ ⟨rfl, rfl⟩ (fun x15 S13 h g14 => ?_)
        have bx15 := h.1
        have h := h.2 g14 bx15
        have o_v0 := gr_ob g14 o_v0
        refine r_if_eq (pc := 81) C (tgt := 117) dX4_read_81 (by decide) (fun c16 => ?_) (fun c16 => ?_)
        · have h := h.1 c16
          refine r_aload_n (pc := 117) C dX4_read_117 0 rfl ?_
          refine r_lds (pc := 118) C 12 rfl dX4_read_118 ?_
          refine r_callVi0 (pc := 120) C (rest := []) (a := v0) o_v0 [.ref (eK (xE X) 12)] yV_X4_is g_458 (c_X4_is h) dX4_read_120 rfl rfl (Nat.le_of_ble_eq_true rfl) ⟨by decide, by decide⟩ ⟨by decide, by decide⟩ ⟨rfl, rfl⟩ (fun x19 S17 h g18 => ?_)
          have bx19 := h.1
          have h := h.2 g18 bx19
          have o_v0 := gr_ob g18 o_v0
          refine r_if_eq (pc := 123) C (tgt := 159) dX4_read_123 (by decide) (fun c20 => ?_) (fun c20 => ?_)
          · have h := h.1 c20
            refine r_aload_n (pc := 159) C dX4_read_159 0 rfl ?_
            refine r_lds (pc := 160) C 13 rfl dX4_read_160 ?_
            refine r_callVi0 (pc := 162) C (rest := []) (a := v0) o_v0 [.ref (eK (xE X) 13)] yV_X4_is g_458 (c_X4_is h) dX4_read_162 rfl rfl (Nat.le_of_ble_eq_true rfl) ⟨by decide, by decide⟩ ⟨by decide, by decide⟩ ⟨rfl, rfl⟩ (fun x23 S21 h g22 => ?_)
            have bx23 := h.1
            have h := h.2 g22 bx23
            have o_v0 := gr_ob g22 o_v0
            refine r_if_eq (pc := 165) C (tgt := 200) dX4_read_165 (by decide) (fun c24 => ?_) (fun c24 => ?_)
            · have h := h.1 c24
              refine r_aload_n (pc := 200) C dX4_read_200 0 rfl ?_
              refine r_lds (pc := 201) C 14 rfl dX4_read_201 ?_
              refine r_callVi0 (pc := 203) C (rest := []) (a := v0) o_v0 [.ref (eK (xE X) 14)] yV_X4_is g_458 (c_X4_is h) dX4_read_203 rfl rfl (Nat.le_of_ble_eq_true rfl) ⟨by decide, by decide⟩ ⟨by decide, by decide⟩ ⟨rfl, rfl⟩ (fun x27 S25 h g26 => ?_)
              have bx27 := h.1
              have h := h.2 g26 bx27
              have o_v0 := gr_ob g26 o_v0
              refine r_if_eq (pc := 206) C (tgt := 241) dX4_read_206 (by decide) (fun c28 => ?_) (fun c28 => ?_)
              · have h := h.1 c28
                refine r_aload_n (pc := 241) C dX4_read_241 0 rfl ?_
                refine r_iconst (pc := 242) C (v := (1 : Int32)) dX4_read_242 (by decide) ?_
                refine r_callVi0 (pc := 243) C (rest := []) (a := v0) o_v0 [.int (1 : Int32)] yV_X4_fail g_519 (c_X4_fail h) dX4_read_243 rfl rfl (Nat.le_of_ble_eq_true rfl) ⟨by decide, by decide⟩ ⟨by decide, by decide⟩ ⟨rfl, rfl⟩ (fun x31 S29 h g30 => ?_)
                have bx31 := h.1
                have h := h.2 g30 bx31
                have o_v0 := gr_ob g30 o_v0
                refine r_istore (pc := 246) C dX4_read_246 (by decide) (lv' := [(4, .int x31), (0, .ref v0), (3, .int v3)]) rfl ?_
                exact r_sub [1, 2, 0] rfl (T_X4_read_248 C E ht hn hX8 h)
              · have h := h.2 c28
                refine r_aload_n (pc := 209) C dX4_read_209 0 rfl ?_
                refine r_aload_n (pc := 210) C dX4_read_210 0 rfl ?_
                obtain ⟨a32, ea32, h⟩ := h
                refine r_getr (pc := 211) C fL_X4_18 dX4_read_211 o_v0 ea32 ?_
                obtain ⟨o_a32, h⟩ := h
                refine r_geti (pc := 214) C fL_X4_82 dX4_read_214 o_a32 ?_
                refine r_topi (fun x33 ex33 => ?_)
                have h := h x33 ex33
                refine r_iconst (pc := 217) C (v := (4 : Int32)) dX4_read_217 (by decide) ?_
                refine r_callVi0 (pc := 218) C (rest := []) (a := v0) o_v0 [.int x33, .int (4 : Int32)] yV_X4_hasRoom g_537 (c_X4_hasRoom h) dX4_read_218 rfl rfl (Nat.le_of_ble_eq_true rfl) ⟨by decide, by decide⟩ ⟨by decide, by decide⟩ ⟨rfl, rfl⟩ (fun x36 S34 h g35 => ?_)
                have bx36 := h.1
                have h := h.2 g35 bx36
                have o_a32 := gr_ob g35 o_a32
                have o_v0 := gr_ob g35 o_v0
                refine r_if_eq (pc := 221) C (tgt := 235) dX4_read_221 (by decide) (fun c37 => ?_) (fun c37 => ?_)
                · have h := h.1 c37
                  exact r_sub [0, 1] rfl (T_X4_read_235 C E ht hn hX8 h)
                · have h := h.2 c37
                  refine r_aload_n (pc := 224) C dX4_read_224 0 rfl ?_
                  refine r_callVi0 (pc := 225) C (rest := []) (a := v0) o_v0 [] yV_X4_seenLine g_613 (c_X4_seenLine h) dX4_read_225 rfl rfl (Nat.le_of_ble_eq_true rfl) ⟨by decide, by decide⟩ ⟨by decide, by decide⟩ ⟨rfl, rfl⟩ (fun x40 S38 h g39 => ?_)
                  have bx40 := h.1
                  have h := h.2 g39 bx40
                  have o_a32 := gr_ob g39 o_a32
                  have o_v0 := gr_ob g39 o_v0
                  refine r_if_eq (pc := 228) C (tgt := 235) dX4_read_228 (by decide) (fun c41 => ?_) (fun c41 => ?_)
                  · have h := h.1 c41
                    exact r_sub [0, 1] rfl (T_X4_read_235 C E ht hn hX8 h)
                  · have h := h.2 c41
                    refine r_iconst (pc := 231) C (v := (1 : Int32)) dX4_read_231 (by decide) ?_
                    refine r_goto (pc := 232) C (tgt := 236) dX4_read_232 (by decide) ?_
                    exact r_sub [0, 1] rfl (T_X4_read_236 C E ht hn hX8 h)
            · have h := h.2 c24
              refine r_aload_n (pc := 168) C dX4_read_168 0 rfl ?_
              refine r_aload_n (pc := 169) C dX4_read_169 0 rfl ?_
              obtain ⟨a42, ea42, h⟩ := h
              refine r_getr (pc := 170) C fL_X4_18 dX4_read_170 o_v0 ea42 ?_
              obtain ⟨o_a42, h⟩ := h
              refine r_geti (pc := 173) C fL_X4_74 dX4_read_173 o_a42 ?_
              refine r_topi (fun x43 ex43 => ?_)
              have h := h x43 ex43
              refine r_iconst (pc := 176) C (v := (4 : Int32)) dX4_read_176 (by decide) ?_
              refine r_callVi0 (pc := 177) C (rest := []) (a := v0) o_v0 [.int x43, .int (4 : Int32)] yV_X4_hasRoom g_537 (c_X4_hasRoom h) dX4_read_177 rfl rfl (Nat.le_of_ble_eq_true rfl) ⟨by decide, by decide⟩ ⟨by decide, by decide⟩ ⟨rfl, rfl⟩ (fun x46 S44 h g45 => ?_)
              have bx46 := h.1
              have h := h.2 g45 bx46
              have o_a42 := gr_ob g45 o_a42
              have o_v0 := gr_ob g45 o_v0
              refine r_if_eq (pc := 180) C (tgt := 194) dX4_read_180 (by decide) (fun c47 => ?_) (fun c47 => ?_)
              · have h := h.1 c47
                exact r_sub [0, 1] rfl (T_X4_read_194 C E ht hn hX8 h)
              · have h := h.2 c47
                refine r_aload_n (pc := 183) C dX4_read_183 0 rfl ?_
                refine r_callVi0 (pc := 184) C (rest := []) (a := v0) o_v0 [] yV_X4_walkerLine g_588 (c_X4_walkerLine h) dX4_read_184 rfl rfl (Nat.le_of_ble_eq_true rfl) ⟨by decide, by decide⟩ ⟨by decide, by decide⟩ ⟨rfl, rfl⟩ (fun x50 S48 h g49 => ?_)
                have bx50 := h.1
                have h := h.2 g49 bx50
                have o_a42 := gr_ob g49 o_a42
                have o_v0 := gr_ob g49 o_v0
                refine r_if_eq (pc := 187) C (tgt := 194) dX4_read_187 (by decide) (fun c51 => ?_) (fun c51 => ?_)
                · have h := h.1 c51
                  exact r_sub [0, 1] rfl (T_X4_read_194 C E ht hn hX8 h)
                · have h := h.2 c51
                  refine r_iconst (pc := 190) C (v := (1 : Int32)) dX4_read_190 (by decide) ?_
                  refine r_goto (pc := 191) C (tgt := 195) dX4_read_191 (by decide) ?_
                  exact r_sub [0, 1] rfl (T_X4_read_195 C E ht hn hX8 h)
          · have h := h.2 c20
            refine r_aload_n (pc := 126) C dX4_read_126 0 rfl ?_
            refine r_aload_n (pc := 127) C dX4_read_127 0 rfl ?_
            obtain ⟨a52, ea52, h⟩ := h
            refine r_getr (pc := 128) C fL_X4_18 dX4_read_128 o_v0 ea52 ?_
            obtain ⟨o_a52, h⟩ := h
            refine r_geti (pc := 131) C fL_X4_66 dX4_read_131 o_a52 ?_
            refine r_topi (fun x53 ex53 => ?_)
            have h := h x53 ex53
            refine r_bipush (pc := 134) C (v := (12 : Int32)) dX4_read_134 (by decide) ?_
            refine r_callVi0 (pc := 136) C (rest := []) (a := v0) o_v0 [.int x53, .int (12 : Int32)] yV_X4_hasRoom g_537 (c_X4_hasRoom h) dX4_read_136 rfl rfl (Nat.le_of_ble_eq_true rfl) ⟨by decide, by decide⟩ ⟨by decide, by decide⟩ ⟨rfl, rfl⟩ (fun x56 S54 h g55 => ?_)
            have bx56 := h.1
            have h := h.2 g55 bx56
            have o_a52 := gr_ob g55 o_a52
            have o_v0 := gr_ob g55 o_v0
            refine r_if_eq (pc := 139) C (tgt := 153) dX4_read_139 (by decide) (fun c57 => ?_) (fun c57 => ?_)
            · have h := h.1 c57
              exact r_sub [0, 1] rfl (T_X4_read_153 C E ht hn hX8 h)
            · have h := h.2 c57
              refine r_aload_n (pc := 142) C dX4_read_142 0 rfl ?_
              refine r_callVi0 (pc := 143) C (rest := []) (a := v0) o_v0 [] yV_X4_roadLine g_580 (c_X4_roadLine h) dX4_read_143 rfl rfl (Nat.le_of_ble_eq_true rfl) ⟨by decide, by decide⟩ ⟨by decide, by decide⟩ ⟨rfl, rfl⟩ (fun x60 S58 h g59 => ?_)
              have bx60 := h.1
              have h := h.2 g59 bx60
              have o_a52 := gr_ob g59 o_a52
              have o_v0 := gr_ob g59 o_v0
              refine r_if_eq (pc := 146) C (tgt := 153) dX4_read_146 (by decide) (fun c61 => ?_) (fun c61 => ?_)
              · have h := h.1 c61
                exact r_sub [0, 1] rfl (T_X4_read_153 C E ht hn hX8 h)
              · have h := h.2 c61
                refine r_iconst (pc := 149) C (v := (1 : Int32)) dX4_read_149 (by decide) ?_
                refine r_goto (pc := 150) C (tgt := 154) dX4_read_150 (by decide) ?_
                exact r_sub [0, 1] rfl (T_X4_read_154 C E ht hn hX8 h)
        · have h := h.2 c16
          refine r_aload_n (pc := 84) C dX4_read_84 0 rfl ?_
          refine r_aload_n (pc := 85) C dX4_read_85 0 rfl ?_
          obtain ⟨a62, ea62, h⟩ := h
          refine r_getr (pc := 86) C fL_X4_18 dX4_read_86 o_v0 ea62 ?_
          obtain ⟨o_a62, h⟩ := h
          refine r_geti (pc := 89) C fL_X4_58 dX4_read_89 o_a62 ?_
          refine r_topi (fun x63 ex63 => ?_)
          have h := h x63 ex63
          refine r_bipush (pc := 92) C (v := (8 : Int32)) dX4_read_92 (by decide) ?_
          refine r_callVi0 (pc := 94) C (rest := []) (a := v0) o_v0 [.int x63, .int (8 : Int32)] yV_X4_hasRoom g_537 (c_X4_hasRoom h) dX4_read_94 rfl rfl (Nat.le_of_ble_eq_true rfl) ⟨by decide, by decide⟩ ⟨by decide, by decide⟩ ⟨rfl, rfl⟩ (fun x66 S64 h g65 => ?_)
          have bx66 := h.1
          have h := h.2 g65 bx66
          have o_a62 := gr_ob g65 o_a62
          have o_v0 := gr_ob g65 o_v0
          refine r_if_eq (pc := 97) C (tgt := 111) dX4_read_97 (by decide) (fun c67 => ?_) (fun c67 => ?_)
          · have h := h.1 c67
            exact r_sub [0, 1] rfl (T_X4_read_111 C E ht hn hX8 h)
          · have h := h.2 c67
            refine r_aload_n (pc := 100) C dX4_read_100 0 rfl ?_
            refine r_callVi0 (pc := 101) C (rest := []) (a := v0) o_v0 [] yV_X4_placeLine g_558 (c_X4_placeLine h) dX4_read_101 rfl rfl (Nat.le_of_ble_eq_true rfl) ⟨by decide, by decide⟩ ⟨by decide, by decide⟩ ⟨rfl, rfl⟩ (fun x70 S68 h g69 => ?_)
            have bx70 := h.1
            have h := h.2 g69 bx70
            have o_a62 := gr_ob g69 o_a62
            have o_v0 := gr_ob g69 o_v0
            refine r_if_eq (pc := 104) C (tgt := 111) dX4_read_104 (by decide) (fun c71 => ?_) (fun c71 => ?_)
            · have h := h.1 c71
              exact r_sub [0, 1] rfl (T_X4_read_111 C E ht hn hX8 h)
            · have h := h.2 c71
              refine r_iconst (pc := 107) C (v := (1 : Int32)) dX4_read_107 (by decide) ?_
              refine r_goto (pc := 108) C (tgt := 112) dX4_read_108 (by decide) ?_
              exact r_sub [0, 1] rfl (T_X4_read_112 C E ht hn hX8 h)
      · have h := h.2 c12
        refine r_aload_n (pc := 42) C dX4_read_42 0 rfl ?_
        refine r_aload_n (pc := 43) C dX4_read_43 0 rfl ?_
        obtain ⟨a72, ea72, h⟩ := h
        refine r_getr (pc := 44) C fL_X4_18 dX4_read_44 o_v0 ea72 ?_
        obtain ⟨o_a72, h⟩ := h
        refine r_geti (pc := 47) C fL_X4_45 dX4_read_47 o_a72 ?_
        refine r_topi (fun x73 ex73 => ?_)
        have h := h x73 ex73
        refine r_bipush (pc := 50) C (v := (6 : Int32)) dX4_read_50 (by decide) ?_
        refine r_callVi0 (pc := 52) C (rest := []) (a := v0) o_v0 [.int x73, .int (6 : Int32)] yV_X4_hasRoom g_537 (c_X4_hasRoom h) dX4_read_52 rfl rfl (Nat.le_of_ble_eq_true rfl) ⟨by decide, by decide⟩ ⟨by decide, by decide⟩ ⟨rfl, rfl⟩ (fun x76 S74 h g75 => ?_)
        have bx76 := h.1
        have h := h.2 g75 bx76
        have o_a72 := gr_ob g75 o_a72
        have o_v0 := gr_ob g75 o_v0
        refine r_if_eq (pc := 55) C (tgt := 69) dX4_read_55 (by decide) (fun c77 => ?_) (fun c77 => ?_)
        · have h := h.1 c77
          exact r_sub [0, 1] rfl (T_X4_read_69 C E ht hn hX8 h)
        · have h := h.2 c77
          refine r_aload_n (pc := 58) C dX4_read_58 0 rfl ?_
          refine r_callVi0 (pc := 59) C (rest := []) (a := v0) o_v0 [] yV_X4_rainLine g_541 (c_X4_rainLine h) dX4_read_59 rfl rfl (Nat.le_of_ble_eq_true rfl) ⟨by decide, by decide⟩ ⟨by decide, by decide⟩ ⟨rfl, rfl⟩ (fun x80 S78 h g79 => ?_)
          have bx80 := h.1
          have h := h.2 g79 bx80
          have o_a72 := gr_ob g79 o_a72
          have o_v0 := gr_ob g79 o_v0
          refine r_if_eq (pc := 62) C (tgt := 69) dX4_read_62 (by decide) (fun c81 => ?_) (fun c81 => ?_)
          · have h := h.1 c81
            exact r_sub [0, 1] rfl (T_X4_read_69 C E ht hn hX8 h)
          · have h := h.2 c81
            refine r_iconst (pc := 65) C (v := (1 : Int32)) dX4_read_65 (by decide) ?_
            refine r_goto (pc := 66) C (tgt := 70) dX4_read_66 (by decide) ?_
            exact r_sub [0, 1] rfl (T_X4_read_70 C E ht hn hX8 h)
    · have h := h.2 c8
      refine r_aload_n (pc := 24) C dX4_read_24 0 rfl ?_
      refine r_callVi0 (pc := 25) C (rest := []) (a := v0) o_v0 [] yV_X4_worldLine g_511 (c_X4_worldLine h) dX4_read_25 rfl rfl (Nat.le_of_ble_eq_true rfl) ⟨by decide, by decide⟩ ⟨by decide, by decide⟩ ⟨rfl, rfl⟩ (fun x84 S82 h g83 => ?_)
      have bx84 := h.1
      have h := h.2 g83 bx84
      have o_v0 := gr_ob g83 o_v0
      refine r_istore (pc := 28) C dX4_read_28 (by decide) (lv' := [(4, .int x84), (0, .ref v0), (3, .int v3)]) rfl ?_
      refine r_goto (pc := 30) C (tgt := 248) dX4_read_30 (by decide) ?_
      exact r_sub [1, 2, 0] rfl (T_X4_read_248 C E ht hn hX8 h)
theorem T_X4_read_8 {X : CX} {Q : Int32 → HS → Prop} (C : Cx X cX4_read RX4 5 rm_X4_read) (E : ReI X rm_X4_read (fun r S => bl r ∧ Q r S)) (ht : (xh X).sig.returnType = (some .boolean)) (hn : (xh X).name = yX4_read.name) {v0 : Nat} {v3 : Int32} {S : HS} (h : P_X4_read_8 Q v0 v3 S) : WS X 5 0 0 8 [(0, .ref v0), (3, .int v3)] [] S :=
  h (fun v0 v3 S => WS X 5 0 0 8 [(0, .ref v0), (3, .int v3)] [] S) (fun v0 v3 S hh => TB_X4_read_8 C E ht hn (fun v0 v3 S z => z) hh)
def P_X4_read_0 (Q : Int32 → HS → Prop) (v0 : Nat) (v1 : Nat) (v2 : Int32) (S : HS) : Prop := ob S v0 4 ∧ (P_X4_open v0 v1 v2 (fun S1 => Gr S S1 → (P_X4_read_8 Q v0 (0 : Int32) S1)) S)
set_option maxRecDepth 20000 in
set_option maxHeartbeats 4000000 in
theorem T_X4_read_0 {X : CX} {Q : Int32 → HS → Prop} (C : Cx X cX4_read RX4 5 rm_X4_read) (E : ReI X rm_X4_read (fun r S => bl r ∧ Q r S)) (ht : (xh X).sig.returnType = (some .boolean)) (hn : (xh X).name = yX4_read.name) {v0 : Nat} {v1 : Nat} {v2 : Int32} {S : HS} (h : P_X4_read_0 Q v0 v1 v2 S) : WS X 5 0 0 0 [(0, .ref v0), (1, .ref v1), (2, .int v2)] [] S := by
  refine r_aload_n (pc := 0) C dX4_read_0 0 rfl ?_
  refine r_aload_n (pc := 1) C dX4_read_1 1 rfl ?_
  refine r_iload_n (pc := 2) C dX4_read_2 2 rfl ?_
  obtain ⟨o_v0, h⟩ := h
  refine r_callVv0 (pc := 3) C (rest := []) (a := v0) o_v0 [.ref v1, .int v2] yV_X4_open g_438 (c_X4_open h) dX4_read_3 rfl rfl (Nat.le_of_ble_eq_true rfl) ⟨by decide, by decide⟩ ⟨by decide, by decide⟩ ⟨rfl, rfl⟩ (fun S1 h g2 => ?_)
  have h := h g2
  have o_v0 := gr_ob g2 o_v0
  refine r_iconst (pc := 6) C (v := (0 : Int32)) dX4_read_6 (by decide) ?_
  refine r_istore_n (pc := 7) C dX4_read_7 rfl (by decide) (lv' := [(3, .int (0 : Int32)), (0, .ref v0), (1, .ref v1), (2, .int v2)]) rfl ?_
  exact r_sub [1, 0] rfl (T_X4_read_8 C E ht hn h)
def P_X4_read (v0 : Nat) (v1 : Nat) (v2 : Int32) (Q : Int32 → HS → Prop) (S : HS) : Prop := P_X4_read_0 Q v0 v1 v2 S
theorem c_X4_read {l : Launch} {Ee : EE} {S : HS} {v0 : Nat} {v1 : Nat} {v2 : Int32} {Q : Int32 → HS → Prop} (h : P_X4_read v0 v1 v2 Q S) : MI l yX4_read cX4_read 5 (some .boolean) rm_X4_read Ee S [.ref v0, .ref v1, .int v2] (fun r S => bl r ∧ Q r S) :=
  openI (by decide) (Nat.le_of_ble_eq_true rfl) (fun X C E ht hn hE hl => by subst hE; exact r_sub [0, 1, 2] rfl (T_X4_read_0 C E ht hn h))
def rm_X5_endOf : Room := { frames := 0, cells := 0, slots := 0, locals := 0 }
def P_X5_endOf_0 (Q : Int32 → HS → Prop) (v0 : Nat) (v1 : Int32) (S : HS) : Prop := ((¬ v1 = 0) → (ob S v0 5 ∧ (∀ x2 : Int32, x2 = fI S v0 0 → (Q x2 S)))) ∧ ((v1 = 0) → (ob S v0 5 ∧ (∀ x3 : Int32, x3 = fI S v0 1 → (Q x3 S))))
set_option maxRecDepth 20000 in
set_option maxHeartbeats 4000000 in
theorem T_X5_endOf_0 {X : CX} {Q : Int32 → HS → Prop} (C : Cx X cX5_endOf RX5 2 rm_X5_endOf) (E : ReI X rm_X5_endOf Q) (ht : (xh X).sig.returnType = (some .int)) (hn : (xh X).name = yX5_endOf.name) {v0 : Nat} {v1 : Int32} {S : HS} (h : P_X5_endOf_0 Q v0 v1 S) : WS X 2 0 0 0 [(0, .ref v0), (1, .int v1)] [] S := by
  refine r_iload_n (pc := 0) C dX5_endOf_0 1 rfl ?_
  refine r_if_ne (pc := 1) C (tgt := 11) dX5_endOf_1 (by decide) (fun c1 => ?_) (fun c1 => ?_)
  · have h := h.1 c1
    refine r_aload_n (pc := 11) C dX5_endOf_11 0 rfl ?_
    obtain ⟨o_v0, h⟩ := h
    refine r_geti (pc := 12) C fL_X5_7 dX5_endOf_12 o_v0 ?_
    refine r_topi (fun x2 ex2 => ?_)
    have h := h x2 ex2
    exact r_iret (pc := 15) C E ht dX5_endOf_15 (by decide) (by decide) h
  · have h := h.2 c1
    refine r_aload_n (pc := 4) C dX5_endOf_4 0 rfl ?_
    obtain ⟨o_v0, h⟩ := h
    refine r_geti (pc := 5) C fL_X5_13 dX5_endOf_5 o_v0 ?_
    refine r_topi (fun x3 ex3 => ?_)
    have h := h x3 ex3
    refine r_goto (pc := 8) C (tgt := 15) dX5_endOf_8 (by decide) ?_
    exact r_iret (pc := 15) C E ht dX5_endOf_15 (by decide) (by decide) h
def P_X5_endOf (v0 : Nat) (v1 : Int32) (Q : Int32 → HS → Prop) (S : HS) : Prop := P_X5_endOf_0 Q v0 v1 S
theorem c_X5_endOf {l : Launch} {Ee : EE} {S : HS} {v0 : Nat} {v1 : Int32} {Q : Int32 → HS → Prop} (h : P_X5_endOf v0 v1 Q S) : MI l yX5_endOf cX5_endOf 2 (some .int) rm_X5_endOf Ee S [.ref v0, .int v1] Q :=
  openI (by decide) (Nat.le_of_ble_eq_true rfl) (fun X C E ht hn hE hl => by subst hE; exact r_sub [0, 1] rfl (T_X5_endOf_0 C E ht hn h))
def rm_X5_minutesAt : Room := { frames := 0, cells := 0, slots := 0, locals := 0 }
def P_X5_minutesAt_0 (Q : Int32 → HS → Prop) (v0 : Nat) (v1 : Int32) (S : HS) : Prop := ((v1 ≤ 0) → (Q (0 : Int32) S)) ∧ ((¬ v1 ≤ 0) → (ob S v0 5 ∧ (∀ x2 : Int32, x2 = fI S v0 3 → (¬ v1 = 0 ∧ ∀ x4 : Int32, x4 = ((x2 + v1) - (1 : Int32)) / v1 → (Q x4 S)))))
set_option maxRecDepth 20000 in
set_option maxHeartbeats 4000000 in
theorem T_X5_minutesAt_0 {X : CX} {Q : Int32 → HS → Prop} (C : Cx X cX5_minutesAt RX5 2 rm_X5_minutesAt) (E : ReI X rm_X5_minutesAt Q) (ht : (xh X).sig.returnType = (some .int)) (hn : (xh X).name = yX5_minutesAt.name) {v0 : Nat} {v1 : Int32} {S : HS} (h : P_X5_minutesAt_0 Q v0 v1 S) : WS X 2 0 0 0 [(0, .ref v0), (1, .int v1)] [] S := by
  refine r_iload_n (pc := 0) C dX5_minutesAt_0 1 rfl ?_
  refine r_if_le (pc := 1) C (tgt := 17) dX5_minutesAt_1 (by decide) (fun c1 => ?_) (fun c1 => ?_)
  · have h := h.1 c1
    refine r_iconst (pc := 17) C (v := (0 : Int32)) dX5_minutesAt_17 (by decide) ?_
    exact r_iret (pc := 18) C E ht dX5_minutesAt_18 (by decide) (by decide) h
  · have h := h.2 c1
    refine r_aload_n (pc := 4) C dX5_minutesAt_4 0 rfl ?_
    obtain ⟨o_v0, h⟩ := h
    refine r_geti (pc := 5) C fL_X5_16 dX5_minutesAt_5 o_v0 ?_
    refine r_topi (fun x2 ex2 => ?_)
    have h := h x2 ex2
    refine r_iload_n (pc := 8) C dX5_minutesAt_8 1 rfl ?_
    refine r_iadd (pc := 9) C dX5_minutesAt_9 ?_
    refine r_iconst (pc := 10) C (v := (1 : Int32)) dX5_minutesAt_10 (by decide) ?_
    refine r_isub (pc := 11) C dX5_minutesAt_11 ?_
    refine r_iload_n (pc := 12) C dX5_minutesAt_12 1 rfl ?_
    obtain ⟨q3, h⟩ := h
    refine r_idiv (pc := 13) C dX5_minutesAt_13 q3 ?_
    refine r_topi (fun x4 ex4 => ?_)
    have h := h x4 ex4
    refine r_goto (pc := 14) C (tgt := 18) dX5_minutesAt_14 (by decide) ?_
    exact r_iret (pc := 18) C E ht dX5_minutesAt_18 (by decide) (by decide) h
def P_X5_minutesAt (v0 : Nat) (v1 : Int32) (Q : Int32 → HS → Prop) (S : HS) : Prop := P_X5_minutesAt_0 Q v0 v1 S
theorem c_X5_minutesAt {l : Launch} {Ee : EE} {S : HS} {v0 : Nat} {v1 : Int32} {Q : Int32 → HS → Prop} (h : P_X5_minutesAt v0 v1 Q S) : MI l yX5_minutesAt cX5_minutesAt 2 (some .int) rm_X5_minutesAt Ee S [.ref v0, .int v1] Q :=
  openI (by decide) (Nat.le_of_ble_eq_true rfl) (fun X C E ht hn hE hl => by subst hE; exact r_sub [0, 1] rfl (T_X5_minutesAt_0 C E ht hn h))
def rm_X5_startOf : Room := { frames := 0, cells := 0, slots := 0, locals := 0 }
def P_X5_startOf_0 (Q : Int32 → HS → Prop) (v0 : Nat) (v1 : Int32) (S : HS) : Prop := ((¬ v1 = 0) → (ob S v0 5 ∧ (∀ x2 : Int32, x2 = fI S v0 1 → (Q x2 S)))) ∧ ((v1 = 0) → (ob S v0 5 ∧ (∀ x3 : Int32, x3 = fI S v0 0 → (Q x3 S))))
set_option maxRecDepth 20000 in
set_option maxHeartbeats 4000000 in
theorem T_X5_startOf_0 {X : CX} {Q : Int32 → HS → Prop} (C : Cx X cX5_startOf RX5 2 rm_X5_startOf) (E : ReI X rm_X5_startOf Q) (ht : (xh X).sig.returnType = (some .int)) (hn : (xh X).name = yX5_startOf.name) {v0 : Nat} {v1 : Int32} {S : HS} (h : P_X5_startOf_0 Q v0 v1 S) : WS X 2 0 0 0 [(0, .ref v0), (1, .int v1)] [] S := by
  refine r_iload_n (pc := 0) C dX5_startOf_0 1 rfl ?_
  refine r_if_ne (pc := 1) C (tgt := 11) dX5_startOf_1 (by decide) (fun c1 => ?_) (fun c1 => ?_)
  · have h := h.1 c1
    refine r_aload_n (pc := 11) C dX5_startOf_11 0 rfl ?_
    obtain ⟨o_v0, h⟩ := h
    refine r_geti (pc := 12) C fL_X5_13 dX5_startOf_12 o_v0 ?_
    refine r_topi (fun x2 ex2 => ?_)
    have h := h x2 ex2
    exact r_iret (pc := 15) C E ht dX5_startOf_15 (by decide) (by decide) h
  · have h := h.2 c1
    refine r_aload_n (pc := 4) C dX5_startOf_4 0 rfl ?_
    obtain ⟨o_v0, h⟩ := h
    refine r_geti (pc := 5) C fL_X5_7 dX5_startOf_5 o_v0 ?_
    refine r_topi (fun x3 ex3 => ?_)
    have h := h x3 ex3
    refine r_goto (pc := 8) C (tgt := 15) dX5_startOf_8 (by decide) ?_
    exact r_iret (pc := 15) C E ht dX5_startOf_15 (by decide) (by decide) h
def P_X5_startOf (v0 : Nat) (v1 : Int32) (Q : Int32 → HS → Prop) (S : HS) : Prop := P_X5_startOf_0 Q v0 v1 S
theorem c_X5_startOf {l : Launch} {Ee : EE} {S : HS} {v0 : Nat} {v1 : Int32} {Q : Int32 → HS → Prop} (h : P_X5_startOf v0 v1 Q S) : MI l yX5_startOf cX5_startOf 2 (some .int) rm_X5_startOf Ee S [.ref v0, .int v1] Q :=
  openI (by decide) (Nat.le_of_ble_eq_true rfl) (fun X C E ht hn hE hl => by subst hE; exact r_sub [0, 1] rfl (T_X5_startOf_0 C E ht hn h))
def rm_X5_tell : Room := { frames := 0, cells := 0, slots := 0, locals := 0 }
def P_X5_tell_0 (Q : Int32 → HS → Prop) (v0 : Nat) (v1 : Int32) (S : HS) : Prop := (v1.toInt < 0 ∨ 3 < v1.toInt → (ob S v0 5 ∧ (∀ x2 : Int32, x2 = fI S v0 4 → (Q x2 S)))) ∧ (v1.toInt = 0 → (ob S v0 5 ∧ (∀ x3 : Int32, x3 = fI S v0 0 → (Q x3 S)))) ∧ (v1.toInt = 1 → (ob S v0 5 ∧ (∀ x4 : Int32, x4 = fI S v0 1 → (Q x4 S)))) ∧ (v1.toInt = 2 → (ob S v0 5 ∧ (∀ x5 : Int32, x5 = fI S v0 2 → (Q x5 S)))) ∧ (v1.toInt = 3 → (ob S v0 5 ∧ (∀ x6 : Int32, x6 = fI S v0 3 → (Q x6 S))))
set_option maxRecDepth 20000 in
set_option maxHeartbeats 4000000 in
theorem T_X5_tell_0 {X : CX} {Q : Int32 → HS → Prop} (C : Cx X cX5_tell RX5 2 rm_X5_tell) (E : ReI X rm_X5_tell Q) (ht : (xh X).sig.returnType = (some .int)) (hn : (xh X).name = yX5_tell.name) {v0 : Nat} {v1 : Int32} {S : HS} (h : P_X5_tell_0 Q v0 v1 S) : WS X 2 0 0 0 [(0, .ref v0), (1, .int v1)] [] S := by
  refine r_iload_n (pc := 0) C dX5_tell_0 1 rfl ?_
  refine r_table (pc := 1) C (tgt := 52) dX5_tell_1 (by decide) (fun c1 => ?_) (fun j hj hx => ?_)
  · have h := h.1 c1
    refine r_aload_n (pc := 52) C dX5_tell_52 0 rfl ?_
    obtain ⟨o_v0, h⟩ := h
    refine r_geti (pc := 53) C fL_X5_34 dX5_tell_53 o_v0 ?_
    refine r_topi (fun x2 ex2 => ?_)
    have h := h x2 ex2
    exact r_iret (pc := 56) C E ht dX5_tell_56 (by decide) (by decide) h
  · match j, hj, hx with
    | 0, _, hx =>
      refine ⟨31, 32, rfl, by decide, ?_⟩
      have h := h.2.1 (by simpa using hx)
      refine r_aload_n (pc := 32) C dX5_tell_32 0 rfl ?_
      obtain ⟨o_v0, h⟩ := h
      refine r_geti (pc := 33) C fL_X5_7 dX5_tell_33 o_v0 ?_
      refine r_topi (fun x3 ex3 => ?_)
      have h := h x3 ex3
      exact r_iret (pc := 36) C E ht dX5_tell_36 (by decide) (by decide) h
    | 1, _, hx =>
      refine ⟨36, 37, rfl, by decide, ?_⟩
      have h := h.2.2.1 (by simpa using hx)
      refine r_aload_n (pc := 37) C dX5_tell_37 0 rfl ?_
      obtain ⟨o_v0, h⟩ := h
      refine r_geti (pc := 38) C fL_X5_13 dX5_tell_38 o_v0 ?_
      refine r_topi (fun x4 ex4 => ?_)
      have h := h x4 ex4
      exact r_iret (pc := 41) C E ht dX5_tell_41 (by decide) (by decide) h
    | 2, _, hx =>
      refine ⟨41, 42, rfl, by decide, ?_⟩
      have h := h.2.2.2.1 (by simpa using hx)
      refine r_aload_n (pc := 42) C dX5_tell_42 0 rfl ?_
      obtain ⟨o_v0, h⟩ := h
      refine r_geti (pc := 43) C fL_X5_19 dX5_tell_43 o_v0 ?_
      refine r_topi (fun x5 ex5 => ?_)
      have h := h x5 ex5
      exact r_iret (pc := 46) C E ht dX5_tell_46 (by decide) (by decide) h
    | 3, _, hx =>
      refine ⟨46, 47, rfl, by decide, ?_⟩
      have h := h.2.2.2.2 (by simpa using hx)
      refine r_aload_n (pc := 47) C dX5_tell_47 0 rfl ?_
      obtain ⟨o_v0, h⟩ := h
      refine r_geti (pc := 48) C fL_X5_16 dX5_tell_48 o_v0 ?_
      refine r_topi (fun x6 ex6 => ?_)
      have h := h x6 ex6
      exact r_iret (pc := 51) C E ht dX5_tell_51 (by decide) (by decide) h
    | j + 4, hj, _ => exact absurd hj (by omega)
def P_X5_tell (v0 : Nat) (v1 : Int32) (Q : Int32 → HS → Prop) (S : HS) : Prop := P_X5_tell_0 Q v0 v1 S
theorem c_X5_tell {l : Launch} {Ee : EE} {S : HS} {v0 : Nat} {v1 : Int32} {Q : Int32 → HS → Prop} (h : P_X5_tell v0 v1 Q S) : MI l yX5_tell cX5_tell 2 (some .int) rm_X5_tell Ee S [.ref v0, .int v1] Q :=
  openI (by decide) (Nat.le_of_ble_eq_true rfl) (fun X C E ht hn hE hl => by subst hE; exact r_sub [0, 1] rfl (T_X5_tell_0 C E ht hn h))
def rm_X5_touches : Room := { frames := 0, cells := 0, slots := 0, locals := 0 }
def P_X5_touches_0 (Q : Int32 → HS → Prop) (v0 : Nat) (v1 : Int32) (S : HS) : Prop := ob S v0 5 ∧ (∀ x1 : Int32, x1 = fI S v0 0 → (((x1 = v1) → (Q (1 : Int32) S)) ∧ ((¬ x1 = v1) → (∀ x3 : Int32, x3 = fI S v0 1 → (((¬ x3 = v1) → (Q (0 : Int32) S)) ∧ ((x3 = v1) → (Q (1 : Int32) S)))))))
set_option maxRecDepth 20000 in
set_option maxHeartbeats 4000000 in
theorem T_X5_touches_0 {X : CX} {Q : Int32 → HS → Prop} (C : Cx X cX5_touches RX5 2 rm_X5_touches) (E : ReI X rm_X5_touches (fun r S => bl r ∧ Q r S)) (ht : (xh X).sig.returnType = (some .boolean)) (hn : (xh X).name = yX5_touches.name) {v0 : Nat} {v1 : Int32} {S : HS} (h : P_X5_touches_0 Q v0 v1 S) : WS X 2 0 0 0 [(0, .ref v0), (1, .int v1)] [] S := by
  refine r_aload_n (pc := 0) C dX5_touches_0 0 rfl ?_
  obtain ⟨o_v0, h⟩ := h
  refine r_geti (pc := 1) C fL_X5_7 dX5_touches_1 o_v0 ?_
  refine r_topi (fun x1 ex1 => ?_)
  have h := h x1 ex1
  refine r_iload_n (pc := 4) C dX5_touches_4 1 rfl ?_
  refine r_icmp_eq (pc := 5) C (tgt := 16) dX5_touches_5 (by decide) (fun c2 => ?_) (fun c2 => ?_)
  · have h := h.1 c2
    refine r_iconst (pc := 16) C (v := (1 : Int32)) dX5_touches_16 (by decide) ?_
    refine r_goto (pc := 17) C (tgt := 21) dX5_touches_17 (by decide) ?_
    exact r_zret (pc := 21) C E ht dX5_touches_21 (by decide) (by decide) (Or.inr rfl) h
  · have h := h.2 c2
    refine r_aload_n (pc := 8) C dX5_touches_8 0 rfl ?_
    refine r_geti (pc := 9) C fL_X5_13 dX5_touches_9 o_v0 ?_
    refine r_topi (fun x3 ex3 => ?_)
    have h := h x3 ex3
    refine r_iload_n (pc := 12) C dX5_touches_12 1 rfl ?_
    refine r_icmp_ne (pc := 13) C (tgt := 20) dX5_touches_13 (by decide) (fun c4 => ?_) (fun c4 => ?_)
    · have h := h.1 c4
      refine r_iconst (pc := 20) C (v := (0 : Int32)) dX5_touches_20 (by decide) ?_
      exact r_zret (pc := 21) C E ht dX5_touches_21 (by decide) (by decide) (Or.inl rfl) h
    · have h := h.2 c4
      refine r_iconst (pc := 16) C (v := (1 : Int32)) dX5_touches_16 (by decide) ?_
      refine r_goto (pc := 17) C (tgt := 21) dX5_touches_17 (by decide) ?_
      exact r_zret (pc := 21) C E ht dX5_touches_21 (by decide) (by decide) (Or.inr rfl) h
def P_X5_touches (v0 : Nat) (v1 : Int32) (Q : Int32 → HS → Prop) (S : HS) : Prop := P_X5_touches_0 Q v0 v1 S
theorem c_X5_touches {l : Launch} {Ee : EE} {S : HS} {v0 : Nat} {v1 : Int32} {Q : Int32 → HS → Prop} (h : P_X5_touches v0 v1 Q S) : MI l yX5_touches cX5_touches 2 (some .boolean) rm_X5_touches Ee S [.ref v0, .int v1] (fun r S => bl r ∧ Q r S) :=
  openI (by decide) (Nat.le_of_ble_eq_true rfl) (fun X C E ht hn hE hl => by subst hE; exact r_sub [0, 1] rfl (T_X5_touches_0 C E ht hn h))
def rm_X6_tell : Room := { frames := 0, cells := 0, slots := 0, locals := 0 }
def P_X6_tell_0 (Q : Int32 → HS → Prop) (v0 : Nat) (v1 : Int32) (S : HS) : Prop := (v1.toInt < 0 ∨ 5 < v1.toInt → (ob S v0 6 ∧ (∀ x2 : Int32, x2 = fI S v0 6 → (Q x2 S)))) ∧ (v1.toInt = 0 → (ob S v0 6 ∧ (∀ x3 : Int32, x3 = fI S v0 0 → (Q x3 S)))) ∧ (v1.toInt = 1 → (ob S v0 6 ∧ (∀ x4 : Int32, x4 = fI S v0 1 → (Q x4 S)))) ∧ (v1.toInt = 2 → (ob S v0 6 ∧ (∀ x5 : Int32, x5 = fI S v0 2 → (Q x5 S)))) ∧ (v1.toInt = 3 → (ob S v0 6 ∧ (∀ x6 : Int32, x6 = fI S v0 3 → (Q x6 S)))) ∧ (v1.toInt = 4 → (ob S v0 6 ∧ (∀ x7 : Int32, x7 = fI S v0 4 → (Q x7 S)))) ∧ (v1.toInt = 5 → (ob S v0 6 ∧ (∀ x8 : Int32, x8 = fI S v0 5 → (Q x8 S))))
set_option maxRecDepth 20000 in
set_option maxHeartbeats 4000000 in
theorem T_X6_tell_0 {X : CX} {Q : Int32 → HS → Prop} (C : Cx X cX6_tell RX6 2 rm_X6_tell) (E : ReI X rm_X6_tell Q) (ht : (xh X).sig.returnType = (some .int)) (hn : (xh X).name = yX6_tell.name) {v0 : Nat} {v1 : Int32} {S : HS} (h : P_X6_tell_0 Q v0 v1 S) : WS X 2 0 0 0 [(0, .ref v0), (1, .int v1)] [] S := by
  refine r_iload_n (pc := 0) C dX6_tell_0 1 rfl ?_
  refine r_table (pc := 1) C (tgt := 70) dX6_tell_1 (by decide) (fun c1 => ?_) (fun j hj hx => ?_)
  · have h := h.1 c1
    refine r_aload_n (pc := 70) C dX6_tell_70 0 rfl ?_
    obtain ⟨o_v0, h⟩ := h
    refine r_geti (pc := 71) C fL_X6_30 dX6_tell_71 o_v0 ?_
    refine r_topi (fun x2 ex2 => ?_)
    have h := h x2 ex2
    exact r_iret (pc := 74) C E ht dX6_tell_74 (by decide) (by decide) h
  · match j, hj, hx with
    | 0, _, hx =>
      refine ⟨39, 40, rfl, by decide, ?_⟩
      have h := h.2.1 (by simpa using hx)
      refine r_aload_n (pc := 40) C dX6_tell_40 0 rfl ?_
      obtain ⟨o_v0, h⟩ := h
      refine r_geti (pc := 41) C fL_X6_9 dX6_tell_41 o_v0 ?_
      refine r_topi (fun x3 ex3 => ?_)
      have h := h x3 ex3
      exact r_iret (pc := 44) C E ht dX6_tell_44 (by decide) (by decide) h
    | 1, _, hx =>
      refine ⟨44, 45, rfl, by decide, ?_⟩
      have h := h.2.2.1 (by simpa using hx)
      refine r_aload_n (pc := 45) C dX6_tell_45 0 rfl ?_
      obtain ⟨o_v0, h⟩ := h
      refine r_geti (pc := 46) C fL_X6_15 dX6_tell_46 o_v0 ?_
      refine r_topi (fun x4 ex4 => ?_)
      have h := h x4 ex4
      exact r_iret (pc := 49) C E ht dX6_tell_49 (by decide) (by decide) h
    | 2, _, hx =>
      refine ⟨49, 50, rfl, by decide, ?_⟩
      have h := h.2.2.2.1 (by simpa using hx)
      refine r_aload_n (pc := 50) C dX6_tell_50 0 rfl ?_
      obtain ⟨o_v0, h⟩ := h
      refine r_geti (pc := 51) C fL_X6_18 dX6_tell_51 o_v0 ?_
      refine r_topi (fun x5 ex5 => ?_)
      have h := h x5 ex5
      exact r_iret (pc := 54) C E ht dX6_tell_54 (by decide) (by decide) h
    | 3, _, hx =>
      refine ⟨54, 55, rfl, by decide, ?_⟩
      have h := h.2.2.2.2.1 (by simpa using hx)
      refine r_aload_n (pc := 55) C dX6_tell_55 0 rfl ?_
      obtain ⟨o_v0, h⟩ := h
      refine r_geti (pc := 56) C fL_X6_21 dX6_tell_56 o_v0 ?_
      refine r_topi (fun x6 ex6 => ?_)
      have h := h x6 ex6
      exact r_iret (pc := 59) C E ht dX6_tell_59 (by decide) (by decide) h
    | 4, _, hx =>
      refine ⟨59, 60, rfl, by decide, ?_⟩
      have h := h.2.2.2.2.2.1 (by simpa using hx)
      refine r_aload_n (pc := 60) C dX6_tell_60 0 rfl ?_
      obtain ⟨o_v0, h⟩ := h
      refine r_geti (pc := 61) C fL_X6_24 dX6_tell_61 o_v0 ?_
      refine r_topi (fun x7 ex7 => ?_)
      have h := h x7 ex7
      exact r_iret (pc := 64) C E ht dX6_tell_64 (by decide) (by decide) h
    | 5, _, hx =>
      refine ⟨64, 65, rfl, by decide, ?_⟩
      have h := h.2.2.2.2.2.2 (by simpa using hx)
      refine r_aload_n (pc := 65) C dX6_tell_65 0 rfl ?_
      obtain ⟨o_v0, h⟩ := h
      refine r_geti (pc := 66) C fL_X6_27 dX6_tell_66 o_v0 ?_
      refine r_topi (fun x8 ex8 => ?_)
      have h := h x8 ex8
      exact r_iret (pc := 69) C E ht dX6_tell_69 (by decide) (by decide) h
    | j + 6, hj, _ => exact absurd hj (by omega)
def P_X6_tell (v0 : Nat) (v1 : Int32) (Q : Int32 → HS → Prop) (S : HS) : Prop := P_X6_tell_0 Q v0 v1 S
theorem c_X6_tell {l : Launch} {Ee : EE} {S : HS} {v0 : Nat} {v1 : Int32} {Q : Int32 → HS → Prop} (h : P_X6_tell v0 v1 Q S) : MI l yX6_tell cX6_tell 2 (some .int) rm_X6_tell Ee S [.ref v0, .int v1] Q :=
  openI (by decide) (Nat.le_of_ble_eq_true rfl) (fun X C E ht hn hE hl => by subst hE; exact r_sub [0, 1] rfl (T_X6_tell_0 C E ht hn h))
def rm_X7_addMove : Room := { frames := 0, cells := 0, slots := 0, locals := 0 }
def P_X7_addMove_0 (Q : HS → Prop) (v0 : Nat) (v1 : Int32) (v2 : Int32) (v3 : Int32) (v4 : Int64) (v6 : Int32) (S : HS) : Prop := ob S v0 7 ∧ (∀ x1 : Int32, x1 = fI S v0 11 → (((v1 = x1) → (Q S)) ∧ ((¬ v1 = x1) → (∀ x3 : Int32, x3 = fI S v0 3 → (((x3 < 0) → (Q S)) ∧ ((¬ x3 < 0) → (∀ x5 : Int32, x5 = fI S v0 3 → (((x5 < (224 : Int32)) → (∃ a7 : Nat, fR S v0 4 = some a7 ∧ (∀ x8 : Int32, x8 = fI S v0 3 → (ob S a7 13 ∧ (∀ x10 : Int32, x10 = v1 * (401 : Int32) → (vp_in x8 (hN S a7) ∧ (∀ S11 : HS, S11 = sI S a7 x8.toNatClampNeg x10 → (∃ a12 : Nat, fR S11 v0 5 = some a12 ∧ (∀ x13 : Int32, x13 = fI S11 v0 3 → (ob S11 a12 13 ∧ (∀ x15 : Int32, x15 = (v2 * (401 : Int32)) + v3 → (vp_in x13 (hN S11 a12) ∧ (∀ S16 : HS, S16 = sI S11 a12 x13.toNatClampNeg x15 → (∃ a17 : Nat, fR S16 v0 6 = some a17 ∧ (∀ x18 : Int32, x18 = fI S16 v0 3 → (ob S16 a17 13 ∧ (vp_in x18 (hN S16 a17) ∧ (∀ S20 : HS, S20 = sI S16 a17 x18.toNatClampNeg v3 → (∃ a21 : Nat, fR S20 v0 7 = some a21 ∧ (∀ x22 : Int32, x22 = fI S20 v0 3 → (ob S20 a21 14 ∧ (∀ x24 : Int64, x24 = v4 * (512 : Int64) → (vp_in x22 (hN S20 a21) ∧ (∀ S25 : HS, S25 = sJ S20 a21 x22.toNatClampNeg x24 → (∃ a26 : Nat, fR S25 v0 8 = some a26 ∧ (∀ x27 : Int32, x27 = fI S25 v0 3 → (ob S25 a26 13 ∧ (vp_in x27 (hN S25 a26) ∧ (∀ S29 : HS, S29 = sI S25 a26 x27.toNatClampNeg v6 → (∀ x30 : Int32, x30 = fI S29 v0 3 → (∀ x31 : Int32, x31 = x30 + (1 : Int32) → (∀ S32 : HS, S32 = sI S29 v0 3 x31 → (Q S32))))))))))))))))))))))))))))))))) ∧ ((¬ x5 < (224 : Int32)) → (Q S))))))))))
set_option maxRecDepth 20000 in
set_option maxHeartbeats 4000000 in
theorem T_X7_addMove_0 {X : CX} {Q : HS → Prop} (C : Cx X cX7_addMove RX7 7 rm_X7_addMove) (E : ReV X rm_X7_addMove Q) (ht : (xh X).sig.returnType = none) (hn : (xh X).name = yX7_addMove.name) {v0 : Nat} {v1 : Int32} {v2 : Int32} {v3 : Int32} {v4 : Int64} {v6 : Int32} {S : HS} (h : P_X7_addMove_0 Q v0 v1 v2 v3 v4 v6 S) : WS X 7 0 0 0 [(0, .ref v0), (1, .int v1), (2, .int v2), (3, .int v3), (4, .long v4), (6, .int v6)] [] S := by
  refine r_iload_n (pc := 0) C dX7_addMove_0 1 rfl ?_
  refine r_aload_n (pc := 1) C dX7_addMove_1 0 rfl ?_
  obtain ⟨o_v0, h⟩ := h
  refine r_geti (pc := 2) C fL_X7_44 dX7_addMove_2 o_v0 ?_
  refine r_topi (fun x1 ex1 => ?_)
  have h := h x1 ex1
  refine r_icmp_eq (pc := 5) C (tgt := 25) dX7_addMove_5 (by decide) (fun c2 => ?_) (fun c2 => ?_)
  · have h := h.1 c2
    exact r_vret (pc := 25) C E ht dX7_addMove_25 (by decide) (by decide) h
  · have h := h.2 c2
    refine r_aload_n (pc := 8) C dX7_addMove_8 0 rfl ?_
    refine r_geti (pc := 9) C fL_X7_82 dX7_addMove_9 o_v0 ?_
    refine r_topi (fun x3 ex3 => ?_)
    have h := h x3 ex3
    refine r_if_lt (pc := 12) C (tgt := 25) dX7_addMove_12 (by decide) (fun c4 => ?_) (fun c4 => ?_)
    · have h := h.1 c4
      exact r_vret (pc := 25) C E ht dX7_addMove_25 (by decide) (by decide) h
    · have h := h.2 c4
      refine r_aload_n (pc := 15) C dX7_addMove_15 0 rfl ?_
      refine r_geti (pc := 16) C fL_X7_82 dX7_addMove_16 o_v0 ?_
      refine r_topi (fun x5 ex5 => ?_)
      have h := h x5 ex5
      refine r_sipush (pc := 19) C (v := (224 : Int32)) dX7_addMove_19 (by decide) ?_
      refine r_icmp_lt (pc := 22) C (tgt := 26) dX7_addMove_22 (by decide) (fun c6 => ?_) (fun c6 => ?_)
      · have h := h.1 c6
        refine r_aload_n (pc := 26) C dX7_addMove_26 0 rfl ?_
        obtain ⟨a7, ea7, h⟩ := h
        refine r_getr (pc := 27) C fL_X7_22 dX7_addMove_27 o_v0 ea7 ?_
        refine r_aload_n (pc := 30) C dX7_addMove_30 0 rfl ?_
        refine r_geti (pc := 31) C fL_X7_82 dX7_addMove_31 o_v0 ?_
        refine r_topi (fun x8 ex8 => ?_)
        have h := h x8 ex8
        refine r_iload_n (pc := 34) C dX7_addMove_34 1 rfl ?_
        refine r_sipush (pc := 35) C (v := (401 : Int32)) dX7_addMove_35 (by decide) ?_
        refine r_imul (pc := 38) C dX7_addMove_38 ?_
        obtain ⟨o_a7, h⟩ := h
        refine r_topi (fun x10 ex10 => ?_)
        have h := h x10 ex10
        obtain ⟨i9, h⟩ := h
        refine r_iast (pc := 39) C dX7_addMove_39 o_a7 i9 ?_
        refine r_heap (fun S11 eS11 => ?_)
        have h := h S11 eS11
        have o_a7 := ob_I eS11 o_a7
        have o_v0 := ob_I eS11 o_v0
        refine r_aload_n (pc := 40) C dX7_addMove_40 0 rfl ?_
        obtain ⟨a12, ea12, h⟩ := h
        refine r_getr (pc := 41) C fL_X7_25 dX7_addMove_41 o_v0 ea12 ?_
        refine r_aload_n (pc := 44) C dX7_addMove_44 0 rfl ?_
        refine r_geti (pc := 45) C fL_X7_82 dX7_addMove_45 o_v0 ?_
        refine r_topi (fun x13 ex13 => ?_)
        have h := h x13 ex13
        refine r_iload_n (pc := 48) C dX7_addMove_48 2 rfl ?_
        refine r_sipush (pc := 49) C (v := (401 : Int32)) dX7_addMove_49 (by decide) ?_
        refine r_imul (pc := 52) C dX7_addMove_52 ?_
        refine r_iload_n (pc := 53) C dX7_addMove_53 3 rfl ?_
        refine r_iadd (pc := 54) C dX7_addMove_54 ?_
        obtain ⟨o_a12, h⟩ := h
        refine r_topi (fun x15 ex15 => ?_)
        have h := h x15 ex15
        obtain ⟨i14, h⟩ := h
        refine r_iast (pc := 55) C dX7_addMove_55 o_a12 i14 ?_
        refine r_heap (fun S16 eS16 => ?_)
        have h := h S16 eS16
        have o_a12 := ob_I eS16 o_a12
        have o_a7 := ob_I eS16 o_a7
        have o_v0 := ob_I eS16 o_v0
        refine r_aload_n (pc := 56) C dX7_addMove_56 0 rfl ?_
        obtain ⟨a17, ea17, h⟩ := h
        refine r_getr (pc := 57) C fL_X7_28 dX7_addMove_57 o_v0 ea17 ?_
        refine r_aload_n (pc := 60) C dX7_addMove_60 0 rfl ?_
        refine r_geti (pc := 61) C fL_X7_82 dX7_addMove_61 o_v0 ?_
        refine r_topi (fun x18 ex18 => ?_)
        have h := h x18 ex18
        refine r_iload_n (pc := 64) C dX7_addMove_64 3 rfl ?_
        obtain ⟨o_a17, h⟩ := h
        obtain ⟨i19, h⟩ := h
        refine r_iast (pc := 65) C dX7_addMove_65 o_a17 i19 ?_
        refine r_heap (fun S20 eS20 => ?_)
        have h := h S20 eS20
        have o_a12 := ob_I eS20 o_a12
        have o_a17 := ob_I eS20 o_a17
        have o_a7 := ob_I eS20 o_a7
        have o_v0 := ob_I eS20 o_v0
        refine r_aload_n (pc := 66) C dX7_addMove_66 0 rfl ?_
        obtain ⟨a21, ea21, h⟩ := h
        refine r_getr (pc := 67) C fL_X7_31 dX7_addMove_67 o_v0 ea21 ?_
        refine r_aload_n (pc := 70) C dX7_addMove_70 0 rfl ?_
        refine r_geti (pc := 71) C fL_X7_82 dX7_addMove_71 o_v0 ?_
        refine r_topi (fun x22 ex22 => ?_)
        have h := h x22 ex22
        refine r_lload (pc := 74) C dX7_addMove_74 4 rfl ?_
        refine r_ldc2 (pc := 76) C (v := (512 : Int64)) dX7_addMove_76 g_857 ?_
        refine r_lmul (pc := 79) C dX7_addMove_79 ?_
        obtain ⟨o_a21, h⟩ := h
        refine r_topl (fun x24 ex24 => ?_)
        have h := h x24 ex24
        obtain ⟨i23, h⟩ := h
        refine r_last (pc := 80) C dX7_addMove_80 o_a21 i23 ?_
        refine r_heap (fun S25 eS25 => ?_)
        have h := h S25 eS25
        have o_a12 := ob_J eS25 o_a12
        have o_a17 := ob_J eS25 o_a17
        have o_a21 := ob_J eS25 o_a21
        have o_a7 := ob_J eS25 o_a7
        have o_v0 := ob_J eS25 o_v0
        refine r_aload_n (pc := 81) C dX7_addMove_81 0 rfl ?_
        obtain ⟨a26, ea26, h⟩ := h
        refine r_getr (pc := 82) C fL_X7_34 dX7_addMove_82 o_v0 ea26 ?_
        refine r_aload_n (pc := 85) C dX7_addMove_85 0 rfl ?_
        refine r_geti (pc := 86) C fL_X7_82 dX7_addMove_86 o_v0 ?_
        refine r_topi (fun x27 ex27 => ?_)
        have h := h x27 ex27
        refine r_iload (pc := 89) C dX7_addMove_89 5 rfl ?_
        obtain ⟨o_a26, h⟩ := h
        obtain ⟨i28, h⟩ := h
        refine r_iast (pc := 91) C dX7_addMove_91 o_a26 i28 ?_
        refine r_heap (fun S29 eS29 => ?_)
        have h := h S29 eS29
        have o_a12 := ob_I eS29 o_a12
        have o_a17 := ob_I eS29 o_a17
        have o_a21 := ob_I eS29 o_a21
        have o_a26 := ob_I eS29 o_a26
        have o_a7 := ob_I eS29 o_a7
        have o_v0 := ob_I eS29 o_v0
        refine r_aload_n (pc := 92) C dX7_addMove_92 0 rfl ?_
        refine r_dup (pc := 93) C dX7_addMove_93 rfl ?_
        refine r_geti (pc := 94) C fL_X7_82 dX7_addMove_94 o_v0 ?_
        refine r_topi (fun x30 ex30 => ?_)
        have h := h x30 ex30
        refine r_iconst (pc := 97) C (v := (1 : Int32)) dX7_addMove_97 (by decide) ?_
        refine r_iadd (pc := 98) C dX7_addMove_98 ?_
        refine r_topi (fun x31 ex31 => ?_)
        have h := h x31 ex31
        refine r_puti (pc := 99) C pfL_X7_82 dX7_addMove_99 o_v0 ?_
        refine r_heap (fun S32 eS32 => ?_)
        have h := h S32 eS32
        have o_a12 := ob_I eS32 o_a12
        have o_a17 := ob_I eS32 o_a17
        have o_a21 := ob_I eS32 o_a21
        have o_a26 := ob_I eS32 o_a26
        have o_a7 := ob_I eS32 o_a7
        have o_v0 := ob_I eS32 o_v0
        exact r_vret (pc := 102) C E ht dX7_addMove_102 (by decide) (by decide) h
      · have h := h.2 c6
        exact r_vret (pc := 25) C E ht dX7_addMove_25 (by decide) (by decide) h
def P_X7_addMove (v0 : Nat) (v1 : Int32) (v2 : Int32) (v3 : Int32) (v4 : Int64) (v6 : Int32) (Q : HS → Prop) (S : HS) : Prop := P_X7_addMove_0 Q v0 v1 v2 v3 v4 v6 S
theorem c_X7_addMove {l : Launch} {Ee : EE} {S : HS} {v0 : Nat} {v1 : Int32} {v2 : Int32} {v3 : Int32} {v4 : Int64} {v6 : Int32} {Q : HS → Prop} (h : P_X7_addMove v0 v1 v2 v3 v4 v6 Q S) : MV l yX7_addMove cX7_addMove 7 none rm_X7_addMove Ee S [.ref v0, .int v1, .int v2, .int v3, .long v4, .int v6] Q :=
  openV (by decide) (Nat.le_of_ble_eq_true rfl) (fun X C E ht hn hE hl => by subst hE; exact r_sub [0, 1, 2, 3, 4, 5] rfl (T_X7_addMove_0 C E ht hn h))
def rm_X7_addLeg : Room := { frames := 1, cells := 0, slots := 0, locals := 26 }
def P_X7_addLeg_82 (Q : HS → Prop) (v0 : Nat) (v1 : Nat) (v2 : Int32) (v4 : Int64) (v6 : Int32) (v7 : Int32) (S : HS) : Prop := ob S v1 5 ∧ (P_X5_startOf v1 v2 (fun x3 S1 => Gr S S1 → (P_X5_endOf v1 v2 (fun x6 S4 => Gr S1 S4 → (ob S4 v0 7 ∧ (P_X7_addMove v0 x3 x6 v7 v4 v6 (fun S7 => Gr S4 S7 → (Q S7)) S4))) S1)) S)
set_option maxRecDepth 20000 in
set_option maxHeartbeats 4000000 in
theorem T_X7_addLeg_82 {X : CX} {Q : HS → Prop} (C : Cx X cX7_addLeg RX7 9 rm_X7_addLeg) (E : ReV X rm_X7_addLeg Q) (ht : (xh X).sig.returnType = none) (hn : (xh X).name = yX7_addLeg.name) {v0 : Nat} {v1 : Nat} {v2 : Int32} {v4 : Int64} {v6 : Int32} {v7 : Int32} {S : HS} (h : P_X7_addLeg_82 Q v0 v1 v2 v4 v6 v7 S) : WS X 9 0 0 82 [(0, .ref v0), (1, .ref v1), (2, .int v2), (4, .long v4), (6, .int v6), (7, .int v7)] [] S := by
  refine r_aload_n (pc := 82) C dX7_addLeg_82 0 rfl ?_
  refine r_aload_n (pc := 83) C dX7_addLeg_83 1 rfl ?_
  refine r_iload_n (pc := 84) C dX7_addLeg_84 2 rfl ?_
  obtain ⟨o_v1, h⟩ := h
  refine r_callVi0 (pc := 85) C (rest := [.ref v0]) (a := v1) o_v1 [.int v2] yV_X5_startOf g_858 (c_X5_startOf h) dX7_addLeg_85 rfl rfl (Nat.le_of_ble_eq_true rfl) ⟨by decide, by decide⟩ ⟨by decide, by decide⟩ ⟨rfl, rfl⟩ (fun x3 S1 h g2 => ?_)
  have h := h g2
  have o_v1 := gr_ob g2 o_v1
  refine r_aload_n (pc := 88) C dX7_addLeg_88 1 rfl ?_
  refine r_iload_n (pc := 89) C dX7_addLeg_89 2 rfl ?_
  refine r_callVi0 (pc := 90) C (rest := [.int x3, .ref v0]) (a := v1) o_v1 [.int v2] yV_X5_endOf g_862 (c_X5_endOf h) dX7_addLeg_90 rfl rfl (Nat.le_of_ble_eq_true rfl) ⟨by decide, by decide⟩ ⟨by decide, by decide⟩ ⟨rfl, rfl⟩ (fun x6 S4 h g5 => ?_)
  have h := h g5
  have o_v1 := gr_ob g5 o_v1
  refine r_iload (pc := 93) C dX7_addLeg_93 5 rfl ?_
  refine r_lload (pc := 95) C dX7_addLeg_95 3 rfl ?_
  refine r_iload (pc := 97) C dX7_addLeg_97 4 rfl ?_
  obtain ⟨o_v0, h⟩ := h
  refine r_callVv0 (pc := 99) C (rest := []) (a := v0) o_v0 [.int x3, .int x6, .int v7, .long v4, .int v6] yV_X7_addMove g_866 (c_X7_addMove h) dX7_addLeg_99 rfl rfl (Nat.le_of_ble_eq_true rfl) ⟨by decide, by decide⟩ ⟨by decide, by decide⟩ ⟨rfl, rfl⟩ (fun S7 h g8 => ?_)
  have h := h g8
  have o_v0 := gr_ob g8 o_v0
  have o_v1 := gr_ob g8 o_v1
  exact r_vret (pc := 102) C E ht dX7_addLeg_102 (by decide) (by decide) h
def P_X7_addLeg_0 (Q : HS → Prop) (v0 : Nat) (v1 : Nat) (v2 : Int32) (v3 : Int32) (v4 : Int64) (v6 : Int32) (S : HS) : Prop := ob S v1 5 ∧ (P_X5_minutesAt v1 v3 (fun x3 S1 => Gr S S1 → (ob S1 v0 7 ∧ (∀ x4 : Int32, x4 = fI S1 v0 3 → (∀ x5 : Int32, x5 = x4 - (1 : Int32) → (((x5 < 0) → (P_X7_addLeg_82 Q v0 v1 v2 v4 v6 x3 S1)) ∧ ((¬ x5 < 0) → ((((224 : Int32) ≤ x5) → (P_X7_addLeg_82 Q v0 v1 v2 v4 v6 x3 S1)) ∧ ((¬ (224 : Int32) ≤ x5) → (∃ a8 : Nat, fR S1 v0 8 = some a8 ∧ (ob S1 a8 13 ∧ (vp_in x5 (hN S1 a8) ∧ ∀ x10 : Int32, x10 = fI S1 a8 x5.toNatClampNeg → (∀ x11 : Int32, x11 = x10 / (10 : Int32) → (∀ x12 : Int32, x12 = v6 / (10 : Int32) → (((¬ x11 = x12) → (P_X7_addLeg_82 Q v0 v1 v2 v4 v6 x3 S1)) ∧ ((x11 = x12) → (∃ a14 : Nat, fR S1 v0 6 = some a14 ∧ (ob S1 a14 13 ∧ (vp_in x5 (hN S1 a14) ∧ ∀ x16 : Int32, x16 = fI S1 a14 x5.toNatClampNeg → (((¬ x16 = x3) → (P_X7_addLeg_82 Q v0 v1 v2 v4 v6 x3 S1)) ∧ ((x16 = x3) → (∃ a18 : Nat, fR S1 v0 7 = some a18 ∧ (ob S1 a18 14 ∧ (vp_in x5 (hN S1 a18) ∧ ∀ x20 : Int64, x20 = fJ S1 a18 x5.toNatClampNeg → (((0 < (lg_cmp x20 (v4 * (512 : Int64)))) → (∀ S22 : HS, S22 = sI S1 v0 3 x5 → (P_X7_addLeg_82 Q v0 v1 v2 v4 v6 x3 S22))) ∧ ((¬ 0 < (lg_cmp x20 (v4 * (512 : Int64)))) → (Q S1)))))))))))))))))))))))))) S)
set_option maxRecDepth 20000 in
set_option maxHeartbeats 4000000 in
theorem T_X7_addLeg_0 {X : CX} {Q : HS → Prop} (C : Cx X cX7_addLeg RX7 9 rm_X7_addLeg) (E : ReV X rm_X7_addLeg Q) (ht : (xh X).sig.returnType = none) (hn : (xh X).name = yX7_addLeg.name) {v0 : Nat} {v1 : Nat} {v2 : Int32} {v3 : Int32} {v4 : Int64} {v6 : Int32} {S : HS} (h : P_X7_addLeg_0 Q v0 v1 v2 v3 v4 v6 S) : WS X 9 0 0 0 [(0, .ref v0), (1, .ref v1), (2, .int v2), (3, .int v3), (4, .long v4), (6, .int v6)] [] S := by
  refine r_aload_n (pc := 0) C dX7_addLeg_0 1 rfl ?_
  refine r_iload_n (pc := 1) C dX7_addLeg_1 3 rfl ?_
  obtain ⟨o_v1, h⟩ := h
  refine r_callVi0 (pc := 2) C (rest := []) (a := v1) o_v1 [.int v3] yV_X5_minutesAt g_856 (c_X5_minutesAt h) dX7_addLeg_2 rfl rfl (Nat.le_of_ble_eq_true rfl) ⟨by decide, by decide⟩ ⟨by decide, by decide⟩ ⟨rfl, rfl⟩ (fun x3 S1 h g2 => ?_)
  have h := h g2
  have o_v1 := gr_ob g2 o_v1
  refine r_istore (pc := 5) C dX7_addLeg_5 (by decide) (lv' := [(7, .int x3), (0, .ref v0), (1, .ref v1), (2, .int v2), (3, .int v3), (4, .long v4), (6, .int v6)]) rfl ?_
  refine r_aload_n (pc := 7) C dX7_addLeg_7 1 rfl ?_
  obtain ⟨o_v0, h⟩ := h
  refine r_geti (pc := 8) C fL_X7_82 dX7_addLeg_8 o_v0 ?_
  refine r_topi (fun x4 ex4 => ?_)
  have h := h x4 ex4
  refine r_iconst (pc := 11) C (v := (1 : Int32)) dX7_addLeg_11 (by decide) ?_
  refine r_isub (pc := 12) C dX7_addLeg_12 ?_
  refine r_topi (fun x5 ex5 => ?_)
  have h := h x5 ex5
  refine r_istore (pc := 13) C dX7_addLeg_13 (by decide) (lv' := [(8, .int x5), (7, .int x3), (0, .ref v0), (1, .ref v1), (2, .int v2), (3, .int v3), (4, .long v4), (6, .int v6)]) rfl ?_
  refine r_iload (pc := 15) C dX7_addLeg_15 0 rfl ?_
  refine r_if_lt (pc := 17) C (tgt := 82) dX7_addLeg_17 (by decide) (fun c6 => ?_) (fun c6 => ?_)
  · have h := h.1 c6
    exact r_sub [2, 3, 4, 6, 7, 1] rfl (T_X7_addLeg_82 C E ht hn h)
  · have h := h.2 c6
    refine r_iload (pc := 20) C dX7_addLeg_20 0 rfl ?_
    refine r_sipush (pc := 22) C (v := (224 : Int32)) dX7_addLeg_22 (by decide) ?_
    refine r_icmp_ge (pc := 25) C (tgt := 82) dX7_addLeg_25 (by decide) (fun c7 => ?_) (fun c7 => ?_)
    · have h := h.1 c7
      exact r_sub [2, 3, 4, 6, 7, 1] rfl (T_X7_addLeg_82 C E ht hn h)
    · have h := h.2 c7
      refine r_aload_n (pc := 28) C dX7_addLeg_28 2 rfl ?_
      obtain ⟨a8, ea8, h⟩ := h
      refine r_getr (pc := 29) C fL_X7_34 dX7_addLeg_29 o_v0 ea8 ?_
      refine r_iload (pc := 32) C dX7_addLeg_32 0 rfl ?_
      obtain ⟨o_a8, h⟩ := h
      obtain ⟨i9, h⟩ := h
      refine r_iald (pc := 34) C dX7_addLeg_34 o_a8 i9 ?_
      refine r_topi (fun x10 ex10 => ?_)
      have h := h x10 ex10
      refine r_bipush (pc := 35) C (v := (10 : Int32)) dX7_addLeg_35 (by decide) ?_
      refine r_idiv (pc := 37) C dX7_addLeg_37 (by decide) ?_
      refine r_topi (fun x11 ex11 => ?_)
      have h := h x11 ex11
      refine r_iload (pc := 38) C dX7_addLeg_38 7 rfl ?_
      refine r_bipush (pc := 40) C (v := (10 : Int32)) dX7_addLeg_40 (by decide) ?_
      refine r_idiv (pc := 42) C dX7_addLeg_42 (by decide) ?_
      refine r_topi (fun x12 ex12 => ?_)
      have h := h x12 ex12
      refine r_icmp_ne (pc := 43) C (tgt := 82) dX7_addLeg_43 (by decide) (fun c13 => ?_) (fun c13 => ?_)
      · have h := h.1 c13
        exact r_sub [2, 3, 4, 6, 7, 1] rfl (T_X7_addLeg_82 C E ht hn h)
      · have h := h.2 c13
        refine r_aload_n (pc := 46) C dX7_addLeg_46 2 rfl ?_
        obtain ⟨a14, ea14, h⟩ := h
        refine r_getr (pc := 47) C fL_X7_28 dX7_addLeg_47 o_v0 ea14 ?_
        refine r_iload (pc := 50) C dX7_addLeg_50 0 rfl ?_
        obtain ⟨o_a14, h⟩ := h
        obtain ⟨i15, h⟩ := h
        refine r_iald (pc := 52) C dX7_addLeg_52 o_a14 i15 ?_
        refine r_topi (fun x16 ex16 => ?_)
        have h := h x16 ex16
        refine r_iload (pc := 53) C dX7_addLeg_53 1 rfl ?_
        refine r_icmp_ne (pc := 55) C (tgt := 82) dX7_addLeg_55 (by decide) (fun c17 => ?_) (fun c17 => ?_)
        · have h := h.1 c17
          exact r_sub [2, 3, 4, 6, 7, 1] rfl (T_X7_addLeg_82 C E ht hn h)
        · have h := h.2 c17
          refine r_aload_n (pc := 58) C dX7_addLeg_58 2 rfl ?_
          obtain ⟨a18, ea18, h⟩ := h
          refine r_getr (pc := 59) C fL_X7_31 dX7_addLeg_59 o_v0 ea18 ?_
          refine r_iload (pc := 62) C dX7_addLeg_62 0 rfl ?_
          obtain ⟨o_a18, h⟩ := h
          obtain ⟨i19, h⟩ := h
          refine r_lald (pc := 64) C dX7_addLeg_64 o_a18 i19 ?_
          refine r_topl (fun x20 ex20 => ?_)
          have h := h x20 ex20
          refine r_lload (pc := 65) C dX7_addLeg_65 6 rfl ?_
          refine r_ldc2 (pc := 67) C (v := (512 : Int64)) dX7_addLeg_67 g_857 ?_
          refine r_lmul (pc := 70) C dX7_addLeg_70 ?_
          refine r_lcmp (pc := 71) C dX7_addLeg_71 ?_
          refine r_if_gt (pc := 72) C (tgt := 76) dX7_addLeg_72 (by decide) (fun c21 => ?_) (fun c21 => ?_)
          · have h := h.1 c21
            refine r_aload_n (pc := 76) C dX7_addLeg_76 2 rfl ?_
            refine r_iload (pc := 77) C dX7_addLeg_77 0 rfl ?_
            refine r_puti (pc := 79) C pfL_X7_82 dX7_addLeg_79 o_v0 ?_
            refine r_heap (fun S22 eS22 => ?_)
            have h := h S22 eS22
            have o_a14 := ob_I eS22 o_a14
            have o_a18 := ob_I eS22 o_a18
            have o_a8 := ob_I eS22 o_a8
            have o_v0 := ob_I eS22 o_v0
            have o_v1 := ob_I eS22 o_v1
            exact r_sub [2, 3, 4, 6, 7, 1] rfl (T_X7_addLeg_82 C E ht hn h)
          · have h := h.2 c21
            exact r_vret (pc := 75) C E ht dX7_addLeg_75 (by decide) (by decide) h
def P_X7_addLeg (v0 : Nat) (v1 : Nat) (v2 : Int32) (v3 : Int32) (v4 : Int64) (v6 : Int32) (Q : HS → Prop) (S : HS) : Prop := P_X7_addLeg_0 Q v0 v1 v2 v3 v4 v6 S
theorem c_X7_addLeg {l : Launch} {Ee : EE} {S : HS} {v0 : Nat} {v1 : Nat} {v2 : Int32} {v3 : Int32} {v4 : Int64} {v6 : Int32} {Q : HS → Prop} (h : P_X7_addLeg v0 v1 v2 v3 v4 v6 Q S) : MV l yX7_addLeg cX7_addLeg 9 none rm_X7_addLeg Ee S [.ref v0, .ref v1, .int v2, .int v3, .long v4, .int v6] Q :=
  openV (by decide) (Nat.le_of_ble_eq_true rfl) (fun X C E ht hn hE hl => by subst hE; exact r_sub [0, 1, 2, 3, 4, 5] rfl (T_X7_addLeg_0 C E ht hn h))
def rm_X7_keyOf : Room := { frames := 0, cells := 0, slots := 0, locals := 0 }
def P_X7_keyOf_0 (Q : Int64 → HS → Prop) (v0 : Nat) (v1 : Int32) (v2 : Int32) (S : HS) : Prop := ∀ x1 : Int32, x1 = (v1 * (401 : Int32)) + v2 → (((x1 < 0) → (Q (4611686018427387904 : Int64) S)) ∧ ((¬ x1 < 0) → (ob S v0 7 ∧ (∃ a3 : Nat, fR S v0 1 = some a3 ∧ (ob S a3 14 ∧ ((((nI (hN S a3)) ≤ x1) → (Q (4611686018427387904 : Int64) S)) ∧ ((¬ (nI (hN S a3)) ≤ x1) → (∃ a5 : Nat, fR S v0 1 = some a5 ∧ (ob S a5 14 ∧ (vp_in x1 (hN S a5) ∧ ∀ x7 : Int64, x7 = fJ S a5 x1.toNatClampNeg → (Q x7 S)))))))))))
set_option maxRecDepth 20000 in
set_option maxHeartbeats 4000000 in
theorem T_X7_keyOf_0 {X : CX} {Q : Int64 → HS → Prop} (C : Cx X cX7_keyOf RX7 4 rm_X7_keyOf) (E : ReJ X rm_X7_keyOf Q) (ht : (xh X).sig.returnType = (some .long)) (hn : (xh X).name = yX7_keyOf.name) {v0 : Nat} {v1 : Int32} {v2 : Int32} {S : HS} (h : P_X7_keyOf_0 Q v0 v1 v2 S) : WS X 4 0 0 0 [(0, .ref v0), (1, .int v1), (2, .int v2)] [] S := by
  refine r_iload_n (pc := 0) C dX7_keyOf_0 1 rfl ?_
  refine r_sipush (pc := 1) C (v := (401 : Int32)) dX7_keyOf_1 (by decide) ?_
  refine r_imul (pc := 4) C dX7_keyOf_4 ?_
  refine r_iload_n (pc := 5) C dX7_keyOf_5 2 rfl ?_
  refine r_iadd (pc := 6) C dX7_keyOf_6 ?_
  refine r_topi (fun x1 ex1 => ?_)
  have h := h x1 ex1
  refine r_istore_n (pc := 7) C dX7_keyOf_7 rfl (by decide) (lv' := [(3, .int x1), (0, .ref v0), (1, .int v1), (2, .int v2)]) rfl ?_
  refine r_iload_n (pc := 8) C dX7_keyOf_8 0 rfl ?_
  refine r_if_lt (pc := 9) C (tgt := 30) dX7_keyOf_9 (by decide) (fun c2 => ?_) (fun c2 => ?_)
  · have h := h.1 c2
    refine r_ldc2 (pc := 30) C (v := (4611686018427387904 : Int64)) dX7_keyOf_30 g_887 ?_
    exact r_lret (pc := 33) C E ht dX7_keyOf_33 (by decide) (by decide) h
  · have h := h.2 c2
    refine r_iload_n (pc := 12) C dX7_keyOf_12 0 rfl ?_
    refine r_aload_n (pc := 13) C dX7_keyOf_13 1 rfl ?_
    obtain ⟨o_v0, h⟩ := h
    obtain ⟨a3, ea3, h⟩ := h
    refine r_getr (pc := 14) C fL_X7_15 dX7_keyOf_14 o_v0 ea3 ?_
    obtain ⟨o_a3, h⟩ := h
    refine r_alen14 (pc := 17) C dX7_keyOf_17 o_a3 ?_
    refine r_icmp_ge (pc := 18) C (tgt := 30) dX7_keyOf_18 (by decide) (fun c4 => ?_) (fun c4 => ?_)
    · have h := h.1 c4
      refine r_ldc2 (pc := 30) C (v := (4611686018427387904 : Int64)) dX7_keyOf_30 g_887 ?_
      exact r_lret (pc := 33) C E ht dX7_keyOf_33 (by decide) (by decide) h
    · have h := h.2 c4
      refine r_aload_n (pc := 21) C dX7_keyOf_21 1 rfl ?_
      obtain ⟨a5, ea5, h⟩ := h
      refine r_getr (pc := 22) C fL_X7_15 dX7_keyOf_22 o_v0 ea5 ?_
      refine r_iload_n (pc := 25) C dX7_keyOf_25 0 rfl ?_
      obtain ⟨o_a5, h⟩ := h
      obtain ⟨i6, h⟩ := h
      refine r_lald (pc := 26) C dX7_keyOf_26 o_a5 i6 ?_
      refine r_topl (fun x7 ex7 => ?_)
      have h := h x7 ex7
      refine r_goto (pc := 27) C (tgt := 33) dX7_keyOf_27 (by decide) ?_
      exact r_lret (pc := 33) C E ht dX7_keyOf_33 (by decide) (by decide) h
def P_X7_keyOf (v0 : Nat) (v1 : Int32) (v2 : Int32) (Q : Int64 → HS → Prop) (S : HS) : Prop := P_X7_keyOf_0 Q v0 v1 v2 S
theorem c_X7_keyOf {l : Launch} {Ee : EE} {S : HS} {v0 : Nat} {v1 : Int32} {v2 : Int32} {Q : Int64 → HS → Prop} (h : P_X7_keyOf v0 v1 v2 Q S) : MJ l yX7_keyOf cX7_keyOf 4 (some .long) rm_X7_keyOf Ee S [.ref v0, .int v1, .int v2] Q :=
  openJ (by decide) (Nat.le_of_ble_eq_true rfl) (fun X C E ht hn hE hl => by subst hE; exact r_sub [0, 1, 2] rfl (T_X7_keyOf_0 C E ht hn h))
def rm_X7_endFrom : Room := { frames := 1, cells := 0, slots := 0, locals := 23 }
def P_X7_endFrom_0 (Q : Int32 → HS → Prop) (v0 : Nat) (v1 : Int32) (v2 : Int32) (S : HS) : Prop := ob S v0 7 ∧ (P_X7_keyOf v0 v1 v2 (fun x3 S1 => Gr S S1 → (∀ x4 : Int64, x4 = x3 - x3 / (512 : Int64) * (512 : Int64) → (Q x4.toInt32 S1))) S)
set_option maxRecDepth 20000 in
set_option maxHeartbeats 4000000 in
theorem T_X7_endFrom_0 {X : CX} {Q : Int32 → HS → Prop} (C : Cx X cX7_endFrom RX7 3 rm_X7_endFrom) (E : ReI X rm_X7_endFrom Q) (ht : (xh X).sig.returnType = (some .int)) (hn : (xh X).name = yX7_endFrom.name) {v0 : Nat} {v1 : Int32} {v2 : Int32} {S : HS} (h : P_X7_endFrom_0 Q v0 v1 v2 S) : WS X 3 0 0 0 [(0, .ref v0), (1, .int v1), (2, .int v2)] [] S := by
  refine r_aload_n (pc := 0) C dX7_endFrom_0 0 rfl ?_
  refine r_iload_n (pc := 1) C dX7_endFrom_1 1 rfl ?_
  refine r_iload_n (pc := 2) C dX7_endFrom_2 2 rfl ?_
  obtain ⟨o_v0, h⟩ := h
  refine r_callVl0 (pc := 3) C (rest := []) (a := v0) o_v0 [.int v1, .int v2] yV_X7_keyOf g_892 (c_X7_keyOf h) dX7_endFrom_3 rfl rfl (Nat.le_of_ble_eq_true rfl) ⟨by decide, by decide⟩ ⟨by decide, by decide⟩ ⟨rfl, rfl⟩ (fun x3 S1 h g2 => ?_)
  have h := h g2
  have o_v0 := gr_ob g2 o_v0
  refine r_ldc2 (pc := 6) C (v := (512 : Int64)) dX7_endFrom_6 g_857 ?_
  refine r_lrem (pc := 9) C dX7_endFrom_9 (by decide) ?_
  refine r_topl (fun x4 ex4 => ?_)
  have h := h x4 ex4
  refine r_l2i (pc := 10) C dX7_endFrom_10 ?_
  exact r_iret (pc := 11) C E ht dX7_endFrom_11 (by decide) (by decide) h
def P_X7_endFrom (v0 : Nat) (v1 : Int32) (v2 : Int32) (Q : Int32 → HS → Prop) (S : HS) : Prop := P_X7_endFrom_0 Q v0 v1 v2 S
theorem c_X7_endFrom {l : Launch} {Ee : EE} {S : HS} {v0 : Nat} {v1 : Int32} {v2 : Int32} {Q : Int32 → HS → Prop} (h : P_X7_endFrom v0 v1 v2 Q S) : MI l yX7_endFrom cX7_endFrom 3 (some .int) rm_X7_endFrom Ee S [.ref v0, .int v1, .int v2] Q :=
  openI (by decide) (Nat.le_of_ble_eq_true rfl) (fun X C E ht hn hE hl => by subst hE; exact r_sub [0, 1, 2] rfl (T_X7_endFrom_0 C E ht hn h))
def rm_X7_forget : Room := { frames := 0, cells := 0, slots := 0, locals := 0 }
def P_X7_forget_0 (Q : HS → Prop) (v0 : Nat) (S : HS) : Prop := ob S v0 7 ∧ (∀ S1 : HS, S1 = sI S v0 10 (-1 : Int32) → (Q S1))
set_option maxRecDepth 20000 in
set_option maxHeartbeats 4000000 in
theorem T_X7_forget_0 {X : CX} {Q : HS → Prop} (C : Cx X cX7_forget RX7 1 rm_X7_forget) (E : ReV X rm_X7_forget Q) (ht : (xh X).sig.returnType = none) (hn : (xh X).name = yX7_forget.name) {v0 : Nat} {S : HS} (h : P_X7_forget_0 Q v0 S) : WS X 1 0 0 0 [(0, .ref v0)] [] S := by
  refine r_aload_n (pc := 0) C dX7_forget_0 0 rfl ?_
  refine r_iconst (pc := 1) C (v := (-1 : Int32)) dX7_forget_1 (by decide) ?_
  obtain ⟨o_v0, h⟩ := h
  refine r_puti (pc := 2) C pfL_X7_41 dX7_forget_2 o_v0 ?_
  refine r_heap (fun S1 eS1 => ?_)
  have h := h S1 eS1
  have o_v0 := ob_I eS1 o_v0
  exact r_vret (pc := 5) C E ht dX7_forget_5 (by decide) (by decide) h
def P_X7_forget (v0 : Nat) (Q : HS → Prop) (S : HS) : Prop := P_X7_forget_0 Q v0 S
theorem c_X7_forget {l : Launch} {Ee : EE} {S : HS} {v0 : Nat} {Q : HS → Prop} (h : P_X7_forget v0 Q S) : MV l yX7_forget cX7_forget 1 none rm_X7_forget Ee S [.ref v0] Q :=
  openV (by decide) (Nat.le_of_ble_eq_true rfl) (fun X C E ht hn hE hl => by subst hE; exact r_sub [0] rfl (T_X7_forget_0 C E ht hn h))
def rm_X7_init : Room := { frames := 1, cells := 8, slots := 0, locals := 20 }
def P_X7_init_0 (Q : HS → Prop) (v0 : Nat) (S : HS) : Prop := ∀ a1 : Nat, a1 ∉ hL S → ∀ S2 : HS, S2 = nW S a1 13 0 → (ob S2 v0 7 ∧ (∀ S3 : HS, S3 = sR S2 v0 0 (some a1) → (∀ a4 : Nat, a4 ∉ hL S3 → ∀ S5 : HS, S5 = nW S3 a4 14 0 → (∀ S6 : HS, S6 = sR S5 v0 1 (some a4) → (∀ a7 : Nat, a7 ∉ hL S6 → ∀ S8 : HS, S8 = nW S6 a7 13 0 → (∀ S9 : HS, S9 = sR S8 v0 2 (some a7) → (∀ a10 : Nat, a10 ∉ hL S9 → ∀ S11 : HS, S11 = nW S9 a10 13 0 → (∀ S12 : HS, S12 = sR S11 v0 4 (some a10) → (∀ a13 : Nat, a13 ∉ hL S12 → ∀ S14 : HS, S14 = nW S12 a13 13 0 → (∀ S15 : HS, S15 = sR S14 v0 5 (some a13) → (∀ a16 : Nat, a16 ∉ hL S15 → ∀ S17 : HS, S17 = nW S15 a16 13 0 → (∀ S18 : HS, S18 = sR S17 v0 6 (some a16) → (∀ a19 : Nat, a19 ∉ hL S18 → ∀ S20 : HS, S20 = nW S18 a19 14 0 → (∀ S21 : HS, S21 = sR S20 v0 7 (some a19) → (∀ a22 : Nat, a22 ∉ hL S21 → ∀ S23 : HS, S23 = nW S21 a22 13 0 → (∀ S24 : HS, S24 = sR S23 v0 8 (some a22) → (∀ S25 : HS, S25 = sI S24 v0 9 (-1 : Int32) → (∀ S26 : HS, S26 = sI S25 v0 10 (-1 : Int32) → (∀ S27 : HS, S27 = sI S26 v0 11 (-1 : Int32) → (∀ S28 : HS, S28 = sI S27 v0 12 (-1 : Int32) → (Q S28)))))))))))))))))))))
set_option maxRecDepth 20000 in
set_option maxHeartbeats 4000000 in
theorem T_X7_init_0 {X : CX} {Q : HS → Prop} (C : Cx X cX7_init RX7 1 rm_X7_init) (E : ReV X rm_X7_init Q) (ht : (xh X).sig.returnType = none) (hn : (xh X).name = yX7_init.name) {v0 : Nat} {S : HS} (h : P_X7_init_0 Q v0 S) : WS X 1 0 0 0 [(0, .ref v0)] [] S := by
  refine r_aload_n (pc := 0) C dX7_init_0 0 rfl ?_
  refine r_objinit (pc := 1) C g_286 dX7_init_1 (by decide) (Nat.le_of_ble_eq_true rfl) ?_
  refine r_aload_n (pc := 4) C dX7_init_4 0 rfl ?_
  refine r_iconst (pc := 5) C (v := (0 : Int32)) dX7_init_5 (by decide) ?_
  refine r_newa13 (pc := 6) C (N := 0) g_72 dX7_init_6 (by decide) (by decide) (by decide) (by decide) (by decide) (fun a1 q43 => ?_)
  refine r_heap (fun S2 eS2 => ?_)
  have h := h a1 q43 S2 eS2
  have g44 := gr_of_new eS2 q43
  have o_a1 := ob_of_new eS2
  obtain ⟨o_v0, h⟩ := h
  refine r_putr (pc := 8) C pfL_X7_9 dX7_init_8 o_v0 ?_
  refine r_heap (fun S3 eS3 => ?_)
  have h := h S3 eS3
  have o_a1 := ob_R eS3 o_a1
  have o_v0 := ob_R eS3 o_v0
  refine r_aload_n (pc := 11) C dX7_init_11 0 rfl ?_
  refine r_iconst (pc := 12) C (v := (0 : Int32)) dX7_init_12 (by decide) ?_
  refine r_newa14 (pc := 13) C (N := 0) g_266 dX7_init_13 (by decide) (by decide) (by decide) (by decide) (by decide) (fun a4 q41 => ?_)
  refine r_heap (fun S5 eS5 => ?_)
  have h := h a4 q41 S5 eS5
  have g42 := gr_of_new eS5 q41
  have o_a4 := ob_of_new eS5
  have o_a1 := gr_ob g42 o_a1
  have o_v0 := gr_ob g42 o_v0
  refine r_putr (pc := 15) C pfL_X7_15 dX7_init_15 o_v0 ?_
  refine r_heap (fun S6 eS6 => ?_)
  have h := h S6 eS6
  have o_a1 := ob_R eS6 o_a1
  have o_a4 := ob_R eS6 o_a4
  have o_v0 := ob_R eS6 o_v0
  refine r_aload_n (pc := 18) C dX7_init_18 0 rfl ?_
  refine r_iconst (pc := 19) C (v := (0 : Int32)) dX7_init_19 (by decide) ?_
  refine r_newa13 (pc := 20) C (N := 0) g_72 dX7_init_20 (by decide) (by decide) (by decide) (by decide) (by decide) (fun a7 q39 => ?_)
  refine r_heap (fun S8 eS8 => ?_)
  have h := h a7 q39 S8 eS8
  have g40 := gr_of_new eS8 q39
  have o_a7 := ob_of_new eS8
  have o_a1 := gr_ob g40 o_a1
  have o_a4 := gr_ob g40 o_a4
  have o_v0 := gr_ob g40 o_v0
  refine r_putr (pc := 22) C pfL_X7_19 dX7_init_22 o_v0 ?_
  refine r_heap (fun S9 eS9 => ?_)
  have h := h S9 eS9
  have o_a1 := ob_R eS9 o_a1
  have o_a4 := ob_R eS9 o_a4
  have o_a7 := ob_R eS9 o_a7
  have o_v0 := ob_R eS9 o_v0
  refine r_aload_n (pc := 25) C dX7_init_25 0 rfl ?_
  refine r_iconst (pc := 26) C (v := (0 : Int32)) dX7_init_26 (by decide) ?_
  refine r_newa13 (pc := 27) C (N := 0) g_72 dX7_init_27 (by decide) (by decide) (by decide) (by decide) (by decide) (fun a10 q37 => ?_)
  refine r_heap (fun S11 eS11 => ?_)
  have h := h a10 q37 S11 eS11
  have g38 := gr_of_new eS11 q37
  have o_a10 := ob_of_new eS11
  have o_a1 := gr_ob g38 o_a1
  have o_a4 := gr_ob g38 o_a4
  have o_a7 := gr_ob g38 o_a7
  have o_v0 := gr_ob g38 o_v0
  refine r_putr (pc := 29) C pfL_X7_22 dX7_init_29 o_v0 ?_
  refine r_heap (fun S12 eS12 => ?_)
  have h := h S12 eS12
  have o_a1 := ob_R eS12 o_a1
  have o_a10 := ob_R eS12 o_a10
  have o_a4 := ob_R eS12 o_a4
  have o_a7 := ob_R eS12 o_a7
  have o_v0 := ob_R eS12 o_v0
  refine r_aload_n (pc := 32) C dX7_init_32 0 rfl ?_
  refine r_iconst (pc := 33) C (v := (0 : Int32)) dX7_init_33 (by decide) ?_
  refine r_newa13 (pc := 34) C (N := 0) g_72 dX7_init_34 (by decide) (by decide) (by decide) (by decide) (by decide) (fun a13 q35 => ?_)
  refine r_heap (fun S14 eS14 => ?_)
  have h := h a13 q35 S14 eS14
  have g36 := gr_of_new eS14 q35
  have o_a13 := ob_of_new eS14
  have o_a1 := gr_ob g36 o_a1
  have o_a10 := gr_ob g36 o_a10
  have o_a4 := gr_ob g36 o_a4
  have o_a7 := gr_ob g36 o_a7
  have o_v0 := gr_ob g36 o_v0
  refine r_putr (pc := 36) C pfL_X7_25 dX7_init_36 o_v0 ?_
  refine r_heap (fun S15 eS15 => ?_)
  have h := h S15 eS15
  have o_a1 := ob_R eS15 o_a1
  have o_a10 := ob_R eS15 o_a10
  have o_a13 := ob_R eS15 o_a13
  have o_a4 := ob_R eS15 o_a4
  have o_a7 := ob_R eS15 o_a7
  have o_v0 := ob_R eS15 o_v0
  refine r_aload_n (pc := 39) C dX7_init_39 0 rfl ?_
  refine r_iconst (pc := 40) C (v := (0 : Int32)) dX7_init_40 (by decide) ?_
  refine r_newa13 (pc := 41) C (N := 0) g_72 dX7_init_41 (by decide) (by decide) (by decide) (by decide) (by decide) (fun a16 q33 => ?_)
  refine r_heap (fun S17 eS17 => ?_)
  have h := h a16 q33 S17 eS17
  have g34 := gr_of_new eS17 q33
  have o_a16 := ob_of_new eS17
  have o_a1 := gr_ob g34 o_a1
  have o_a10 := gr_ob g34 o_a10
  have o_a13 := gr_ob g34 o_a13
  have o_a4 := gr_ob g34 o_a4
  have o_a7 := gr_ob g34 o_a7
  have o_v0 := gr_ob g34 o_v0
  refine r_putr (pc := 43) C pfL_X7_28 dX7_init_43 o_v0 ?_
  refine r_heap (fun S18 eS18 => ?_)
  have h := h S18 eS18
  have o_a1 := ob_R eS18 o_a1
  have o_a10 := ob_R eS18 o_a10
  have o_a13 := ob_R eS18 o_a13
  have o_a16 := ob_R eS18 o_a16
  have o_a4 := ob_R eS18 o_a4
  have o_a7 := ob_R eS18 o_a7
  have o_v0 := ob_R eS18 o_v0
  refine r_aload_n (pc := 46) C dX7_init_46 0 rfl ?_
  refine r_iconst (pc := 47) C (v := (0 : Int32)) dX7_init_47 (by decide) ?_
  refine r_newa14 (pc := 48) C (N := 0) g_266 dX7_init_48 (by decide) (by decide) (by decide) (by decide) (by decide) (fun a19 q31 => ?_)
  refine r_heap (fun S20 eS20 => ?_)
  have h := h a19 q31 S20 eS20
  have g32 := gr_of_new eS20 q31
  have o_a19 := ob_of_new eS20
  have o_a1 := gr_ob g32 o_a1
  have o_a10 := gr_ob g32 o_a10
  have o_a13 := gr_ob g32 o_a13
  have o_a16 := gr_ob g32 o_a16
  have o_a4 := gr_ob g32 o_a4
  have o_a7 := gr_ob g32 o_a7
  have o_v0 := gr_ob g32 o_v0
  refine r_putr (pc := 50) C pfL_X7_31 dX7_init_50 o_v0 ?_
  refine r_heap (fun S21 eS21 => ?_)
  have h := h S21 eS21
  have o_a1 := ob_R eS21 o_a1
  have o_a10 := ob_R eS21 o_a10
  have o_a13 := ob_R eS21 o_a13
  have o_a16 := ob_R eS21 o_a16
  have o_a19 := ob_R eS21 o_a19
  have o_a4 := ob_R eS21 o_a4
  have o_a7 := ob_R eS21 o_a7
  have o_v0 := ob_R eS21 o_v0
  refine r_aload_n (pc := 53) C dX7_init_53 0 rfl ?_
  refine r_iconst (pc := 54) C (v := (0 : Int32)) dX7_init_54 (by decide) ?_
  refine r_newa13 (pc := 55) C (N := 0) g_72 dX7_init_55 (by decide) (by decide) (by decide) (by decide) (by decide) (fun a22 q29 => ?_)
  refine r_heap (fun S23 eS23 => ?_)
  have h := h a22 q29 S23 eS23
  have g30 := gr_of_new eS23 q29
  have o_a22 := ob_of_new eS23
  have o_a1 := gr_ob g30 o_a1
  have o_a10 := gr_ob g30 o_a10
  have o_a13 := gr_ob g30 o_a13
  have o_a16 := gr_ob g30 o_a16
  have o_a19 := gr_ob g30 o_a19
  have o_a4 := gr_ob g30 o_a4
  have o_a7 := gr_ob g30 o_a7
  have o_v0 := gr_ob g30 o_v0
  refine r_putr (pc := 57) C pfL_X7_34 dX7_init_57 o_v0 ?_
  refine r_heap (fun S24 eS24 => ?_)
  have h := h S24 eS24
  have o_a1 := ob_R eS24 o_a1
  have o_a10 := ob_R eS24 o_a10
  have o_a13 := ob_R eS24 o_a13
  have o_a16 := ob_R eS24 o_a16
  have o_a19 := ob_R eS24 o_a19
  have o_a22 := ob_R eS24 o_a22
  have o_a4 := ob_R eS24 o_a4
  have o_a7 := ob_R eS24 o_a7
  have o_v0 := ob_R eS24 o_v0
  refine r_aload_n (pc := 60) C dX7_init_60 0 rfl ?_
  refine r_iconst (pc := 61) C (v := (-1 : Int32)) dX7_init_61 (by decide) ?_
  refine r_puti (pc := 62) C pfL_X7_37 dX7_init_62 o_v0 ?_
  refine r_heap (fun S25 eS25 => ?_)
  have h := h S25 eS25
  have o_a1 := ob_I eS25 o_a1
  have o_a10 := ob_I eS25 o_a10
  have o_a13 := ob_I eS25 o_a13
  have o_a16 := ob_I eS25 o_a16
  have o_a19 := ob_I eS25 o_a19
  have o_a22 := ob_I eS25 o_a22
  have o_a4 := ob_I eS25 o_a4
  have o_a7 := ob_I eS25 o_a7
  have o_v0 := ob_I eS25 o_v0
  refine r_aload_n (pc := 65) C dX7_init_65 0 rfl ?_
  refine r_iconst (pc := 66) C (v := (-1 : Int32)) dX7_init_66 (by decide) ?_
  refine r_puti (pc := 67) C pfL_X7_41 dX7_init_67 o_v0 ?_
  refine r_heap (fun S26 eS26 => ?_)
  have h := h S26 eS26
  have o_a1 := ob_I eS26 o_a1
  have o_a10 := ob_I eS26 o_a10
  have o_a13 := ob_I eS26 o_a13
  have o_a16 := ob_I eS26 o_a16
  have o_a19 := ob_I eS26 o_a19
  have o_a22 := ob_I eS26 o_a22
  have o_a4 := ob_I eS26 o_a4
  have o_a7 := ob_I eS26 o_a7
  have o_v0 := ob_I eS26 o_v0
  refine r_aload_n (pc := 70) C dX7_init_70 0 rfl ?_
  refine r_iconst (pc := 71) C (v := (-1 : Int32)) dX7_init_71 (by decide) ?_
  refine r_puti (pc := 72) C pfL_X7_44 dX7_init_72 o_v0 ?_
  refine r_heap (fun S27 eS27 => ?_)
  have h := h S27 eS27
  have o_a1 := ob_I eS27 o_a1
  have o_a10 := ob_I eS27 o_a10
  have o_a13 := ob_I eS27 o_a13
  have o_a16 := ob_I eS27 o_a16
  have o_a19 := ob_I eS27 o_a19
  have o_a22 := ob_I eS27 o_a22
  have o_a4 := ob_I eS27 o_a4
  have o_a7 := ob_I eS27 o_a7
  have o_v0 := ob_I eS27 o_v0
  refine r_aload_n (pc := 75) C dX7_init_75 0 rfl ?_
  refine r_iconst (pc := 76) C (v := (-1 : Int32)) dX7_init_76 (by decide) ?_
  refine r_puti (pc := 77) C pfL_X7_47 dX7_init_77 o_v0 ?_
  refine r_heap (fun S28 eS28 => ?_)
  have h := h S28 eS28
  have o_a1 := ob_I eS28 o_a1
  have o_a10 := ob_I eS28 o_a10
  have o_a13 := ob_I eS28 o_a13
  have o_a16 := ob_I eS28 o_a16
  have o_a19 := ob_I eS28 o_a19
  have o_a22 := ob_I eS28 o_a22
  have o_a4 := ob_I eS28 o_a4
  have o_a7 := ob_I eS28 o_a7
  have o_v0 := ob_I eS28 o_v0
  exact r_vret (pc := 80) C E ht dX7_init_80 (by decide) (by decide) h
def P_X7_init (v0 : Nat) (Q : HS → Prop) (S : HS) : Prop := P_X7_init_0 Q v0 S
theorem c_X7_init {l : Launch} {Ee : EE} {S : HS} {v0 : Nat} {Q : HS → Prop} (h : P_X7_init v0 Q S) : MV l yX7_init cX7_init 1 none rm_X7_init Ee S [.ref v0] Q :=
  openV (by decide) (Nat.le_of_ble_eq_true rfl) (fun X C E ht hn hE hl => by subst hE; exact r_sub [0] rfl (T_X7_init_0 C E ht hn h))
end
section
def rm_X7_isOpen : Room := { frames := 1, cells := 0, slots := 0, locals := 23 }
def P_X7_isOpen_0 (Q : Int32 → HS → Prop) (v0 : Nat) (v1 : Int32) (v2 : Int32) (S : HS) : Prop := ob S v0 7 ∧ (P_X7_keyOf v0 v1 v2 (fun x3 S1 => Gr S S1 → ((((lg_cmp x3 (4611686018427387904 : Int64)) = 0) → (Q (0 : Int32) S1)) ∧ ((¬ (lg_cmp x3 (4611686018427387904 : Int64)) = 0) → (Q (1 : Int32) S1)))) S)
set_option maxRecDepth 20000 in
set_option maxHeartbeats 4000000 in
theorem T_X7_isOpen_0 {X : CX} {Q : Int32 → HS → Prop} (C : Cx X cX7_isOpen RX7 3 rm_X7_isOpen) (E : ReI X rm_X7_isOpen (fun r S => bl r ∧ Q r S)) (ht : (xh X).sig.returnType = (some .boolean)) (hn : (xh X).name = yX7_isOpen.name) {v0 : Nat} {v1 : Int32} {v2 : Int32} {S : HS} (h : P_X7_isOpen_0 Q v0 v1 v2 S) : WS X 3 0 0 0 [(0, .ref v0), (1, .int v1), (2, .int v2)] [] S := by
  refine r_aload_n (pc := 0) C dX7_isOpen_0 0 rfl ?_
  refine r_iload_n (pc := 1) C dX7_isOpen_1 1 rfl ?_
  refine r_iload_n (pc := 2) C dX7_isOpen_2 2 rfl ?_
  obtain ⟨o_v0, h⟩ := h
  refine r_callVl0 (pc := 3) C (rest := []) (a := v0) o_v0 [.int v1, .int v2] yV_X7_keyOf g_892 (c_X7_keyOf h) dX7_isOpen_3 rfl rfl (Nat.le_of_ble_eq_true rfl) ⟨by decide, by decide⟩ ⟨by decide, by decide⟩ ⟨rfl, rfl⟩ (fun x3 S1 h g2 => ?_)
  have h := h g2
  have o_v0 := gr_ob g2 o_v0
  refine r_ldc2 (pc := 6) C (v := (4611686018427387904 : Int64)) dX7_isOpen_6 g_887 ?_
  refine r_lcmp (pc := 9) C dX7_isOpen_9 ?_
  refine r_if_eq (pc := 10) C (tgt := 17) dX7_isOpen_10 (by decide) (fun c4 => ?_) (fun c4 => ?_)
  · have h := h.1 c4
    refine r_iconst (pc := 17) C (v := (0 : Int32)) dX7_isOpen_17 (by decide) ?_
    exact r_zret (pc := 18) C E ht dX7_isOpen_18 (by decide) (by decide) (Or.inl rfl) h
  · have h := h.2 c4
    refine r_iconst (pc := 13) C (v := (1 : Int32)) dX7_isOpen_13 (by decide) ?_
    refine r_goto (pc := 14) C (tgt := 18) dX7_isOpen_14 (by decide) ?_
    exact r_zret (pc := 18) C E ht dX7_isOpen_18 (by decide) (by decide) (Or.inr rfl) h
def P_X7_isOpen (v0 : Nat) (v1 : Int32) (v2 : Int32) (Q : Int32 → HS → Prop) (S : HS) : Prop := P_X7_isOpen_0 Q v0 v1 v2 S
theorem c_X7_isOpen {l : Launch} {Ee : EE} {S : HS} {v0 : Nat} {v1 : Int32} {v2 : Int32} {Q : Int32 → HS → Prop} (h : P_X7_isOpen v0 v1 v2 Q S) : MI l yX7_isOpen cX7_isOpen 3 (some .boolean) rm_X7_isOpen Ee S [.ref v0, .int v1, .int v2] (fun r S => bl r ∧ Q r S) :=
  openI (by decide) (Nat.le_of_ble_eq_true rfl) (fun X C E ht hn hE hl => by subst hE; exact r_sub [0, 1, 2] rfl (T_X7_isOpen_0 C E ht hn h))
def rm_X7_makeRows : Room := { frames := 0, cells := 8, slots := 7937, locals := 0 }
def P_X7_makeRows_0 (Q : HS → Prop) (v0 : Nat) (S : HS) : Prop := ∀ a1 : Nat, a1 ∉ hL S → ∀ S2 : HS, S2 = nW S a1 13 401 → (ob S2 v0 7 ∧ (∀ S3 : HS, S3 = sR S2 v0 0 (some a1) → (∀ a4 : Nat, a4 ∉ hL S3 → ∀ S5 : HS, S5 = nW S3 a4 14 3208 → (∀ S6 : HS, S6 = sR S5 v0 1 (some a4) → (∀ a7 : Nat, a7 ∉ hL S6 → ∀ S8 : HS, S8 = nW S6 a7 13 3208 → (∀ S9 : HS, S9 = sR S8 v0 2 (some a7) → (∀ a10 : Nat, a10 ∉ hL S9 → ∀ S11 : HS, S11 = nW S9 a10 13 224 → (∀ S12 : HS, S12 = sR S11 v0 4 (some a10) → (∀ a13 : Nat, a13 ∉ hL S12 → ∀ S14 : HS, S14 = nW S12 a13 13 224 → (∀ S15 : HS, S15 = sR S14 v0 5 (some a13) → (∀ a16 : Nat, a16 ∉ hL S15 → ∀ S17 : HS, S17 = nW S15 a16 13 224 → (∀ S18 : HS, S18 = sR S17 v0 6 (some a16) → (∀ a19 : Nat, a19 ∉ hL S18 → ∀ S20 : HS, S20 = nW S18 a19 14 224 → (∀ S21 : HS, S21 = sR S20 v0 7 (some a19) → (∀ a22 : Nat, a22 ∉ hL S21 → ∀ S23 : HS, S23 = nW S21 a22 13 224 → (∀ S24 : HS, S24 = sR S23 v0 8 (some a22) → (Q S24)))))))))))))))))
set_option maxRecDepth 20000 in
set_option maxHeartbeats 4000000 in
theorem T_X7_makeRows_0 {X : CX} {Q : HS → Prop} (C : Cx X cX7_makeRows RX7 1 rm_X7_makeRows) (E : ReV X rm_X7_makeRows Q) (ht : (xh X).sig.returnType = none) (hn : (xh X).name = yX7_makeRows.name) {v0 : Nat} {S : HS} (h : P_X7_makeRows_0 Q v0 S) : WS X 1 0 0 0 [(0, .ref v0)] [] S := by
  refine r_aload_n (pc := 0) C dX7_makeRows_0 0 rfl ?_
  refine r_sipush (pc := 1) C (v := (401 : Int32)) dX7_makeRows_1 (by decide) ?_
  refine r_newa13 (pc := 4) C (N := 401) g_72 dX7_makeRows_4 (by decide) (by decide) (by decide) (by decide) (by decide) (fun a1 q39 => ?_)
  refine r_heap (fun S2 eS2 => ?_)
  have h := h a1 q39 S2 eS2
  have g40 := gr_of_new eS2 q39
  have o_a1 := ob_of_new eS2
  obtain ⟨o_v0, h⟩ := h
  refine r_putr (pc := 6) C pfL_X7_9 dX7_makeRows_6 o_v0 ?_
  refine r_heap (fun S3 eS3 => ?_)
  have h := h S3 eS3
  have o_a1 := ob_R eS3 o_a1
  have o_v0 := ob_R eS3 o_v0
  refine r_aload_n (pc := 9) C dX7_makeRows_9 0 rfl ?_
  refine r_sipush (pc := 10) C (v := (3208 : Int32)) dX7_makeRows_10 (by decide) ?_
  refine r_newa14 (pc := 13) C (N := 3208) g_266 dX7_makeRows_13 (by decide) (by decide) (by decide) (by decide) (by decide) (fun a4 q37 => ?_)
  refine r_heap (fun S5 eS5 => ?_)
  have h := h a4 q37 S5 eS5
  have g38 := gr_of_new eS5 q37
  have o_a4 := ob_of_new eS5
  have o_a1 := gr_ob g38 o_a1
  have o_v0 := gr_ob g38 o_v0
  refine r_putr (pc := 15) C pfL_X7_15 dX7_makeRows_15 o_v0 ?_
  refine r_heap (fun S6 eS6 => ?_)
  have h := h S6 eS6
  have o_a1 := ob_R eS6 o_a1
  have o_a4 := ob_R eS6 o_a4
  have o_v0 := ob_R eS6 o_v0
  refine r_aload_n (pc := 18) C dX7_makeRows_18 0 rfl ?_
  refine r_sipush (pc := 19) C (v := (3208 : Int32)) dX7_makeRows_19 (by decide) ?_
  refine r_newa13 (pc := 22) C (N := 3208) g_72 dX7_makeRows_22 (by decide) (by decide) (by decide) (by decide) (by decide) (fun a7 q35 => ?_)
  refine r_heap (fun S8 eS8 => ?_)
  have h := h a7 q35 S8 eS8
  have g36 := gr_of_new eS8 q35
  have o_a7 := ob_of_new eS8
  have o_a1 := gr_ob g36 o_a1
  have o_a4 := gr_ob g36 o_a4
  have o_v0 := gr_ob g36 o_v0
  refine r_putr (pc := 24) C pfL_X7_19 dX7_makeRows_24 o_v0 ?_
  refine r_heap (fun S9 eS9 => ?_)
  have h := h S9 eS9
  have o_a1 := ob_R eS9 o_a1
  have o_a4 := ob_R eS9 o_a4
  have o_a7 := ob_R eS9 o_a7
  have o_v0 := ob_R eS9 o_v0
  refine r_aload_n (pc := 27) C dX7_makeRows_27 0 rfl ?_
  refine r_sipush (pc := 28) C (v := (224 : Int32)) dX7_makeRows_28 (by decide) ?_
  refine r_newa13 (pc := 31) C (N := 224) g_72 dX7_makeRows_31 (by decide) (by decide) (by decide) (by decide) (by decide) (fun a10 q33 => ?_)
  refine r_heap (fun S11 eS11 => ?_)
  have h := h a10 q33 S11 eS11
  have g34 := gr_of_new eS11 q33
  have o_a10 := ob_of_new eS11
  have o_a1 := gr_ob g34 o_a1
  have o_a4 := gr_ob g34 o_a4
  have o_a7 := gr_ob g34 o_a7
  have o_v0 := gr_ob g34 o_v0
  refine r_putr (pc := 33) C pfL_X7_22 dX7_makeRows_33 o_v0 ?_
  refine r_heap (fun S12 eS12 => ?_)
  have h := h S12 eS12
  have o_a1 := ob_R eS12 o_a1
  have o_a10 := ob_R eS12 o_a10
  have o_a4 := ob_R eS12 o_a4
  have o_a7 := ob_R eS12 o_a7
  have o_v0 := ob_R eS12 o_v0
  refine r_aload_n (pc := 36) C dX7_makeRows_36 0 rfl ?_
  refine r_sipush (pc := 37) C (v := (224 : Int32)) dX7_makeRows_37 (by decide) ?_
  refine r_newa13 (pc := 40) C (N := 224) g_72 dX7_makeRows_40 (by decide) (by decide) (by decide) (by decide) (by decide) (fun a13 q31 => ?_)
  refine r_heap (fun S14 eS14 => ?_)
  have h := h a13 q31 S14 eS14
  have g32 := gr_of_new eS14 q31
  have o_a13 := ob_of_new eS14
  have o_a1 := gr_ob g32 o_a1
  have o_a10 := gr_ob g32 o_a10
  have o_a4 := gr_ob g32 o_a4
  have o_a7 := gr_ob g32 o_a7
  have o_v0 := gr_ob g32 o_v0
  refine r_putr (pc := 42) C pfL_X7_25 dX7_makeRows_42 o_v0 ?_
  refine r_heap (fun S15 eS15 => ?_)
  have h := h S15 eS15
  have o_a1 := ob_R eS15 o_a1
  have o_a10 := ob_R eS15 o_a10
  have o_a13 := ob_R eS15 o_a13
  have o_a4 := ob_R eS15 o_a4
  have o_a7 := ob_R eS15 o_a7
  have o_v0 := ob_R eS15 o_v0
  refine r_aload_n (pc := 45) C dX7_makeRows_45 0 rfl ?_
  refine r_sipush (pc := 46) C (v := (224 : Int32)) dX7_makeRows_46 (by decide) ?_
  refine r_newa13 (pc := 49) C (N := 224) g_72 dX7_makeRows_49 (by decide) (by decide) (by decide) (by decide) (by decide) (fun a16 q29 => ?_)
  refine r_heap (fun S17 eS17 => ?_)
  have h := h a16 q29 S17 eS17
  have g30 := gr_of_new eS17 q29
  have o_a16 := ob_of_new eS17
  have o_a1 := gr_ob g30 o_a1
  have o_a10 := gr_ob g30 o_a10
  have o_a13 := gr_ob g30 o_a13
  have o_a4 := gr_ob g30 o_a4
  have o_a7 := gr_ob g30 o_a7
  have o_v0 := gr_ob g30 o_v0
  refine r_putr (pc := 51) C pfL_X7_28 dX7_makeRows_51 o_v0 ?_
  refine r_heap (fun S18 eS18 => ?_)
  have h := h S18 eS18
  have o_a1 := ob_R eS18 o_a1
  have o_a10 := ob_R eS18 o_a10
  have o_a13 := ob_R eS18 o_a13
  have o_a16 := ob_R eS18 o_a16
  have o_a4 := ob_R eS18 o_a4
  have o_a7 := ob_R eS18 o_a7
  have o_v0 := ob_R eS18 o_v0
  refine r_aload_n (pc := 54) C dX7_makeRows_54 0 rfl ?_
  refine r_sipush (pc := 55) C (v := (224 : Int32)) dX7_makeRows_55 (by decide) ?_
  refine r_newa14 (pc := 58) C (N := 224) g_266 dX7_makeRows_58 (by decide) (by decide) (by decide) (by decide) (by decide) (fun a19 q27 => ?_)
  refine r_heap (fun S20 eS20 => ?_)
  have h := h a19 q27 S20 eS20
  have g28 := gr_of_new eS20 q27
  have o_a19 := ob_of_new eS20
  have o_a1 := gr_ob g28 o_a1
  have o_a10 := gr_ob g28 o_a10
  have o_a13 := gr_ob g28 o_a13
  have o_a16 := gr_ob g28 o_a16
  have o_a4 := gr_ob g28 o_a4
  have o_a7 := gr_ob g28 o_a7
  have o_v0 := gr_ob g28 o_v0
  refine r_putr (pc := 60) C pfL_X7_31 dX7_makeRows_60 o_v0 ?_
  refine r_heap (fun S21 eS21 => ?_)
  have h := h S21 eS21
  have o_a1 := ob_R eS21 o_a1
  have o_a10 := ob_R eS21 o_a10
  have o_a13 := ob_R eS21 o_a13
  have o_a16 := ob_R eS21 o_a16
  have o_a19 := ob_R eS21 o_a19
  have o_a4 := ob_R eS21 o_a4
  have o_a7 := ob_R eS21 o_a7
  have o_v0 := ob_R eS21 o_v0
  refine r_aload_n (pc := 63) C dX7_makeRows_63 0 rfl ?_
  refine r_sipush (pc := 64) C (v := (224 : Int32)) dX7_makeRows_64 (by decide) ?_
  refine r_newa13 (pc := 67) C (N := 224) g_72 dX7_makeRows_67 (by decide) (by decide) (by decide) (by decide) (by decide) (fun a22 q25 => ?_)
  refine r_heap (fun S23 eS23 => ?_)
  have h := h a22 q25 S23 eS23
  have g26 := gr_of_new eS23 q25
  have o_a22 := ob_of_new eS23
  have o_a1 := gr_ob g26 o_a1
  have o_a10 := gr_ob g26 o_a10
  have o_a13 := gr_ob g26 o_a13
  have o_a16 := gr_ob g26 o_a16
  have o_a19 := gr_ob g26 o_a19
  have o_a4 := gr_ob g26 o_a4
  have o_a7 := gr_ob g26 o_a7
  have o_v0 := gr_ob g26 o_v0
  refine r_putr (pc := 69) C pfL_X7_34 dX7_makeRows_69 o_v0 ?_
  refine r_heap (fun S24 eS24 => ?_)
  have h := h S24 eS24
  have o_a1 := ob_R eS24 o_a1
  have o_a10 := ob_R eS24 o_a10
  have o_a13 := ob_R eS24 o_a13
  have o_a16 := ob_R eS24 o_a16
  have o_a19 := ob_R eS24 o_a19
  have o_a22 := ob_R eS24 o_a22
  have o_a4 := ob_R eS24 o_a4
  have o_a7 := ob_R eS24 o_a7
  have o_v0 := ob_R eS24 o_v0
  exact r_vret (pc := 72) C E ht dX7_makeRows_72 (by decide) (by decide) h
def P_X7_makeRows (v0 : Nat) (Q : HS → Prop) (S : HS) : Prop := P_X7_makeRows_0 Q v0 S
theorem c_X7_makeRows {l : Launch} {Ee : EE} {S : HS} {v0 : Nat} {Q : HS → Prop} (h : P_X7_makeRows v0 Q S) : MV l yX7_makeRows cX7_makeRows 1 none rm_X7_makeRows Ee S [.ref v0] Q :=
  openV (by decide) (Nat.le_of_ble_eq_true rfl) (fun X C E ht hn hE hl => by subst hE; exact r_sub [0] rfl (T_X7_makeRows_0 C E ht hn h))
def rm_X7_meanFrom : Room := { frames := 1, cells := 0, slots := 0, locals := 23 }
def P_X7_meanFrom_0 (Q : Int64 → HS → Prop) (v0 : Nat) (v1 : Int32) (v2 : Int32) (S : HS) : Prop := ob S v0 7 ∧ (P_X7_keyOf v0 v1 v2 (fun x3 S1 => Gr S S1 → (∀ x4 : Int64, x4 = x3 / (512 : Int64) → (Q x4 S1))) S)
set_option maxRecDepth 20000 in
set_option maxHeartbeats 4000000 in
theorem T_X7_meanFrom_0 {X : CX} {Q : Int64 → HS → Prop} (C : Cx X cX7_meanFrom RX7 3 rm_X7_meanFrom) (E : ReJ X rm_X7_meanFrom Q) (ht : (xh X).sig.returnType = (some .long)) (hn : (xh X).name = yX7_meanFrom.name) {v0 : Nat} {v1 : Int32} {v2 : Int32} {S : HS} (h : P_X7_meanFrom_0 Q v0 v1 v2 S) : WS X 3 0 0 0 [(0, .ref v0), (1, .int v1), (2, .int v2)] [] S := by
  refine r_aload_n (pc := 0) C dX7_meanFrom_0 0 rfl ?_
  refine r_iload_n (pc := 1) C dX7_meanFrom_1 1 rfl ?_
  refine r_iload_n (pc := 2) C dX7_meanFrom_2 2 rfl ?_
  obtain ⟨o_v0, h⟩ := h
  refine r_callVl0 (pc := 3) C (rest := []) (a := v0) o_v0 [.int v1, .int v2] yV_X7_keyOf g_892 (c_X7_keyOf h) dX7_meanFrom_3 rfl rfl (Nat.le_of_ble_eq_true rfl) ⟨by decide, by decide⟩ ⟨by decide, by decide⟩ ⟨rfl, rfl⟩ (fun x3 S1 h g2 => ?_)
  have h := h g2
  have o_v0 := gr_ob g2 o_v0
  refine r_ldc2 (pc := 6) C (v := (512 : Int64)) dX7_meanFrom_6 g_857 ?_
  refine r_ldiv (pc := 9) C dX7_meanFrom_9 (by decide) ?_
  refine r_topl (fun x4 ex4 => ?_)
  have h := h x4 ex4
  exact r_lret (pc := 10) C E ht dX7_meanFrom_10 (by decide) (by decide) h
def P_X7_meanFrom (v0 : Nat) (v1 : Int32) (v2 : Int32) (Q : Int64 → HS → Prop) (S : HS) : Prop := P_X7_meanFrom_0 Q v0 v1 v2 S
theorem c_X7_meanFrom {l : Launch} {Ee : EE} {S : HS} {v0 : Nat} {v1 : Int32} {v2 : Int32} {Q : Int64 → HS → Prop} (h : P_X7_meanFrom v0 v1 v2 Q S) : MJ l yX7_meanFrom cX7_meanFrom 3 (some .long) rm_X7_meanFrom Ee S [.ref v0, .int v1, .int v2] Q :=
  openJ (by decide) (Nat.le_of_ble_eq_true rfl) (fun X C E ht hn hE hl => by subst hE; exact r_sub [0, 1, 2] rfl (T_X7_meanFrom_0 C E ht hn h))
def rm_X8_hasPlace : Room := { frames := 0, cells := 0, slots := 0, locals := 0 }
def P_X8_hasPlace_0 (Q : Int32 → HS → Prop) (v0 : Nat) (v1 : Int32) (S : HS) : Prop := ((v1 < 0) → (Q (0 : Int32) S)) ∧ ((¬ v1 < 0) → (ob S v0 8 ∧ (∀ x2 : Int32, x2 = fI S v0 2 → (((x2 ≤ v1) → (Q (0 : Int32) S)) ∧ ((¬ x2 ≤ v1) → (∃ a4 : Nat, fR S v0 7 = some a4 ∧ (ob S a4 13 ∧ ((((nI (hN S a4)) ≤ v1) → (Q (0 : Int32) S)) ∧ ((¬ (nI (hN S a4)) ≤ v1) → (Q (1 : Int32) S))))))))))
set_option maxRecDepth 20000 in
set_option maxHeartbeats 4000000 in
theorem T_X8_hasPlace_0 {X : CX} {Q : Int32 → HS → Prop} (C : Cx X cX8_hasPlace RX8 2 rm_X8_hasPlace) (E : ReI X rm_X8_hasPlace (fun r S => bl r ∧ Q r S)) (ht : (xh X).sig.returnType = (some .boolean)) (hn : (xh X).name = yX8_hasPlace.name) {v0 : Nat} {v1 : Int32} {S : HS} (h : P_X8_hasPlace_0 Q v0 v1 S) : WS X 2 0 0 0 [(0, .ref v0), (1, .int v1)] [] S := by
  refine r_iload_n (pc := 0) C dX8_hasPlace_0 1 rfl ?_
  refine r_if_lt (pc := 1) C (tgt := 25) dX8_hasPlace_1 (by decide) (fun c1 => ?_) (fun c1 => ?_)
  · have h := h.1 c1
    refine r_iconst (pc := 25) C (v := (0 : Int32)) dX8_hasPlace_25 (by decide) ?_
    exact r_zret (pc := 26) C E ht dX8_hasPlace_26 (by decide) (by decide) (Or.inl rfl) h
  · have h := h.2 c1
    refine r_iload_n (pc := 4) C dX8_hasPlace_4 1 rfl ?_
    refine r_aload_n (pc := 5) C dX8_hasPlace_5 0 rfl ?_
    obtain ⟨o_v0, h⟩ := h
    refine r_geti (pc := 6) C fL_X8_49 dX8_hasPlace_6 o_v0 ?_
    refine r_topi (fun x2 ex2 => ?_)
    have h := h x2 ex2
    refine r_icmp_ge (pc := 9) C (tgt := 25) dX8_hasPlace_9 (by decide) (fun c3 => ?_) (fun c3 => ?_)
    · have h := h.1 c3
      refine r_iconst (pc := 25) C (v := (0 : Int32)) dX8_hasPlace_25 (by decide) ?_
      exact r_zret (pc := 26) C E ht dX8_hasPlace_26 (by decide) (by decide) (Or.inl rfl) h
    · have h := h.2 c3
      refine r_iload_n (pc := 12) C dX8_hasPlace_12 1 rfl ?_
      refine r_aload_n (pc := 13) C dX8_hasPlace_13 0 rfl ?_
      obtain ⟨a4, ea4, h⟩ := h
      refine r_getr (pc := 14) C fL_X8_17 dX8_hasPlace_14 o_v0 ea4 ?_
      obtain ⟨o_a4, h⟩ := h
      refine r_alen13 (pc := 17) C dX8_hasPlace_17 o_a4 ?_
      refine r_icmp_ge (pc := 18) C (tgt := 25) dX8_hasPlace_18 (by decide) (fun c5 => ?_) (fun c5 => ?_)
      · have h := h.1 c5
        refine r_iconst (pc := 25) C (v := (0 : Int32)) dX8_hasPlace_25 (by decide) ?_
        exact r_zret (pc := 26) C E ht dX8_hasPlace_26 (by decide) (by decide) (Or.inl rfl) h
      · have h := h.2 c5
        refine r_iconst (pc := 21) C (v := (1 : Int32)) dX8_hasPlace_21 (by decide) ?_
        refine r_goto (pc := 22) C (tgt := 26) dX8_hasPlace_22 (by decide) ?_
        exact r_zret (pc := 26) C E ht dX8_hasPlace_26 (by decide) (by decide) (Or.inr rfl) h
def P_X8_hasPlace (v0 : Nat) (v1 : Int32) (Q : Int32 → HS → Prop) (S : HS) : Prop := P_X8_hasPlace_0 Q v0 v1 S
theorem c_X8_hasPlace {l : Launch} {Ee : EE} {S : HS} {v0 : Nat} {v1 : Int32} {Q : Int32 → HS → Prop} (h : P_X8_hasPlace v0 v1 Q S) : MI l yX8_hasPlace cX8_hasPlace 2 (some .boolean) rm_X8_hasPlace Ee S [.ref v0, .int v1] (fun r S => bl r ∧ Q r S) :=
  openI (by decide) (Nat.le_of_ble_eq_true rfl) (fun X C E ht hn hE hl => by subst hE; exact r_sub [0, 1] rfl (T_X8_hasPlace_0 C E ht hn h))
def rm_X8_canWait : Room := { frames := 1, cells := 0, slots := 0, locals := 21 }
def P_X8_canWait_0 (Q : Int32 → HS → Prop) (v0 : Nat) (v1 : Int32) (S : HS) : Prop := ob S v0 8 ∧ (P_X8_hasPlace v0 v1 (fun x3 S1 => Gr S S1 → bl x3 → (((x3 = 0) → (Q (0 : Int32) S1)) ∧ ((¬ x3 = 0) → (∃ a5 : Nat, fR S1 v0 7 = some a5 ∧ (ob S1 a5 13 ∧ (vp_in v1 (hN S1 a5) ∧ ∀ x7 : Int32, x7 = fI S1 a5 v1.toNatClampNeg → (((x7 = (-1 : Int32)) → (Q (0 : Int32) S1)) ∧ ((¬ x7 = (-1 : Int32)) → (Q (1 : Int32) S1))))))))) S)
set_option maxRecDepth 20000 in
set_option maxHeartbeats 4000000 in
theorem T_X8_canWait_0 {X : CX} {Q : Int32 → HS → Prop} (C : Cx X cX8_canWait RX8 2 rm_X8_canWait) (E : ReI X rm_X8_canWait (fun r S => bl r ∧ Q r S)) (ht : (xh X).sig.returnType = (some .boolean)) (hn : (xh X).name = yX8_canWait.name) {v0 : Nat} {v1 : Int32} {S : HS} (h : P_X8_canWait_0 Q v0 v1 S) : WS X 2 0 0 0 [(0, .ref v0), (1, .int v1)] [] S := by
  refine r_aload_n (pc := 0) C dX8_canWait_0 0 rfl ?_
  refine r_iload_n (pc := 1) C dX8_canWait_1 1 rfl ?_
  obtain ⟨o_v0, h⟩ := h
  refine r_callVi0 (pc := 2) C (rest := []) (a := v0) o_v0 [.int v1] yV_X8_hasPlace g_874 (c_X8_hasPlace h) dX8_canWait_2 rfl rfl (Nat.le_of_ble_eq_true rfl) ⟨by decide, by decide⟩ ⟨by decide, by decide⟩ ⟨rfl, rfl⟩ (fun x3 S1 h g2 => ?_)
  have bx3 := h.1
  have h := h.2 g2 bx3
  have o_v0 := gr_ob g2 o_v0
  refine r_if_eq (pc := 5) C (tgt := 22) dX8_canWait_5 (by decide) (fun c4 => ?_) (fun c4 => ?_)
  · have h := h.1 c4
    refine r_iconst (pc := 22) C (v := (0 : Int32)) dX8_canWait_22 (by decide) ?_
    exact r_zret (pc := 23) C E ht dX8_canWait_23 (by decide) (by decide) (Or.inl rfl) h
  · have h := h.2 c4
    refine r_aload_n (pc := 8) C dX8_canWait_8 0 rfl ?_
    obtain ⟨a5, ea5, h⟩ := h
    refine r_getr (pc := 9) C fL_X8_17 dX8_canWait_9 o_v0 ea5 ?_
    refine r_iload_n (pc := 12) C dX8_canWait_12 1 rfl ?_
    obtain ⟨o_a5, h⟩ := h
    obtain ⟨i6, h⟩ := h
    refine r_iald (pc := 13) C dX8_canWait_13 o_a5 i6 ?_
    refine r_topi (fun x7 ex7 => ?_)
    have h := h x7 ex7
    refine r_iconst (pc := 14) C (v := (-1 : Int32)) dX8_canWait_14 (by decide) ?_
    refine r_icmp_eq (pc := 15) C (tgt := 22) dX8_canWait_15 (by decide) (fun c8 => ?_) (fun c8 => ?_)
    · have h := h.1 c8
      refine r_iconst (pc := 22) C (v := (0 : Int32)) dX8_canWait_22 (by decide) ?_
      exact r_zret (pc := 23) C E ht dX8_canWait_23 (by decide) (by decide) (Or.inl rfl) h
    · have h := h.2 c8
      refine r_iconst (pc := 18) C (v := (1 : Int32)) dX8_canWait_18 (by decide) ?_
      refine r_goto (pc := 19) C (tgt := 23) dX8_canWait_19 (by decide) ?_
      exact r_zret (pc := 23) C E ht dX8_canWait_23 (by decide) (by decide) (Or.inr rfl) h
def P_X8_canWait (v0 : Nat) (v1 : Int32) (Q : Int32 → HS → Prop) (S : HS) : Prop := P_X8_canWait_0 Q v0 v1 S
theorem c_X8_canWait {l : Launch} {Ee : EE} {S : HS} {v0 : Nat} {v1 : Int32} {Q : Int32 → HS → Prop} (h : P_X8_canWait v0 v1 Q S) : MI l yX8_canWait cX8_canWait 2 (some .boolean) rm_X8_canWait Ee S [.ref v0, .int v1] (fun r S => bl r ∧ Q r S) :=
  openI (by decide) (Nat.le_of_ble_eq_true rfl) (fun X C E ht hn hE hl => by subst hE; exact r_sub [0, 1] rfl (T_X8_canWait_0 C E ht hn h))
def rm_X8_dripOn : Room := { frames := 2, cells := 0, slots := 0, locals := 42 }
def P_X8_dripOn_0 (Q : Int32 → HS → Prop) (v0 : Nat) (v1 : Nat) (v2 : Int32) (S : HS) : Prop := ob S v0 8 ∧ (P_X8_canWait v0 v2 (fun x3 S1 => Gr S S1 → bl x3 → (((x3 = 0) → (Q (0 : Int32) S1)) ∧ ((¬ x3 = 0) → (∃ a5 : Nat, fR S1 v0 7 = some a5 ∧ (ob S1 a5 13 ∧ (vp_in v2 (hN S1 a5) ∧ ∀ x7 : Int32, x7 = fI S1 a5 v2.toNatClampNeg → (ob S1 v1 6 ∧ (∀ x8 : Int32, x8 = fI S1 v1 2 → (P_X6_shield v1 (fun x11 S9 => Gr S1 S9 → (∀ x12 : Int32, x12 = (if x8 - x11 < (0 : Int32) then (0 : Int32) else x8 - x11) → (Q (x7 * x12) S9))) S1))))))))) S)
set_option maxRecDepth 20000 in
set_option maxHeartbeats 4000000 in
theorem T_X8_dripOn_0 {X : CX} {Q : Int32 → HS → Prop} (C : Cx X cX8_dripOn RX8 3 rm_X8_dripOn) (E : ReI X rm_X8_dripOn Q) (ht : (xh X).sig.returnType = (some .int)) (hn : (xh X).name = yX8_dripOn.name) {v0 : Nat} {v1 : Nat} {v2 : Int32} {S : HS} (h : P_X8_dripOn_0 Q v0 v1 v2 S) : WS X 3 0 0 0 [(0, .ref v0), (1, .ref v1), (2, .int v2)] [] S := by
  refine r_aload_n (pc := 0) C dX8_dripOn_0 0 rfl ?_
  refine r_iload_n (pc := 1) C dX8_dripOn_1 2 rfl ?_
  obtain ⟨o_v0, h⟩ := h
  refine r_callVi0 (pc := 2) C (rest := []) (a := v0) o_v0 [.int v2] yV_X8_canWait g_879 (c_X8_canWait h) dX8_dripOn_2 rfl rfl (Nat.le_of_ble_eq_true rfl) ⟨by decide, by decide⟩ ⟨by decide, by decide⟩ ⟨rfl, rfl⟩ (fun x3 S1 h g2 => ?_)
  have bx3 := h.1
  have h := h.2 g2 bx3
  have o_v0 := gr_ob g2 o_v0
  refine r_if_eq (pc := 5) C (tgt := 31) dX8_dripOn_5 (by decide) (fun c4 => ?_) (fun c4 => ?_)
  · have h := h.1 c4
    refine r_iconst (pc := 31) C (v := (0 : Int32)) dX8_dripOn_31 (by decide) ?_
    exact r_iret (pc := 32) C E ht dX8_dripOn_32 (by decide) (by decide) h
  · have h := h.2 c4
    refine r_aload_n (pc := 8) C dX8_dripOn_8 0 rfl ?_
    obtain ⟨a5, ea5, h⟩ := h
    refine r_getr (pc := 9) C fL_X8_17 dX8_dripOn_9 o_v0 ea5 ?_
    refine r_iload_n (pc := 12) C dX8_dripOn_12 2 rfl ?_
    obtain ⟨o_a5, h⟩ := h
    obtain ⟨i6, h⟩ := h
    refine r_iald (pc := 13) C dX8_dripOn_13 o_a5 i6 ?_
    refine r_topi (fun x7 ex7 => ?_)
    have h := h x7 ex7
    refine r_aload_n (pc := 14) C dX8_dripOn_14 1 rfl ?_
    obtain ⟨o_v1, h⟩ := h
    refine r_geti (pc := 15) C fL_X8_68 dX8_dripOn_15 o_v1 ?_
    refine r_topi (fun x8 ex8 => ?_)
    have h := h x8 ex8
    refine r_aload_n (pc := 18) C dX8_dripOn_18 1 rfl ?_
    refine r_callVi0 (pc := 19) C (rest := [.int x8, .int x7]) (a := v1) o_v1 [] yV_X6_shield g_880 (c_X6_shield h) dX8_dripOn_19 rfl rfl (Nat.le_of_ble_eq_true rfl) ⟨by decide, by decide⟩ ⟨by decide, by decide⟩ ⟨rfl, rfl⟩ (fun x11 S9 h g10 => ?_)
    have h := h g10
    have o_a5 := gr_ob g10 o_a5
    have o_v0 := gr_ob g10 o_v0
    have o_v1 := gr_ob g10 o_v1
    refine r_isub (pc := 22) C dX8_dripOn_22 ?_
    refine r_iconst (pc := 23) C (v := (0 : Int32)) dX8_dripOn_23 (by decide) ?_
    refine r_max (pc := 24) C g_881 dX8_dripOn_24 (by decide) (Nat.le_of_ble_eq_true rfl) (by decide) (by decide) ?_
    refine r_topi (fun x12 ex12 => ?_)
    have h := h x12 ex12
    refine r_imul (pc := 27) C dX8_dripOn_27 ?_
    refine r_goto (pc := 28) C (tgt := 32) dX8_dripOn_28 (by decide) ?_
    exact r_iret (pc := 32) C E ht dX8_dripOn_32 (by decide) (by decide) h
def P_X8_dripOn (v0 : Nat) (v1 : Nat) (v2 : Int32) (Q : Int32 → HS → Prop) (S : HS) : Prop := P_X8_dripOn_0 Q v0 v1 v2 S
theorem c_X8_dripOn {l : Launch} {Ee : EE} {S : HS} {v0 : Nat} {v1 : Nat} {v2 : Int32} {Q : Int32 → HS → Prop} (h : P_X8_dripOn v0 v1 v2 Q S) : MI l yX8_dripOn cX8_dripOn 3 (some .int) rm_X8_dripOn Ee S [.ref v0, .ref v1, .int v2] Q :=
  openI (by decide) (Nat.le_of_ble_eq_true rfl) (fun X C E ht hn hE hl => by subst hE; exact r_sub [0, 1, 2] rfl (T_X8_dripOn_0 C E ht hn h))
def rm_X8_hasHour : Room := { frames := 0, cells := 0, slots := 0, locals := 0 }
def P_X8_hasHour_0 (Q : Int32 → HS → Prop) (v0 : Nat) (v1 : Int32) (S : HS) : Prop := ((v1 < 0) → (Q (0 : Int32) S)) ∧ ((¬ v1 < 0) → (ob S v0 8 ∧ (∀ x2 : Int32, x2 = fI S v0 1 → (((x2 ≤ v1) → (Q (0 : Int32) S)) ∧ ((¬ x2 ≤ v1) → (∃ a4 : Nat, fR S v0 6 = some a4 ∧ (ob S a4 17 ∧ ((((nI (hN S a4)) ≤ v1) → (Q (0 : Int32) S)) ∧ ((¬ (nI (hN S a4)) ≤ v1) → (Q (1 : Int32) S))))))))))
set_option maxRecDepth 20000 in
set_option maxHeartbeats 4000000 in
theorem T_X8_hasHour_0 {X : CX} {Q : Int32 → HS → Prop} (C : Cx X cX8_hasHour RX8 2 rm_X8_hasHour) (E : ReI X rm_X8_hasHour (fun r S => bl r ∧ Q r S)) (ht : (xh X).sig.returnType = (some .boolean)) (hn : (xh X).name = yX8_hasHour.name) {v0 : Nat} {v1 : Int32} {S : HS} (h : P_X8_hasHour_0 Q v0 v1 S) : WS X 2 0 0 0 [(0, .ref v0), (1, .int v1)] [] S := by
  refine r_iload_n (pc := 0) C dX8_hasHour_0 1 rfl ?_
  refine r_if_lt (pc := 1) C (tgt := 25) dX8_hasHour_1 (by decide) (fun c1 => ?_) (fun c1 => ?_)
  · have h := h.1 c1
    refine r_iconst (pc := 25) C (v := (0 : Int32)) dX8_hasHour_25 (by decide) ?_
    exact r_zret (pc := 26) C E ht dX8_hasHour_26 (by decide) (by decide) (Or.inl rfl) h
  · have h := h.2 c1
    refine r_iload_n (pc := 4) C dX8_hasHour_4 1 rfl ?_
    refine r_aload_n (pc := 5) C dX8_hasHour_5 0 rfl ?_
    obtain ⟨o_v0, h⟩ := h
    refine r_geti (pc := 6) C fL_X8_46 dX8_hasHour_6 o_v0 ?_
    refine r_topi (fun x2 ex2 => ?_)
    have h := h x2 ex2
    refine r_icmp_ge (pc := 9) C (tgt := 25) dX8_hasHour_9 (by decide) (fun c3 => ?_) (fun c3 => ?_)
    · have h := h.1 c3
      refine r_iconst (pc := 25) C (v := (0 : Int32)) dX8_hasHour_25 (by decide) ?_
      exact r_zret (pc := 26) C E ht dX8_hasHour_26 (by decide) (by decide) (Or.inl rfl) h
    · have h := h.2 c3
      refine r_iload_n (pc := 12) C dX8_hasHour_12 1 rfl ?_
      refine r_aload_n (pc := 13) C dX8_hasHour_13 0 rfl ?_
      obtain ⟨a4, ea4, h⟩ := h
      refine r_getr (pc := 14) C fL_X8_11 dX8_hasHour_14 o_v0 ea4 ?_
      obtain ⟨o_a4, h⟩ := h
      refine r_alen17 (pc := 17) C dX8_hasHour_17 o_a4 ?_
      refine r_icmp_ge (pc := 18) C (tgt := 25) dX8_hasHour_18 (by decide) (fun c5 => ?_) (fun c5 => ?_)
      · have h := h.1 c5
        refine r_iconst (pc := 25) C (v := (0 : Int32)) dX8_hasHour_25 (by decide) ?_
        exact r_zret (pc := 26) C E ht dX8_hasHour_26 (by decide) (by decide) (Or.inl rfl) h
      · have h := h.2 c5
        refine r_iconst (pc := 21) C (v := (1 : Int32)) dX8_hasHour_21 (by decide) ?_
        refine r_goto (pc := 22) C (tgt := 26) dX8_hasHour_22 (by decide) ?_
        exact r_zret (pc := 26) C E ht dX8_hasHour_26 (by decide) (by decide) (Or.inr rfl) h
def P_X8_hasHour (v0 : Nat) (v1 : Int32) (Q : Int32 → HS → Prop) (S : HS) : Prop := P_X8_hasHour_0 Q v0 v1 S
theorem c_X8_hasHour {l : Launch} {Ee : EE} {S : HS} {v0 : Nat} {v1 : Int32} {Q : Int32 → HS → Prop} (h : P_X8_hasHour v0 v1 Q S) : MI l yX8_hasHour cX8_hasHour 2 (some .boolean) rm_X8_hasHour Ee S [.ref v0, .int v1] (fun r S => bl r ∧ Q r S) :=
  openI (by decide) (Nat.le_of_ble_eq_true rfl) (fun X C E ht hn hE hl => by subst hE; exact r_sub [0, 1] rfl (T_X8_hasHour_0 C E ht hn h))
def rm_X7_price : Room := { frames := 4, cells := 0, slots := 0, locals := 101 }
def P_X7_price_134 (Q : HS → Prop) (X51 : Nat → Nat → Nat → Int32 → Nat → Int32 → Int32 → HS → Prop) (X86 : Nat → Nat → Nat → Int32 → Nat → Int32 → Int32 → Nat → Int32 → Int32 → HS → Prop) (v0 : Nat) (v1 : Nat) (v2 : Nat) (v3 : Int32) (v4 : Nat) (v5 : Int32) (v6 : Int32) (v7 : Nat) (v8 : Int32) (v9 : Int32) (s0 : Int64) (S : HS) : Prop := ∀ x1 : Int32, x1 = v6 / (2 : Int32) → (ob S v0 7 ∧ (P_X7_addLeg v0 v7 v8 v9 s0 ((((100 : Int32) * x1) + ((10 : Int32) * v8)) + v9) (fun S2 => Gr S S2 → (∀ x5 : Int32, x5 = v9 + (1 : Int32) → (X86 v0 v1 v2 v3 v4 v5 v6 v7 v8 x5 S2))) S))
set_option maxRecDepth 20000 in
set_option maxHeartbeats 4000000 in
theorem T_X7_price_134 {X : CX} {Q : HS → Prop} (C : Cx X cX7_price RX7 12 rm_X7_price) (E : ReV X rm_X7_price Q) (ht : (xh X).sig.returnType = none) (hn : (xh X).name = yX7_price.name) {X51 : Nat → Nat → Nat → Int32 → Nat → Int32 → Int32 → HS → Prop} (hX51 : ∀ (v0 : Nat) (v1 : Nat) (v2 : Nat) (v3 : Int32) (v4 : Nat) (v5 : Int32) (v6 : Int32) (S : HS), X51 v0 v1 v2 v3 v4 v5 v6 S → WS X 12 0 0 51 [(0, .ref v0), (1, .ref v1), (2, .ref v2), (3, .int v3), (4, .ref v4), (5, .int v5), (6, .int v6)] [] S) {X86 : Nat → Nat → Nat → Int32 → Nat → Int32 → Int32 → Nat → Int32 → Int32 → HS → Prop} (hX86 : ∀ (v0 : Nat) (v1 : Nat) (v2 : Nat) (v3 : Int32) (v4 : Nat) (v5 : Int32) (v6 : Int32) (v7 : Nat) (v8 : Int32) (v9 : Int32) (S : HS), X86 v0 v1 v2 v3 v4 v5 v6 v7 v8 v9 S → WS X 12 0 0 86 [(0, .ref v0), (1, .ref v1), (2, .ref v2), (3, .int v3), (4, .ref v4), (5, .int v5), (6, .int v6), (7, .ref v7), (8, .int v8), (9, .int v9)] [] S) {v0 : Nat} {v1 : Nat} {v2 : Nat} {v3 : Int32} {v4 : Nat} {v5 : Int32} {v6 : Int32} {v7 : Nat} {v8 : Int32} {v9 : Int32} {s0 : Int64} {S : HS} (h : P_X7_price_134 Q X51 X86 v0 v1 v2 v3 v4 v5 v6 v7 v8 v9 s0 S) : WS X 12 0 0 134 [(0, .ref v0), (1, .ref v1), (2, .ref v2), (3, .int v3), (4, .ref v4), (5, .int v5), (6, .int v6), (7, .ref v7), (8, .int v8), (9, .int v9)] [.long s0] S := by
  refine r_lstore (pc := 134) C dX7_price_134 (by decide) (lv' := [(10, .long s0), (0, .ref v0), (1, .ref v1), (2, .ref v2), (3, .int v3), (4, .ref v4), (5, .int v5), (6, .int v6), (7, .ref v7), (8, .int v8), (9, .int v9)]) rfl ?_
  refine r_aload_n (pc := 136) C dX7_price_136 1 rfl ?_
  refine r_aload (pc := 137) C dX7_price_137 8 rfl ?_
  refine r_iload (pc := 139) C dX7_price_139 9 rfl ?_
  refine r_iload (pc := 141) C dX7_price_141 10 rfl ?_
  refine r_lload (pc := 143) C dX7_price_143 0 rfl ?_
  refine r_bipush (pc := 145) C (v := (100 : Int32)) dX7_price_145 (by decide) ?_
  refine r_iload (pc := 147) C dX7_price_147 7 rfl ?_
  refine r_iconst (pc := 149) C (v := (2 : Int32)) dX7_price_149 (by decide) ?_
  refine r_idiv (pc := 150) C dX7_price_150 (by decide) ?_
  refine r_topi (fun x1 ex1 => ?_)
  have h := h x1 ex1
  refine r_imul (pc := 151) C dX7_price_151 ?_
  refine r_bipush (pc := 152) C (v := (10 : Int32)) dX7_price_152 (by decide) ?_
  refine r_iload (pc := 154) C dX7_price_154 9 rfl ?_
  refine r_imul (pc := 156) C dX7_price_156 ?_
  refine r_iadd (pc := 157) C dX7_price_157 ?_
  refine r_iload (pc := 158) C dX7_price_158 10 rfl ?_
  refine r_iadd (pc := 160) C dX7_price_160 ?_
  obtain ⟨o_v0, h⟩ := h
  refine r_callVv0 (pc := 161) C (rest := []) (a := v0) o_v0 [.ref v7, .int v8, .int v9, .long s0, .int ((((100 : Int32) * x1) + ((10 : Int32) * v8)) + v9)] yV_X7_addLeg g_852 (c_X7_addLeg h) dX7_price_161 rfl rfl (Nat.le_of_ble_eq_true rfl) ⟨by decide, by decide⟩ ⟨by decide, by decide⟩ ⟨rfl, rfl⟩ (fun S2 h g3 => ?_)
  have h := h g3
  have o_v0 := gr_ob g3 o_v0
  obtain ⟨x5, ex5⟩ : ∃ z : Int32, z = v9 + (1 : Int32) := ⟨_, rfl⟩
  have h := h x5 ex5
  refine r_iinc (pc := 164) C (v := x5) (lv' := [(9, .int x5), (10, .long s0), (0, .ref v0), (1, .ref v1), (2, .ref v2), (3, .int v3), (4, .ref v4), (5, .int v5), (6, .int v6), (7, .ref v7), (8, .int v8)]) dX7_price_164 10 rfl ex5.symm (by decide) rfl ?_
  refine r_goto (pc := 167) C (tgt := 86) dX7_price_167 (by decide) ?_
  exact r_sub [2, 3, 4, 5, 6, 7, 8, 9, 10, 0] rfl (hX86 v0 v1 v2 v3 v4 v5 v6 v7 v8 x5 S2 h)
def B_X7_price_86 (Q : HS → Prop) (X51 : Nat → Nat → Nat → Int32 → Nat → Int32 → Int32 → HS → Prop) (X86 : Nat → Nat → Nat → Int32 → Nat → Int32 → Int32 → Nat → Int32 → Int32 → HS → Prop) (v0 : Nat) (v1 : Nat) (v2 : Nat) (v3 : Int32) (v4 : Nat) (v5 : Int32) (v6 : Int32) (v7 : Nat) (v8 : Int32) (v9 : Int32) (S : HS) : Prop := ob S v4 6 ∧ (∀ x1 : Int32, x1 = fI S v4 6 → (((x1 < v9) → (∀ x3 : Int32, x3 = v6 + (1 : Int32) → (X51 v0 v1 v2 v3 v4 v5 x3 S))) ∧ ((¬ x1 < v9) → (((v5 = 0) → (ob S v1 8 ∧ (∃ a5 : Nat, fR S v1 6 = some a5 ∧ (ob S a5 17 ∧ (vp_in v3 (hN S a5) ∧ ∃ a7 : Nat, fR S a5 v3.toNatClampNeg = some a7 ∧ (ob S v2 1 ∧ (P_X1_wetOf v2 v4 v7 v8 a7 v9 (fun x10 S8 => Gr S S8 → (∃ a11 : Nat, fR S8 v1 6 = some a11 ∧ (ob S8 a11 17 ∧ (vp_in v3 (hN S8 a11) ∧ ∃ a13 : Nat, fR S8 a11 v3.toNatClampNeg = some a13 ∧ (ob S8 a13 3 ∧ (∀ x14 : Int32, x14 = fI S8 a13 4 → (P_X7_price_134 Q X51 X86 v0 v1 v2 v3 v4 v5 v6 v7 v8 v9 (x10 * x14.toInt64) S8))))))) S))))))) ∧ ((¬ v5 = 0) → (P_X7_price_134 Q X51 X86 v0 v1 v2 v3 v4 v5 v6 v7 v8 v9 (0 : Int64) S))))))
def P_X7_price_86 (Q : HS → Prop) (X51 : Nat → Nat → Nat → Int32 → Nat → Int32 → Int32 → HS → Prop) (v0 : Nat) (v1 : Nat) (v2 : Nat) (v3 : Int32) (v4 : Nat) (v5 : Int32) (v6 : Int32) (v7 : Nat) (v8 : Int32) (v9 : Int32) (S : HS) : Prop := ∀ X86 : Nat → Nat → Nat → Int32 → Nat → Int32 → Int32 → Nat → Int32 → Int32 → HS → Prop, (∀ (v0 : Nat) (v1 : Nat) (v2 : Nat) (v3 : Int32) (v4 : Nat) (v5 : Int32) (v6 : Int32) (v7 : Nat) (v8 : Int32) (v9 : Int32) (S : HS), B_X7_price_86 Q X51 X86 v0 v1 v2 v3 v4 v5 v6 v7 v8 v9 S → X86 v0 v1 v2 v3 v4 v5 v6 v7 v8 v9 S) → X86 v0 v1 v2 v3 v4 v5 v6 v7 v8 v9 S
set_option maxRecDepth 20000 in
set_option maxHeartbeats 4000000 in
theorem TB_X7_price_86 {X : CX} {Q : HS → Prop} (C : Cx X cX7_price RX7 12 rm_X7_price) (E : ReV X rm_X7_price Q) (ht : (xh X).sig.returnType = none) (hn : (xh X).name = yX7_price.name) {X51 : Nat → Nat → Nat → Int32 → Nat → Int32 → Int32 → HS → Prop} (hX51 : ∀ (v0 : Nat) (v1 : Nat) (v2 : Nat) (v3 : Int32) (v4 : Nat) (v5 : Int32) (v6 : Int32) (S : HS), X51 v0 v1 v2 v3 v4 v5 v6 S → WS X 12 0 0 51 [(0, .ref v0), (1, .ref v1), (2, .ref v2), (3, .int v3), (4, .ref v4), (5, .int v5), (6, .int v6)] [] S) {X86 : Nat → Nat → Nat → Int32 → Nat → Int32 → Int32 → Nat → Int32 → Int32 → HS → Prop} (hX86 : ∀ (v0 : Nat) (v1 : Nat) (v2 : Nat) (v3 : Int32) (v4 : Nat) (v5 : Int32) (v6 : Int32) (v7 : Nat) (v8 : Int32) (v9 : Int32) (S : HS), X86 v0 v1 v2 v3 v4 v5 v6 v7 v8 v9 S → WS X 12 0 0 86 [(0, .ref v0), (1, .ref v1), (2, .ref v2), (3, .int v3), (4, .ref v4), (5, .int v5), (6, .int v6), (7, .ref v7), (8, .int v8), (9, .int v9)] [] S) {v0 : Nat} {v1 : Nat} {v2 : Nat} {v3 : Int32} {v4 : Nat} {v5 : Int32} {v6 : Int32} {v7 : Nat} {v8 : Int32} {v9 : Int32} {S : HS} (h : B_X7_price_86 Q X51 X86 v0 v1 v2 v3 v4 v5 v6 v7 v8 v9 S) : WS X 12 0 0 86 [(0, .ref v0), (1, .ref v1), (2, .ref v2), (3, .int v3), (4, .ref v4), (5, .int v5), (6, .int v6), (7, .ref v7), (8, .int v8), (9, .int v9)] [] S := by
  refine r_iload (pc := 86) C dX7_price_86 9 rfl ?_
  refine r_aload (pc := 88) C dX7_price_88 4 rfl ?_
  obtain ⟨o_v4, h⟩ := h
  refine r_geti (pc := 90) C fL_X7_107 dX7_price_90 o_v4 ?_
  refine r_topi (fun x1 ex1 => ?_)
  have h := h x1 ex1
  refine r_icmp_gt (pc := 93) C (tgt := 170) dX7_price_93 (by decide) (fun c2 => ?_) (fun c2 => ?_)
  · have h := h.1 c2
    obtain ⟨x3, ex3⟩ : ∃ z : Int32, z = v6 + (1 : Int32) := ⟨_, rfl⟩
    have h := h x3 ex3
    refine r_iinc (pc := 170) C (v := x3) (lv' := [(6, .int x3), (0, .ref v0), (1, .ref v1), (2, .ref v2), (3, .int v3), (4, .ref v4), (5, .int v5), (7, .ref v7), (8, .int v8), (9, .int v9)]) dX7_price_170 6 rfl ex3.symm (by decide) rfl ?_
    refine r_goto (pc := 173) C (tgt := 51) dX7_price_173 (by decide) ?_
    exact r_sub [1, 2, 3, 4, 5, 6, 0] rfl (hX51 v0 v1 v2 v3 v4 v5 x3 S h)
  · have h := h.2 c2
    refine r_iload (pc := 96) C dX7_price_96 5 rfl ?_
    refine r_if_eq (pc := 98) C (tgt := 105) dX7_price_98 (by decide) (fun c4 => ?_) (fun c4 => ?_)
    · have h := h.1 c4
      refine r_aload_n (pc := 105) C dX7_price_105 2 rfl ?_
      refine r_aload (pc := 106) C dX7_price_106 4 rfl ?_
      refine r_aload (pc := 108) C dX7_price_108 7 rfl ?_
      refine r_iload (pc := 110) C dX7_price_110 8 rfl ?_
      refine r_aload_n (pc := 112) C dX7_price_112 1 rfl ?_
      obtain ⟨o_v1, h⟩ := h
      obtain ⟨a5, ea5, h⟩ := h
      refine r_getr (pc := 113) C fL_X7_110 dX7_price_113 o_v1 ea5 ?_
      refine r_iload_n (pc := 116) C dX7_price_116 3 rfl ?_
      obtain ⟨o_a5, h⟩ := h
      obtain ⟨i6, a7, ea7, h⟩ := h
      refine r_aald17 (pc := 117) C dX7_price_117 o_a5 i6 ea7 ?_
      refine r_iload (pc := 118) C dX7_price_118 9 rfl ?_
      obtain ⟨o_v2, h⟩ := h
      refine r_callVl0 (pc := 120) C (rest := []) (a := v2) o_v2 [.ref v4, .ref v7, .int v8, .ref a7, .int v9] yV_X1_wetOf g_851 (c_X1_wetOf h) dX7_price_120 rfl rfl (Nat.le_of_ble_eq_true rfl) ⟨by decide, by decide⟩ ⟨by decide, by decide⟩ ⟨rfl, rfl⟩ (fun x10 S8 h g9 => ?_)
      have h := h g9
      have o_a5 := gr_ob g9 o_a5
      have o_v1 := gr_ob g9 o_v1
      have o_v2 := gr_ob g9 o_v2
      have o_v4 := gr_ob g9 o_v4
      refine r_aload_n (pc := 123) C dX7_price_123 1 rfl ?_
      obtain ⟨a11, ea11, h⟩ := h
      refine r_getr (pc := 124) C fL_X7_110 dX7_price_124 o_v1 ea11 ?_
      refine r_iload_n (pc := 127) C dX7_price_127 3 rfl ?_
      obtain ⟨o_a11, h⟩ := h
      obtain ⟨i12, a13, ea13, h⟩ := h
      refine r_aald17 (pc := 128) C dX7_price_128 o_a11 i12 ea13 ?_
      obtain ⟨o_a13, h⟩ := h
      refine r_geti (pc := 129) C fL_X7_120 dX7_price_129 o_a13 ?_
      refine r_topi (fun x14 ex14 => ?_)
      have h := h x14 ex14
      refine r_i2l (pc := 132) C dX7_price_132 ?_
      refine r_lmul (pc := 133) C dX7_price_133 ?_
      exact r_sub [0, 1, 2, 3, 4, 5, 6, 7, 8, 9] rfl (T_X7_price_134 C E ht hn hX51 hX86 h)
    · have h := h.2 c4
      refine r_lconst (pc := 101) C (v := (0 : Int64)) dX7_price_101 (by decide) ?_
      refine r_goto (pc := 102) C (tgt := 134) dX7_price_102 (by decide) ?_
      exact r_sub [0, 1, 2, 3, 4, 5, 6, 7, 8, 9] rfl (T_X7_price_134 C E ht hn hX51 hX86 h)
theorem T_X7_price_86 {X : CX} {Q : HS → Prop} (C : Cx X cX7_price RX7 12 rm_X7_price) (E : ReV X rm_X7_price Q) (ht : (xh X).sig.returnType = none) (hn : (xh X).name = yX7_price.name) {X51 : Nat → Nat → Nat → Int32 → Nat → Int32 → Int32 → HS → Prop} (hX51 : ∀ (v0 : Nat) (v1 : Nat) (v2 : Nat) (v3 : Int32) (v4 : Nat) (v5 : Int32) (v6 : Int32) (S : HS), X51 v0 v1 v2 v3 v4 v5 v6 S → WS X 12 0 0 51 [(0, .ref v0), (1, .ref v1), (2, .ref v2), (3, .int v3), (4, .ref v4), (5, .int v5), (6, .int v6)] [] S) {v0 : Nat} {v1 : Nat} {v2 : Nat} {v3 : Int32} {v4 : Nat} {v5 : Int32} {v6 : Int32} {v7 : Nat} {v8 : Int32} {v9 : Int32} {S : HS} (h : P_X7_price_86 Q X51 v0 v1 v2 v3 v4 v5 v6 v7 v8 v9 S) : WS X 12 0 0 86 [(0, .ref v0), (1, .ref v1), (2, .ref v2), (3, .int v3), (4, .ref v4), (5, .int v5), (6, .int v6), (7, .ref v7), (8, .int v8), (9, .int v9)] [] S :=
  h (fun v0 v1 v2 v3 v4 v5 v6 v7 v8 v9 S => WS X 12 0 0 86 [(0, .ref v0), (1, .ref v1), (2, .ref v2), (3, .int v3), (4, .ref v4), (5, .int v5), (6, .int v6), (7, .ref v7), (8, .int v8), (9, .int v9)] [] S) (fun v0 v1 v2 v3 v4 v5 v6 v7 v8 v9 S hh => TB_X7_price_86 C E ht hn hX51 (fun v0 v1 v2 v3 v4 v5 v6 v7 v8 v9 S z => z) hh)
def P_X7_price_245 (Q : HS → Prop) (X179 : Nat → Nat → Int32 → Nat → Int32 → Int32 → HS → Prop) (v0 : Nat) (v1 : Nat) (v3 : Int32) (v4 : Nat) (v5 : Int32) (v6 : Int32) (S : HS) : Prop := ∀ x1 : Int32, x1 = v6 + (1 : Int32) → (X179 v0 v1 v3 v4 v5 x1 S)
set_option maxRecDepth 20000 in
set_option maxHeartbeats 4000000 in
theorem T_X7_price_245 {X : CX} {Q : HS → Prop} (C : Cx X cX7_price RX7 12 rm_X7_price) (E : ReV X rm_X7_price Q) (ht : (xh X).sig.returnType = none) (hn : (xh X).name = yX7_price.name) {X179 : Nat → Nat → Int32 → Nat → Int32 → Int32 → HS → Prop} (hX179 : ∀ (v0 : Nat) (v1 : Nat) (v3 : Int32) (v4 : Nat) (v5 : Int32) (v6 : Int32) (S : HS), X179 v0 v1 v3 v4 v5 v6 S → WS X 12 0 0 179 [(0, .ref v0), (1, .ref v1), (3, .int v3), (4, .ref v4), (5, .int v5), (6, .int v6)] [] S) {v0 : Nat} {v1 : Nat} {v3 : Int32} {v4 : Nat} {v5 : Int32} {v6 : Int32} {S : HS} (h : P_X7_price_245 Q X179 v0 v1 v3 v4 v5 v6 S) : WS X 12 0 0 245 [(0, .ref v0), (1, .ref v1), (3, .int v3), (4, .ref v4), (5, .int v5), (6, .int v6)] [] S := by
  obtain ⟨x1, ex1⟩ : ∃ z : Int32, z = v6 + (1 : Int32) := ⟨_, rfl⟩
  have h := h x1 ex1
  refine r_iinc (pc := 245) C (v := x1) (lv' := [(6, .int x1), (0, .ref v0), (1, .ref v1), (3, .int v3), (4, .ref v4), (5, .int v5)]) dX7_price_245 5 rfl ex1.symm (by decide) rfl ?_
  refine r_goto (pc := 248) C (tgt := 179) dX7_price_248 (by decide) ?_
  exact r_sub [1, 2, 3, 4, 5, 0] rfl (hX179 v0 v1 v3 v4 v5 x1 S h)
def P_X7_price_230 (Q : HS → Prop) (X179 : Nat → Nat → Int32 → Nat → Int32 → Int32 → HS → Prop) (v0 : Nat) (v1 : Nat) (v3 : Int32) (v4 : Nat) (v5 : Int32) (v6 : Int32) (s0 : Int64) (S : HS) : Prop := ob S v0 7 ∧ (P_X7_addMove v0 v6 v6 (1 : Int32) s0 (-2 : Int32) (fun S1 => Gr S S1 → (P_X7_price_245 Q X179 v0 v1 v3 v4 v5 v6 S1)) S)
set_option maxRecDepth 20000 in
set_option maxHeartbeats 4000000 in
theorem T_X7_price_230 {X : CX} {Q : HS → Prop} (C : Cx X cX7_price RX7 12 rm_X7_price) (E : ReV X rm_X7_price Q) (ht : (xh X).sig.returnType = none) (hn : (xh X).name = yX7_price.name) {X179 : Nat → Nat → Int32 → Nat → Int32 → Int32 → HS → Prop} (hX179 : ∀ (v0 : Nat) (v1 : Nat) (v3 : Int32) (v4 : Nat) (v5 : Int32) (v6 : Int32) (S : HS), X179 v0 v1 v3 v4 v5 v6 S → WS X 12 0 0 179 [(0, .ref v0), (1, .ref v1), (3, .int v3), (4, .ref v4), (5, .int v5), (6, .int v6)] [] S) {v0 : Nat} {v1 : Nat} {v3 : Int32} {v4 : Nat} {v5 : Int32} {v6 : Int32} {s0 : Int64} {S : HS} (h : P_X7_price_230 Q X179 v0 v1 v3 v4 v5 v6 s0 S) : WS X 12 0 0 230 [(0, .ref v0), (1, .ref v1), (3, .int v3), (4, .ref v4), (5, .int v5), (6, .int v6)] [.long s0] S := by
  refine r_lstore (pc := 230) C dX7_price_230 (by decide) (lv' := [(7, .long s0), (0, .ref v0), (1, .ref v1), (3, .int v3), (4, .ref v4), (5, .int v5), (6, .int v6)]) rfl ?_
  refine r_aload_n (pc := 232) C dX7_price_232 1 rfl ?_
  refine r_iload (pc := 233) C dX7_price_233 6 rfl ?_
  refine r_iload (pc := 235) C dX7_price_235 6 rfl ?_
  refine r_iconst (pc := 237) C (v := (1 : Int32)) dX7_price_237 (by decide) ?_
  refine r_lload (pc := 238) C dX7_price_238 0 rfl ?_
  refine r_bipush (pc := 240) C (v := (-2 : Int32)) dX7_price_240 (by decide) ?_
  obtain ⟨o_v0, h⟩ := h
  refine r_callVv0 (pc := 242) C (rest := []) (a := v0) o_v0 [.int v6, .int v6, .int (1 : Int32), .long s0, .int (-2 : Int32)] yV_X7_addMove g_866 (c_X7_addMove h) dX7_price_242 rfl rfl (Nat.le_of_ble_eq_true rfl) ⟨by decide, by decide⟩ ⟨by decide, by decide⟩ ⟨rfl, rfl⟩ (fun S1 h g2 => ?_)
  have h := h g2
  have o_v0 := gr_ob g2 o_v0
  exact r_sub [1, 2, 3, 4, 5, 6] rfl (T_X7_price_245 C E ht hn hX179 h)
def B_X7_price_179 (Q : HS → Prop) (X179 : Nat → Nat → Int32 → Nat → Int32 → Int32 → HS → Prop) (v0 : Nat) (v1 : Nat) (v3 : Int32) (v4 : Nat) (v5 : Int32) (v6 : Int32) (S : HS) : Prop := ob S v1 8 ∧ (∀ x1 : Int32, x1 = fI S v1 2 → (((x1 ≤ v6) → (Q S)) ∧ ((¬ x1 ≤ v6) → (P_X8_canWait v1 v6 (fun x5 S3 => Gr S S3 → bl x5 → (((x5 = 0) → (P_X7_price_245 Q X179 v0 v1 v3 v4 v5 v6 S3)) ∧ ((¬ x5 = 0) → (((v5 = 0) → (P_X8_dripOn v1 v4 v6 (fun x10 S8 => Gr S3 S8 → (∃ a11 : Nat, fR S8 v1 6 = some a11 ∧ (ob S8 a11 17 ∧ (vp_in v3 (hN S8 a11) ∧ ∃ a13 : Nat, fR S8 a11 v3.toNatClampNeg = some a13 ∧ (ob S8 a13 3 ∧ (∀ x14 : Int32, x14 = fI S8 a13 4 → (P_X7_price_230 Q X179 v0 v1 v3 v4 v5 v6 ((x10.toInt64 * (2520 : Int64)) * x14.toInt64) S8))))))) S3)) ∧ ((¬ v5 = 0) → (P_X7_price_230 Q X179 v0 v1 v3 v4 v5 v6 (0 : Int64) S3)))))) S))))
def P_X7_price_179 (Q : HS → Prop) (v0 : Nat) (v1 : Nat) (v3 : Int32) (v4 : Nat) (v5 : Int32) (v6 : Int32) (S : HS) : Prop := ∀ X179 : Nat → Nat → Int32 → Nat → Int32 → Int32 → HS → Prop, (∀ (v0 : Nat) (v1 : Nat) (v3 : Int32) (v4 : Nat) (v5 : Int32) (v6 : Int32) (S : HS), B_X7_price_179 Q X179 v0 v1 v3 v4 v5 v6 S → X179 v0 v1 v3 v4 v5 v6 S) → X179 v0 v1 v3 v4 v5 v6 S
set_option maxRecDepth 20000 in
set_option maxHeartbeats 4000000 in
theorem TB_X7_price_179 {X : CX} {Q : HS → Prop} (C : Cx X cX7_price RX7 12 rm_X7_price) (E : ReV X rm_X7_price Q) (ht : (xh X).sig.returnType = none) (hn : (xh X).name = yX7_price.name) {X179 : Nat → Nat → Int32 → Nat → Int32 → Int32 → HS → Prop} (hX179 : ∀ (v0 : Nat) (v1 : Nat) (v3 : Int32) (v4 : Nat) (v5 : Int32) (v6 : Int32) (S : HS), X179 v0 v1 v3 v4 v5 v6 S → WS X 12 0 0 179 [(0, .ref v0), (1, .ref v1), (3, .int v3), (4, .ref v4), (5, .int v5), (6, .int v6)] [] S) {v0 : Nat} {v1 : Nat} {v3 : Int32} {v4 : Nat} {v5 : Int32} {v6 : Int32} {S : HS} (h : B_X7_price_179 Q X179 v0 v1 v3 v4 v5 v6 S) : WS X 12 0 0 179 [(0, .ref v0), (1, .ref v1), (3, .int v3), (4, .ref v4), (5, .int v5), (6, .int v6)] [] S := by
  refine r_iload (pc := 179) C dX7_price_179 5 rfl ?_
  refine r_aload_n (pc := 181) C dX7_price_181 1 rfl ?_
  obtain ⟨o_v1, h⟩ := h
  refine r_geti (pc := 182) C fL_X7_75 dX7_price_182 o_v1 ?_
  refine r_topi (fun x1 ex1 => ?_)
  have h := h x1 ex1
  refine r_icmp_ge (pc := 185) C (tgt := 251) dX7_price_185 (by decide) (fun c2 => ?_) (fun c2 => ?_)
  · have h := h.1 c2
    exact r_vret (pc := 251) C E ht dX7_price_251 (by decide) (by decide) h
  · have h := h.2 c2
    refine r_aload_n (pc := 188) C dX7_price_188 1 rfl ?_
    refine r_iload (pc := 189) C dX7_price_189 5 rfl ?_
    refine r_callVi0 (pc := 191) C (rest := []) (a := v1) o_v1 [.int v6] yV_X8_canWait g_870 (c_X8_canWait h) dX7_price_191 rfl rfl (Nat.le_of_ble_eq_true rfl) ⟨by decide, by decide⟩ ⟨by decide, by decide⟩ ⟨rfl, rfl⟩ (fun x5 S3 h g4 => ?_)
    have bx5 := h.1
    have h := h.2 g4 bx5
    have o_v1 := gr_ob g4 o_v1
    refine r_if_eq (pc := 194) C (tgt := 245) dX7_price_194 (by decide) (fun c6 => ?_) (fun c6 => ?_)
    · have h := h.1 c6
      exact r_sub [0, 1, 2, 3, 4, 5] rfl (T_X7_price_245 C E ht hn hX179 h)
    · have h := h.2 c6
      refine r_iload (pc := 197) C dX7_price_197 4 rfl ?_
      refine r_if_eq (pc := 199) C (tgt := 206) dX7_price_199 (by decide) (fun c7 => ?_) (fun c7 => ?_)
      · have h := h.1 c7
        refine r_aload_n (pc := 206) C dX7_price_206 1 rfl ?_
        refine r_aload (pc := 207) C dX7_price_207 3 rfl ?_
        refine r_iload (pc := 209) C dX7_price_209 5 rfl ?_
        refine r_callVi0 (pc := 211) C (rest := []) (a := v1) o_v1 [.ref v4, .int v6] yV_X8_dripOn g_875 (c_X8_dripOn h) dX7_price_211 rfl rfl (Nat.le_of_ble_eq_true rfl) ⟨by decide, by decide⟩ ⟨by decide, by decide⟩ ⟨rfl, rfl⟩ (fun x10 S8 h g9 => ?_)
        have h := h g9
        have o_v1 := gr_ob g9 o_v1
        refine r_i2l (pc := 214) C dX7_price_214 ?_
        refine r_ldc2 (pc := 215) C (v := (2520 : Int64)) dX7_price_215 g_882 ?_
        refine r_lmul (pc := 218) C dX7_price_218 ?_
        refine r_aload_n (pc := 219) C dX7_price_219 1 rfl ?_
        obtain ⟨a11, ea11, h⟩ := h
        refine r_getr (pc := 220) C fL_X7_110 dX7_price_220 o_v1 ea11 ?_
        refine r_iload_n (pc := 223) C dX7_price_223 2 rfl ?_
        obtain ⟨o_a11, h⟩ := h
        obtain ⟨i12, a13, ea13, h⟩ := h
        refine r_aald17 (pc := 224) C dX7_price_224 o_a11 i12 ea13 ?_
        obtain ⟨o_a13, h⟩ := h
        refine r_geti (pc := 225) C fL_X7_120 dX7_price_225 o_a13 ?_
        refine r_topi (fun x14 ex14 => ?_)
        have h := h x14 ex14
        refine r_i2l (pc := 228) C dX7_price_228 ?_
        refine r_lmul (pc := 229) C dX7_price_229 ?_
        exact r_sub [0, 1, 2, 3, 4, 5] rfl (T_X7_price_230 C E ht hn hX179 h)
      · have h := h.2 c7
        refine r_lconst (pc := 202) C (v := (0 : Int64)) dX7_price_202 (by decide) ?_
        refine r_goto (pc := 203) C (tgt := 230) dX7_price_203 (by decide) ?_
        exact r_sub [0, 1, 2, 3, 4, 5] rfl (T_X7_price_230 C E ht hn hX179 h)
theorem T_X7_price_179 {X : CX} {Q : HS → Prop} (C : Cx X cX7_price RX7 12 rm_X7_price) (E : ReV X rm_X7_price Q) (ht : (xh X).sig.returnType = none) (hn : (xh X).name = yX7_price.name) {v0 : Nat} {v1 : Nat} {v3 : Int32} {v4 : Nat} {v5 : Int32} {v6 : Int32} {S : HS} (h : P_X7_price_179 Q v0 v1 v3 v4 v5 v6 S) : WS X 12 0 0 179 [(0, .ref v0), (1, .ref v1), (3, .int v3), (4, .ref v4), (5, .int v5), (6, .int v6)] [] S :=
  h (fun v0 v1 v3 v4 v5 v6 S => WS X 12 0 0 179 [(0, .ref v0), (1, .ref v1), (3, .int v3), (4, .ref v4), (5, .int v5), (6, .int v6)] [] S) (fun v0 v1 v3 v4 v5 v6 S hh => TB_X7_price_179 C E ht hn (fun v0 v1 v3 v4 v5 v6 S z => z) hh)
def B_X7_price_51 (Q : HS → Prop) (X51 : Nat → Nat → Nat → Int32 → Nat → Int32 → Int32 → HS → Prop) (v0 : Nat) (v1 : Nat) (v2 : Nat) (v3 : Int32) (v4 : Nat) (v5 : Int32) (v6 : Int32) (S : HS) : Prop := ob S v1 8 ∧ (∀ x1 : Int32, x1 = fI S v1 3 → (((((2 : Int32) * x1) ≤ v6) → (P_X7_price_179 Q v0 v1 v3 v4 v5 (0 : Int32) S)) ∧ ((¬ ((2 : Int32) * x1) ≤ v6) → (∃ a3 : Nat, fR S v1 8 = some a3 ∧ (∀ x4 : Int32, x4 = v6 / (2 : Int32) → (ob S a3 18 ∧ (vp_in x4 (hN S a3) ∧ ∃ a6 : Nat, fR S a3 x4.toNatClampNeg = some a6 ∧ (∀ x7 : Int32, x7 = v6 - v6 / (2 : Int32) * (2 : Int32) → (ob S v4 6 ∧ (∀ x8 : Int32, x8 = fI S v4 5 → (P_X7_price_86 Q X51 v0 v1 v2 v3 v4 v5 v6 a6 x7 x8 S)))))))))))
def P_X7_price_51 (Q : HS → Prop) (v0 : Nat) (v1 : Nat) (v2 : Nat) (v3 : Int32) (v4 : Nat) (v5 : Int32) (v6 : Int32) (S : HS) : Prop := ∀ X51 : Nat → Nat → Nat → Int32 → Nat → Int32 → Int32 → HS → Prop, (∀ (v0 : Nat) (v1 : Nat) (v2 : Nat) (v3 : Int32) (v4 : Nat) (v5 : Int32) (v6 : Int32) (S : HS), B_X7_price_51 Q X51 v0 v1 v2 v3 v4 v5 v6 S → X51 v0 v1 v2 v3 v4 v5 v6 S) → X51 v0 v1 v2 v3 v4 v5 v6 S
set_option maxRecDepth 20000 in
set_option maxHeartbeats 4000000 in
theorem TB_X7_price_51 {X : CX} {Q : HS → Prop} (C : Cx X cX7_price RX7 12 rm_X7_price) (E : ReV X rm_X7_price Q) (ht : (xh X).sig.returnType = none) (hn : (xh X).name = yX7_price.name) {X51 : Nat → Nat → Nat → Int32 → Nat → Int32 → Int32 → HS → Prop} (hX51 : ∀ (v0 : Nat) (v1 : Nat) (v2 : Nat) (v3 : Int32) (v4 : Nat) (v5 : Int32) (v6 : Int32) (S : HS), X51 v0 v1 v2 v3 v4 v5 v6 S → WS X 12 0 0 51 [(0, .ref v0), (1, .ref v1), (2, .ref v2), (3, .int v3), (4, .ref v4), (5, .int v5), (6, .int v6)] [] S) {v0 : Nat} {v1 : Nat} {v2 : Nat} {v3 : Int32} {v4 : Nat} {v5 : Int32} {v6 : Int32} {S : HS} (h : B_X7_price_51 Q X51 v0 v1 v2 v3 v4 v5 v6 S) : WS X 12 0 0 51 [(0, .ref v0), (1, .ref v1), (2, .ref v2), (3, .int v3), (4, .ref v4), (5, .int v5), (6, .int v6)] [] S := by
  refine r_iload (pc := 51) C dX7_price_51 6 rfl ?_
  refine r_iconst (pc := 53) C (v := (2 : Int32)) dX7_price_53 (by decide) ?_
  refine r_aload_n (pc := 54) C dX7_price_54 1 rfl ?_
  obtain ⟨o_v1, h⟩ := h
  refine r_geti (pc := 55) C fL_X7_95 dX7_price_55 o_v1 ?_
  refine r_topi (fun x1 ex1 => ?_)
  have h := h x1 ex1
  refine r_imul (pc := 58) C dX7_price_58 ?_
  refine r_icmp_ge (pc := 59) C (tgt := 176) dX7_price_59 (by decide) (fun c2 => ?_) (fun c2 => ?_)
  · have h := h.1 c2
    refine r_iconst (pc := 176) C (v := (0 : Int32)) dX7_price_176 (by decide) ?_
    refine r_istore (pc := 177) C dX7_price_177 (by decide) (lv' := [(6, .int (0 : Int32)), (0, .ref v0), (1, .ref v1), (2, .ref v2), (3, .int v3), (4, .ref v4), (5, .int v5)]) rfl ?_
    exact r_sub [1, 2, 4, 5, 6, 0] rfl (T_X7_price_179 C E ht hn h)
  · have h := h.2 c2
    refine r_aload_n (pc := 62) C dX7_price_62 1 rfl ?_
    obtain ⟨a3, ea3, h⟩ := h
    refine r_getr (pc := 63) C fL_X7_98 dX7_price_63 o_v1 ea3 ?_
    refine r_iload (pc := 66) C dX7_price_66 6 rfl ?_
    refine r_iconst (pc := 68) C (v := (2 : Int32)) dX7_price_68 (by decide) ?_
    refine r_idiv (pc := 69) C dX7_price_69 (by decide) ?_
    refine r_topi (fun x4 ex4 => ?_)
    have h := h x4 ex4
    obtain ⟨o_a3, h⟩ := h
    obtain ⟨i5, a6, ea6, h⟩ := h
    refine r_aald18 (pc := 70) C dX7_price_70 o_a3 i5 ea6 ?_
    refine r_astore (pc := 71) C dX7_price_71 (by decide) (lv' := [(7, .ref a6), (0, .ref v0), (1, .ref v1), (2, .ref v2), (3, .int v3), (4, .ref v4), (5, .int v5), (6, .int v6)]) rfl ?_
    refine r_iload (pc := 73) C dX7_price_73 7 rfl ?_
    refine r_iconst (pc := 75) C (v := (2 : Int32)) dX7_price_75 (by decide) ?_
    refine r_irem (pc := 76) C dX7_price_76 (by decide) ?_
    refine r_topi (fun x7 ex7 => ?_)
    have h := h x7 ex7
    refine r_istore (pc := 77) C dX7_price_77 (by decide) (lv' := [(8, .int x7), (7, .ref a6), (0, .ref v0), (1, .ref v1), (2, .ref v2), (3, .int v3), (4, .ref v4), (5, .int v5), (6, .int v6)]) rfl ?_
    refine r_aload (pc := 79) C dX7_price_79 6 rfl ?_
    obtain ⟨o_v4, h⟩ := h
    refine r_geti (pc := 81) C fL_X7_102 dX7_price_81 o_v4 ?_
    refine r_topi (fun x8 ex8 => ?_)
    have h := h x8 ex8
    refine r_istore (pc := 84) C dX7_price_84 (by decide) (lv' := [(9, .int x8), (8, .int x7), (7, .ref a6), (0, .ref v0), (1, .ref v1), (2, .ref v2), (3, .int v3), (4, .ref v4), (5, .int v5), (6, .int v6)]) rfl ?_
    exact r_sub [3, 4, 5, 6, 7, 8, 9, 2, 1, 0] rfl (T_X7_price_86 C E ht hn hX51 h)
theorem T_X7_price_51 {X : CX} {Q : HS → Prop} (C : Cx X cX7_price RX7 12 rm_X7_price) (E : ReV X rm_X7_price Q) (ht : (xh X).sig.returnType = none) (hn : (xh X).name = yX7_price.name) {v0 : Nat} {v1 : Nat} {v2 : Nat} {v3 : Int32} {v4 : Nat} {v5 : Int32} {v6 : Int32} {S : HS} (h : P_X7_price_51 Q v0 v1 v2 v3 v4 v5 v6 S) : WS X 12 0 0 51 [(0, .ref v0), (1, .ref v1), (2, .ref v2), (3, .int v3), (4, .ref v4), (5, .int v5), (6, .int v6)] [] S :=
  h (fun v0 v1 v2 v3 v4 v5 v6 S => WS X 12 0 0 51 [(0, .ref v0), (1, .ref v1), (2, .ref v2), (3, .int v3), (4, .ref v4), (5, .int v5), (6, .int v6)] [] S) (fun v0 v1 v2 v3 v4 v5 v6 S hh => TB_X7_price_51 C E ht hn (fun v0 v1 v2 v3 v4 v5 v6 S z => z) hh)
def P_X7_price_46 (Q : HS → Prop) (v0 : Nat) (v1 : Nat) (v2 : Nat) (v3 : Int32) (v4 : Nat) (s0 : Int32) (S : HS) : Prop := P_X7_price_51 Q v0 v1 v2 v3 v4 s0 (0 : Int32) S
set_option maxRecDepth 20000 in
set_option maxHeartbeats 4000000 in
theorem T_X7_price_46 {X : CX} {Q : HS → Prop} (C : Cx X cX7_price RX7 12 rm_X7_price) (E : ReV X rm_X7_price Q) (ht : (xh X).sig.returnType = none) (hn : (xh X).name = yX7_price.name) {v0 : Nat} {v1 : Nat} {v2 : Nat} {v3 : Int32} {v4 : Nat} {s0 : Int32} {S : HS} (h : P_X7_price_46 Q v0 v1 v2 v3 v4 s0 S) : WS X 12 0 0 46 [(0, .ref v0), (1, .ref v1), (2, .ref v2), (3, .int v3), (4, .ref v4)] [.int s0] S := by
  refine r_istore (pc := 46) C dX7_price_46 (by decide) (lv' := [(5, .int s0), (0, .ref v0), (1, .ref v1), (2, .ref v2), (3, .int v3), (4, .ref v4)]) rfl ?_
  refine r_iconst (pc := 48) C (v := (0 : Int32)) dX7_price_48 (by decide) ?_
  refine r_istore (pc := 49) C dX7_price_49 (by decide) (lv' := [(6, .int (0 : Int32)), (5, .int s0), (0, .ref v0), (1, .ref v1), (2, .ref v2), (3, .int v3), (4, .ref v4)]) rfl ?_
  exact r_sub [2, 3, 4, 5, 6, 1, 0] rfl (T_X7_price_51 C E ht hn h)
def P_X7_price_0 (Q : HS → Prop) (v0 : Nat) (v1 : Nat) (v2 : Nat) (v3 : Int32) (S : HS) : Prop := ob S v0 7 ∧ (∀ S1 : HS, S1 = sI S v0 9 v3 → (∀ S2 : HS, S2 = sI S1 v0 3 (0 : Int32) → (∀ x3 : Int32, x3 = fI S2 v0 10 → (ob S2 v1 8 ∧ (P_X8_hasWalker v1 x3 (fun x6 S4 => Gr S2 S4 → bl x6 → (((¬ x6 = 0) → (∃ a8 : Nat, fR S4 v1 9 = some a8 ∧ (∀ x9 : Int32, x9 = fI S4 v0 10 → (ob S4 a8 19 ∧ (vp_in x9 (hN S4 a8) ∧ ∃ a11 : Nat, fR S4 a8 x9.toNatClampNeg = some a11 ∧ (P_X8_hasHour v1 v3 (fun x14 S12 => Gr S4 S12 → bl x14 → (((¬ x14 = 0) → (P_X7_price_46 Q v0 v1 v2 v3 a11 (0 : Int32) S12)) ∧ ((x14 = 0) → (P_X7_price_46 Q v0 v1 v2 v3 a11 (1 : Int32) S12)))) S4)))))) ∧ ((x6 = 0) → (Q S4)))) S2)))))
set_option maxRecDepth 20000 in
set_option maxHeartbeats 4000000 in
theorem T_X7_price_0 {X : CX} {Q : HS → Prop} (C : Cx X cX7_price RX7 12 rm_X7_price) (E : ReV X rm_X7_price Q) (ht : (xh X).sig.returnType = none) (hn : (xh X).name = yX7_price.name) {v0 : Nat} {v1 : Nat} {v2 : Nat} {v3 : Int32} {S : HS} (h : P_X7_price_0 Q v0 v1 v2 v3 S) : WS X 12 0 0 0 [(0, .ref v0), (1, .ref v1), (2, .ref v2), (3, .int v3)] [] S := by
  refine r_aload_n (pc := 0) C dX7_price_0 0 rfl ?_
  refine r_iload_n (pc := 1) C dX7_price_1 3 rfl ?_
  obtain ⟨o_v0, h⟩ := h
  refine r_puti (pc := 2) C pfL_X7_37 dX7_price_2 o_v0 ?_
  refine r_heap (fun S1 eS1 => ?_)
  have h := h S1 eS1
  have o_v0 := ob_I eS1 o_v0
  refine r_aload_n (pc := 5) C dX7_price_5 0 rfl ?_
  refine r_iconst (pc := 6) C (v := (0 : Int32)) dX7_price_6 (by decide) ?_
  refine r_puti (pc := 7) C pfL_X7_82 dX7_price_7 o_v0 ?_
  refine r_heap (fun S2 eS2 => ?_)
  have h := h S2 eS2
  have o_v0 := ob_I eS2 o_v0
  refine r_aload_n (pc := 10) C dX7_price_10 1 rfl ?_
  refine r_aload_n (pc := 11) C dX7_price_11 0 rfl ?_
  refine r_geti (pc := 12) C fL_X7_41 dX7_price_12 o_v0 ?_
  refine r_topi (fun x3 ex3 => ?_)
  have h := h x3 ex3
  obtain ⟨o_v1, h⟩ := h
  refine r_callVi0 (pc := 15) C (rest := []) (a := v1) o_v1 [.int x3] yV_X8_hasWalker g_849 (c_X8_hasWalker h) dX7_price_15 rfl rfl (Nat.le_of_ble_eq_true rfl) ⟨by decide, by decide⟩ ⟨by decide, by decide⟩ ⟨rfl, rfl⟩ (fun x6 S4 h g5 => ?_)
  have bx6 := h.1
  have h := h.2 g5 bx6
  have o_v0 := gr_ob g5 o_v0
  have o_v1 := gr_ob g5 o_v1
  refine r_if_ne (pc := 18) C (tgt := 22) dX7_price_18 (by decide) (fun c7 => ?_) (fun c7 => ?_)
  · have h := h.1 c7
    refine r_aload_n (pc := 22) C dX7_price_22 1 rfl ?_
    obtain ⟨a8, ea8, h⟩ := h
    refine r_getr (pc := 23) C fL_X7_89 dX7_price_23 o_v1 ea8 ?_
    refine r_aload_n (pc := 26) C dX7_price_26 0 rfl ?_
    refine r_geti (pc := 27) C fL_X7_41 dX7_price_27 o_v0 ?_
    refine r_topi (fun x9 ex9 => ?_)
    have h := h x9 ex9
    obtain ⟨o_a8, h⟩ := h
    obtain ⟨i10, a11, ea11, h⟩ := h
    refine r_aald19 (pc := 30) C dX7_price_30 o_a8 i10 ea11 ?_
    refine r_astore (pc := 31) C dX7_price_31 (by decide) (lv' := [(4, .ref a11), (0, .ref v0), (1, .ref v1), (2, .ref v2), (3, .int v3)]) rfl ?_
    refine r_aload_n (pc := 33) C dX7_price_33 2 rfl ?_
    refine r_iload_n (pc := 34) C dX7_price_34 4 rfl ?_
    refine r_callVi0 (pc := 35) C (rest := []) (a := v1) o_v1 [.int v3] yV_X8_hasHour g_850 (c_X8_hasHour h) dX7_price_35 rfl rfl (Nat.le_of_ble_eq_true rfl) ⟨by decide, by decide⟩ ⟨by decide, by decide⟩ ⟨rfl, rfl⟩ (fun x14 S12 h g13 => ?_)
    have bx14 := h.1
    have h := h.2 g13 bx14
    have o_a8 := gr_ob g13 o_a8
    have o_v0 := gr_ob g13 o_v0
    have o_v1 := gr_ob g13 o_v1
    refine r_if_ne (pc := 38) C (tgt := 45) dX7_price_38 (by decide) (fun c15 => ?_) (fun c15 => ?_)
    · have h := h.1 c15
      refine r_iconst (pc := 45) C (v := (0 : Int32)) dX7_price_45 (by decide) ?_
      exact r_sub [1, 2, 3, 4, 0] rfl (T_X7_price_46 C E ht hn h)
    · have h := h.2 c15
      refine r_iconst (pc := 41) C (v := (1 : Int32)) dX7_price_41 (by decide) ?_
      refine r_goto (pc := 42) C (tgt := 46) dX7_price_42 (by decide) ?_
      exact r_sub [1, 2, 3, 4, 0] rfl (T_X7_price_46 C E ht hn h)
  · have h := h.2 c7
    exact r_vret (pc := 21) C E ht dX7_price_21 (by decide) (by decide) h
def P_X7_price (v0 : Nat) (v1 : Nat) (v2 : Nat) (v3 : Int32) (Q : HS → Prop) (S : HS) : Prop := P_X7_price_0 Q v0 v1 v2 v3 S
theorem c_X7_price {l : Launch} {Ee : EE} {S : HS} {v0 : Nat} {v1 : Nat} {v2 : Nat} {v3 : Int32} {Q : HS → Prop} (h : P_X7_price v0 v1 v2 v3 Q S) : MV l yX7_price cX7_price 12 none rm_X7_price Ee S [.ref v0, .ref v1, .ref v2, .int v3] Q :=
  openV (by decide) (Nat.le_of_ble_eq_true rfl) (fun X C E ht hn hE hl => by subst hE; exact r_sub [0, 1, 2, 3] rfl (T_X7_price_0 C E ht hn h))
def rm_X7_reckonMinute : Room := { frames := 0, cells := 0, slots := 0, locals := 0 }
def P_X7_reckonMinute_40 (Q : HS → Prop) (X2 : Nat → Int32 → Int32 → Int32 → HS → Prop) (v0 : Nat) (v1 : Int32) (v2 : Int32) (v3 : Int32) (s0 : Nat) (s1 : Int32) (s2 : Int64) (S : HS) : Prop := ob S s0 14 ∧ (vp_in s1 (hN S s0) ∧ (∀ S2 : HS, S2 = sJ S s0 s1.toNatClampNeg s2 → (ob S2 v0 7 ∧ (∃ a3 : Nat, fR S2 v0 2 = some a3 ∧ (ob S2 a3 13 ∧ (vp_in ((v3 * (401 : Int32)) + v2) (hN S2 a3) ∧ (∀ S5 : HS, S5 = sI S2 a3 ((v3 * (401 : Int32)) + v2).toNatClampNeg (-1 : Int32) → (∀ x6 : Int32, x6 = v3 + (1 : Int32) → (X2 v0 v1 v2 x6 S5)))))))))
set_option maxRecDepth 20000 in
set_option maxHeartbeats 4000000 in
theorem T_X7_reckonMinute_40 {X : CX} {Q : HS → Prop} (C : Cx X cX7_reckonMinute RX7 9 rm_X7_reckonMinute) (E : ReV X rm_X7_reckonMinute Q) (ht : (xh X).sig.returnType = none) (hn : (xh X).name = yX7_reckonMinute.name) {X2 : Nat → Int32 → Int32 → Int32 → HS → Prop} (hX2 : ∀ (v0 : Nat) (v1 : Int32) (v2 : Int32) (v3 : Int32) (S : HS), X2 v0 v1 v2 v3 S → WS X 9 0 0 2 [(0, .ref v0), (1, .int v1), (2, .int v2), (3, .int v3)] [] S) {v0 : Nat} {v1 : Int32} {v2 : Int32} {v3 : Int32} {s0 : Nat} {s1 : Int32} {s2 : Int64} {S : HS} (h : P_X7_reckonMinute_40 Q X2 v0 v1 v2 v3 s0 s1 s2 S) : WS X 9 0 0 40 [(0, .ref v0), (1, .int v1), (2, .int v2), (3, .int v3)] [.long s2, .int s1, .ref s0] S := by
  obtain ⟨o_s0, h⟩ := h
  obtain ⟨i1, h⟩ := h
  refine r_last (pc := 40) C dX7_reckonMinute_40 o_s0 i1 ?_
  refine r_heap (fun S2 eS2 => ?_)
  have h := h S2 eS2
  have o_s0 := ob_J eS2 o_s0
  refine r_aload_n (pc := 41) C dX7_reckonMinute_41 0 rfl ?_
  obtain ⟨o_v0, h⟩ := h
  obtain ⟨a3, ea3, h⟩ := h
  refine r_getr (pc := 42) C fL_X7_19 dX7_reckonMinute_42 o_v0 ea3 ?_
  refine r_iload_n (pc := 45) C dX7_reckonMinute_45 3 rfl ?_
  refine r_sipush (pc := 46) C (v := (401 : Int32)) dX7_reckonMinute_46 (by decide) ?_
  refine r_imul (pc := 49) C dX7_reckonMinute_49 ?_
  refine r_iload_n (pc := 50) C dX7_reckonMinute_50 2 rfl ?_
  refine r_iadd (pc := 51) C dX7_reckonMinute_51 ?_
  refine r_iconst (pc := 52) C (v := (-1 : Int32)) dX7_reckonMinute_52 (by decide) ?_
  obtain ⟨o_a3, h⟩ := h
  obtain ⟨i4, h⟩ := h
  refine r_iast (pc := 53) C dX7_reckonMinute_53 o_a3 i4 ?_
  refine r_heap (fun S5 eS5 => ?_)
  have h := h S5 eS5
  have o_a3 := ob_I eS5 o_a3
  have o_s0 := ob_I eS5 o_s0
  have o_v0 := ob_I eS5 o_v0
  obtain ⟨x6, ex6⟩ : ∃ z : Int32, z = v3 + (1 : Int32) := ⟨_, rfl⟩
  have h := h x6 ex6
  refine r_iinc (pc := 54) C (v := x6) (lv' := [(3, .int x6), (0, .ref v0), (1, .int v1), (2, .int v2)]) dX7_reckonMinute_54 3 rfl ex6.symm (by decide) rfl ?_
  refine r_goto (pc := 57) C (tgt := 2) dX7_reckonMinute_57 (by decide) ?_
  exact r_sub [1, 2, 3, 0] rfl (hX2 v0 v1 v2 x6 S5 h)
def P_X7_reckonMinute_219 (Q : HS → Prop) (X62 : Nat → Int32 → Int32 → HS → Prop) (v0 : Nat) (v2 : Int32) (v3 : Int32) (S : HS) : Prop := ∀ x1 : Int32, x1 = v3 + (1 : Int32) → (X62 v0 v2 x1 S)
set_option maxRecDepth 20000 in
set_option maxHeartbeats 4000000 in
theorem T_X7_reckonMinute_219 {X : CX} {Q : HS → Prop} (C : Cx X cX7_reckonMinute RX7 9 rm_X7_reckonMinute) (E : ReV X rm_X7_reckonMinute Q) (ht : (xh X).sig.returnType = none) (hn : (xh X).name = yX7_reckonMinute.name) {X62 : Nat → Int32 → Int32 → HS → Prop} (hX62 : ∀ (v0 : Nat) (v2 : Int32) (v3 : Int32) (S : HS), X62 v0 v2 v3 S → WS X 9 0 0 62 [(0, .ref v0), (2, .int v2), (3, .int v3)] [] S) {v0 : Nat} {v2 : Int32} {v3 : Int32} {S : HS} (h : P_X7_reckonMinute_219 Q X62 v0 v2 v3 S) : WS X 9 0 0 219 [(0, .ref v0), (2, .int v2), (3, .int v3)] [] S := by
  obtain ⟨x1, ex1⟩ : ∃ z : Int32, z = v3 + (1 : Int32) := ⟨_, rfl⟩
  have h := h x1 ex1
  refine r_iinc (pc := 219) C (v := x1) (lv' := [(3, .int x1), (0, .ref v0), (2, .int v2)]) dX7_reckonMinute_219 2 rfl ex1.symm (by decide) rfl ?_
  refine r_goto (pc := 222) C (tgt := 62) dX7_reckonMinute_222 (by decide) ?_
  exact r_sub [1, 2, 0] rfl (hX62 v0 v2 x1 S h)
def P_X7_reckonMinute_117 (Q : HS → Prop) (X62 : Nat → Int32 → Int32 → HS → Prop) (v0 : Nat) (v2 : Int32) (v3 : Int32) (v4 : Int32) (v5 : Int32) (s0 : Int32) (S : HS) : Prop := ((s0 = 0) → (P_X7_reckonMinute_219 Q X62 v0 v2 v3 S)) ∧ ((¬ s0 = 0) → (((v4 < 0) → (P_X7_reckonMinute_219 Q X62 v0 v2 v3 S)) ∧ ((¬ v4 < 0) → (ob S v0 7 ∧ (∃ a3 : Nat, fR S v0 1 = some a3 ∧ (ob S a3 14 ∧ ((((nI (hN S a3)) ≤ v4) → (P_X7_reckonMinute_219 Q X62 v0 v2 v3 S)) ∧ ((¬ (nI (hN S a3)) ≤ v4) → (((v5 < 0) → (P_X7_reckonMinute_219 Q X62 v0 v2 v3 S)) ∧ ((¬ v5 < 0) → (∃ a6 : Nat, fR S v0 1 = some a6 ∧ (ob S a6 14 ∧ ((((nI (hN S a6)) ≤ v5) → (P_X7_reckonMinute_219 Q X62 v0 v2 v3 S)) ∧ ((¬ (nI (hN S a6)) ≤ v5) → (∃ a8 : Nat, fR S v0 1 = some a8 ∧ (ob S a8 14 ∧ (vp_in v5 (hN S a8) ∧ ∀ x10 : Int64, x10 = fJ S a8 v5.toNatClampNeg → ((((lg_cmp x10 (4611686018427387904 : Int64)) = 0) → (P_X7_reckonMinute_219 Q X62 v0 v2 v3 S)) ∧ ((¬ (lg_cmp x10 (4611686018427387904 : Int64)) = 0) → (∃ a12 : Nat, fR S v0 7 = some a12 ∧ (ob S a12 14 ∧ (vp_in v3 (hN S a12) ∧ ∀ x14 : Int64, x14 = fJ S a12 v3.toNatClampNeg → (∃ a15 : Nat, fR S v0 1 = some a15 ∧ (ob S a15 14 ∧ (vp_in v5 (hN S a15) ∧ ∀ x17 : Int64, x17 = fJ S a15 v5.toNatClampNeg → (∀ x18 : Int64, x18 = x14 + x17 → (∃ a19 : Nat, fR S v0 1 = some a19 ∧ (ob S a19 14 ∧ (vp_in v4 (hN S a19) ∧ ∀ x21 : Int64, x21 = fJ S a19 v4.toNatClampNeg → (((0 ≤ (lg_cmp x18 x21)) → (P_X7_reckonMinute_219 Q X62 v0 v2 v3 S)) ∧ ((¬ 0 ≤ (lg_cmp x18 x21)) → (∃ a23 : Nat, fR S v0 1 = some a23 ∧ (ob S a23 14 ∧ (vp_in v4 (hN S a23) ∧ (∀ S25 : HS, S25 = sJ S a23 v4.toNatClampNeg x18 → (∃ a26 : Nat, fR S25 v0 2 = some a26 ∧ (∃ a27 : Nat, fR S25 v0 8 = some a27 ∧ (ob S25 a27 13 ∧ (vp_in v3 (hN S25 a27) ∧ ∀ x29 : Int32, x29 = fI S25 a27 v3.toNatClampNeg → (ob S25 a26 13 ∧ (vp_in v4 (hN S25 a26) ∧ (∀ S31 : HS, S31 = sI S25 a26 v4.toNatClampNeg x29 → (P_X7_reckonMinute_219 Q X62 v0 v2 v3 S31)))))))))))))))))))))))))))))))))))))))))))
set_option maxRecDepth 20000 in
set_option maxHeartbeats 4000000 in
theorem T_X7_reckonMinute_117 {X : CX} {Q : HS → Prop} (C : Cx X cX7_reckonMinute RX7 9 rm_X7_reckonMinute) (E : ReV X rm_X7_reckonMinute Q) (ht : (xh X).sig.returnType = none) (hn : (xh X).name = yX7_reckonMinute.name) {X62 : Nat → Int32 → Int32 → HS → Prop} (hX62 : ∀ (v0 : Nat) (v2 : Int32) (v3 : Int32) (S : HS), X62 v0 v2 v3 S → WS X 9 0 0 62 [(0, .ref v0), (2, .int v2), (3, .int v3)] [] S) {v0 : Nat} {v2 : Int32} {v3 : Int32} {v4 : Int32} {v5 : Int32} {s0 : Int32} {S : HS} (h : P_X7_reckonMinute_117 Q X62 v0 v2 v3 v4 v5 s0 S) : WS X 9 0 0 117 [(0, .ref v0), (2, .int v2), (3, .int v3), (4, .int v4), (5, .int v5)] [.int s0] S := by
  refine r_istore (pc := 117) C dX7_reckonMinute_117 (by decide) (lv' := [(6, .int s0), (0, .ref v0), (2, .int v2), (3, .int v3), (4, .int v4), (5, .int v5)]) rfl ?_
  refine r_iload (pc := 119) C dX7_reckonMinute_119 0 rfl ?_
  refine r_if_eq (pc := 121) C (tgt := 219) dX7_reckonMinute_121 (by decide) (fun c1 => ?_) (fun c1 => ?_)
  · have h := h.1 c1
    exact r_sub [1, 2, 3] rfl (T_X7_reckonMinute_219 C E ht hn hX62 h)
  · have h := h.2 c1
    refine r_iload (pc := 124) C dX7_reckonMinute_124 4 rfl ?_
    refine r_if_lt (pc := 126) C (tgt := 219) dX7_reckonMinute_126 (by decide) (fun c2 => ?_) (fun c2 => ?_)
    · have h := h.1 c2
      exact r_sub [1, 2, 3] rfl (T_X7_reckonMinute_219 C E ht hn hX62 h)
    · have h := h.2 c2
      refine r_iload (pc := 129) C dX7_reckonMinute_129 4 rfl ?_
      refine r_aload_n (pc := 131) C dX7_reckonMinute_131 1 rfl ?_
      obtain ⟨o_v0, h⟩ := h
      obtain ⟨a3, ea3, h⟩ := h
      refine r_getr (pc := 132) C fL_X7_15 dX7_reckonMinute_132 o_v0 ea3 ?_
      obtain ⟨o_a3, h⟩ := h
      refine r_alen14 (pc := 135) C dX7_reckonMinute_135 o_a3 ?_
      refine r_icmp_ge (pc := 136) C (tgt := 219) dX7_reckonMinute_136 (by decide) (fun c4 => ?_) (fun c4 => ?_)
      · have h := h.1 c4
        exact r_sub [1, 2, 3] rfl (T_X7_reckonMinute_219 C E ht hn hX62 h)
      · have h := h.2 c4
        refine r_iload (pc := 139) C dX7_reckonMinute_139 5 rfl ?_
        refine r_if_lt (pc := 141) C (tgt := 219) dX7_reckonMinute_141 (by decide) (fun c5 => ?_) (fun c5 => ?_)
        · have h := h.1 c5
          exact r_sub [1, 2, 3] rfl (T_X7_reckonMinute_219 C E ht hn hX62 h)
        · have h := h.2 c5
          refine r_iload (pc := 144) C dX7_reckonMinute_144 5 rfl ?_
          refine r_aload_n (pc := 146) C dX7_reckonMinute_146 1 rfl ?_
          obtain ⟨a6, ea6, h⟩ := h
          refine r_getr (pc := 147) C fL_X7_15 dX7_reckonMinute_147 o_v0 ea6 ?_
          obtain ⟨o_a6, h⟩ := h
          refine r_alen14 (pc := 150) C dX7_reckonMinute_150 o_a6 ?_
          refine r_icmp_ge (pc := 151) C (tgt := 219) dX7_reckonMinute_151 (by decide) (fun c7 => ?_) (fun c7 => ?_)
          · have h := h.1 c7
            exact r_sub [1, 2, 3] rfl (T_X7_reckonMinute_219 C E ht hn hX62 h)
          · have h := h.2 c7
            refine r_aload_n (pc := 154) C dX7_reckonMinute_154 1 rfl ?_
            obtain ⟨a8, ea8, h⟩ := h
            refine r_getr (pc := 155) C fL_X7_15 dX7_reckonMinute_155 o_v0 ea8 ?_
            refine r_iload (pc := 158) C dX7_reckonMinute_158 5 rfl ?_
            obtain ⟨o_a8, h⟩ := h
            obtain ⟨i9, h⟩ := h
            refine r_lald (pc := 160) C dX7_reckonMinute_160 o_a8 i9 ?_
            refine r_topl (fun x10 ex10 => ?_)
            have h := h x10 ex10
            refine r_ldc2 (pc := 161) C (v := (4611686018427387904 : Int64)) dX7_reckonMinute_161 g_887 ?_
            refine r_lcmp (pc := 164) C dX7_reckonMinute_164 ?_
            refine r_if_eq (pc := 165) C (tgt := 219) dX7_reckonMinute_165 (by decide) (fun c11 => ?_) (fun c11 => ?_)
            · have h := h.1 c11
              exact r_sub [1, 2, 3] rfl (T_X7_reckonMinute_219 C E ht hn hX62 h)
            · have h := h.2 c11
              refine r_aload_n (pc := 168) C dX7_reckonMinute_168 1 rfl ?_
              obtain ⟨a12, ea12, h⟩ := h
              refine r_getr (pc := 169) C fL_X7_31 dX7_reckonMinute_169 o_v0 ea12 ?_
              refine r_iload_n (pc := 172) C dX7_reckonMinute_172 3 rfl ?_
              obtain ⟨o_a12, h⟩ := h
              obtain ⟨i13, h⟩ := h
              refine r_lald (pc := 173) C dX7_reckonMinute_173 o_a12 i13 ?_
              refine r_topl (fun x14 ex14 => ?_)
              have h := h x14 ex14
              refine r_aload_n (pc := 174) C dX7_reckonMinute_174 1 rfl ?_
              obtain ⟨a15, ea15, h⟩ := h
              refine r_getr (pc := 175) C fL_X7_15 dX7_reckonMinute_175 o_v0 ea15 ?_
              refine r_iload (pc := 178) C dX7_reckonMinute_178 5 rfl ?_
              obtain ⟨o_a15, h⟩ := h
              obtain ⟨i16, h⟩ := h
              refine r_lald (pc := 180) C dX7_reckonMinute_180 o_a15 i16 ?_
              refine r_topl (fun x17 ex17 => ?_)
              have h := h x17 ex17
              refine r_ladd (pc := 181) C dX7_reckonMinute_181 ?_
              refine r_topl (fun x18 ex18 => ?_)
              have h := h x18 ex18
              refine r_lstore (pc := 182) C dX7_reckonMinute_182 (by decide) (lv' := [(7, .long x18), (6, .int s0), (0, .ref v0), (2, .int v2), (3, .int v3), (4, .int v4), (5, .int v5)]) rfl ?_
              refine r_lload (pc := 184) C dX7_reckonMinute_184 0 rfl ?_
              refine r_aload_n (pc := 186) C dX7_reckonMinute_186 2 rfl ?_
              obtain ⟨a19, ea19, h⟩ := h
              refine r_getr (pc := 187) C fL_X7_15 dX7_reckonMinute_187 o_v0 ea19 ?_
              refine r_iload (pc := 190) C dX7_reckonMinute_190 5 rfl ?_
              obtain ⟨o_a19, h⟩ := h
              obtain ⟨i20, h⟩ := h
              refine r_lald (pc := 192) C dX7_reckonMinute_192 o_a19 i20 ?_
              refine r_topl (fun x21 ex21 => ?_)
              have h := h x21 ex21
              refine r_lcmp (pc := 193) C dX7_reckonMinute_193 ?_
              refine r_if_ge (pc := 194) C (tgt := 219) dX7_reckonMinute_194 (by decide) (fun c22 => ?_) (fun c22 => ?_)
              · have h := h.1 c22
                exact r_sub [2, 3, 4] rfl (T_X7_reckonMinute_219 C E ht hn hX62 h)
              · have h := h.2 c22
                refine r_aload_n (pc := 197) C dX7_reckonMinute_197 2 rfl ?_
                obtain ⟨a23, ea23, h⟩ := h
                refine r_getr (pc := 198) C fL_X7_15 dX7_reckonMinute_198 o_v0 ea23 ?_
                refine r_iload (pc := 201) C dX7_reckonMinute_201 5 rfl ?_
                refine r_lload (pc := 203) C dX7_reckonMinute_203 0 rfl ?_
                obtain ⟨o_a23, h⟩ := h
                obtain ⟨i24, h⟩ := h
                refine r_last (pc := 205) C dX7_reckonMinute_205 o_a23 i24 ?_
                refine r_heap (fun S25 eS25 => ?_)
                have h := h S25 eS25
                have o_a12 := ob_J eS25 o_a12
                have o_a15 := ob_J eS25 o_a15
                have o_a19 := ob_J eS25 o_a19
                have o_a23 := ob_J eS25 o_a23
                have o_a3 := ob_J eS25 o_a3
                have o_a6 := ob_J eS25 o_a6
                have o_a8 := ob_J eS25 o_a8
                have o_v0 := ob_J eS25 o_v0
                refine r_aload_n (pc := 206) C dX7_reckonMinute_206 2 rfl ?_
                obtain ⟨a26, ea26, h⟩ := h
                refine r_getr (pc := 207) C fL_X7_19 dX7_reckonMinute_207 o_v0 ea26 ?_
                refine r_iload (pc := 210) C dX7_reckonMinute_210 5 rfl ?_
                refine r_aload_n (pc := 212) C dX7_reckonMinute_212 2 rfl ?_
                obtain ⟨a27, ea27, h⟩ := h
                refine r_getr (pc := 213) C fL_X7_34 dX7_reckonMinute_213 o_v0 ea27 ?_
                refine r_iload_n (pc := 216) C dX7_reckonMinute_216 4 rfl ?_
                obtain ⟨o_a27, h⟩ := h
                obtain ⟨i28, h⟩ := h
                refine r_iald (pc := 217) C dX7_reckonMinute_217 o_a27 i28 ?_
                refine r_topi (fun x29 ex29 => ?_)
                have h := h x29 ex29
                obtain ⟨o_a26, h⟩ := h
                obtain ⟨i30, h⟩ := h
                refine r_iast (pc := 218) C dX7_reckonMinute_218 o_a26 i30 ?_
                refine r_heap (fun S31 eS31 => ?_)
                have h := h S31 eS31
                have o_a12 := ob_I eS31 o_a12
                have o_a15 := ob_I eS31 o_a15
                have o_a19 := ob_I eS31 o_a19
                have o_a23 := ob_I eS31 o_a23
                have o_a26 := ob_I eS31 o_a26
                have o_a27 := ob_I eS31 o_a27
                have o_a3 := ob_I eS31 o_a3
                have o_a6 := ob_I eS31 o_a6
                have o_a8 := ob_I eS31 o_a8
                have o_v0 := ob_I eS31 o_v0
                exact r_sub [2, 3, 4] rfl (T_X7_reckonMinute_219 C E ht hn hX62 h)
def B_X7_reckonMinute_62 (Q : HS → Prop) (X62 : Nat → Int32 → Int32 → HS → Prop) (v0 : Nat) (v2 : Int32) (v3 : Int32) (S : HS) : Prop := ob S v0 7 ∧ (∀ x1 : Int32, x1 = fI S v0 3 → (((x1 ≤ v3) → (Q S)) ∧ ((¬ x1 ≤ v3) → ((((224 : Int32) ≤ v3) → (Q S)) ∧ ((¬ (224 : Int32) ≤ v3) → (∃ a4 : Nat, fR S v0 4 = some a4 ∧ (ob S a4 13 ∧ (vp_in v3 (hN S a4) ∧ ∀ x6 : Int32, x6 = fI S a4 v3.toNatClampNeg → (∀ x7 : Int32, x7 = x6 + v2 → (∃ a8 : Nat, fR S v0 5 = some a8 ∧ (ob S a8 13 ∧ (vp_in v3 (hN S a8) ∧ ∀ x10 : Int32, x10 = fI S a8 v3.toNatClampNeg → (∀ x11 : Int32, x11 = x10 + v2 → (∃ a12 : Nat, fR S v0 6 = some a12 ∧ (ob S a12 13 ∧ (vp_in v3 (hN S a12) ∧ ∀ x14 : Int32, x14 = fI S a12 v3.toNatClampNeg → (∀ x15 : Int32, x15 = fI S v0 12 → ((((x15 - v2) < x14) → (P_X7_reckonMinute_117 Q X62 v0 v2 v3 x7 x11 (0 : Int32) S)) ∧ ((¬ (x15 - v2) < x14) → (P_X7_reckonMinute_117 Q X62 v0 v2 v3 x7 x11 (1 : Int32) S))))))))))))))))))))
def P_X7_reckonMinute_62 (Q : HS → Prop) (v0 : Nat) (v2 : Int32) (v3 : Int32) (S : HS) : Prop := ∀ X62 : Nat → Int32 → Int32 → HS → Prop, (∀ (v0 : Nat) (v2 : Int32) (v3 : Int32) (S : HS), B_X7_reckonMinute_62 Q X62 v0 v2 v3 S → X62 v0 v2 v3 S) → X62 v0 v2 v3 S
set_option maxRecDepth 20000 in
set_option maxHeartbeats 4000000 in
theorem TB_X7_reckonMinute_62 {X : CX} {Q : HS → Prop} (C : Cx X cX7_reckonMinute RX7 9 rm_X7_reckonMinute) (E : ReV X rm_X7_reckonMinute Q) (ht : (xh X).sig.returnType = none) (hn : (xh X).name = yX7_reckonMinute.name) {X62 : Nat → Int32 → Int32 → HS → Prop} (hX62 : ∀ (v0 : Nat) (v2 : Int32) (v3 : Int32) (S : HS), X62 v0 v2 v3 S → WS X 9 0 0 62 [(0, .ref v0), (2, .int v2), (3, .int v3)] [] S) {v0 : Nat} {v2 : Int32} {v3 : Int32} {S : HS} (h : B_X7_reckonMinute_62 Q X62 v0 v2 v3 S) : WS X 9 0 0 62 [(0, .ref v0), (2, .int v2), (3, .int v3)] [] S := by
  refine r_iload_n (pc := 62) C dX7_reckonMinute_62 2 rfl ?_
  refine r_aload_n (pc := 63) C dX7_reckonMinute_63 0 rfl ?_
  obtain ⟨o_v0, h⟩ := h
  refine r_geti (pc := 64) C fL_X7_82 dX7_reckonMinute_64 o_v0 ?_
  refine r_topi (fun x1 ex1 => ?_)
  have h := h x1 ex1
  refine r_icmp_ge (pc := 67) C (tgt := 225) dX7_reckonMinute_67 (by decide) (fun c2 => ?_) (fun c2 => ?_)
  · have h := h.1 c2
    exact r_vret (pc := 225) C E ht dX7_reckonMinute_225 (by decide) (by decide) h
  · have h := h.2 c2
    refine r_iload_n (pc := 70) C dX7_reckonMinute_70 2 rfl ?_
    refine r_sipush (pc := 71) C (v := (224 : Int32)) dX7_reckonMinute_71 (by decide) ?_
    refine r_icmp_ge (pc := 74) C (tgt := 225) dX7_reckonMinute_74 (by decide) (fun c3 => ?_) (fun c3 => ?_)
    · have h := h.1 c3
      exact r_vret (pc := 225) C E ht dX7_reckonMinute_225 (by decide) (by decide) h
    · have h := h.2 c3
      refine r_aload_n (pc := 77) C dX7_reckonMinute_77 0 rfl ?_
      obtain ⟨a4, ea4, h⟩ := h
      refine r_getr (pc := 78) C fL_X7_22 dX7_reckonMinute_78 o_v0 ea4 ?_
      refine r_iload_n (pc := 81) C dX7_reckonMinute_81 2 rfl ?_
      obtain ⟨o_a4, h⟩ := h
      obtain ⟨i5, h⟩ := h
      refine r_iald (pc := 82) C dX7_reckonMinute_82 o_a4 i5 ?_
      refine r_topi (fun x6 ex6 => ?_)
      have h := h x6 ex6
      refine r_iload_n (pc := 83) C dX7_reckonMinute_83 1 rfl ?_
      refine r_iadd (pc := 84) C dX7_reckonMinute_84 ?_
      refine r_topi (fun x7 ex7 => ?_)
      have h := h x7 ex7
      refine r_istore (pc := 85) C dX7_reckonMinute_85 (by decide) (lv' := [(4, .int x7), (0, .ref v0), (2, .int v2), (3, .int v3)]) rfl ?_
      refine r_aload_n (pc := 87) C dX7_reckonMinute_87 1 rfl ?_
      obtain ⟨a8, ea8, h⟩ := h
      refine r_getr (pc := 88) C fL_X7_25 dX7_reckonMinute_88 o_v0 ea8 ?_
      refine r_iload_n (pc := 91) C dX7_reckonMinute_91 3 rfl ?_
      obtain ⟨o_a8, h⟩ := h
      obtain ⟨i9, h⟩ := h
      refine r_iald (pc := 92) C dX7_reckonMinute_92 o_a8 i9 ?_
      refine r_topi (fun x10 ex10 => ?_)
      have h := h x10 ex10
      refine r_iload_n (pc := 93) C dX7_reckonMinute_93 2 rfl ?_
      refine r_iadd (pc := 94) C dX7_reckonMinute_94 ?_
      refine r_topi (fun x11 ex11 => ?_)
      have h := h x11 ex11
      refine r_istore (pc := 95) C dX7_reckonMinute_95 (by decide) (lv' := [(5, .int x11), (4, .int x7), (0, .ref v0), (2, .int v2), (3, .int v3)]) rfl ?_
      refine r_aload_n (pc := 97) C dX7_reckonMinute_97 2 rfl ?_
      obtain ⟨a12, ea12, h⟩ := h
      refine r_getr (pc := 98) C fL_X7_28 dX7_reckonMinute_98 o_v0 ea12 ?_
      refine r_iload_n (pc := 101) C dX7_reckonMinute_101 4 rfl ?_
      obtain ⟨o_a12, h⟩ := h
      obtain ⟨i13, h⟩ := h
      refine r_iald (pc := 102) C dX7_reckonMinute_102 o_a12 i13 ?_
      refine r_topi (fun x14 ex14 => ?_)
      have h := h x14 ex14
      refine r_aload_n (pc := 103) C dX7_reckonMinute_103 2 rfl ?_
      refine r_geti (pc := 104) C fL_X7_47 dX7_reckonMinute_104 o_v0 ?_
      refine r_topi (fun x15 ex15 => ?_)
      have h := h x15 ex15
      refine r_iload_n (pc := 107) C dX7_reckonMinute_107 3 rfl ?_
      refine r_isub (pc := 108) C dX7_reckonMinute_108 ?_
      refine r_icmp_gt (pc := 109) C (tgt := 116) dX7_reckonMinute_109 (by decide) (fun c16 => ?_) (fun c16 => ?_)
      · have h := h.1 c16
        refine r_iconst (pc := 116) C (v := (0 : Int32)) dX7_reckonMinute_116 (by decide) ?_
        exact r_sub [2, 3, 4, 1, 0] rfl (T_X7_reckonMinute_117 C E ht hn hX62 h)
      · have h := h.2 c16
        refine r_iconst (pc := 112) C (v := (1 : Int32)) dX7_reckonMinute_112 (by decide) ?_
        refine r_goto (pc := 113) C (tgt := 117) dX7_reckonMinute_113 (by decide) ?_
        exact r_sub [2, 3, 4, 1, 0] rfl (T_X7_reckonMinute_117 C E ht hn hX62 h)
theorem T_X7_reckonMinute_62 {X : CX} {Q : HS → Prop} (C : Cx X cX7_reckonMinute RX7 9 rm_X7_reckonMinute) (E : ReV X rm_X7_reckonMinute Q) (ht : (xh X).sig.returnType = none) (hn : (xh X).name = yX7_reckonMinute.name) {v0 : Nat} {v2 : Int32} {v3 : Int32} {S : HS} (h : P_X7_reckonMinute_62 Q v0 v2 v3 S) : WS X 9 0 0 62 [(0, .ref v0), (2, .int v2), (3, .int v3)] [] S :=
  h (fun v0 v2 v3 S => WS X 9 0 0 62 [(0, .ref v0), (2, .int v2), (3, .int v3)] [] S) (fun v0 v2 v3 S hh => TB_X7_reckonMinute_62 C E ht hn (fun v0 v2 v3 S z => z) hh)
def P_X7_reckonMinute_60 (Q : HS → Prop) (v0 : Nat) (v2 : Int32) (S : HS) : Prop := P_X7_reckonMinute_62 Q v0 v2 (0 : Int32) S
set_option maxRecDepth 20000 in
set_option maxHeartbeats 4000000 in
theorem T_X7_reckonMinute_60 {X : CX} {Q : HS → Prop} (C : Cx X cX7_reckonMinute RX7 9 rm_X7_reckonMinute) (E : ReV X rm_X7_reckonMinute Q) (ht : (xh X).sig.returnType = none) (hn : (xh X).name = yX7_reckonMinute.name) {v0 : Nat} {v2 : Int32} {S : HS} (h : P_X7_reckonMinute_60 Q v0 v2 S) : WS X 9 0 0 60 [(0, .ref v0), (2, .int v2)] [] S := by
  refine r_iconst (pc := 60) C (v := (0 : Int32)) dX7_reckonMinute_60 (by decide) ?_
  refine r_istore_n (pc := 61) C dX7_reckonMinute_61 rfl (by decide) (lv' := [(3, .int (0 : Int32)), (0, .ref v0), (2, .int v2)]) rfl ?_
  exact r_sub [1, 2, 0] rfl (T_X7_reckonMinute_62 C E ht hn h)
def B_X7_reckonMinute_2 (Q : HS → Prop) (X2 : Nat → Int32 → Int32 → Int32 → HS → Prop) (v0 : Nat) (v1 : Int32) (v2 : Int32) (v3 : Int32) (S : HS) : Prop := ((v1 ≤ v3) → (P_X7_reckonMinute_60 Q v0 v2 S)) ∧ ((¬ v1 ≤ v3) → ((((8 : Int32) ≤ v3) → (P_X7_reckonMinute_60 Q v0 v2 S)) ∧ ((¬ (8 : Int32) ≤ v3) → (ob S v0 7 ∧ (∃ a3 : Nat, fR S v0 1 = some a3 ∧ (∀ x4 : Int32, x4 = fI S v0 11 → (((¬ v3 = x4) → (P_X7_reckonMinute_40 Q X2 v0 v1 v2 v3 a3 ((v3 * (401 : Int32)) + v2) (4611686018427387904 : Int64) S)) ∧ ((v3 = x4) → (P_X7_reckonMinute_40 Q X2 v0 v1 v2 v3 a3 ((v3 * (401 : Int32)) + v2) v2.toInt64 S)))))))))
def P_X7_reckonMinute_2 (Q : HS → Prop) (v0 : Nat) (v1 : Int32) (v2 : Int32) (v3 : Int32) (S : HS) : Prop := ∀ X2 : Nat → Int32 → Int32 → Int32 → HS → Prop, (∀ (v0 : Nat) (v1 : Int32) (v2 : Int32) (v3 : Int32) (S : HS), B_X7_reckonMinute_2 Q X2 v0 v1 v2 v3 S → X2 v0 v1 v2 v3 S) → X2 v0 v1 v2 v3 S
set_option maxRecDepth 20000 in
set_option maxHeartbeats 4000000 in
theorem TB_X7_reckonMinute_2 {X : CX} {Q : HS → Prop} (C : Cx X cX7_reckonMinute RX7 9 rm_X7_reckonMinute) (E : ReV X rm_X7_reckonMinute Q) (ht : (xh X).sig.returnType = none) (hn : (xh X).name = yX7_reckonMinute.name) {X2 : Nat → Int32 → Int32 → Int32 → HS → Prop} (hX2 : ∀ (v0 : Nat) (v1 : Int32) (v2 : Int32) (v3 : Int32) (S : HS), X2 v0 v1 v2 v3 S → WS X 9 0 0 2 [(0, .ref v0), (1, .int v1), (2, .int v2), (3, .int v3)] [] S) {v0 : Nat} {v1 : Int32} {v2 : Int32} {v3 : Int32} {S : HS} (h : B_X7_reckonMinute_2 Q X2 v0 v1 v2 v3 S) : WS X 9 0 0 2 [(0, .ref v0), (1, .int v1), (2, .int v2), (3, .int v3)] [] S := by
  refine r_iload_n (pc := 2) C dX7_reckonMinute_2 3 rfl ?_
  refine r_iload_n (pc := 3) C dX7_reckonMinute_3 1 rfl ?_
  refine r_icmp_ge (pc := 4) C (tgt := 60) dX7_reckonMinute_4 (by decide) (fun c1 => ?_) (fun c1 => ?_)
  · have h := h.1 c1
    exact r_sub [0, 2] rfl (T_X7_reckonMinute_60 C E ht hn h)
  · have h := h.2 c1
    refine r_iload_n (pc := 7) C dX7_reckonMinute_7 3 rfl ?_
    refine r_bipush (pc := 8) C (v := (8 : Int32)) dX7_reckonMinute_8 (by decide) ?_
    refine r_icmp_ge (pc := 10) C (tgt := 60) dX7_reckonMinute_10 (by decide) (fun c2 => ?_) (fun c2 => ?_)
    · have h := h.1 c2
      exact r_sub [0, 2] rfl (T_X7_reckonMinute_60 C E ht hn h)
    · have h := h.2 c2
      refine r_aload_n (pc := 13) C dX7_reckonMinute_13 0 rfl ?_
      obtain ⟨o_v0, h⟩ := h
      obtain ⟨a3, ea3, h⟩ := h
      refine r_getr (pc := 14) C fL_X7_15 dX7_reckonMinute_14 o_v0 ea3 ?_
      refine r_iload_n (pc := 17) C dX7_reckonMinute_17 3 rfl ?_
      refine r_sipush (pc := 18) C (v := (401 : Int32)) dX7_reckonMinute_18 (by decide) ?_
      refine r_imul (pc := 21) C dX7_reckonMinute_21 ?_
      refine r_iload_n (pc := 22) C dX7_reckonMinute_22 2 rfl ?_
      refine r_iadd (pc := 23) C dX7_reckonMinute_23 ?_
      refine r_iload_n (pc := 24) C dX7_reckonMinute_24 3 rfl ?_
      refine r_aload_n (pc := 25) C dX7_reckonMinute_25 0 rfl ?_
      refine r_geti (pc := 26) C fL_X7_44 dX7_reckonMinute_26 o_v0 ?_
      refine r_topi (fun x4 ex4 => ?_)
      have h := h x4 ex4
      refine r_icmp_ne (pc := 29) C (tgt := 37) dX7_reckonMinute_29 (by decide) (fun c5 => ?_) (fun c5 => ?_)
      · have h := h.1 c5
        refine r_ldc2 (pc := 37) C (v := (4611686018427387904 : Int64)) dX7_reckonMinute_37 g_887 ?_
        exact r_sub [0, 1, 2, 3] rfl (T_X7_reckonMinute_40 C E ht hn hX2 h)
      · have h := h.2 c5
        refine r_iload_n (pc := 32) C dX7_reckonMinute_32 2 rfl ?_
        refine r_i2l (pc := 33) C dX7_reckonMinute_33 ?_
        refine r_goto (pc := 34) C (tgt := 40) dX7_reckonMinute_34 (by decide) ?_
        exact r_sub [0, 1, 2, 3] rfl (T_X7_reckonMinute_40 C E ht hn hX2 h)
theorem T_X7_reckonMinute_2 {X : CX} {Q : HS → Prop} (C : Cx X cX7_reckonMinute RX7 9 rm_X7_reckonMinute) (E : ReV X rm_X7_reckonMinute Q) (ht : (xh X).sig.returnType = none) (hn : (xh X).name = yX7_reckonMinute.name) {v0 : Nat} {v1 : Int32} {v2 : Int32} {v3 : Int32} {S : HS} (h : P_X7_reckonMinute_2 Q v0 v1 v2 v3 S) : WS X 9 0 0 2 [(0, .ref v0), (1, .int v1), (2, .int v2), (3, .int v3)] [] S :=
  h (fun v0 v1 v2 v3 S => WS X 9 0 0 2 [(0, .ref v0), (1, .int v1), (2, .int v2), (3, .int v3)] [] S) (fun v0 v1 v2 v3 S hh => TB_X7_reckonMinute_2 C E ht hn (fun v0 v1 v2 v3 S z => z) hh)
def P_X7_reckonMinute_0 (Q : HS → Prop) (v0 : Nat) (v1 : Int32) (v2 : Int32) (S : HS) : Prop := P_X7_reckonMinute_2 Q v0 v1 v2 (0 : Int32) S
set_option maxRecDepth 20000 in
set_option maxHeartbeats 4000000 in
theorem T_X7_reckonMinute_0 {X : CX} {Q : HS → Prop} (C : Cx X cX7_reckonMinute RX7 9 rm_X7_reckonMinute) (E : ReV X rm_X7_reckonMinute Q) (ht : (xh X).sig.returnType = none) (hn : (xh X).name = yX7_reckonMinute.name) {v0 : Nat} {v1 : Int32} {v2 : Int32} {S : HS} (h : P_X7_reckonMinute_0 Q v0 v1 v2 S) : WS X 9 0 0 0 [(0, .ref v0), (1, .int v1), (2, .int v2)] [] S := by
  refine r_iconst (pc := 0) C (v := (0 : Int32)) dX7_reckonMinute_0 (by decide) ?_
  refine r_istore_n (pc := 1) C dX7_reckonMinute_1 rfl (by decide) (lv' := [(3, .int (0 : Int32)), (0, .ref v0), (1, .int v1), (2, .int v2)]) rfl ?_
  exact r_sub [1, 2, 3, 0] rfl (T_X7_reckonMinute_2 C E ht hn h)
def P_X7_reckonMinute (v0 : Nat) (v1 : Int32) (v2 : Int32) (Q : HS → Prop) (S : HS) : Prop := P_X7_reckonMinute_0 Q v0 v1 v2 S
theorem c_X7_reckonMinute {l : Launch} {Ee : EE} {S : HS} {v0 : Nat} {v1 : Int32} {v2 : Int32} {Q : HS → Prop} (h : P_X7_reckonMinute v0 v1 v2 Q S) : MV l yX7_reckonMinute cX7_reckonMinute 9 none rm_X7_reckonMinute Ee S [.ref v0, .int v1, .int v2] Q :=
  openV (by decide) (Nat.le_of_ble_eq_true rfl) (fun X C E ht hn hE hl => by subst hE; exact r_sub [0, 1, 2] rfl (T_X7_reckonMinute_0 C E ht hn h))
def rm_X8_hourOf : Room := { frames := 0, cells := 0, slots := 0, locals := 0 }
def P_X8_hourOf_0 (Q : Int32 → HS → Prop) (v0 : Nat) (v1 : Int32) (S : HS) : Prop := ob S v0 8 ∧ (∀ x1 : Int32, x1 = fI S v0 0 → (((x1 ≤ 0) → (Q (0 : Int32) S)) ∧ ((¬ x1 ≤ 0) → (∀ x3 : Int32, x3 = fI S v0 0 → (¬ x3 = 0 ∧ ∀ x5 : Int32, x5 = v1 / x3 → (Q x5 S))))))
set_option maxRecDepth 20000 in
set_option maxHeartbeats 4000000 in
theorem T_X8_hourOf_0 {X : CX} {Q : Int32 → HS → Prop} (C : Cx X cX8_hourOf RX8 2 rm_X8_hourOf) (E : ReI X rm_X8_hourOf Q) (ht : (xh X).sig.returnType = (some .int)) (hn : (xh X).name = yX8_hourOf.name) {v0 : Nat} {v1 : Int32} {S : HS} (h : P_X8_hourOf_0 Q v0 v1 S) : WS X 2 0 0 0 [(0, .ref v0), (1, .int v1)] [] S := by
  refine r_aload_n (pc := 0) C dX8_hourOf_0 0 rfl ?_
  obtain ⟨o_v0, h⟩ := h
  refine r_geti (pc := 1) C fL_X8_42 dX8_hourOf_1 o_v0 ?_
  refine r_topi (fun x1 ex1 => ?_)
  have h := h x1 ex1
  refine r_if_le (pc := 4) C (tgt := 16) dX8_hourOf_4 (by decide) (fun c2 => ?_) (fun c2 => ?_)
  · have h := h.1 c2
    refine r_iconst (pc := 16) C (v := (0 : Int32)) dX8_hourOf_16 (by decide) ?_
    exact r_iret (pc := 17) C E ht dX8_hourOf_17 (by decide) (by decide) h
  · have h := h.2 c2
    refine r_iload_n (pc := 7) C dX8_hourOf_7 1 rfl ?_
    refine r_aload_n (pc := 8) C dX8_hourOf_8 0 rfl ?_
    refine r_geti (pc := 9) C fL_X8_42 dX8_hourOf_9 o_v0 ?_
    refine r_topi (fun x3 ex3 => ?_)
    have h := h x3 ex3
    obtain ⟨q4, h⟩ := h
    refine r_idiv (pc := 12) C dX8_hourOf_12 q4 ?_
    refine r_topi (fun x5 ex5 => ?_)
    have h := h x5 ex5
    refine r_goto (pc := 13) C (tgt := 17) dX8_hourOf_13 (by decide) ?_
    exact r_iret (pc := 17) C E ht dX8_hourOf_17 (by decide) (by decide) h
def P_X8_hourOf (v0 : Nat) (v1 : Int32) (Q : Int32 → HS → Prop) (S : HS) : Prop := P_X8_hourOf_0 Q v0 v1 S
theorem c_X8_hourOf {l : Launch} {Ee : EE} {S : HS} {v0 : Nat} {v1 : Int32} {Q : Int32 → HS → Prop} (h : P_X8_hourOf v0 v1 Q S) : MI l yX8_hourOf cX8_hourOf 2 (some .int) rm_X8_hourOf Ee S [.ref v0, .int v1] Q :=
  openI (by decide) (Nat.le_of_ble_eq_true rfl) (fun X C E ht hn hE hl => by subst hE; exact r_sub [0, 1] rfl (T_X8_hourOf_0 C E ht hn h))
def rm_X7_reckon : Room := { frames := 5, cells := 8, slots := 7937, locals := 132 }
def P_X7_reckon_120 (Q : HS → Prop) (X76 : Nat → Nat → Nat → Int32 → Int32 → HS → Prop) (v0 : Nat) (v1 : Nat) (v2 : Nat) (v6 : Int32) (v7 : Int32) (S : HS) : Prop := ob S v1 8 ∧ (∀ x1 : Int32, x1 = fI S v1 2 → (ob S v0 7 ∧ (P_X7_reckonMinute v0 x1 v7 (fun S2 => Gr S S2 → (∀ S5 : HS, S5 = sI S2 v0 13 v7 → (∀ x6 : Int32, x6 = v7 + (-1 : Int32) → (X76 v0 v1 v2 v6 x6 S5)))) S)))
set_option maxRecDepth 20000 in
set_option maxHeartbeats 4000000 in
theorem T_X7_reckon_120 {X : CX} {Q : HS → Prop} (C : Cx X cX7_reckon RX7 9 rm_X7_reckon) (E : ReV X rm_X7_reckon Q) (ht : (xh X).sig.returnType = none) (hn : (xh X).name = yX7_reckon.name) {X76 : Nat → Nat → Nat → Int32 → Int32 → HS → Prop} (hX76 : ∀ (v0 : Nat) (v1 : Nat) (v2 : Nat) (v6 : Int32) (v7 : Int32) (S : HS), X76 v0 v1 v2 v6 v7 S → WS X 9 8 7937 76 [(0, .ref v0), (1, .ref v1), (2, .ref v2), (6, .int v6), (7, .int v7)] [] S) {v0 : Nat} {v1 : Nat} {v2 : Nat} {v6 : Int32} {v7 : Int32} {S : HS} (h : P_X7_reckon_120 Q X76 v0 v1 v2 v6 v7 S) : WS X 9 8 7937 120 [(0, .ref v0), (1, .ref v1), (2, .ref v2), (6, .int v6), (7, .int v7)] [] S := by
  refine r_aload_n (pc := 120) C dX7_reckon_120 0 rfl ?_
  refine r_aload_n (pc := 121) C dX7_reckon_121 1 rfl ?_
  obtain ⟨o_v1, h⟩ := h
  refine r_geti (pc := 122) C fL_X7_75 dX7_reckon_122 o_v1 ?_
  refine r_topi (fun x1 ex1 => ?_)
  have h := h x1 ex1
  refine r_iload (pc := 125) C dX7_reckon_125 4 rfl ?_
  obtain ⟨o_v0, h⟩ := h
  refine r_callVv0 (pc := 127) C (rest := []) (a := v0) o_v0 [.int x1, .int v7] yV_X7_reckonMinute g_883 (c_X7_reckonMinute h) dX7_reckon_127 rfl rfl (Nat.le_of_ble_eq_true rfl) ⟨by decide, by decide⟩ ⟨by decide, by decide⟩ ⟨rfl, rfl⟩ (fun S2 h g3 => ?_)
  have h := h g3
  have o_v0 := gr_ob g3 o_v0
  have o_v1 := gr_ob g3 o_v1
  refine r_aload_n (pc := 130) C dX7_reckon_130 0 rfl ?_
  refine r_iload (pc := 131) C dX7_reckon_131 4 rfl ?_
  refine r_puti (pc := 133) C pfL_X7_53 dX7_reckon_133 o_v0 ?_
  refine r_heap (fun S5 eS5 => ?_)
  have h := h S5 eS5
  have o_v0 := ob_I eS5 o_v0
  have o_v1 := ob_I eS5 o_v1
  obtain ⟨x6, ex6⟩ : ∃ z : Int32, z = v7 + (-1 : Int32) := ⟨_, rfl⟩
  have h := h x6 ex6
  refine r_iinc (pc := 136) C (v := x6) (lv' := [(7, .int x6), (0, .ref v0), (1, .ref v1), (2, .ref v2), (6, .int v6)]) dX7_reckon_136 4 rfl ex6.symm (by decide) rfl ?_
  refine r_goto (pc := 139) C (tgt := 76) dX7_reckon_139 (by decide) ?_
  exact r_sub [1, 2, 3, 4, 0] rfl (hX76 v0 v1 v2 v6 x6 S5 h)
def B_X7_reckon_76 (Q : HS → Prop) (X76 : Nat → Nat → Nat → Int32 → Int32 → HS → Prop) (v0 : Nat) (v1 : Nat) (v2 : Nat) (v6 : Int32) (v7 : Int32) (S : HS) : Prop := ((v7 < v6) → (Q S)) ∧ ((¬ v7 < v6) → (((v7 < 0) → (Q S)) ∧ ((¬ v7 < 0) → (ob S v1 8 ∧ (P_X8_hourOf v1 v7 (fun x5 S3 => Gr S S3 → (∀ x6 : Int32, x6 = fI S3 v1 1 → (∀ x7 : Int32, x7 = (if x6 < x5 then x6 else x5) → (ob S3 v0 7 ∧ (∀ x8 : Int32, x8 = fI S3 v0 9 → (((x7 = x8) → (P_X7_reckon_120 Q X76 v0 v1 v2 v6 v7 S3)) ∧ ((¬ x7 = x8) → (P_X7_price v0 v1 v2 x7 (fun S10 => Gr S3 S10 → (P_X7_reckon_120 Q X76 v0 v1 v2 v6 v7 S10)) S3)))))))) S)))))
def P_X7_reckon_76 (Q : HS → Prop) (v0 : Nat) (v1 : Nat) (v2 : Nat) (v6 : Int32) (v7 : Int32) (S : HS) : Prop := ∀ X76 : Nat → Nat → Nat → Int32 → Int32 → HS → Prop, (∀ (v0 : Nat) (v1 : Nat) (v2 : Nat) (v6 : Int32) (v7 : Int32) (S : HS), B_X7_reckon_76 Q X76 v0 v1 v2 v6 v7 S → X76 v0 v1 v2 v6 v7 S) → X76 v0 v1 v2 v6 v7 S
set_option maxRecDepth 20000 in
set_option maxHeartbeats 4000000 in
theorem TB_X7_reckon_76 {X : CX} {Q : HS → Prop} (C : Cx X cX7_reckon RX7 9 rm_X7_reckon) (E : ReV X rm_X7_reckon Q) (ht : (xh X).sig.returnType = none) (hn : (xh X).name = yX7_reckon.name) {X76 : Nat → Nat → Nat → Int32 → Int32 → HS → Prop} (hX76 : ∀ (v0 : Nat) (v1 : Nat) (v2 : Nat) (v6 : Int32) (v7 : Int32) (S : HS), X76 v0 v1 v2 v6 v7 S → WS X 9 8 7937 76 [(0, .ref v0), (1, .ref v1), (2, .ref v2), (6, .int v6), (7, .int v7)] [] S) {v0 : Nat} {v1 : Nat} {v2 : Nat} {v6 : Int32} {v7 : Int32} {S : HS} (h : B_X7_reckon_76 Q X76 v0 v1 v2 v6 v7 S) : WS X 9 8 7937 76 [(0, .ref v0), (1, .ref v1), (2, .ref v2), (6, .int v6), (7, .int v7)] [] S := by
  refine r_iload (pc := 76) C dX7_reckon_76 4 rfl ?_
  refine r_iload (pc := 78) C dX7_reckon_78 3 rfl ?_
  refine r_icmp_lt (pc := 80) C (tgt := 142) dX7_reckon_80 (by decide) (fun c1 => ?_) (fun c1 => ?_)
  · have h := h.1 c1
    exact r_vret (pc := 142) C E ht dX7_reckon_142 (by decide) (by decide) h
  · have h := h.2 c1
    refine r_iload (pc := 83) C dX7_reckon_83 4 rfl ?_
    refine r_if_lt (pc := 85) C (tgt := 142) dX7_reckon_85 (by decide) (fun c2 => ?_) (fun c2 => ?_)
    · have h := h.1 c2
      exact r_vret (pc := 142) C E ht dX7_reckon_142 (by decide) (by decide) h
    · have h := h.2 c2
      refine r_aload_n (pc := 88) C dX7_reckon_88 1 rfl ?_
      refine r_iload (pc := 89) C dX7_reckon_89 4 rfl ?_
      obtain ⟨o_v1, h⟩ := h
      refine r_callVi0 (pc := 91) C (rest := []) (a := v1) o_v1 [.int v7] yV_X8_hourOf g_840 (c_X8_hourOf h) dX7_reckon_91 rfl rfl (Nat.le_of_ble_eq_true rfl) ⟨by decide, by decide⟩ ⟨by decide, by decide⟩ ⟨rfl, rfl⟩ (fun x5 S3 h g4 => ?_)
      have h := h g4
      have o_v1 := gr_ob g4 o_v1
      refine r_aload_n (pc := 94) C dX7_reckon_94 1 rfl ?_
      refine r_geti (pc := 95) C fL_X7_62 dX7_reckon_95 o_v1 ?_
      refine r_topi (fun x6 ex6 => ?_)
      have h := h x6 ex6
      refine r_min (pc := 98) C g_844 dX7_reckon_98 (by decide) (Nat.le_of_ble_eq_true rfl) (by decide) (by decide) ?_
      refine r_topi (fun x7 ex7 => ?_)
      have h := h x7 ex7
      refine r_istore (pc := 101) C dX7_reckon_101 (by decide) (lv' := [(8, .int x7), (0, .ref v0), (1, .ref v1), (2, .ref v2), (6, .int v6), (7, .int v7)]) rfl ?_
      refine r_iload (pc := 103) C dX7_reckon_103 0 rfl ?_
      refine r_aload_n (pc := 105) C dX7_reckon_105 1 rfl ?_
      obtain ⟨o_v0, h⟩ := h
      refine r_geti (pc := 106) C fL_X7_37 dX7_reckon_106 o_v0 ?_
      refine r_topi (fun x8 ex8 => ?_)
      have h := h x8 ex8
      refine r_icmp_eq (pc := 109) C (tgt := 120) dX7_reckon_109 (by decide) (fun c9 => ?_) (fun c9 => ?_)
      · have h := h.1 c9
        exact r_sub [1, 2, 3, 4, 5] rfl (T_X7_reckon_120 C E ht hn hX76 h)
      · have h := h.2 c9
        refine r_aload_n (pc := 112) C dX7_reckon_112 1 rfl ?_
        refine r_aload_n (pc := 113) C dX7_reckon_113 2 rfl ?_
        refine r_aload_n (pc := 114) C dX7_reckon_114 3 rfl ?_
        refine r_iload (pc := 115) C dX7_reckon_115 0 rfl ?_
        refine r_callVv0 (pc := 117) C (rest := []) (a := v0) o_v0 [.ref v1, .ref v2, .int x7] yV_X7_price g_845 (c_X7_price h) dX7_reckon_117 rfl rfl (Nat.le_of_ble_eq_true rfl) ⟨by decide, by decide⟩ ⟨by decide, by decide⟩ ⟨rfl, rfl⟩ (fun S10 h g11 => ?_)
        have h := h g11
        have o_v0 := gr_ob g11 o_v0
        have o_v1 := gr_ob g11 o_v1
        exact r_sub [1, 2, 3, 4, 5] rfl (T_X7_reckon_120 C E ht hn hX76 h)
theorem T_X7_reckon_76 {X : CX} {Q : HS → Prop} (C : Cx X cX7_reckon RX7 9 rm_X7_reckon) (E : ReV X rm_X7_reckon Q) (ht : (xh X).sig.returnType = none) (hn : (xh X).name = yX7_reckon.name) {v0 : Nat} {v1 : Nat} {v2 : Nat} {v6 : Int32} {v7 : Int32} {S : HS} (h : P_X7_reckon_76 Q v0 v1 v2 v6 v7 S) : WS X 9 8 7937 76 [(0, .ref v0), (1, .ref v1), (2, .ref v2), (6, .int v6), (7, .int v7)] [] S :=
  h (fun v0 v1 v2 v6 v7 S => WS X 9 8 7937 76 [(0, .ref v0), (1, .ref v1), (2, .ref v2), (6, .int v6), (7, .int v7)] [] S) (fun v0 v1 v2 v6 v7 S hh => TB_X7_reckon_76 C E ht hn (fun v0 v1 v2 v6 v7 S z => z) hh)
def P_X7_reckon_68 (Q : HS → Prop) (v0 : Nat) (v1 : Nat) (v2 : Nat) (v6 : Int32) (S : HS) : Prop := ob S v0 7 ∧ (∀ x1 : Int32, x1 = fI S v0 13 → (∀ x2 : Int32, x2 = x1 - (1 : Int32) → (P_X7_reckon_76 Q v0 v1 v2 v6 x2 S)))
set_option maxRecDepth 20000 in
set_option maxHeartbeats 4000000 in
theorem T_X7_reckon_68 {X : CX} {Q : HS → Prop} (C : Cx X cX7_reckon RX7 9 rm_X7_reckon) (E : ReV X rm_X7_reckon Q) (ht : (xh X).sig.returnType = none) (hn : (xh X).name = yX7_reckon.name) {v0 : Nat} {v1 : Nat} {v2 : Nat} {v6 : Int32} {S : HS} (h : P_X7_reckon_68 Q v0 v1 v2 v6 S) : WS X 9 8 7937 68 [(0, .ref v0), (1, .ref v1), (2, .ref v2), (6, .int v6)] [] S := by
  refine r_aload_n (pc := 68) C dX7_reckon_68 0 rfl ?_
  obtain ⟨o_v0, h⟩ := h
  refine r_geti (pc := 69) C fL_X7_53 dX7_reckon_69 o_v0 ?_
  refine r_topi (fun x1 ex1 => ?_)
  have h := h x1 ex1
  refine r_iconst (pc := 72) C (v := (1 : Int32)) dX7_reckon_72 (by decide) ?_
  refine r_isub (pc := 73) C dX7_reckon_73 ?_
  refine r_topi (fun x2 ex2 => ?_)
  have h := h x2 ex2
  refine r_istore (pc := 74) C dX7_reckon_74 (by decide) (lv' := [(7, .int x2), (0, .ref v0), (1, .ref v1), (2, .ref v2), (6, .int v6)]) rfl ?_
  exact r_sub [1, 2, 3, 4, 0] rfl (T_X7_reckon_76 C E ht hn h)
def P_X7_reckon_38 (Q : HS → Prop) (v0 : Nat) (v1 : Nat) (v2 : Nat) (v3 : Int32) (v4 : Int32) (v5 : Int32) (v6 : Int32) (S : HS) : Prop := ob S v0 7 ∧ (∀ S1 : HS, S1 = sI S v0 10 v3 → (∀ S2 : HS, S2 = sI S1 v0 11 v4 → (∀ S3 : HS, S3 = sI S2 v0 12 v5 → (∀ x4 : Int32, x4 = v5 + (1 : Int32) → (∀ S5 : HS, S5 = sI S3 v0 13 x4 → (∀ S6 : HS, S6 = sI S5 v0 9 (-1 : Int32) → (P_X7_reckon_68 Q v0 v1 v2 v6 S6)))))))
set_option maxRecDepth 20000 in
set_option maxHeartbeats 4000000 in
theorem T_X7_reckon_38 {X : CX} {Q : HS → Prop} (C : Cx X cX7_reckon RX7 9 rm_X7_reckon) (E : ReV X rm_X7_reckon Q) (ht : (xh X).sig.returnType = none) (hn : (xh X).name = yX7_reckon.name) {v0 : Nat} {v1 : Nat} {v2 : Nat} {v3 : Int32} {v4 : Int32} {v5 : Int32} {v6 : Int32} {S : HS} (h : P_X7_reckon_38 Q v0 v1 v2 v3 v4 v5 v6 S) : WS X 9 8 7937 38 [(0, .ref v0), (1, .ref v1), (2, .ref v2), (3, .int v3), (4, .int v4), (5, .int v5), (6, .int v6)] [] S := by
  refine r_aload_n (pc := 38) C dX7_reckon_38 0 rfl ?_
  refine r_iload_n (pc := 39) C dX7_reckon_39 3 rfl ?_
  obtain ⟨o_v0, h⟩ := h
  refine r_puti (pc := 40) C pfL_X7_41 dX7_reckon_40 o_v0 ?_
  refine r_heap (fun S1 eS1 => ?_)
  have h := h S1 eS1
  have o_v0 := ob_I eS1 o_v0
  refine r_aload_n (pc := 43) C dX7_reckon_43 0 rfl ?_
  refine r_iload (pc := 44) C dX7_reckon_44 4 rfl ?_
  refine r_puti (pc := 46) C pfL_X7_44 dX7_reckon_46 o_v0 ?_
  refine r_heap (fun S2 eS2 => ?_)
  have h := h S2 eS2
  have o_v0 := ob_I eS2 o_v0
  refine r_aload_n (pc := 49) C dX7_reckon_49 0 rfl ?_
  refine r_iload (pc := 50) C dX7_reckon_50 5 rfl ?_
  refine r_puti (pc := 52) C pfL_X7_47 dX7_reckon_52 o_v0 ?_
  refine r_heap (fun S3 eS3 => ?_)
  have h := h S3 eS3
  have o_v0 := ob_I eS3 o_v0
  refine r_aload_n (pc := 55) C dX7_reckon_55 0 rfl ?_
  refine r_iload (pc := 56) C dX7_reckon_56 5 rfl ?_
  refine r_iconst (pc := 58) C (v := (1 : Int32)) dX7_reckon_58 (by decide) ?_
  refine r_iadd (pc := 59) C dX7_reckon_59 ?_
  refine r_topi (fun x4 ex4 => ?_)
  have h := h x4 ex4
  refine r_puti (pc := 60) C pfL_X7_53 dX7_reckon_60 o_v0 ?_
  refine r_heap (fun S5 eS5 => ?_)
  have h := h S5 eS5
  have o_v0 := ob_I eS5 o_v0
  refine r_aload_n (pc := 63) C dX7_reckon_63 0 rfl ?_
  refine r_iconst (pc := 64) C (v := (-1 : Int32)) dX7_reckon_64 (by decide) ?_
  refine r_puti (pc := 65) C pfL_X7_37 dX7_reckon_65 o_v0 ?_
  refine r_heap (fun S6 eS6 => ?_)
  have h := h S6 eS6
  have o_v0 := ob_I eS6 o_v0
  exact r_sub [0, 1, 2, 6] rfl (T_X7_reckon_68 C E ht hn h)
def P_X7_reckon_12 (Q : HS → Prop) (v0 : Nat) (v1 : Nat) (v2 : Nat) (v3 : Int32) (v4 : Int32) (v5 : Int32) (v6 : Int32) (S : HS) : Prop := ob S v0 7 ∧ (∀ x1 : Int32, x1 = fI S v0 10 → (((¬ v3 = x1) → (P_X7_reckon_38 Q v0 v1 v2 v3 v4 v5 v6 S)) ∧ ((v3 = x1) → (∀ x3 : Int32, x3 = fI S v0 11 → (((¬ v4 = x3) → (P_X7_reckon_38 Q v0 v1 v2 v3 v4 v5 v6 S)) ∧ ((v4 = x3) → (∀ x5 : Int32, x5 = fI S v0 12 → (((v5 = x5) → (P_X7_reckon_68 Q v0 v1 v2 v6 S)) ∧ ((¬ v5 = x5) → (P_X7_reckon_38 Q v0 v1 v2 v3 v4 v5 v6 S))))))))))
set_option maxRecDepth 20000 in
set_option maxHeartbeats 4000000 in
theorem T_X7_reckon_12 {X : CX} {Q : HS → Prop} (C : Cx X cX7_reckon RX7 9 rm_X7_reckon) (E : ReV X rm_X7_reckon Q) (ht : (xh X).sig.returnType = none) (hn : (xh X).name = yX7_reckon.name) {v0 : Nat} {v1 : Nat} {v2 : Nat} {v3 : Int32} {v4 : Int32} {v5 : Int32} {v6 : Int32} {S : HS} (h : P_X7_reckon_12 Q v0 v1 v2 v3 v4 v5 v6 S) : WS X 9 8 7937 12 [(0, .ref v0), (1, .ref v1), (2, .ref v2), (3, .int v3), (4, .int v4), (5, .int v5), (6, .int v6)] [] S := by
  refine r_iload_n (pc := 12) C dX7_reckon_12 3 rfl ?_
  refine r_aload_n (pc := 13) C dX7_reckon_13 0 rfl ?_
  obtain ⟨o_v0, h⟩ := h
  refine r_geti (pc := 14) C fL_X7_41 dX7_reckon_14 o_v0 ?_
  refine r_topi (fun x1 ex1 => ?_)
  have h := h x1 ex1
  refine r_icmp_ne (pc := 17) C (tgt := 38) dX7_reckon_17 (by decide) (fun c2 => ?_) (fun c2 => ?_)
  · have h := h.1 c2
    exact r_sub [0, 1, 2, 3, 4, 5, 6] rfl (T_X7_reckon_38 C E ht hn h)
  · have h := h.2 c2
    refine r_iload (pc := 20) C dX7_reckon_20 4 rfl ?_
    refine r_aload_n (pc := 22) C dX7_reckon_22 0 rfl ?_
    refine r_geti (pc := 23) C fL_X7_44 dX7_reckon_23 o_v0 ?_
    refine r_topi (fun x3 ex3 => ?_)
    have h := h x3 ex3
    refine r_icmp_ne (pc := 26) C (tgt := 38) dX7_reckon_26 (by decide) (fun c4 => ?_) (fun c4 => ?_)
    · have h := h.1 c4
      exact r_sub [0, 1, 2, 3, 4, 5, 6] rfl (T_X7_reckon_38 C E ht hn h)
    · have h := h.2 c4
      refine r_iload (pc := 29) C dX7_reckon_29 5 rfl ?_
      refine r_aload_n (pc := 31) C dX7_reckon_31 0 rfl ?_
      refine r_geti (pc := 32) C fL_X7_47 dX7_reckon_32 o_v0 ?_
      refine r_topi (fun x5 ex5 => ?_)
      have h := h x5 ex5
      refine r_icmp_eq (pc := 35) C (tgt := 68) dX7_reckon_35 (by decide) (fun c6 => ?_) (fun c6 => ?_)
      · have h := h.1 c6
        exact r_sub [0, 1, 2, 6] rfl (T_X7_reckon_68 C E ht hn h)
      · have h := h.2 c6
        exact r_sub [0, 1, 2, 3, 4, 5, 6] rfl (T_X7_reckon_38 C E ht hn h)
def P_X7_reckon_0 (Q : HS → Prop) (v0 : Nat) (v1 : Nat) (v2 : Nat) (v3 : Int32) (v4 : Int32) (v5 : Int32) (v6 : Int32) (S : HS) : Prop := ob S v0 7 ∧ (∃ a1 : Nat, fR S v0 1 = some a1 ∧ (ob S a1 14 ∧ (((¬ (nI (hN S a1)) = 0) → (P_X7_reckon_12 Q v0 v1 v2 v3 v4 v5 v6 S)) ∧ (((nI (hN S a1)) = 0) → (P_X7_makeRows v0 (fun S3 => Gr S S3 → (P_X7_reckon_12 Q v0 v1 v2 v3 v4 v5 v6 S3)) S)))))
set_option maxRecDepth 20000 in
set_option maxHeartbeats 4000000 in
theorem T_X7_reckon_0 {X : CX} {Q : HS → Prop} (C : Cx X cX7_reckon RX7 9 rm_X7_reckon) (E : ReV X rm_X7_reckon Q) (ht : (xh X).sig.returnType = none) (hn : (xh X).name = yX7_reckon.name) {v0 : Nat} {v1 : Nat} {v2 : Nat} {v3 : Int32} {v4 : Int32} {v5 : Int32} {v6 : Int32} {S : HS} (h : P_X7_reckon_0 Q v0 v1 v2 v3 v4 v5 v6 S) : WS X 9 0 0 0 [(0, .ref v0), (1, .ref v1), (2, .ref v2), (3, .int v3), (4, .int v4), (5, .int v5), (6, .int v6)] [] S := by
  refine r_aload_n (pc := 0) C dX7_reckon_0 0 rfl ?_
  obtain ⟨o_v0, h⟩ := h
  obtain ⟨a1, ea1, h⟩ := h
  refine r_getr (pc := 1) C fL_X7_15 dX7_reckon_1 o_v0 ea1 ?_
  obtain ⟨o_a1, h⟩ := h
  refine r_alen14 (pc := 4) C dX7_reckon_4 o_a1 ?_
  refine r_if_ne (pc := 5) C (tgt := 12) dX7_reckon_5 (by decide) (fun c2 => ?_) (fun c2 => ?_)
  · have h := h.1 c2
    refine r_wide (k' := 8) (n' := 7937) (by decide) (by decide) ?_
    exact r_sub [0, 1, 2, 3, 4, 5, 6] rfl (T_X7_reckon_12 C E ht hn h)
  · have h := h.2 c2
    refine r_aload_n (pc := 8) C dX7_reckon_8 0 rfl ?_
    refine r_callVv (pc := 9) C (rest := []) (a := v0) o_v0 [] yV_X7_makeRows g_836 (c_X7_makeRows h) dX7_reckon_9 rfl rfl (Nat.le_of_ble_eq_true rfl) ⟨by decide, by decide⟩ ⟨by decide, by decide⟩ (fun S3 h g4 => ?_)
    have h := h g4
    have o_a1 := gr_ob g4 o_a1
    have o_v0 := gr_ob g4 o_v0
    exact r_sub [0, 1, 2, 3, 4, 5, 6] rfl (T_X7_reckon_12 C E ht hn h)
def P_X7_reckon (v0 : Nat) (v1 : Nat) (v2 : Nat) (v3 : Int32) (v4 : Int32) (v5 : Int32) (v6 : Int32) (Q : HS → Prop) (S : HS) : Prop := P_X7_reckon_0 Q v0 v1 v2 v3 v4 v5 v6 S
theorem c_X7_reckon {l : Launch} {Ee : EE} {S : HS} {v0 : Nat} {v1 : Nat} {v2 : Nat} {v3 : Int32} {v4 : Int32} {v5 : Int32} {v6 : Int32} {Q : HS → Prop} (h : P_X7_reckon v0 v1 v2 v3 v4 v5 v6 Q S) : MV l yX7_reckon cX7_reckon 9 none rm_X7_reckon Ee S [.ref v0, .ref v1, .ref v2, .int v3, .int v4, .int v5, .int v6] Q :=
  openV (by decide) (Nat.le_of_ble_eq_true rfl) (fun X C E ht hn hE hl => by subst hE; exact r_sub [0, 1, 2, 3, 4, 5, 6] rfl (T_X7_reckon_0 C E ht hn h))
def rm_X7_trace : Room := { frames := 1, cells := 0, slots := 0, locals := 21 }
def P_X7_trace_143 (Q : Int32 → HS → Prop) (X9 : Nat → Nat → Int32 → Int32 → Int32 → HS → Prop) (v0 : Nat) (v1 : Nat) (v4 : Int32) (v5 : Int32) (v6 : Int32) (S : HS) : Prop := ∀ x1 : Int32, x1 = v6 + (1 : Int32) → (X9 v0 v1 v4 v5 x1 S)
set_option maxRecDepth 20000 in
set_option maxHeartbeats 4000000 in
theorem T_X7_trace_143 {X : CX} {Q : Int32 → HS → Prop} (C : Cx X cX7_trace RX7 10 rm_X7_trace) (E : ReI X rm_X7_trace Q) (ht : (xh X).sig.returnType = (some .int)) (hn : (xh X).name = yX7_trace.name) {X9 : Nat → Nat → Int32 → Int32 → Int32 → HS → Prop} (hX9 : ∀ (v0 : Nat) (v1 : Nat) (v4 : Int32) (v5 : Int32) (v6 : Int32) (S : HS), X9 v0 v1 v4 v5 v6 S → WS X 10 0 0 9 [(0, .ref v0), (1, .ref v1), (4, .int v4), (5, .int v5), (6, .int v6)] [] S) {v0 : Nat} {v1 : Nat} {v4 : Int32} {v5 : Int32} {v6 : Int32} {S : HS} (h : P_X7_trace_143 Q X9 v0 v1 v4 v5 v6 S) : WS X 10 0 0 143 [(0, .ref v0), (1, .ref v1), (4, .int v4), (5, .int v5), (6, .int v6)] [] S := by
  obtain ⟨x1, ex1⟩ : ∃ z : Int32, z = v6 + (1 : Int32) := ⟨_, rfl⟩
  have h := h x1 ex1
  refine r_iinc (pc := 143) C (v := x1) (lv' := [(6, .int x1), (0, .ref v0), (1, .ref v1), (4, .int v4), (5, .int v5)]) dX7_trace_143 4 rfl ex1.symm (by decide) rfl ?_
  refine r_goto (pc := 146) C (tgt := 9) dX7_trace_146 (by decide) ?_
  exact r_sub [1, 2, 3, 4, 0] rfl (hX9 v0 v1 v4 v5 x1 S h)
def P_X7_trace_56 (Q : Int32 → HS → Prop) (X9 : Nat → Nat → Int32 → Int32 → Int32 → HS → Prop) (v0 : Nat) (v1 : Nat) (v4 : Int32) (v5 : Int32) (v6 : Int32) (s0 : Int32) (S : HS) : Prop := ((¬ s0 = (-1 : Int32)) → (ob S v0 7 ∧ (∃ a2 : Nat, fR S v0 0 = some a2 ∧ (ob S a2 13 ∧ (vp_in v6 (hN S a2) ∧ (∀ S4 : HS, S4 = sI S a2 v6.toNatClampNeg s0 → (((¬ s0 = (-2 : Int32)) → (∀ x6 : Int32, x6 = s0 / (100 : Int32) → (ob S4 v1 8 ∧ (P_X8_hasRoad v1 x6 (fun x9 S7 => Gr S4 S7 → bl x9 → (((x9 = 0) → (P_X7_trace_143 Q X9 v0 v1 v4 v5 v6 S7)) ∧ ((¬ x9 = 0) → (∃ a11 : Nat, fR S7 v1 8 = some a11 ∧ (∀ x12 : Int32, x12 = s0 / (100 : Int32) → (ob S7 a11 18 ∧ (vp_in x12 (hN S7 a11) ∧ ∃ a14 : Nat, fR S7 a11 x12.toNatClampNeg = some a14 ∧ (∀ x15 : Int32, x15 = s0 / (10 : Int32) → (∀ x16 : Int32, x16 = x15 - x15 / (10 : Int32) * (10 : Int32) → (ob S7 a14 5 ∧ (P_X5_endOf a14 x16 (fun x19 S17 => Gr S7 S17 → (∀ x20 : Int32, x20 = s0 - s0 / (10 : Int32) * (10 : Int32) → (P_X5_minutesAt a14 x20 (fun x23 S21 => Gr S17 S21 → (∀ x24 : Int32, x24 = v5 + x23 → (P_X7_trace_143 Q X9 v0 v1 x19 x24 v6 S21))) S17))) S7))))))))))) S4)))) ∧ ((s0 = (-2 : Int32)) → (∀ x25 : Int32, x25 = v5 + (1 : Int32) → (P_X7_trace_143 Q X9 v0 v1 v4 x25 v6 S4)))))))))) ∧ ((s0 = (-1 : Int32)) → (Q v6 S))
set_option maxRecDepth 20000 in
set_option maxHeartbeats 4000000 in
theorem T_X7_trace_56 {X : CX} {Q : Int32 → HS → Prop} (C : Cx X cX7_trace RX7 10 rm_X7_trace) (E : ReI X rm_X7_trace Q) (ht : (xh X).sig.returnType = (some .int)) (hn : (xh X).name = yX7_trace.name) {X9 : Nat → Nat → Int32 → Int32 → Int32 → HS → Prop} (hX9 : ∀ (v0 : Nat) (v1 : Nat) (v4 : Int32) (v5 : Int32) (v6 : Int32) (S : HS), X9 v0 v1 v4 v5 v6 S → WS X 10 0 0 9 [(0, .ref v0), (1, .ref v1), (4, .int v4), (5, .int v5), (6, .int v6)] [] S) {v0 : Nat} {v1 : Nat} {v4 : Int32} {v5 : Int32} {v6 : Int32} {s0 : Int32} {S : HS} (h : P_X7_trace_56 Q X9 v0 v1 v4 v5 v6 s0 S) : WS X 10 0 0 56 [(0, .ref v0), (1, .ref v1), (4, .int v4), (5, .int v5), (6, .int v6)] [.int s0] S := by
  refine r_istore (pc := 56) C dX7_trace_56 (by decide) (lv' := [(8, .int s0), (0, .ref v0), (1, .ref v1), (4, .int v4), (5, .int v5), (6, .int v6)]) rfl ?_
  refine r_iload (pc := 58) C dX7_trace_58 0 rfl ?_
  refine r_iconst (pc := 60) C (v := (-1 : Int32)) dX7_trace_60 (by decide) ?_
  refine r_icmp_ne (pc := 61) C (tgt := 67) dX7_trace_61 (by decide) (fun c1 => ?_) (fun c1 => ?_)
  · have h := h.1 c1
    refine r_aload_n (pc := 67) C dX7_trace_67 1 rfl ?_
    obtain ⟨o_v0, h⟩ := h
    obtain ⟨a2, ea2, h⟩ := h
    refine r_getr (pc := 68) C fL_X7_9 dX7_trace_68 o_v0 ea2 ?_
    refine r_iload (pc := 71) C dX7_trace_71 5 rfl ?_
    refine r_iload (pc := 73) C dX7_trace_73 0 rfl ?_
    obtain ⟨o_a2, h⟩ := h
    obtain ⟨i3, h⟩ := h
    refine r_iast (pc := 75) C dX7_trace_75 o_a2 i3 ?_
    refine r_heap (fun S4 eS4 => ?_)
    have h := h S4 eS4
    have o_a2 := ob_I eS4 o_a2
    have o_v0 := ob_I eS4 o_v0
    refine r_iload (pc := 76) C dX7_trace_76 0 rfl ?_
    refine r_bipush (pc := 78) C (v := (-2 : Int32)) dX7_trace_78 (by decide) ?_
    refine r_icmp_ne (pc := 80) C (tgt := 89) dX7_trace_80 (by decide) (fun c5 => ?_) (fun c5 => ?_)
    · have h := h.1 c5
      refine r_aload_n (pc := 89) C dX7_trace_89 2 rfl ?_
      refine r_iload (pc := 90) C dX7_trace_90 0 rfl ?_
      refine r_bipush (pc := 92) C (v := (100 : Int32)) dX7_trace_92 (by decide) ?_
      refine r_idiv (pc := 94) C dX7_trace_94 (by decide) ?_
      refine r_topi (fun x6 ex6 => ?_)
      have h := h x6 ex6
      obtain ⟨o_v1, h⟩ := h
      refine r_callVi0 (pc := 95) C (rest := []) (a := v1) o_v1 [.int x6] yV_X8_hasRoad g_916 (c_X8_hasRoad h) dX7_trace_95 rfl rfl (Nat.le_of_ble_eq_true rfl) ⟨by decide, by decide⟩ ⟨by decide, by decide⟩ ⟨rfl, rfl⟩ (fun x9 S7 h g8 => ?_)
      have bx9 := h.1
      have h := h.2 g8 bx9
      have o_a2 := gr_ob g8 o_a2
      have o_v0 := gr_ob g8 o_v0
      have o_v1 := gr_ob g8 o_v1
      refine r_if_eq (pc := 98) C (tgt := 143) dX7_trace_98 (by decide) (fun c10 => ?_) (fun c10 => ?_)
      · have h := h.1 c10
        exact r_sub [1, 2, 3, 4, 5] rfl (T_X7_trace_143 C E ht hn hX9 h)
      · have h := h.2 c10
        refine r_aload_n (pc := 101) C dX7_trace_101 2 rfl ?_
        obtain ⟨a11, ea11, h⟩ := h
        refine r_getr (pc := 102) C fL_X7_98 dX7_trace_102 o_v1 ea11 ?_
        refine r_iload (pc := 105) C dX7_trace_105 0 rfl ?_
        refine r_bipush (pc := 107) C (v := (100 : Int32)) dX7_trace_107 (by decide) ?_
        refine r_idiv (pc := 109) C dX7_trace_109 (by decide) ?_
        refine r_topi (fun x12 ex12 => ?_)
        have h := h x12 ex12
        obtain ⟨o_a11, h⟩ := h
        obtain ⟨i13, a14, ea14, h⟩ := h
        refine r_aald18 (pc := 110) C dX7_trace_110 o_a11 i13 ea14 ?_
        refine r_astore (pc := 111) C dX7_trace_111 (by decide) (lv' := [(9, .ref a14), (8, .int s0), (0, .ref v0), (1, .ref v1), (4, .int v4), (5, .int v5), (6, .int v6)]) rfl ?_
        refine r_aload (pc := 113) C dX7_trace_113 0 rfl ?_
        refine r_iload (pc := 115) C dX7_trace_115 1 rfl ?_
        refine r_bipush (pc := 117) C (v := (10 : Int32)) dX7_trace_117 (by decide) ?_
        refine r_idiv (pc := 119) C dX7_trace_119 (by decide) ?_
        refine r_topi (fun x15 ex15 => ?_)
        have h := h x15 ex15
        refine r_bipush (pc := 120) C (v := (10 : Int32)) dX7_trace_120 (by decide) ?_
        refine r_irem (pc := 122) C dX7_trace_122 (by decide) ?_
        refine r_topi (fun x16 ex16 => ?_)
        have h := h x16 ex16
        obtain ⟨o_a14, h⟩ := h
        refine r_callVi0 (pc := 123) C (rest := []) (a := a14) o_a14 [.int x16] yV_X5_endOf g_862 (c_X5_endOf h) dX7_trace_123 rfl rfl (Nat.le_of_ble_eq_true rfl) ⟨by decide, by decide⟩ ⟨by decide, by decide⟩ ⟨rfl, rfl⟩ (fun x19 S17 h g18 => ?_)
        have h := h g18
        have o_a11 := gr_ob g18 o_a11
        have o_a14 := gr_ob g18 o_a14
        have o_a2 := gr_ob g18 o_a2
        have o_v0 := gr_ob g18 o_v0
        have o_v1 := gr_ob g18 o_v1
        refine r_istore (pc := 126) C dX7_trace_126 (by decide) (lv' := [(4, .int x19), (9, .ref a14), (8, .int s0), (0, .ref v0), (1, .ref v1), (5, .int v5), (6, .int v6)]) rfl ?_
        refine r_iload (pc := 128) C dX7_trace_128 5 rfl ?_
        refine r_aload (pc := 130) C dX7_trace_130 1 rfl ?_
        refine r_iload (pc := 132) C dX7_trace_132 2 rfl ?_
        refine r_bipush (pc := 134) C (v := (10 : Int32)) dX7_trace_134 (by decide) ?_
        refine r_irem (pc := 136) C dX7_trace_136 (by decide) ?_
        refine r_topi (fun x20 ex20 => ?_)
        have h := h x20 ex20
        refine r_callVi0 (pc := 137) C (rest := [.int v5]) (a := a14) o_a14 [.int x20] yV_X5_minutesAt g_856 (c_X5_minutesAt h) dX7_trace_137 rfl rfl (Nat.le_of_ble_eq_true rfl) ⟨by decide, by decide⟩ ⟨by decide, by decide⟩ ⟨rfl, rfl⟩ (fun x23 S21 h g22 => ?_)
        have h := h g22
        have o_a11 := gr_ob g22 o_a11
        have o_a14 := gr_ob g22 o_a14
        have o_a2 := gr_ob g22 o_a2
        have o_v0 := gr_ob g22 o_v0
        have o_v1 := gr_ob g22 o_v1
        refine r_iadd (pc := 140) C dX7_trace_140 ?_
        refine r_topi (fun x24 ex24 => ?_)
        have h := h x24 ex24
        refine r_istore (pc := 141) C dX7_trace_141 (by decide) (lv' := [(5, .int x24), (4, .int x19), (9, .ref a14), (8, .int s0), (0, .ref v0), (1, .ref v1), (6, .int v6)]) rfl ?_
        exact r_sub [4, 5, 1, 0, 6] rfl (T_X7_trace_143 C E ht hn hX9 h)
    · have h := h.2 c5
      obtain ⟨x25, ex25⟩ : ∃ z : Int32, z = v5 + (1 : Int32) := ⟨_, rfl⟩
      have h := h x25 ex25
      refine r_iinc (pc := 83) C (v := x25) (lv' := [(5, .int x25), (8, .int s0), (0, .ref v0), (1, .ref v1), (4, .int v4), (6, .int v6)]) dX7_trace_83 4 rfl ex25.symm (by decide) rfl ?_
      refine r_goto (pc := 86) C (tgt := 143) dX7_trace_86 (by decide) ?_
      exact r_sub [2, 3, 4, 0, 5] rfl (T_X7_trace_143 C E ht hn hX9 h)
  · have h := h.2 c1
    refine r_iload (pc := 64) C dX7_trace_64 5 rfl ?_
    exact r_iret (pc := 66) C E ht dX7_trace_66 (by decide) (by decide) h
def P_X7_trace_55 (Q : Int32 → HS → Prop) (X9 : Nat → Nat → Int32 → Int32 → Int32 → HS → Prop) (v0 : Nat) (v1 : Nat) (v4 : Int32) (v5 : Int32) (v6 : Int32) (S : HS) : Prop := P_X7_trace_56 Q X9 v0 v1 v4 v5 v6 (-1 : Int32) S
set_option maxRecDepth 20000 in
set_option maxHeartbeats 4000000 in
theorem T_X7_trace_55 {X : CX} {Q : Int32 → HS → Prop} (C : Cx X cX7_trace RX7 10 rm_X7_trace) (E : ReI X rm_X7_trace Q) (ht : (xh X).sig.returnType = (some .int)) (hn : (xh X).name = yX7_trace.name) {X9 : Nat → Nat → Int32 → Int32 → Int32 → HS → Prop} (hX9 : ∀ (v0 : Nat) (v1 : Nat) (v4 : Int32) (v5 : Int32) (v6 : Int32) (S : HS), X9 v0 v1 v4 v5 v6 S → WS X 10 0 0 9 [(0, .ref v0), (1, .ref v1), (4, .int v4), (5, .int v5), (6, .int v6)] [] S) {v0 : Nat} {v1 : Nat} {v4 : Int32} {v5 : Int32} {v6 : Int32} {S : HS} (h : P_X7_trace_55 Q X9 v0 v1 v4 v5 v6 S) : WS X 10 0 0 55 [(0, .ref v0), (1, .ref v1), (4, .int v4), (5, .int v5), (6, .int v6)] [] S := by
  refine r_iconst (pc := 55) C (v := (-1 : Int32)) dX7_trace_55 (by decide) ?_
  exact r_sub [0, 1, 2, 3, 4] rfl (T_X7_trace_56 C E ht hn hX9 h)
def B_X7_trace_9 (Q : Int32 → HS → Prop) (X9 : Nat → Nat → Int32 → Int32 → Int32 → HS → Prop) (v0 : Nat) (v1 : Nat) (v4 : Int32) (v5 : Int32) (v6 : Int32) (S : HS) : Prop := ob S v0 7 ∧ (∃ a1 : Nat, fR S v0 0 = some a1 ∧ (ob S a1 13 ∧ ((((nI (hN S a1)) ≤ v6) → (∃ a3 : Nat, fR S v0 0 = some a3 ∧ (ob S a3 13 ∧ (Q (nI (hN S a3)) S)))) ∧ ((¬ (nI (hN S a1)) ≤ v6) → (∀ x4 : Int32, x4 = (v4 * (401 : Int32)) + v5 → (((x4 < 0) → (P_X7_trace_55 Q X9 v0 v1 v4 v5 v6 S)) ∧ ((¬ x4 < 0) → (∃ a6 : Nat, fR S v0 2 = some a6 ∧ (ob S a6 13 ∧ ((((nI (hN S a6)) ≤ x4) → (P_X7_trace_55 Q X9 v0 v1 v4 v5 v6 S)) ∧ ((¬ (nI (hN S a6)) ≤ x4) → (∃ a8 : Nat, fR S v0 2 = some a8 ∧ (ob S a8 13 ∧ (vp_in x4 (hN S a8) ∧ ∀ x10 : Int32, x10 = fI S a8 x4.toNatClampNeg → (P_X7_trace_56 Q X9 v0 v1 v4 v5 v6 x10 S)))))))))))))))
def P_X7_trace_9 (Q : Int32 → HS → Prop) (v0 : Nat) (v1 : Nat) (v4 : Int32) (v5 : Int32) (v6 : Int32) (S : HS) : Prop := ∀ X9 : Nat → Nat → Int32 → Int32 → Int32 → HS → Prop, (∀ (v0 : Nat) (v1 : Nat) (v4 : Int32) (v5 : Int32) (v6 : Int32) (S : HS), B_X7_trace_9 Q X9 v0 v1 v4 v5 v6 S → X9 v0 v1 v4 v5 v6 S) → X9 v0 v1 v4 v5 v6 S
set_option maxRecDepth 20000 in
set_option maxHeartbeats 4000000 in
theorem TB_X7_trace_9 {X : CX} {Q : Int32 → HS → Prop} (C : Cx X cX7_trace RX7 10 rm_X7_trace) (E : ReI X rm_X7_trace Q) (ht : (xh X).sig.returnType = (some .int)) (hn : (xh X).name = yX7_trace.name) {X9 : Nat → Nat → Int32 → Int32 → Int32 → HS → Prop} (hX9 : ∀ (v0 : Nat) (v1 : Nat) (v4 : Int32) (v5 : Int32) (v6 : Int32) (S : HS), X9 v0 v1 v4 v5 v6 S → WS X 10 0 0 9 [(0, .ref v0), (1, .ref v1), (4, .int v4), (5, .int v5), (6, .int v6)] [] S) {v0 : Nat} {v1 : Nat} {v4 : Int32} {v5 : Int32} {v6 : Int32} {S : HS} (h : B_X7_trace_9 Q X9 v0 v1 v4 v5 v6 S) : WS X 10 0 0 9 [(0, .ref v0), (1, .ref v1), (4, .int v4), (5, .int v5), (6, .int v6)] [] S := by
  refine r_iload (pc := 9) C dX7_trace_9 4 rfl ?_
  refine r_aload_n (pc := 11) C dX7_trace_11 0 rfl ?_
  obtain ⟨o_v0, h⟩ := h
  obtain ⟨a1, ea1, h⟩ := h
  refine r_getr (pc := 12) C fL_X7_9 dX7_trace_12 o_v0 ea1 ?_
  obtain ⟨o_a1, h⟩ := h
  refine r_alen13 (pc := 15) C dX7_trace_15 o_a1 ?_
  refine r_icmp_ge (pc := 16) C (tgt := 149) dX7_trace_16 (by decide) (fun c2 => ?_) (fun c2 => ?_)
  · have h := h.1 c2
    refine r_aload_n (pc := 149) C dX7_trace_149 0 rfl ?_
    obtain ⟨a3, ea3, h⟩ := h
    refine r_getr (pc := 150) C fL_X7_9 dX7_trace_150 o_v0 ea3 ?_
    obtain ⟨o_a3, h⟩ := h
    refine r_alen13 (pc := 153) C dX7_trace_153 o_a3 ?_
    exact r_iret (pc := 154) C E ht dX7_trace_154 (by decide) (by decide) h
  · have h := h.2 c2
    refine r_iload (pc := 19) C dX7_trace_19 2 rfl ?_
    refine r_sipush (pc := 21) C (v := (401 : Int32)) dX7_trace_21 (by decide) ?_
    refine r_imul (pc := 24) C dX7_trace_24 ?_
    refine r_iload (pc := 25) C dX7_trace_25 3 rfl ?_
    refine r_iadd (pc := 27) C dX7_trace_27 ?_
    refine r_topi (fun x4 ex4 => ?_)
    have h := h x4 ex4
    refine r_istore (pc := 28) C dX7_trace_28 (by decide) (lv' := [(7, .int x4), (0, .ref v0), (1, .ref v1), (4, .int v4), (5, .int v5), (6, .int v6)]) rfl ?_
    refine r_iload (pc := 30) C dX7_trace_30 0 rfl ?_
    refine r_if_lt (pc := 32) C (tgt := 55) dX7_trace_32 (by decide) (fun c5 => ?_) (fun c5 => ?_)
    · have h := h.1 c5
      exact r_sub [1, 2, 3, 4, 5] rfl (T_X7_trace_55 C E ht hn hX9 h)
    · have h := h.2 c5
      refine r_iload (pc := 35) C dX7_trace_35 0 rfl ?_
      refine r_aload_n (pc := 37) C dX7_trace_37 1 rfl ?_
      obtain ⟨a6, ea6, h⟩ := h
      refine r_getr (pc := 38) C fL_X7_19 dX7_trace_38 o_v0 ea6 ?_
      obtain ⟨o_a6, h⟩ := h
      refine r_alen13 (pc := 41) C dX7_trace_41 o_a6 ?_
      refine r_icmp_ge (pc := 42) C (tgt := 55) dX7_trace_42 (by decide) (fun c7 => ?_) (fun c7 => ?_)
      · have h := h.1 c7
        exact r_sub [1, 2, 3, 4, 5] rfl (T_X7_trace_55 C E ht hn hX9 h)
      · have h := h.2 c7
        refine r_aload_n (pc := 45) C dX7_trace_45 1 rfl ?_
        obtain ⟨a8, ea8, h⟩ := h
        refine r_getr (pc := 46) C fL_X7_19 dX7_trace_46 o_v0 ea8 ?_
        refine r_iload (pc := 49) C dX7_trace_49 0 rfl ?_
        obtain ⟨o_a8, h⟩ := h
        obtain ⟨i9, h⟩ := h
        refine r_iald (pc := 51) C dX7_trace_51 o_a8 i9 ?_
        refine r_topi (fun x10 ex10 => ?_)
        have h := h x10 ex10
        refine r_goto (pc := 52) C (tgt := 56) dX7_trace_52 (by decide) ?_
        exact r_sub [1, 2, 3, 4, 5] rfl (T_X7_trace_56 C E ht hn hX9 h)
theorem T_X7_trace_9 {X : CX} {Q : Int32 → HS → Prop} (C : Cx X cX7_trace RX7 10 rm_X7_trace) (E : ReI X rm_X7_trace Q) (ht : (xh X).sig.returnType = (some .int)) (hn : (xh X).name = yX7_trace.name) {v0 : Nat} {v1 : Nat} {v4 : Int32} {v5 : Int32} {v6 : Int32} {S : HS} (h : P_X7_trace_9 Q v0 v1 v4 v5 v6 S) : WS X 10 0 0 9 [(0, .ref v0), (1, .ref v1), (4, .int v4), (5, .int v5), (6, .int v6)] [] S :=
  h (fun v0 v1 v4 v5 v6 S => WS X 10 0 0 9 [(0, .ref v0), (1, .ref v1), (4, .int v4), (5, .int v5), (6, .int v6)] [] S) (fun v0 v1 v4 v5 v6 S hh => TB_X7_trace_9 C E ht hn (fun v0 v1 v4 v5 v6 S z => z) hh)
def P_X7_trace_0 (Q : Int32 → HS → Prop) (v0 : Nat) (v1 : Nat) (v2 : Int32) (v3 : Int32) (S : HS) : Prop := P_X7_trace_9 Q v0 v1 v2 v3 (0 : Int32) S
set_option maxRecDepth 20000 in
set_option maxHeartbeats 4000000 in
theorem T_X7_trace_0 {X : CX} {Q : Int32 → HS → Prop} (C : Cx X cX7_trace RX7 10 rm_X7_trace) (E : ReI X rm_X7_trace Q) (ht : (xh X).sig.returnType = (some .int)) (hn : (xh X).name = yX7_trace.name) {v0 : Nat} {v1 : Nat} {v2 : Int32} {v3 : Int32} {S : HS} (h : P_X7_trace_0 Q v0 v1 v2 v3 S) : WS X 10 0 0 0 [(0, .ref v0), (1, .ref v1), (2, .int v2), (3, .int v3)] [] S := by
  refine r_iload_n (pc := 0) C dX7_trace_0 2 rfl ?_
  refine r_istore (pc := 1) C dX7_trace_1 (by decide) (lv' := [(4, .int v2), (0, .ref v0), (1, .ref v1), (2, .int v2), (3, .int v3)]) rfl ?_
  refine r_iload_n (pc := 3) C dX7_trace_3 4 rfl ?_
  refine r_istore (pc := 4) C dX7_trace_4 (by decide) (lv' := [(5, .int v3), (4, .int v2), (0, .ref v0), (1, .ref v1), (2, .int v2), (3, .int v3)]) rfl ?_
  refine r_iconst (pc := 6) C (v := (0 : Int32)) dX7_trace_6 (by decide) ?_
  refine r_istore (pc := 7) C dX7_trace_7 (by decide) (lv' := [(6, .int (0 : Int32)), (5, .int v3), (4, .int v2), (0, .ref v0), (1, .ref v1), (2, .int v2), (3, .int v3)]) rfl ?_
  exact r_sub [3, 4, 2, 1, 0] rfl (T_X7_trace_9 C E ht hn h)
def P_X7_trace (v0 : Nat) (v1 : Nat) (v2 : Int32) (v3 : Int32) (Q : Int32 → HS → Prop) (S : HS) : Prop := P_X7_trace_0 Q v0 v1 v2 v3 S
theorem c_X7_trace {l : Launch} {Ee : EE} {S : HS} {v0 : Nat} {v1 : Nat} {v2 : Int32} {v3 : Int32} {Q : Int32 → HS → Prop} (h : P_X7_trace v0 v1 v2 v3 Q S) : MI l yX7_trace cX7_trace 10 (some .int) rm_X7_trace Ee S [.ref v0, .ref v1, .int v2, .int v3] Q :=
  openI (by decide) (Nat.le_of_ble_eq_true rfl) (fun X C E ht hn hE hl => by subst hE; exact r_sub [0, 1, 2, 3] rfl (T_X7_trace_0 C E ht hn h))
end
section
def rm_X9_grant : Room := { frames := 0, cells := 0, slots := 0, locals := 0 }
def P_X9_grant_0 (Q : Int32 → HS → Prop) (v0 : Nat) (v1 : Int32) (S : HS) : Prop := ob S v0 9 ∧ (∀ S1 : HS, S1 = sI S v0 9 (0 : Int32) → (Q v1 S1))
set_option maxRecDepth 20000 in
set_option maxHeartbeats 4000000 in
theorem T_X9_grant_0 {X : CX} {Q : Int32 → HS → Prop} (C : Cx X cX9_grant RX9 2 rm_X9_grant) (E : ReI X rm_X9_grant Q) (ht : (xh X).sig.returnType = (some .int)) (hn : (xh X).name = yX9_grant.name) {v0 : Nat} {v1 : Int32} {S : HS} (h : P_X9_grant_0 Q v0 v1 S) : WS X 2 0 0 0 [(0, .ref v0), (1, .int v1)] [] S := by
  refine r_aload_n (pc := 0) C dX9_grant_0 0 rfl ?_
  refine r_iconst (pc := 1) C (v := (0 : Int32)) dX9_grant_1 (by decide) ?_
  obtain ⟨o_v0, h⟩ := h
  refine r_puti (pc := 2) C pfL_X9_92 dX9_grant_2 o_v0 ?_
  refine r_heap (fun S1 eS1 => ?_)
  have h := h S1 eS1
  have o_v0 := ob_I eS1 o_v0
  refine r_iload_n (pc := 5) C dX9_grant_5 1 rfl ?_
  exact r_iret (pc := 6) C E ht dX9_grant_6 (by decide) (by decide) h
def P_X9_grant (v0 : Nat) (v1 : Int32) (Q : Int32 → HS → Prop) (S : HS) : Prop := P_X9_grant_0 Q v0 v1 S
theorem c_X9_grant {l : Launch} {Ee : EE} {S : HS} {v0 : Nat} {v1 : Int32} {Q : Int32 → HS → Prop} (h : P_X9_grant v0 v1 Q S) : MI l yX9_grant cX9_grant 2 (some .int) rm_X9_grant Ee S [.ref v0, .int v1] Q :=
  openI (by decide) (Nat.le_of_ble_eq_true rfl) (fun X C E ht hn hE hl => by subst hE; exact r_sub [0, 1] rfl (T_X9_grant_0 C E ht hn h))
def rm_X9_isWay : Room := { frames := 0, cells := 0, slots := 0, locals := 0 }
def P_X9_isWay_0 (Q : Int32 → HS → Prop) (v0 : Int32) (S : HS) : Prop := ((v0 = 0) → (Q (1 : Int32) S)) ∧ ((¬ v0 = 0) → (((¬ v0 = (1 : Int32)) → (Q (0 : Int32) S)) ∧ ((v0 = (1 : Int32)) → (Q (1 : Int32) S))))
set_option maxRecDepth 20000 in
set_option maxHeartbeats 4000000 in
theorem T_X9_isWay_0 {X : CX} {Q : Int32 → HS → Prop} (C : Cx X cX9_isWay RX9 1 rm_X9_isWay) (E : ReI X rm_X9_isWay (fun r S => bl r ∧ Q r S)) (ht : (xh X).sig.returnType = (some .boolean)) (hn : (xh X).name = yX9_isWay.name) {v0 : Int32} {S : HS} (h : P_X9_isWay_0 Q v0 S) : WS X 1 0 0 0 [(0, .int v0)] [] S := by
  refine r_iload_n (pc := 0) C dX9_isWay_0 0 rfl ?_
  refine r_if_eq (pc := 1) C (tgt := 9) dX9_isWay_1 (by decide) (fun c1 => ?_) (fun c1 => ?_)
  · have h := h.1 c1
    refine r_iconst (pc := 9) C (v := (1 : Int32)) dX9_isWay_9 (by decide) ?_
    refine r_goto (pc := 10) C (tgt := 14) dX9_isWay_10 (by decide) ?_
    exact r_zret (pc := 14) C E ht dX9_isWay_14 (by decide) (by decide) (Or.inr rfl) h
  · have h := h.2 c1
    refine r_iload_n (pc := 4) C dX9_isWay_4 0 rfl ?_
    refine r_iconst (pc := 5) C (v := (1 : Int32)) dX9_isWay_5 (by decide) ?_
    refine r_icmp_ne (pc := 6) C (tgt := 13) dX9_isWay_6 (by decide) (fun c2 => ?_) (fun c2 => ?_)
    · have h := h.1 c2
      refine r_iconst (pc := 13) C (v := (0 : Int32)) dX9_isWay_13 (by decide) ?_
      exact r_zret (pc := 14) C E ht dX9_isWay_14 (by decide) (by decide) (Or.inl rfl) h
    · have h := h.2 c2
      refine r_iconst (pc := 9) C (v := (1 : Int32)) dX9_isWay_9 (by decide) ?_
      refine r_goto (pc := 10) C (tgt := 14) dX9_isWay_10 (by decide) ?_
      exact r_zret (pc := 14) C E ht dX9_isWay_14 (by decide) (by decide) (Or.inr rfl) h
def P_X9_isWay (v0 : Int32) (Q : Int32 → HS → Prop) (S : HS) : Prop := P_X9_isWay_0 Q v0 S
theorem c_X9_isWay {l : Launch} {Ee : EE} {S : HS} {v0 : Int32} {Q : Int32 → HS → Prop} (h : P_X9_isWay v0 Q S) : MI l yX9_isWay cX9_isWay 1 (some .boolean) rm_X9_isWay Ee S [.int v0] (fun r S => bl r ∧ Q r S) :=
  openI (by decide) (Nat.le_of_ble_eq_true rfl) (fun X C E ht hn hE hl => by subst hE; exact r_sub [0] rfl (T_X9_isWay_0 C E ht hn h))
def rm_X9_air : Room := { frames := 2, cells := 0, slots := 0, locals := 46 }
def P_X9_air_0 (Q : Int32 → HS → Prop) (v0 : Nat) (v1 : Int32) (v2 : Int32) (v3 : Int32) (S : HS) : Prop := ob S v0 9 ∧ (∃ a1 : Nat, fR S v0 2 = some a1 ∧ (ob S a1 8 ∧ (P_X8_hasRoad a1 v1 (fun x4 S2 => Gr S S2 → bl x4 → (((x4 = 0) → (∀ S6 : HS, S6 = sI S2 v0 9 (1 : Int32) → (Q (-100 : Int32) S6))) ∧ ((¬ x4 = 0) → (P_X9_isWay v2 (fun x9 S7 => Gr S2 S7 → bl x9 → (((x9 = 0) → (∀ S11 : HS, S11 = sI S7 v0 9 (1 : Int32) → (Q (-100 : Int32) S11))) ∧ ((¬ x9 = 0) → (∃ a12 : Nat, fR S7 v0 2 = some a12 ∧ (ob S7 a12 8 ∧ (P_X8_hasHour a12 v3 (fun x15 S13 => Gr S7 S13 → bl x15 → (((¬ x15 = 0) → (∃ a17 : Nat, fR S13 v0 2 = some a17 ∧ (ob S13 a17 8 ∧ (∃ a18 : Nat, fR S13 a17 8 = some a18 ∧ (ob S13 a18 18 ∧ (vp_in v1 (hN S13 a18) ∧ ∃ a20 : Nat, fR S13 a18 v1.toNatClampNeg = some a20 ∧ (∃ a21 : Nat, fR S13 v0 2 = some a21 ∧ (ob S13 a21 8 ∧ (∃ a22 : Nat, fR S13 a21 6 = some a22 ∧ (ob S13 a22 17 ∧ (vp_in v3 (hN S13 a22) ∧ ∃ a24 : Nat, fR S13 a22 v3.toNatClampNeg = some a24 ∧ (ob S13 a20 5 ∧ (P_X5_airAlong a20 v2 a24 (fun x27 S25 => Gr S13 S25 → (P_X9_grant v0 x27 (fun x30 S28 => Gr S25 S28 → (Q x30 S28)) S25)) S13))))))))))))) ∧ ((x15 = 0) → (∀ S31 : HS, S31 = sI S13 v0 9 (1 : Int32) → (Q (-100 : Int32) S31))))) S7)))))) S2)))) S)))
set_option maxRecDepth 20000 in
set_option maxHeartbeats 4000000 in
theorem T_X9_air_0 {X : CX} {Q : Int32 → HS → Prop} (C : Cx X cX9_air RX9 4 rm_X9_air) (E : ReI X rm_X9_air Q) (ht : (xh X).sig.returnType = (some .int)) (hn : (xh X).name = yX9_air.name) {v0 : Nat} {v1 : Int32} {v2 : Int32} {v3 : Int32} {S : HS} (h : P_X9_air_0 Q v0 v1 v2 v3 S) : WS X 4 0 0 0 [(0, .ref v0), (1, .int v1), (2, .int v2), (3, .int v3)] [] S := by
  refine r_aload_n (pc := 0) C dX9_air_0 0 rfl ?_
  obtain ⟨o_v0, h⟩ := h
  obtain ⟨a1, ea1, h⟩ := h
  refine r_getr (pc := 1) C fL_X9_16 dX9_air_1 o_v0 ea1 ?_
  refine r_iload_n (pc := 4) C dX9_air_4 1 rfl ?_
  obtain ⟨o_a1, h⟩ := h
  refine r_callVi0 (pc := 5) C (rest := []) (a := a1) o_a1 [.int v1] yV_X8_hasRoad g_668 (c_X8_hasRoad h) dX9_air_5 rfl rfl (Nat.le_of_ble_eq_true rfl) ⟨by decide, by decide⟩ ⟨by decide, by decide⟩ ⟨rfl, rfl⟩ (fun x4 S2 h g3 => ?_)
  have bx4 := h.1
  have h := h.2 g3 bx4
  have o_a1 := gr_ob g3 o_a1
  have o_v0 := gr_ob g3 o_v0
  refine r_if_eq (pc := 8) C (tgt := 29) dX9_air_8 (by decide) (fun c5 => ?_) (fun c5 => ?_)
  · have h := h.1 c5
    refine r_aload_n (pc := 29) C dX9_air_29 0 rfl ?_
    refine r_iconst (pc := 30) C (v := (1 : Int32)) dX9_air_30 (by decide) ?_
    refine r_puti (pc := 31) C pfL_X9_92 dX9_air_31 o_v0 ?_
    refine r_heap (fun S6 eS6 => ?_)
    have h := h S6 eS6
    have o_a1 := ob_I eS6 o_a1
    have o_v0 := ob_I eS6 o_v0
    refine r_bipush (pc := 34) C (v := (-100 : Int32)) dX9_air_34 (by decide) ?_
    exact r_iret (pc := 36) C E ht dX9_air_36 (by decide) (by decide) h
  · have h := h.2 c5
    refine r_iload_n (pc := 11) C dX9_air_11 2 rfl ?_
    refine r_callSi0 (pc := 12) C (rest := []) rfl [.int v2] yS_X9_isWay g_672 (c_X9_isWay h) dX9_air_12 rfl rfl (Nat.le_of_ble_eq_true rfl) ⟨by decide, by decide⟩ ⟨by decide, by decide⟩ ⟨rfl, rfl⟩ (fun x9 S7 h g8 => ?_)
    have bx9 := h.1
    have h := h.2 g8 bx9
    have o_a1 := gr_ob g8 o_a1
    have o_v0 := gr_ob g8 o_v0
    refine r_if_eq (pc := 15) C (tgt := 29) dX9_air_15 (by decide) (fun c10 => ?_) (fun c10 => ?_)
    · have h := h.1 c10
      refine r_aload_n (pc := 29) C dX9_air_29 0 rfl ?_
      refine r_iconst (pc := 30) C (v := (1 : Int32)) dX9_air_30 (by decide) ?_
      refine r_puti (pc := 31) C pfL_X9_92 dX9_air_31 o_v0 ?_
      refine r_heap (fun S11 eS11 => ?_)
      have h := h S11 eS11
      have o_a1 := ob_I eS11 o_a1
      have o_v0 := ob_I eS11 o_v0
      refine r_bipush (pc := 34) C (v := (-100 : Int32)) dX9_air_34 (by decide) ?_
      exact r_iret (pc := 36) C E ht dX9_air_36 (by decide) (by decide) h
    · have h := h.2 c10
      refine r_aload_n (pc := 18) C dX9_air_18 0 rfl ?_
      obtain ⟨a12, ea12, h⟩ := h
      refine r_getr (pc := 19) C fL_X9_16 dX9_air_19 o_v0 ea12 ?_
      refine r_iload_n (pc := 22) C dX9_air_22 3 rfl ?_
      obtain ⟨o_a12, h⟩ := h
      refine r_callVi0 (pc := 23) C (rest := []) (a := a12) o_a12 [.int v3] yV_X8_hasHour g_675 (c_X8_hasHour h) dX9_air_23 rfl rfl (Nat.le_of_ble_eq_true rfl) ⟨by decide, by decide⟩ ⟨by decide, by decide⟩ ⟨rfl, rfl⟩ (fun x15 S13 h g14 => ?_)
      have bx15 := h.1
      have h := h.2 g14 bx15
      have o_a1 := gr_ob g14 o_a1
      have o_a12 := gr_ob g14 o_a12
      have o_v0 := gr_ob g14 o_v0
      refine r_if_ne (pc := 26) C (tgt := 37) dX9_air_26 (by decide) (fun c16 => ?_) (fun c16 => ?_)
      · have h := h.1 c16
        refine r_aload_n (pc := 37) C dX9_air_37 0 rfl ?_
        refine r_aload_n (pc := 38) C dX9_air_38 0 rfl ?_
        obtain ⟨a17, ea17, h⟩ := h
        refine r_getr (pc := 39) C fL_X9_16 dX9_air_39 o_v0 ea17 ?_
        obtain ⟨o_a17, h⟩ := h
        obtain ⟨a18, ea18, h⟩ := h
        refine r_getr (pc := 42) C fL_X9_112 dX9_air_42 o_a17 ea18 ?_
        refine r_iload_n (pc := 45) C dX9_air_45 1 rfl ?_
        obtain ⟨o_a18, h⟩ := h
        obtain ⟨i19, a20, ea20, h⟩ := h
        refine r_aald18 (pc := 46) C dX9_air_46 o_a18 i19 ea20 ?_
        refine r_iload_n (pc := 47) C dX9_air_47 2 rfl ?_
        refine r_aload_n (pc := 48) C dX9_air_48 0 rfl ?_
        obtain ⟨a21, ea21, h⟩ := h
        refine r_getr (pc := 49) C fL_X9_16 dX9_air_49 o_v0 ea21 ?_
        obtain ⟨o_a21, h⟩ := h
        obtain ⟨a22, ea22, h⟩ := h
        refine r_getr (pc := 52) C fL_X9_116 dX9_air_52 o_a21 ea22 ?_
        refine r_iload_n (pc := 55) C dX9_air_55 3 rfl ?_
        obtain ⟨o_a22, h⟩ := h
        obtain ⟨i23, a24, ea24, h⟩ := h
        refine r_aald17 (pc := 56) C dX9_air_56 o_a22 i23 ea24 ?_
        obtain ⟨o_a20, h⟩ := h
        refine r_callVi0 (pc := 57) C (rest := [.ref v0]) (a := a20) o_a20 [.int v2, .ref a24] yV_X5_airAlong g_749 (c_X5_airAlong h) dX9_air_57 rfl rfl (Nat.le_of_ble_eq_true rfl) ⟨by decide, by decide⟩ ⟨by decide, by decide⟩ ⟨rfl, rfl⟩ (fun x27 S25 h g26 => ?_)
        have h := h g26
        have o_a1 := gr_ob g26 o_a1
        have o_a12 := gr_ob g26 o_a12
        have o_a17 := gr_ob g26 o_a17
        have o_a18 := gr_ob g26 o_a18
        have o_a20 := gr_ob g26 o_a20
        have o_a21 := gr_ob g26 o_a21
        have o_a22 := gr_ob g26 o_a22
        have o_v0 := gr_ob g26 o_v0
        refine r_callVi0 (pc := 60) C (rest := []) (a := v0) o_v0 [.int x27] yV_X9_grant g_637 (c_X9_grant h) dX9_air_60 rfl rfl (Nat.le_of_ble_eq_true rfl) ⟨by decide, by decide⟩ ⟨by decide, by decide⟩ ⟨rfl, rfl⟩ (fun x30 S28 h g29 => ?_)
        have h := h g29
        have o_a1 := gr_ob g29 o_a1
        have o_a12 := gr_ob g29 o_a12
        have o_a17 := gr_ob g29 o_a17
        have o_a18 := gr_ob g29 o_a18
        have o_a20 := gr_ob g29 o_a20
        have o_a21 := gr_ob g29 o_a21
        have o_a22 := gr_ob g29 o_a22
        have o_v0 := gr_ob g29 o_v0
        exact r_iret (pc := 63) C E ht dX9_air_63 (by decide) (by decide) h
      · have h := h.2 c16
        refine r_aload_n (pc := 29) C dX9_air_29 0 rfl ?_
        refine r_iconst (pc := 30) C (v := (1 : Int32)) dX9_air_30 (by decide) ?_
        refine r_puti (pc := 31) C pfL_X9_92 dX9_air_31 o_v0 ?_
        refine r_heap (fun S31 eS31 => ?_)
        have h := h S31 eS31
        have o_a1 := ob_I eS31 o_a1
        have o_a12 := ob_I eS31 o_a12
        have o_v0 := ob_I eS31 o_v0
        refine r_bipush (pc := 34) C (v := (-100 : Int32)) dX9_air_34 (by decide) ?_
        exact r_iret (pc := 36) C E ht dX9_air_36 (by decide) (by decide) h
def P_X9_air (v0 : Nat) (v1 : Int32) (v2 : Int32) (v3 : Int32) (Q : Int32 → HS → Prop) (S : HS) : Prop := P_X9_air_0 Q v0 v1 v2 v3 S
theorem c_X9_air {l : Launch} {Ee : EE} {S : HS} {v0 : Nat} {v1 : Int32} {v2 : Int32} {v3 : Int32} {Q : Int32 → HS → Prop} (h : P_X9_air v0 v1 v2 v3 Q S) : MI l yX9_air cX9_air 4 (some .int) rm_X9_air Ee S [.ref v0, .int v1, .int v2, .int v3] Q :=
  openI (by decide) (Nat.le_of_ble_eq_true rfl) (fun X C E ht hn hE hl => by subst hE; exact r_sub [0, 1, 2, 3] rfl (T_X9_air_0 C E ht hn h))
def rm_X9_refusedBy : Room := { frames := 0, cells := 0, slots := 0, locals := 0 }
def P_X9_refusedBy_0 (Q : Int32 → HS → Prop) (v0 : Nat) (v1 : Int32) (S : HS) : Prop := ob S v0 9 ∧ (∀ S1 : HS, S1 = sI S v0 9 v1 → (((v1 = 0) → (Q (0 : Int32) S1)) ∧ ((¬ v1 = 0) → (Q (1 : Int32) S1))))
set_option maxRecDepth 20000 in
set_option maxHeartbeats 4000000 in
theorem T_X9_refusedBy_0 {X : CX} {Q : Int32 → HS → Prop} (C : Cx X cX9_refusedBy RX9 2 rm_X9_refusedBy) (E : ReI X rm_X9_refusedBy (fun r S => bl r ∧ Q r S)) (ht : (xh X).sig.returnType = (some .boolean)) (hn : (xh X).name = yX9_refusedBy.name) {v0 : Nat} {v1 : Int32} {S : HS} (h : P_X9_refusedBy_0 Q v0 v1 S) : WS X 2 0 0 0 [(0, .ref v0), (1, .int v1)] [] S := by
  refine r_aload_n (pc := 0) C dX9_refusedBy_0 0 rfl ?_
  refine r_iload_n (pc := 1) C dX9_refusedBy_1 1 rfl ?_
  obtain ⟨o_v0, h⟩ := h
  refine r_puti (pc := 2) C pfL_X9_92 dX9_refusedBy_2 o_v0 ?_
  refine r_heap (fun S1 eS1 => ?_)
  have h := h S1 eS1
  have o_v0 := ob_I eS1 o_v0
  refine r_iload_n (pc := 5) C dX9_refusedBy_5 1 rfl ?_
  refine r_if_eq (pc := 6) C (tgt := 13) dX9_refusedBy_6 (by decide) (fun c2 => ?_) (fun c2 => ?_)
  · have h := h.1 c2
    refine r_iconst (pc := 13) C (v := (0 : Int32)) dX9_refusedBy_13 (by decide) ?_
    exact r_zret (pc := 14) C E ht dX9_refusedBy_14 (by decide) (by decide) (Or.inl rfl) h
  · have h := h.2 c2
    refine r_iconst (pc := 9) C (v := (1 : Int32)) dX9_refusedBy_9 (by decide) ?_
    refine r_goto (pc := 10) C (tgt := 14) dX9_refusedBy_10 (by decide) ?_
    exact r_zret (pc := 14) C E ht dX9_refusedBy_14 (by decide) (by decide) (Or.inr rfl) h
def P_X9_refusedBy (v0 : Nat) (v1 : Int32) (Q : Int32 → HS → Prop) (S : HS) : Prop := P_X9_refusedBy_0 Q v0 v1 S
theorem c_X9_refusedBy {l : Launch} {Ee : EE} {S : HS} {v0 : Nat} {v1 : Int32} {Q : Int32 → HS → Prop} (h : P_X9_refusedBy v0 v1 Q S) : MI l yX9_refusedBy cX9_refusedBy 2 (some .boolean) rm_X9_refusedBy Ee S [.ref v0, .int v1] (fun r S => bl r ∧ Q r S) :=
  openI (by decide) (Nat.le_of_ble_eq_true rfl) (fun X C E ht hn hE hl => by subst hE; exact r_sub [0, 1] rfl (T_X9_refusedBy_0 C E ht hn h))
def rm_X9_back : Room := { frames := 2, cells := 0, slots := 0, locals := 43 }
def P_X9_back_17 (Q : Int32 → HS → Prop) (s0 : Nat) (s1 : Int32) (S : HS) : Prop := ob S s0 9 ∧ (P_X9_refusedBy s0 s1 (fun x3 S1 => Gr S S1 → bl x3 → (((¬ x3 = 0) → (Q (0 : Int32) S1)) ∧ ((x3 = 0) → (Q (1 : Int32) S1)))) S)
set_option maxRecDepth 20000 in
set_option maxHeartbeats 4000000 in
theorem T_X9_back_17 {X : CX} {Q : Int32 → HS → Prop} (C : Cx X cX9_back RX9 2 rm_X9_back) (E : ReI X rm_X9_back (fun r S => bl r ∧ Q r S)) (ht : (xh X).sig.returnType = (some .boolean)) (hn : (xh X).name = yX9_back.name) {s0 : Nat} {s1 : Int32} {S : HS} (h : P_X9_back_17 Q s0 s1 S) : WS X 2 0 0 17 [] [.int s1, .ref s0] S := by
  obtain ⟨o_s0, h⟩ := h
  refine r_callVi0 (pc := 17) C (rest := []) (a := s0) o_s0 [.int s1] yV_X9_refusedBy g_683 (c_X9_refusedBy h) dX9_back_17 rfl rfl (Nat.le_of_ble_eq_true rfl) ⟨by decide, by decide⟩ ⟨by decide, by decide⟩ ⟨rfl, rfl⟩ (fun x3 S1 h g2 => ?_)
  have bx3 := h.1
  have h := h.2 g2 bx3
  have o_s0 := gr_ob g2 o_s0
  refine r_if_ne (pc := 20) C (tgt := 27) dX9_back_20 (by decide) (fun c4 => ?_) (fun c4 => ?_)
  · have h := h.1 c4
    refine r_iconst (pc := 27) C (v := (0 : Int32)) dX9_back_27 (by decide) ?_
    exact r_zret (pc := 28) C E ht dX9_back_28 (by decide) (by decide) (Or.inl rfl) h
  · have h := h.2 c4
    refine r_iconst (pc := 23) C (v := (1 : Int32)) dX9_back_23 (by decide) ?_
    refine r_goto (pc := 24) C (tgt := 28) dX9_back_24 (by decide) ?_
    exact r_zret (pc := 28) C E ht dX9_back_28 (by decide) (by decide) (Or.inr rfl) h
def P_X9_back_0 (Q : Int32 → HS → Prop) (v0 : Nat) (v1 : Int32) (S : HS) : Prop := ob S v0 9 ∧ (∃ a1 : Nat, fR S v0 6 = some a1 ∧ (ob S a1 0 ∧ (P_X0_returnTo a1 v1 (fun x4 S2 => Gr S S2 → bl x4 → (((x4 = 0) → (P_X9_back_17 Q v0 (1 : Int32) S2)) ∧ ((¬ x4 = 0) → (P_X9_back_17 Q v0 (0 : Int32) S2)))) S)))
set_option maxRecDepth 20000 in
set_option maxHeartbeats 4000000 in
theorem T_X9_back_0 {X : CX} {Q : Int32 → HS → Prop} (C : Cx X cX9_back RX9 2 rm_X9_back) (E : ReI X rm_X9_back (fun r S => bl r ∧ Q r S)) (ht : (xh X).sig.returnType = (some .boolean)) (hn : (xh X).name = yX9_back.name) {v0 : Nat} {v1 : Int32} {S : HS} (h : P_X9_back_0 Q v0 v1 S) : WS X 2 0 0 0 [(0, .ref v0), (1, .int v1)] [] S := by
  refine r_aload_n (pc := 0) C dX9_back_0 0 rfl ?_
  refine r_aload_n (pc := 1) C dX9_back_1 0 rfl ?_
  obtain ⟨o_v0, h⟩ := h
  obtain ⟨a1, ea1, h⟩ := h
  refine r_getr (pc := 2) C fL_X9_44 dX9_back_2 o_v0 ea1 ?_
  refine r_iload_n (pc := 5) C dX9_back_5 1 rfl ?_
  obtain ⟨o_a1, h⟩ := h
  refine r_callVi0 (pc := 6) C (rest := [.ref v0]) (a := a1) o_a1 [.int v1] yV_X0_returnTo g_1056 (c_X0_returnTo h) dX9_back_6 rfl rfl (Nat.le_of_ble_eq_true rfl) ⟨by decide, by decide⟩ ⟨by decide, by decide⟩ ⟨rfl, rfl⟩ (fun x4 S2 h g3 => ?_)
  have bx4 := h.1
  have h := h.2 g3 bx4
  have o_a1 := gr_ob g3 o_a1
  have o_v0 := gr_ob g3 o_v0
  refine r_if_eq (pc := 9) C (tgt := 16) dX9_back_9 (by decide) (fun c5 => ?_) (fun c5 => ?_)
  · have h := h.1 c5
    refine r_iconst (pc := 16) C (v := (1 : Int32)) dX9_back_16 (by decide) ?_
    exact r_sub [] rfl (T_X9_back_17 C E ht hn h)
  · have h := h.2 c5
    refine r_iconst (pc := 12) C (v := (0 : Int32)) dX9_back_12 (by decide) ?_
    refine r_goto (pc := 13) C (tgt := 17) dX9_back_13 (by decide) ?_
    exact r_sub [] rfl (T_X9_back_17 C E ht hn h)
def P_X9_back (v0 : Nat) (v1 : Int32) (Q : Int32 → HS → Prop) (S : HS) : Prop := P_X9_back_0 Q v0 v1 S
theorem c_X9_back {l : Launch} {Ee : EE} {S : HS} {v0 : Nat} {v1 : Int32} {Q : Int32 → HS → Prop} (h : P_X9_back v0 v1 Q S) : MI l yX9_back cX9_back 2 (some .boolean) rm_X9_back Ee S [.ref v0, .int v1] (fun r S => bl r ∧ Q r S) :=
  openI (by decide) (Nat.le_of_ble_eq_true rfl) (fun X C E ht hn hE hl => by subst hE; exact r_sub [0, 1] rfl (T_X9_back_0 C E ht hn h))
def rm_X9_tripTrouble : Room := { frames := 1, cells := 0, slots := 0, locals := 21 }
def P_X9_tripTrouble_46 (Q : Int32 → HS → Prop) (s0 : Int32) (S : HS) : Prop := ((s0 = 0) → (Q (1 : Int32) S)) ∧ ((¬ s0 = 0) → (Q (0 : Int32) S))
set_option maxRecDepth 20000 in
set_option maxHeartbeats 4000000 in
theorem T_X9_tripTrouble_46 {X : CX} {Q : Int32 → HS → Prop} (C : Cx X cX9_tripTrouble RX9 6 rm_X9_tripTrouble) (E : ReI X rm_X9_tripTrouble Q) (ht : (xh X).sig.returnType = (some .int)) (hn : (xh X).name = yX9_tripTrouble.name) {s0 : Int32} {S : HS} (h : P_X9_tripTrouble_46 Q s0 S) : WS X 6 0 0 46 [] [.int s0] S := by
  refine r_istore (pc := 46) C dX9_tripTrouble_46 (by decide) (lv' := [(5, .int s0)]) rfl ?_
  refine r_iload (pc := 48) C dX9_tripTrouble_48 0 rfl ?_
  refine r_if_eq (pc := 50) C (tgt := 57) dX9_tripTrouble_50 (by decide) (fun c1 => ?_) (fun c1 => ?_)
  · have h := h.1 c1
    refine r_iconst (pc := 57) C (v := (1 : Int32)) dX9_tripTrouble_57 (by decide) ?_
    exact r_iret (pc := 58) C E ht dX9_tripTrouble_58 (by decide) (by decide) h
  · have h := h.2 c1
    refine r_iconst (pc := 53) C (v := (0 : Int32)) dX9_tripTrouble_53 (by decide) ?_
    refine r_goto (pc := 54) C (tgt := 58) dX9_tripTrouble_54 (by decide) ?_
    exact r_iret (pc := 58) C E ht dX9_tripTrouble_58 (by decide) (by decide) h
def P_X9_tripTrouble_45 (Q : Int32 → HS → Prop)  (S : HS) : Prop := P_X9_tripTrouble_46 Q (0 : Int32) S
set_option maxRecDepth 20000 in
set_option maxHeartbeats 4000000 in
theorem T_X9_tripTrouble_45 {X : CX} {Q : Int32 → HS → Prop} (C : Cx X cX9_tripTrouble RX9 6 rm_X9_tripTrouble) (E : ReI X rm_X9_tripTrouble Q) (ht : (xh X).sig.returnType = (some .int)) (hn : (xh X).name = yX9_tripTrouble.name)  {S : HS} (h : P_X9_tripTrouble_45 Q S) : WS X 6 0 0 45 [] [] S := by
  refine r_iconst (pc := 45) C (v := (0 : Int32)) dX9_tripTrouble_45 (by decide) ?_
  exact r_sub [] rfl (T_X9_tripTrouble_46 C E ht hn h)
def P_X9_tripTrouble_0 (Q : Int32 → HS → Prop) (v0 : Nat) (v1 : Int32) (v2 : Int32) (v3 : Int32) (v4 : Int32) (S : HS) : Prop := ob S v0 9 ∧ (∃ a1 : Nat, fR S v0 2 = some a1 ∧ (ob S a1 8 ∧ (P_X8_hasWalker a1 v1 (fun x4 S2 => Gr S S2 → bl x4 → (((x4 = 0) → (P_X9_tripTrouble_45 Q S2)) ∧ ((¬ x4 = 0) → (∃ a6 : Nat, fR S2 v0 2 = some a6 ∧ (ob S2 a6 8 ∧ (P_X8_hasRoad a6 v2 (fun x9 S7 => Gr S2 S7 → bl x9 → (((x9 = 0) → (P_X9_tripTrouble_45 Q S7)) ∧ ((¬ x9 = 0) → (P_X9_isWay v3 (fun x13 S11 => Gr S7 S11 → bl x13 → (((x13 = 0) → (P_X9_tripTrouble_45 Q S11)) ∧ ((¬ x13 = 0) → (∃ a15 : Nat, fR S11 v0 2 = some a15 ∧ (ob S11 a15 8 ∧ (P_X8_hasHour a15 v4 (fun x18 S16 => Gr S11 S16 → bl x18 → (((x18 = 0) → (P_X9_tripTrouble_45 Q S16)) ∧ ((¬ x18 = 0) → (P_X9_tripTrouble_46 Q (1 : Int32) S16)))) S11)))))) S7)))) S2)))))) S)))
set_option maxRecDepth 20000 in
set_option maxHeartbeats 4000000 in
theorem T_X9_tripTrouble_0 {X : CX} {Q : Int32 → HS → Prop} (C : Cx X cX9_tripTrouble RX9 6 rm_X9_tripTrouble) (E : ReI X rm_X9_tripTrouble Q) (ht : (xh X).sig.returnType = (some .int)) (hn : (xh X).name = yX9_tripTrouble.name) {v0 : Nat} {v1 : Int32} {v2 : Int32} {v3 : Int32} {v4 : Int32} {S : HS} (h : P_X9_tripTrouble_0 Q v0 v1 v2 v3 v4 S) : WS X 6 0 0 0 [(0, .ref v0), (1, .int v1), (2, .int v2), (3, .int v3), (4, .int v4)] [] S := by
  refine r_aload_n (pc := 0) C dX9_tripTrouble_0 0 rfl ?_
  obtain ⟨o_v0, h⟩ := h
  obtain ⟨a1, ea1, h⟩ := h
  refine r_getr (pc := 1) C fL_X9_16 dX9_tripTrouble_1 o_v0 ea1 ?_
  refine r_iload_n (pc := 4) C dX9_tripTrouble_4 1 rfl ?_
  obtain ⟨o_a1, h⟩ := h
  refine r_callVi0 (pc := 5) C (rest := []) (a := a1) o_a1 [.int v1] yV_X8_hasWalker g_664 (c_X8_hasWalker h) dX9_tripTrouble_5 rfl rfl (Nat.le_of_ble_eq_true rfl) ⟨by decide, by decide⟩ ⟨by decide, by decide⟩ ⟨rfl, rfl⟩ (fun x4 S2 h g3 => ?_)
  have bx4 := h.1
  have h := h.2 g3 bx4
  have o_a1 := gr_ob g3 o_a1
  have o_v0 := gr_ob g3 o_v0
  refine r_if_eq (pc := 8) C (tgt := 45) dX9_tripTrouble_8 (by decide) (fun c5 => ?_) (fun c5 => ?_)
  · have h := h.1 c5
    exact r_sub [] rfl (T_X9_tripTrouble_45 C E ht hn h)
  · have h := h.2 c5
    refine r_aload_n (pc := 11) C dX9_tripTrouble_11 0 rfl ?_
    obtain ⟨a6, ea6, h⟩ := h
    refine r_getr (pc := 12) C fL_X9_16 dX9_tripTrouble_12 o_v0 ea6 ?_
    refine r_iload_n (pc := 15) C dX9_tripTrouble_15 2 rfl ?_
    obtain ⟨o_a6, h⟩ := h
    refine r_callVi0 (pc := 16) C (rest := []) (a := a6) o_a6 [.int v2] yV_X8_hasRoad g_668 (c_X8_hasRoad h) dX9_tripTrouble_16 rfl rfl (Nat.le_of_ble_eq_true rfl) ⟨by decide, by decide⟩ ⟨by decide, by decide⟩ ⟨rfl, rfl⟩ (fun x9 S7 h g8 => ?_)
    have bx9 := h.1
    have h := h.2 g8 bx9
    have o_a1 := gr_ob g8 o_a1
    have o_a6 := gr_ob g8 o_a6
    have o_v0 := gr_ob g8 o_v0
    refine r_if_eq (pc := 19) C (tgt := 45) dX9_tripTrouble_19 (by decide) (fun c10 => ?_) (fun c10 => ?_)
    · have h := h.1 c10
      exact r_sub [] rfl (T_X9_tripTrouble_45 C E ht hn h)
    · have h := h.2 c10
      refine r_iload_n (pc := 22) C dX9_tripTrouble_22 3 rfl ?_
      refine r_callSi0 (pc := 23) C (rest := []) rfl [.int v3] yS_X9_isWay g_672 (c_X9_isWay h) dX9_tripTrouble_23 rfl rfl (Nat.le_of_ble_eq_true rfl) ⟨by decide, by decide⟩ ⟨by decide, by decide⟩ ⟨rfl, rfl⟩ (fun x13 S11 h g12 => ?_)
      have bx13 := h.1
      have h := h.2 g12 bx13
      have o_a1 := gr_ob g12 o_a1
      have o_a6 := gr_ob g12 o_a6
      have o_v0 := gr_ob g12 o_v0
      refine r_if_eq (pc := 26) C (tgt := 45) dX9_tripTrouble_26 (by decide) (fun c14 => ?_) (fun c14 => ?_)
      · have h := h.1 c14
        exact r_sub [] rfl (T_X9_tripTrouble_45 C E ht hn h)
      · have h := h.2 c14
        refine r_aload_n (pc := 29) C dX9_tripTrouble_29 0 rfl ?_
        obtain ⟨a15, ea15, h⟩ := h
        refine r_getr (pc := 30) C fL_X9_16 dX9_tripTrouble_30 o_v0 ea15 ?_
        refine r_iload (pc := 33) C dX9_tripTrouble_33 4 rfl ?_
        obtain ⟨o_a15, h⟩ := h
        refine r_callVi0 (pc := 35) C (rest := []) (a := a15) o_a15 [.int v4] yV_X8_hasHour g_675 (c_X8_hasHour h) dX9_tripTrouble_35 rfl rfl (Nat.le_of_ble_eq_true rfl) ⟨by decide, by decide⟩ ⟨by decide, by decide⟩ ⟨rfl, rfl⟩ (fun x18 S16 h g17 => ?_)
        have bx18 := h.1
        have h := h.2 g17 bx18
        have o_a1 := gr_ob g17 o_a1
        have o_a15 := gr_ob g17 o_a15
        have o_a6 := gr_ob g17 o_a6
        have o_v0 := gr_ob g17 o_v0
        refine r_if_eq (pc := 38) C (tgt := 45) dX9_tripTrouble_38 (by decide) (fun c19 => ?_) (fun c19 => ?_)
        · have h := h.1 c19
          exact r_sub [] rfl (T_X9_tripTrouble_45 C E ht hn h)
        · have h := h.2 c19
          refine r_iconst (pc := 41) C (v := (1 : Int32)) dX9_tripTrouble_41 (by decide) ?_
          refine r_goto (pc := 42) C (tgt := 46) dX9_tripTrouble_42 (by decide) ?_
          exact r_sub [] rfl (T_X9_tripTrouble_46 C E ht hn h)
def P_X9_tripTrouble (v0 : Nat) (v1 : Int32) (v2 : Int32) (v3 : Int32) (v4 : Int32) (Q : Int32 → HS → Prop) (S : HS) : Prop := P_X9_tripTrouble_0 Q v0 v1 v2 v3 v4 S
theorem c_X9_tripTrouble {l : Launch} {Ee : EE} {S : HS} {v0 : Nat} {v1 : Int32} {v2 : Int32} {v3 : Int32} {v4 : Int32} {Q : Int32 → HS → Prop} (h : P_X9_tripTrouble v0 v1 v2 v3 v4 Q S) : MI l yX9_tripTrouble cX9_tripTrouble 6 (some .int) rm_X9_tripTrouble Ee S [.ref v0, .int v1, .int v2, .int v3, .int v4] Q :=
  openI (by decide) (Nat.le_of_ble_eq_true rfl) (fun X C E ht hn hE hl => by subst hE; exact r_sub [0, 1, 2, 3, 4] rfl (T_X9_tripTrouble_0 C E ht hn h))
def rm_X9_best : Room := { frames := 5, cells := 0, slots := 0, locals := 131 }
def P_X9_best_0 (Q : Int32 → HS → Prop) (v0 : Nat) (v1 : Int32) (v2 : Int32) (v3 : Int32) (v4 : Int32) (S : HS) : Prop := ob S v0 9 ∧ (P_X9_tripTrouble v0 v1 v2 v3 v4 (fun x3 S1 => Gr S S1 → (P_X9_refusedBy v0 x3 (fun x6 S4 => Gr S1 S4 → bl x6 → (((x6 = 0) → (∃ a8 : Nat, fR S4 v0 4 = some a8 ∧ (∃ a9 : Nat, fR S4 v0 2 = some a9 ∧ (ob S4 a9 8 ∧ (∃ a10 : Nat, fR S4 a9 9 = some a10 ∧ (ob S4 a10 19 ∧ (vp_in v1 (hN S4 a10) ∧ ∃ a12 : Nat, fR S4 a10 v1.toNatClampNeg = some a12 ∧ (∃ a13 : Nat, fR S4 v0 2 = some a13 ∧ (ob S4 a13 8 ∧ (∃ a14 : Nat, fR S4 a13 8 = some a14 ∧ (ob S4 a14 18 ∧ (vp_in v2 (hN S4 a14) ∧ ∃ a16 : Nat, fR S4 a14 v2.toNatClampNeg = some a16 ∧ (∃ a17 : Nat, fR S4 v0 2 = some a17 ∧ (ob S4 a17 8 ∧ (∃ a18 : Nat, fR S4 a17 6 = some a18 ∧ (ob S4 a18 17 ∧ (vp_in v4 (hN S4 a18) ∧ ∃ a20 : Nat, fR S4 a18 v4.toNatClampNeg = some a20 ∧ (ob S4 a8 1 ∧ (P_X1_bestSpeed a8 a12 a16 v3 a20 (fun x23 S21 => Gr S4 S21 → (Q x23 S21)) S4))))))))))))))))))) ∧ ((¬ x6 = 0) → (Q (-1 : Int32) S4)))) S1)) S)
set_option maxRecDepth 20000 in
set_option maxHeartbeats 4000000 in
theorem T_X9_best_0 {X : CX} {Q : Int32 → HS → Prop} (C : Cx X cX9_best RX9 5 rm_X9_best) (E : ReI X rm_X9_best Q) (ht : (xh X).sig.returnType = (some .int)) (hn : (xh X).name = yX9_best.name) {v0 : Nat} {v1 : Int32} {v2 : Int32} {v3 : Int32} {v4 : Int32} {S : HS} (h : P_X9_best_0 Q v0 v1 v2 v3 v4 S) : WS X 5 0 0 0 [(0, .ref v0), (1, .int v1), (2, .int v2), (3, .int v3), (4, .int v4)] [] S := by
  refine r_aload_n (pc := 0) C dX9_best_0 0 rfl ?_
  refine r_aload_n (pc := 1) C dX9_best_1 0 rfl ?_
  refine r_iload_n (pc := 2) C dX9_best_2 1 rfl ?_
  refine r_iload_n (pc := 3) C dX9_best_3 2 rfl ?_
  refine r_iload_n (pc := 4) C dX9_best_4 3 rfl ?_
  refine r_iload (pc := 5) C dX9_best_5 4 rfl ?_
  obtain ⟨o_v0, h⟩ := h
  refine r_callVi0 (pc := 7) C (rest := [.ref v0]) (a := v0) o_v0 [.int v1, .int v2, .int v3, .int v4] yV_X9_tripTrouble g_660 (c_X9_tripTrouble h) dX9_best_7 rfl rfl (Nat.le_of_ble_eq_true rfl) ⟨by decide, by decide⟩ ⟨by decide, by decide⟩ ⟨rfl, rfl⟩ (fun x3 S1 h g2 => ?_)
  have h := h g2
  have o_v0 := gr_ob g2 o_v0
  refine r_callVi0 (pc := 10) C (rest := []) (a := v0) o_v0 [.int x3] yV_X9_refusedBy g_683 (c_X9_refusedBy h) dX9_best_10 rfl rfl (Nat.le_of_ble_eq_true rfl) ⟨by decide, by decide⟩ ⟨by decide, by decide⟩ ⟨rfl, rfl⟩ (fun x6 S4 h g5 => ?_)
  have bx6 := h.1
  have h := h.2 g5 bx6
  have o_v0 := gr_ob g5 o_v0
  refine r_if_eq (pc := 13) C (tgt := 18) dX9_best_13 (by decide) (fun c7 => ?_) (fun c7 => ?_)
  · have h := h.1 c7
    refine r_aload_n (pc := 18) C dX9_best_18 0 rfl ?_
    obtain ⟨a8, ea8, h⟩ := h
    refine r_getr (pc := 19) C fL_X9_30 dX9_best_19 o_v0 ea8 ?_
    refine r_aload_n (pc := 22) C dX9_best_22 0 rfl ?_
    obtain ⟨a9, ea9, h⟩ := h
    refine r_getr (pc := 23) C fL_X9_16 dX9_best_23 o_v0 ea9 ?_
    obtain ⟨o_a9, h⟩ := h
    obtain ⟨a10, ea10, h⟩ := h
    refine r_getr (pc := 26) C fL_X9_108 dX9_best_26 o_a9 ea10 ?_
    refine r_iload_n (pc := 29) C dX9_best_29 1 rfl ?_
    obtain ⟨o_a10, h⟩ := h
    obtain ⟨i11, a12, ea12, h⟩ := h
    refine r_aald19 (pc := 30) C dX9_best_30 o_a10 i11 ea12 ?_
    refine r_aload_n (pc := 31) C dX9_best_31 0 rfl ?_
    obtain ⟨a13, ea13, h⟩ := h
    refine r_getr (pc := 32) C fL_X9_16 dX9_best_32 o_v0 ea13 ?_
    obtain ⟨o_a13, h⟩ := h
    obtain ⟨a14, ea14, h⟩ := h
    refine r_getr (pc := 35) C fL_X9_112 dX9_best_35 o_a13 ea14 ?_
    refine r_iload_n (pc := 38) C dX9_best_38 2 rfl ?_
    obtain ⟨o_a14, h⟩ := h
    obtain ⟨i15, a16, ea16, h⟩ := h
    refine r_aald18 (pc := 39) C dX9_best_39 o_a14 i15 ea16 ?_
    refine r_iload_n (pc := 40) C dX9_best_40 3 rfl ?_
    refine r_aload_n (pc := 41) C dX9_best_41 0 rfl ?_
    obtain ⟨a17, ea17, h⟩ := h
    refine r_getr (pc := 42) C fL_X9_16 dX9_best_42 o_v0 ea17 ?_
    obtain ⟨o_a17, h⟩ := h
    obtain ⟨a18, ea18, h⟩ := h
    refine r_getr (pc := 45) C fL_X9_116 dX9_best_45 o_a17 ea18 ?_
    refine r_iload (pc := 48) C dX9_best_48 4 rfl ?_
    obtain ⟨o_a18, h⟩ := h
    obtain ⟨i19, a20, ea20, h⟩ := h
    refine r_aald17 (pc := 50) C dX9_best_50 o_a18 i19 ea20 ?_
    obtain ⟨o_a8, h⟩ := h
    refine r_callVi0 (pc := 51) C (rest := []) (a := a8) o_a8 [.ref a12, .ref a16, .int v3, .ref a20] yV_X1_bestSpeed g_760 (c_X1_bestSpeed h) dX9_best_51 rfl rfl (Nat.le_of_ble_eq_true rfl) ⟨by decide, by decide⟩ ⟨by decide, by decide⟩ ⟨rfl, rfl⟩ (fun x23 S21 h g22 => ?_)
    have h := h g22
    have o_a10 := gr_ob g22 o_a10
    have o_a13 := gr_ob g22 o_a13
    have o_a14 := gr_ob g22 o_a14
    have o_a17 := gr_ob g22 o_a17
    have o_a18 := gr_ob g22 o_a18
    have o_a8 := gr_ob g22 o_a8
    have o_a9 := gr_ob g22 o_a9
    have o_v0 := gr_ob g22 o_v0
    exact r_iret (pc := 54) C E ht dX9_best_54 (by decide) (by decide) h
  · have h := h.2 c7
    refine r_iconst (pc := 16) C (v := (-1 : Int32)) dX9_best_16 (by decide) ?_
    exact r_iret (pc := 17) C E ht dX9_best_17 (by decide) (by decide) h
def P_X9_best (v0 : Nat) (v1 : Int32) (v2 : Int32) (v3 : Int32) (v4 : Int32) (Q : Int32 → HS → Prop) (S : HS) : Prop := P_X9_best_0 Q v0 v1 v2 v3 v4 S
theorem c_X9_best {l : Launch} {Ee : EE} {S : HS} {v0 : Nat} {v1 : Int32} {v2 : Int32} {v3 : Int32} {v4 : Int32} {Q : Int32 → HS → Prop} (h : P_X9_best v0 v1 v2 v3 v4 Q S) : MI l yX9_best cX9_best 5 (some .int) rm_X9_best Ee S [.ref v0, .int v1, .int v2, .int v3, .int v4] Q :=
  openI (by decide) (Nat.le_of_ble_eq_true rfl) (fun X C E ht hn hE hl => by subst hE; exact r_sub [0, 1, 2, 3, 4] rfl (T_X9_best_0 C E ht hn h))
def rm_X9_coatParts : Room := { frames := 0, cells := 0, slots := 0, locals := 0 }
def P_X9_coatParts_0 (Q : Int64 → HS → Prop) (v0 : Nat) (S : HS) : Prop := ob S v0 6 ∧ (∀ x1 : Int32, x1 = fI S v0 0 → (((¬ x1 = (2 : Int32)) → (Q (0 : Int64) S)) ∧ ((x1 = (2 : Int32)) → (∀ x3 : Int32, x3 = fI S v0 1 → (Q (x3.toInt64 * (2520 : Int64)) S)))))
set_option maxRecDepth 20000 in
set_option maxHeartbeats 4000000 in
theorem T_X9_coatParts_0 {X : CX} {Q : Int64 → HS → Prop} (C : Cx X cX9_coatParts RX9 1 rm_X9_coatParts) (E : ReJ X rm_X9_coatParts Q) (ht : (xh X).sig.returnType = (some .long)) (hn : (xh X).name = yX9_coatParts.name) {v0 : Nat} {S : HS} (h : P_X9_coatParts_0 Q v0 S) : WS X 1 0 0 0 [(0, .ref v0)] [] S := by
  refine r_aload_n (pc := 0) C dX9_coatParts_0 0 rfl ?_
  obtain ⟨o_v0, h⟩ := h
  refine r_geti (pc := 1) C fL_X9_167 dX9_coatParts_1 o_v0 ?_
  refine r_topi (fun x1 ex1 => ?_)
  have h := h x1 ex1
  refine r_iconst (pc := 4) C (v := (2 : Int32)) dX9_coatParts_4 (by decide) ?_
  refine r_icmp_ne (pc := 5) C (tgt := 20) dX9_coatParts_5 (by decide) (fun c2 => ?_) (fun c2 => ?_)
  · have h := h.1 c2
    refine r_lconst (pc := 20) C (v := (0 : Int64)) dX9_coatParts_20 (by decide) ?_
    exact r_lret (pc := 21) C E ht dX9_coatParts_21 (by decide) (by decide) h
  · have h := h.2 c2
    refine r_aload_n (pc := 8) C dX9_coatParts_8 0 rfl ?_
    refine r_geti (pc := 9) C fL_X9_341 dX9_coatParts_9 o_v0 ?_
    refine r_topi (fun x3 ex3 => ?_)
    have h := h x3 ex3
    refine r_i2l (pc := 12) C dX9_coatParts_12 ?_
    refine r_ldc2 (pc := 13) C (v := (2520 : Int64)) dX9_coatParts_13 g_721 ?_
    refine r_lmul (pc := 16) C dX9_coatParts_16 ?_
    refine r_goto (pc := 17) C (tgt := 21) dX9_coatParts_17 (by decide) ?_
    exact r_lret (pc := 21) C E ht dX9_coatParts_21 (by decide) (by decide) h
def P_X9_coatParts (v0 : Nat) (Q : Int64 → HS → Prop) (S : HS) : Prop := P_X9_coatParts_0 Q v0 S
theorem c_X9_coatParts {l : Launch} {Ee : EE} {S : HS} {v0 : Nat} {Q : Int64 → HS → Prop} (h : P_X9_coatParts v0 Q S) : MJ l yX9_coatParts cX9_coatParts 1 (some .long) rm_X9_coatParts Ee S [.ref v0] Q :=
  openJ (by decide) (Nat.le_of_ble_eq_true rfl) (fun X C E ht hn hE hl => by subst hE; exact r_sub [0] rfl (T_X9_coatParts_0 C E ht hn h))
def rm_X9_commonDivisor : Room := { frames := 0, cells := 0, slots := 0, locals := 0 }
def B_X9_commonDivisor_9 (Q : Int64 → HS → Prop) (X9 : Int64 → Int64 → Int32 → HS → Prop) (v4 : Int64) (v6 : Int64) (v8 : Int32) (S : HS) : Prop := (((200 : Int32) ≤ v8) → (Q v4 S)) ∧ ((¬ (200 : Int32) ≤ v8) → ((((lg_cmp v6 (0 : Int64)) = 0) → (Q v4 S)) ∧ ((¬ (lg_cmp v6 (0 : Int64)) = 0) → (¬ v6 = 0 ∧ ∀ x4 : Int64, x4 = v4 - v4 / v6 * v6 → (∀ x5 : Int32, x5 = v8 + (1 : Int32) → (X9 v6 x4 x5 S))))))
def P_X9_commonDivisor_9 (Q : Int64 → HS → Prop) (v4 : Int64) (v6 : Int64) (v8 : Int32) (S : HS) : Prop := ∀ X9 : Int64 → Int64 → Int32 → HS → Prop, (∀ (v4 : Int64) (v6 : Int64) (v8 : Int32) (S : HS), B_X9_commonDivisor_9 Q X9 v4 v6 v8 S → X9 v4 v6 v8 S) → X9 v4 v6 v8 S
set_option maxRecDepth 20000 in
set_option maxHeartbeats 4000000 in
theorem TB_X9_commonDivisor_9 {X : CX} {Q : Int64 → HS → Prop} (C : Cx X cX9_commonDivisor RX9 11 rm_X9_commonDivisor) (E : ReJ X rm_X9_commonDivisor Q) (ht : (xh X).sig.returnType = (some .long)) (hn : (xh X).name = yX9_commonDivisor.name) {X9 : Int64 → Int64 → Int32 → HS → Prop} (hX9 : ∀ (v4 : Int64) (v6 : Int64) (v8 : Int32) (S : HS), X9 v4 v6 v8 S → WS X 11 0 0 9 [(4, .long v4), (6, .long v6), (8, .int v8)] [] S) {v4 : Int64} {v6 : Int64} {v8 : Int32} {S : HS} (h : B_X9_commonDivisor_9 Q X9 v4 v6 v8 S) : WS X 11 0 0 9 [(4, .long v4), (6, .long v6), (8, .int v8)] [] S := by
  refine r_iload (pc := 9) C dX9_commonDivisor_9 2 rfl ?_
  refine r_sipush (pc := 11) C (v := (200 : Int32)) dX9_commonDivisor_11 (by decide) ?_
  refine r_icmp_ge (pc := 14) C (tgt := 45) dX9_commonDivisor_14 (by decide) (fun c1 => ?_) (fun c1 => ?_)
  · have h := h.1 c1
    refine r_lload (pc := 45) C dX9_commonDivisor_45 0 rfl ?_
    exact r_lret (pc := 47) C E ht dX9_commonDivisor_47 (by decide) (by decide) h
  · have h := h.2 c1
    refine r_lload (pc := 17) C dX9_commonDivisor_17 1 rfl ?_
    refine r_lconst (pc := 19) C (v := (0 : Int64)) dX9_commonDivisor_19 (by decide) ?_
    refine r_lcmp (pc := 20) C dX9_commonDivisor_20 ?_
    refine r_if_eq (pc := 21) C (tgt := 45) dX9_commonDivisor_21 (by decide) (fun c2 => ?_) (fun c2 => ?_)
    · have h := h.1 c2
      refine r_lload (pc := 45) C dX9_commonDivisor_45 0 rfl ?_
      exact r_lret (pc := 47) C E ht dX9_commonDivisor_47 (by decide) (by decide) h
    · have h := h.2 c2
      refine r_lload (pc := 24) C dX9_commonDivisor_24 0 rfl ?_
      refine r_lload (pc := 26) C dX9_commonDivisor_26 1 rfl ?_
      obtain ⟨q3, h⟩ := h
      refine r_lrem (pc := 28) C dX9_commonDivisor_28 q3 ?_
      refine r_topl (fun x4 ex4 => ?_)
      have h := h x4 ex4
      refine r_lstore (pc := 29) C dX9_commonDivisor_29 (by decide) (lv' := [(9, .long x4), (4, .long v4), (6, .long v6), (8, .int v8)]) rfl ?_
      refine r_lload (pc := 31) C dX9_commonDivisor_31 2 rfl ?_
      refine r_lstore (pc := 33) C dX9_commonDivisor_33 (by decide) (lv' := [(4, .long v6), (9, .long x4), (6, .long v6), (8, .int v8)]) rfl ?_
      refine r_lload (pc := 35) C dX9_commonDivisor_35 1 rfl ?_
      refine r_lstore (pc := 37) C dX9_commonDivisor_37 (by decide) (lv' := [(6, .long x4), (4, .long v6), (9, .long x4), (8, .int v8)]) rfl ?_
      obtain ⟨x5, ex5⟩ : ∃ z : Int32, z = v8 + (1 : Int32) := ⟨_, rfl⟩
      have h := h x5 ex5
      refine r_iinc (pc := 39) C (v := x5) (lv' := [(8, .int x5), (6, .long x4), (4, .long v6), (9, .long x4)]) dX9_commonDivisor_39 3 rfl ex5.symm (by decide) rfl ?_
      refine r_goto (pc := 42) C (tgt := 9) dX9_commonDivisor_42 (by decide) ?_
      exact r_sub [2, 1, 0] rfl (hX9 v6 x4 x5 S h)
theorem T_X9_commonDivisor_9 {X : CX} {Q : Int64 → HS → Prop} (C : Cx X cX9_commonDivisor RX9 11 rm_X9_commonDivisor) (E : ReJ X rm_X9_commonDivisor Q) (ht : (xh X).sig.returnType = (some .long)) (hn : (xh X).name = yX9_commonDivisor.name) {v4 : Int64} {v6 : Int64} {v8 : Int32} {S : HS} (h : P_X9_commonDivisor_9 Q v4 v6 v8 S) : WS X 11 0 0 9 [(4, .long v4), (6, .long v6), (8, .int v8)] [] S :=
  h (fun v4 v6 v8 S => WS X 11 0 0 9 [(4, .long v4), (6, .long v6), (8, .int v8)] [] S) (fun v4 v6 v8 S hh => TB_X9_commonDivisor_9 C E ht hn (fun v4 v6 v8 S z => z) hh)
def P_X9_commonDivisor_0 (Q : Int64 → HS → Prop) (v0 : Int64) (v2 : Int64) (S : HS) : Prop := P_X9_commonDivisor_9 Q v0 v2 (0 : Int32) S
set_option maxRecDepth 20000 in
set_option maxHeartbeats 4000000 in
theorem T_X9_commonDivisor_0 {X : CX} {Q : Int64 → HS → Prop} (C : Cx X cX9_commonDivisor RX9 11 rm_X9_commonDivisor) (E : ReJ X rm_X9_commonDivisor Q) (ht : (xh X).sig.returnType = (some .long)) (hn : (xh X).name = yX9_commonDivisor.name) {v0 : Int64} {v2 : Int64} {S : HS} (h : P_X9_commonDivisor_0 Q v0 v2 S) : WS X 11 0 0 0 [(0, .long v0), (2, .long v2)] [] S := by
  refine r_lload_n (pc := 0) C dX9_commonDivisor_0 0 rfl ?_
  refine r_lstore (pc := 1) C dX9_commonDivisor_1 (by decide) (lv' := [(4, .long v0), (0, .long v0), (2, .long v2)]) rfl ?_
  refine r_lload_n (pc := 3) C dX9_commonDivisor_3 2 rfl ?_
  refine r_lstore (pc := 4) C dX9_commonDivisor_4 (by decide) (lv' := [(6, .long v2), (4, .long v0), (0, .long v0), (2, .long v2)]) rfl ?_
  refine r_iconst (pc := 6) C (v := (0 : Int32)) dX9_commonDivisor_6 (by decide) ?_
  refine r_istore (pc := 7) C dX9_commonDivisor_7 (by decide) (lv' := [(8, .int (0 : Int32)), (6, .long v2), (4, .long v0), (0, .long v0), (2, .long v2)]) rfl ?_
  exact r_sub [2, 1, 0] rfl (T_X9_commonDivisor_9 C E ht hn h)
def P_X9_commonDivisor (v0 : Int64) (v2 : Int64) (Q : Int64 → HS → Prop) (S : HS) : Prop := P_X9_commonDivisor_0 Q v0 v2 S
theorem c_X9_commonDivisor {l : Launch} {Ee : EE} {S : HS} {v0 : Int64} {v2 : Int64} {Q : Int64 → HS → Prop} (h : P_X9_commonDivisor v0 v2 Q S) : MJ l yX9_commonDivisor cX9_commonDivisor 11 (some .long) rm_X9_commonDivisor Ee S [.long v0, .long v2] Q :=
  openJ (by decide) (Nat.le_of_ble_eq_true rfl) (fun X C E ht hn hE hl => by subst hE; exact r_sub [0, 1] rfl (T_X9_commonDivisor_0 C E ht hn h))
def rm_X9_refuse : Room := { frames := 0, cells := 0, slots := 0, locals := 0 }
def P_X9_refuse_0 (Q : Int32 → HS → Prop) (v0 : Nat) (v1 : Int32) (S : HS) : Prop := ob S v0 9 ∧ (∀ S1 : HS, S1 = sI S v0 9 v1 → (Q (-1 : Int32) S1))
set_option maxRecDepth 20000 in
set_option maxHeartbeats 4000000 in
theorem T_X9_refuse_0 {X : CX} {Q : Int32 → HS → Prop} (C : Cx X cX9_refuse RX9 2 rm_X9_refuse) (E : ReI X rm_X9_refuse Q) (ht : (xh X).sig.returnType = (some .int)) (hn : (xh X).name = yX9_refuse.name) {v0 : Nat} {v1 : Int32} {S : HS} (h : P_X9_refuse_0 Q v0 v1 S) : WS X 2 0 0 0 [(0, .ref v0), (1, .int v1)] [] S := by
  refine r_aload_n (pc := 0) C dX9_refuse_0 0 rfl ?_
  refine r_iload_n (pc := 1) C dX9_refuse_1 1 rfl ?_
  obtain ⟨o_v0, h⟩ := h
  refine r_puti (pc := 2) C pfL_X9_92 dX9_refuse_2 o_v0 ?_
  refine r_heap (fun S1 eS1 => ?_)
  have h := h S1 eS1
  have o_v0 := ob_I eS1 o_v0
  refine r_iconst (pc := 5) C (v := (-1 : Int32)) dX9_refuse_5 (by decide) ?_
  exact r_iret (pc := 6) C E ht dX9_refuse_6 (by decide) (by decide) h
def P_X9_refuse (v0 : Nat) (v1 : Int32) (Q : Int32 → HS → Prop) (S : HS) : Prop := P_X9_refuse_0 Q v0 v1 S
theorem c_X9_refuse {l : Launch} {Ee : EE} {S : HS} {v0 : Nat} {v1 : Int32} {Q : Int32 → HS → Prop} (h : P_X9_refuse v0 v1 Q S) : MI l yX9_refuse cX9_refuse 2 (some .int) rm_X9_refuse Ee S [.ref v0, .int v1] Q :=
  openI (by decide) (Nat.le_of_ble_eq_true rfl) (fun X C E ht hn hE hl => by subst hE; exact r_sub [0, 1] rfl (T_X9_refuse_0 C E ht hn h))
def rm_X9_day : Room := { frames := 2, cells := 0, slots := 0, locals := 44 }
def P_X9_day_22 (Q : Int32 → HS → Prop) (v0 : Nat) (S : HS) : Prop := ob S v0 9 ∧ (P_X9_refuse v0 (1 : Int32) (fun x3 S1 => Gr S S1 → (Q x3 S1)) S)
set_option maxRecDepth 20000 in
set_option maxHeartbeats 4000000 in
theorem T_X9_day_22 {X : CX} {Q : Int32 → HS → Prop} (C : Cx X cX9_day RX9 5 rm_X9_day) (E : ReI X rm_X9_day Q) (ht : (xh X).sig.returnType = (some .int)) (hn : (xh X).name = yX9_day.name) {v0 : Nat} {S : HS} (h : P_X9_day_22 Q v0 S) : WS X 5 0 0 22 [(0, .ref v0)] [] S := by
  refine r_aload_n (pc := 22) C dX9_day_22 0 rfl ?_
  refine r_iconst (pc := 23) C (v := (1 : Int32)) dX9_day_23 (by decide) ?_
  obtain ⟨o_v0, h⟩ := h
  refine r_callVi0 (pc := 24) C (rest := []) (a := v0) o_v0 [.int (1 : Int32)] yV_X9_refuse g_430 (c_X9_refuse h) dX9_day_24 rfl rfl (Nat.le_of_ble_eq_true rfl) ⟨by decide, by decide⟩ ⟨by decide, by decide⟩ ⟨rfl, rfl⟩ (fun x3 S1 h g2 => ?_)
  have h := h g2
  have o_v0 := gr_ob g2 o_v0
  exact r_iret (pc := 27) C E ht dX9_day_27 (by decide) (by decide) h
def P_X9_day_52 (Q : Int32 → HS → Prop) (v0 : Nat) (S : HS) : Prop := ob S v0 9 ∧ (P_X9_refuse v0 (2 : Int32) (fun x3 S1 => Gr S S1 → (Q x3 S1)) S)
set_option maxRecDepth 20000 in
set_option maxHeartbeats 4000000 in
theorem T_X9_day_52 {X : CX} {Q : Int32 → HS → Prop} (C : Cx X cX9_day RX9 5 rm_X9_day) (E : ReI X rm_X9_day Q) (ht : (xh X).sig.returnType = (some .int)) (hn : (xh X).name = yX9_day.name) {v0 : Nat} {S : HS} (h : P_X9_day_52 Q v0 S) : WS X 5 0 0 52 [(0, .ref v0)] [] S := by
  refine r_aload_n (pc := 52) C dX9_day_52 0 rfl ?_
  refine r_iconst (pc := 53) C (v := (2 : Int32)) dX9_day_53 (by decide) ?_
  obtain ⟨o_v0, h⟩ := h
  refine r_callVi0 (pc := 54) C (rest := []) (a := v0) o_v0 [.int (2 : Int32)] yV_X9_refuse g_430 (c_X9_refuse h) dX9_day_54 rfl rfl (Nat.le_of_ble_eq_true rfl) ⟨by decide, by decide⟩ ⟨by decide, by decide⟩ ⟨rfl, rfl⟩ (fun x3 S1 h g2 => ?_)
  have h := h g2
  have o_v0 := gr_ob g2 o_v0
  exact r_iret (pc := 57) C E ht dX9_day_57 (by decide) (by decide) h
def P_X9_day_0 (Q : Int32 → HS → Prop) (v0 : Nat) (v1 : Int32) (v2 : Int32) (v3 : Int32) (v4 : Int32) (S : HS) : Prop := ob S v0 9 ∧ (∃ a1 : Nat, fR S v0 2 = some a1 ∧ (ob S a1 8 ∧ (P_X8_hasWalker a1 v1 (fun x4 S2 => Gr S S2 → bl x4 → (((x4 = 0) → (P_X9_day_22 Q v0 S2)) ∧ ((¬ x4 = 0) → (∃ a6 : Nat, fR S2 v0 2 = some a6 ∧ (ob S2 a6 8 ∧ (P_X8_hasPlace a6 v2 (fun x9 S7 => Gr S2 S7 → bl x9 → (((¬ x9 = 0) → (((v3 < 0) → (P_X9_day_52 Q v0 S7)) ∧ ((¬ v3 < 0) → ((((400 : Int32) < v3) → (P_X9_day_52 Q v0 S7)) ∧ ((¬ (400 : Int32) < v3) → (((v4 < 0) → (P_X9_day_52 Q v0 S7)) ∧ ((¬ v4 < 0) → (((v4 < (65537 : Int32)) → (∃ a15 : Nat, fR S7 v0 6 = some a15 ∧ (ob S7 a15 0 ∧ (P_X0_begin a15 v1 v2 v3 (fun S16 => Gr S7 S16 → (∃ a19 : Nat, fR S16 v0 6 = some a19 ∧ (∃ a20 : Nat, fR S16 v0 2 = some a20 ∧ (ob S16 a19 0 ∧ (P_X0_draw a19 a20 v4 (fun S21 => Gr S16 S21 → (∃ a24 : Nat, fR S21 v0 6 = some a24 ∧ (ob S21 a24 0 ∧ (∀ x25 : Int32, x25 = fI S21 a24 1 → (P_X9_grant v0 x25 (fun x28 S26 => Gr S21 S26 → (Q x28 S26)) S21))))) S16))))) S7)))) ∧ ((¬ v4 < (65537 : Int32)) → (P_X9_day_52 Q v0 S7)))))))))) ∧ ((x9 = 0) → (P_X9_day_22 Q v0 S7)))) S2)))))) S)))
set_option maxRecDepth 20000 in
set_option maxHeartbeats 4000000 in
theorem T_X9_day_0 {X : CX} {Q : Int32 → HS → Prop} (C : Cx X cX9_day RX9 5 rm_X9_day) (E : ReI X rm_X9_day Q) (ht : (xh X).sig.returnType = (some .int)) (hn : (xh X).name = yX9_day.name) {v0 : Nat} {v1 : Int32} {v2 : Int32} {v3 : Int32} {v4 : Int32} {S : HS} (h : P_X9_day_0 Q v0 v1 v2 v3 v4 S) : WS X 5 0 0 0 [(0, .ref v0), (1, .int v1), (2, .int v2), (3, .int v3), (4, .int v4)] [] S := by
  refine r_aload_n (pc := 0) C dX9_day_0 0 rfl ?_
  obtain ⟨o_v0, h⟩ := h
  obtain ⟨a1, ea1, h⟩ := h
  refine r_getr (pc := 1) C fL_X9_16 dX9_day_1 o_v0 ea1 ?_
  refine r_iload_n (pc := 4) C dX9_day_4 1 rfl ?_
  obtain ⟨o_a1, h⟩ := h
  refine r_callVi0 (pc := 5) C (rest := []) (a := a1) o_a1 [.int v1] yV_X8_hasWalker g_664 (c_X8_hasWalker h) dX9_day_5 rfl rfl (Nat.le_of_ble_eq_true rfl) ⟨by decide, by decide⟩ ⟨by decide, by decide⟩ ⟨rfl, rfl⟩ (fun x4 S2 h g3 => ?_)
  have bx4 := h.1
  have h := h.2 g3 bx4
  have o_a1 := gr_ob g3 o_a1
  have o_v0 := gr_ob g3 o_v0
  refine r_if_eq (pc := 8) C (tgt := 22) dX9_day_8 (by decide) (fun c5 => ?_) (fun c5 => ?_)
  · have h := h.1 c5
    exact r_sub [0] rfl (T_X9_day_22 C E ht hn h)
  · have h := h.2 c5
    refine r_aload_n (pc := 11) C dX9_day_11 0 rfl ?_
    obtain ⟨a6, ea6, h⟩ := h
    refine r_getr (pc := 12) C fL_X9_16 dX9_day_12 o_v0 ea6 ?_
    refine r_iload_n (pc := 15) C dX9_day_15 2 rfl ?_
    obtain ⟨o_a6, h⟩ := h
    refine r_callVi0 (pc := 16) C (rest := []) (a := a6) o_a6 [.int v2] yV_X8_hasPlace g_825 (c_X8_hasPlace h) dX9_day_16 rfl rfl (Nat.le_of_ble_eq_true rfl) ⟨by decide, by decide⟩ ⟨by decide, by decide⟩ ⟨rfl, rfl⟩ (fun x9 S7 h g8 => ?_)
    have bx9 := h.1
    have h := h.2 g8 bx9
    have o_a1 := gr_ob g8 o_a1
    have o_a6 := gr_ob g8 o_a6
    have o_v0 := gr_ob g8 o_v0
    refine r_if_ne (pc := 19) C (tgt := 28) dX9_day_19 (by decide) (fun c10 => ?_) (fun c10 => ?_)
    · have h := h.1 c10
      refine r_iload_n (pc := 28) C dX9_day_28 3 rfl ?_
      refine r_if_lt (pc := 29) C (tgt := 52) dX9_day_29 (by decide) (fun c11 => ?_) (fun c11 => ?_)
      · have h := h.1 c11
        exact r_sub [0] rfl (T_X9_day_52 C E ht hn h)
      · have h := h.2 c11
        refine r_iload_n (pc := 32) C dX9_day_32 3 rfl ?_
        refine r_sipush (pc := 33) C (v := (400 : Int32)) dX9_day_33 (by decide) ?_
        refine r_icmp_gt (pc := 36) C (tgt := 52) dX9_day_36 (by decide) (fun c12 => ?_) (fun c12 => ?_)
        · have h := h.1 c12
          exact r_sub [0] rfl (T_X9_day_52 C E ht hn h)
        · have h := h.2 c12
          refine r_iload (pc := 39) C dX9_day_39 4 rfl ?_
          refine r_if_lt (pc := 41) C (tgt := 52) dX9_day_41 (by decide) (fun c13 => ?_) (fun c13 => ?_)
          · have h := h.1 c13
            exact r_sub [0] rfl (T_X9_day_52 C E ht hn h)
          · have h := h.2 c13
            refine r_iload (pc := 44) C dX9_day_44 4 rfl ?_
            refine r_ldcw (pc := 46) C (v := (65537 : Int32)) dX9_day_46 g_966 ?_
            refine r_icmp_lt (pc := 49) C (tgt := 58) dX9_day_49 (by decide) (fun c14 => ?_) (fun c14 => ?_)
            · have h := h.1 c14
              refine r_aload_n (pc := 58) C dX9_day_58 0 rfl ?_
              obtain ⟨a15, ea15, h⟩ := h
              refine r_getr (pc := 59) C fL_X9_44 dX9_day_59 o_v0 ea15 ?_
              refine r_iload_n (pc := 62) C dX9_day_62 1 rfl ?_
              refine r_iload_n (pc := 63) C dX9_day_63 2 rfl ?_
              refine r_iload_n (pc := 64) C dX9_day_64 3 rfl ?_
              obtain ⟨o_a15, h⟩ := h
              refine r_callVv0 (pc := 65) C (rest := []) (a := a15) o_a15 [.int v1, .int v2, .int v3] yV_X0_begin g_967 (c_X0_begin h) dX9_day_65 rfl rfl (Nat.le_of_ble_eq_true rfl) ⟨by decide, by decide⟩ ⟨by decide, by decide⟩ ⟨rfl, rfl⟩ (fun S16 h g17 => ?_)
              have h := h g17
              have o_a1 := gr_ob g17 o_a1
              have o_a15 := gr_ob g17 o_a15
              have o_a6 := gr_ob g17 o_a6
              have o_v0 := gr_ob g17 o_v0
              refine r_aload_n (pc := 68) C dX9_day_68 0 rfl ?_
              obtain ⟨a19, ea19, h⟩ := h
              refine r_getr (pc := 69) C fL_X9_44 dX9_day_69 o_v0 ea19 ?_
              refine r_aload_n (pc := 72) C dX9_day_72 0 rfl ?_
              obtain ⟨a20, ea20, h⟩ := h
              refine r_getr (pc := 73) C fL_X9_16 dX9_day_73 o_v0 ea20 ?_
              refine r_iload (pc := 76) C dX9_day_76 4 rfl ?_
              obtain ⟨o_a19, h⟩ := h
              refine r_callVv0 (pc := 78) C (rest := []) (a := a19) o_a19 [.ref a20, .int v4] yV_X0_draw g_972 (c_X0_draw h) dX9_day_78 rfl rfl (Nat.le_of_ble_eq_true rfl) ⟨by decide, by decide⟩ ⟨by decide, by decide⟩ ⟨rfl, rfl⟩ (fun S21 h g22 => ?_)
              have h := h g22
              have o_a1 := gr_ob g22 o_a1
              have o_a15 := gr_ob g22 o_a15
              have o_a19 := gr_ob g22 o_a19
              have o_a6 := gr_ob g22 o_a6
              have o_v0 := gr_ob g22 o_v0
              refine r_aload_n (pc := 81) C dX9_day_81 0 rfl ?_
              refine r_aload_n (pc := 82) C dX9_day_82 0 rfl ?_
              obtain ⟨a24, ea24, h⟩ := h
              refine r_getr (pc := 83) C fL_X9_44 dX9_day_83 o_v0 ea24 ?_
              obtain ⟨o_a24, h⟩ := h
              refine r_geti (pc := 86) C fL_X9_276 dX9_day_86 o_a24 ?_
              refine r_topi (fun x25 ex25 => ?_)
              have h := h x25 ex25
              refine r_callVi0 (pc := 89) C (rest := []) (a := v0) o_v0 [.int x25] yV_X9_grant g_637 (c_X9_grant h) dX9_day_89 rfl rfl (Nat.le_of_ble_eq_true rfl) ⟨by decide, by decide⟩ ⟨by decide, by decide⟩ ⟨rfl, rfl⟩ (fun x28 S26 h g27 => ?_)
              have h := h g27
              have o_a1 := gr_ob g27 o_a1
              have o_a15 := gr_ob g27 o_a15
              have o_a19 := gr_ob g27 o_a19
              have o_a24 := gr_ob g27 o_a24
              have o_a6 := gr_ob g27 o_a6
              have o_v0 := gr_ob g27 o_v0
              exact r_iret (pc := 92) C E ht dX9_day_92 (by decide) (by decide) h
            · have h := h.2 c14
              exact r_sub [0] rfl (T_X9_day_52 C E ht hn h)
    · have h := h.2 c10
      exact r_sub [0] rfl (T_X9_day_22 C E ht hn h)
def P_X9_day (v0 : Nat) (v1 : Int32) (v2 : Int32) (v3 : Int32) (v4 : Int32) (Q : Int32 → HS → Prop) (S : HS) : Prop := P_X9_day_0 Q v0 v1 v2 v3 v4 S
theorem c_X9_day {l : Launch} {Ee : EE} {S : HS} {v0 : Nat} {v1 : Int32} {v2 : Int32} {v3 : Int32} {v4 : Int32} {Q : Int32 → HS → Prop} (h : P_X9_day v0 v1 v2 v3 v4 Q S) : MI l yX9_day cX9_day 5 (some .int) rm_X9_day Ee S [.ref v0, .int v1, .int v2, .int v3, .int v4] Q :=
  openI (by decide) (Nat.le_of_ble_eq_true rfl) (fun X C E ht hn hE hl => by subst hE; exact r_sub [0, 1, 2, 3, 4] rfl (T_X9_day_0 C E ht hn h))
def rm_X9_driest : Room := { frames := 6, cells := 0, slots := 0, locals := 155 }
def P_X9_driest_29 (Q : Int32 → HS → Prop) (v0 : Nat) (S : HS) : Prop := ob S v0 9 ∧ (P_X9_refuse v0 (1 : Int32) (fun x3 S1 => Gr S S1 → (Q x3 S1)) S)
set_option maxRecDepth 20000 in
set_option maxHeartbeats 4000000 in
theorem T_X9_driest_29 {X : CX} {Q : Int32 → HS → Prop} (C : Cx X cX9_driest RX9 11 rm_X9_driest) (E : ReI X rm_X9_driest Q) (ht : (xh X).sig.returnType = (some .int)) (hn : (xh X).name = yX9_driest.name) {v0 : Nat} {S : HS} (h : P_X9_driest_29 Q v0 S) : WS X 11 0 0 29 [(0, .ref v0)] [] S := by
  refine r_aload_n (pc := 29) C dX9_driest_29 0 rfl ?_
  refine r_iconst (pc := 30) C (v := (1 : Int32)) dX9_driest_30 (by decide) ?_
  obtain ⟨o_v0, h⟩ := h
  refine r_callVi0 (pc := 31) C (rest := []) (a := v0) o_v0 [.int (1 : Int32)] yV_X9_refuse g_430 (c_X9_refuse h) dX9_driest_31 rfl rfl (Nat.le_of_ble_eq_true rfl) ⟨by decide, by decide⟩ ⟨by decide, by decide⟩ ⟨rfl, rfl⟩ (fun x3 S1 h g2 => ?_)
  have h := h g2
  have o_v0 := gr_ob g2 o_v0
  exact r_iret (pc := 34) C E ht dX9_driest_34 (by decide) (by decide) h
def P_X9_driest_140 (Q : Int32 → HS → Prop) (X63 : Nat → Int32 → Int32 → Int32 → Int32 → Int64 → Int32 → HS → Prop) (v0 : Nat) (v1 : Int32) (v2 : Int32) (v3 : Int32) (v4 : Int32) (v5 : Int64) (v7 : Int32) (S : HS) : Prop := ∀ x1 : Int32, x1 = v7 + (1 : Int32) → (X63 v0 v1 v2 v3 v4 v5 x1 S)
set_option maxRecDepth 20000 in
set_option maxHeartbeats 4000000 in
theorem T_X9_driest_140 {X : CX} {Q : Int32 → HS → Prop} (C : Cx X cX9_driest RX9 11 rm_X9_driest) (E : ReI X rm_X9_driest Q) (ht : (xh X).sig.returnType = (some .int)) (hn : (xh X).name = yX9_driest.name) {X63 : Nat → Int32 → Int32 → Int32 → Int32 → Int64 → Int32 → HS → Prop} (hX63 : ∀ (v0 : Nat) (v1 : Int32) (v2 : Int32) (v3 : Int32) (v4 : Int32) (v5 : Int64) (v7 : Int32) (S : HS), X63 v0 v1 v2 v3 v4 v5 v7 S → WS X 11 0 0 63 [(0, .ref v0), (1, .int v1), (2, .int v2), (3, .int v3), (4, .int v4), (5, .long v5), (7, .int v7)] [] S) {v0 : Nat} {v1 : Int32} {v2 : Int32} {v3 : Int32} {v4 : Int32} {v5 : Int64} {v7 : Int32} {S : HS} (h : P_X9_driest_140 Q X63 v0 v1 v2 v3 v4 v5 v7 S) : WS X 11 0 0 140 [(0, .ref v0), (1, .int v1), (2, .int v2), (3, .int v3), (4, .int v4), (5, .long v5), (7, .int v7)] [] S := by
  obtain ⟨x1, ex1⟩ : ∃ z : Int32, z = v7 + (1 : Int32) := ⟨_, rfl⟩
  have h := h x1 ex1
  refine r_iinc (pc := 140) C (v := x1) (lv' := [(7, .int x1), (0, .ref v0), (1, .int v1), (2, .int v2), (3, .int v3), (4, .int v4), (5, .long v5)]) dX9_driest_140 6 rfl ex1.symm (by decide) rfl ?_
  refine r_goto (pc := 143) C (tgt := 63) dX9_driest_143 (by decide) ?_
  exact r_sub [1, 2, 3, 4, 5, 6, 0] rfl (hX63 v0 v1 v2 v3 v4 v5 x1 S h)
def B_X9_driest_63 (Q : Int32 → HS → Prop) (X63 : Nat → Int32 → Int32 → Int32 → Int32 → Int64 → Int32 → HS → Prop) (v0 : Nat) (v1 : Int32) (v2 : Int32) (v3 : Int32) (v4 : Int32) (v5 : Int64) (v7 : Int32) (S : HS) : Prop := ob S v0 9 ∧ (∃ a1 : Nat, fR S v0 2 = some a1 ∧ (ob S a1 8 ∧ (∀ x2 : Int32, x2 = fI S a1 1 → (((x2 ≤ v7) → (P_X9_grant v0 v4 (fun x6 S4 => Gr S S4 → (Q x6 S4)) S)) ∧ ((¬ x2 ≤ v7) → (∃ a7 : Nat, fR S v0 2 = some a7 ∧ (ob S a7 8 ∧ (∃ a8 : Nat, fR S a7 6 = some a8 ∧ (ob S a8 17 ∧ (vp_in v7 (hN S a8) ∧ ∃ a10 : Nat, fR S a8 v7.toNatClampNeg = some a10 ∧ (∃ a11 : Nat, fR S v0 4 = some a11 ∧ (∃ a12 : Nat, fR S v0 2 = some a12 ∧ (ob S a12 8 ∧ (∃ a13 : Nat, fR S a12 9 = some a13 ∧ (ob S a13 19 ∧ (vp_in v1 (hN S a13) ∧ ∃ a15 : Nat, fR S a13 v1.toNatClampNeg = some a15 ∧ (∃ a16 : Nat, fR S v0 2 = some a16 ∧ (ob S a16 8 ∧ (∃ a17 : Nat, fR S a16 8 = some a17 ∧ (ob S a17 18 ∧ (vp_in v2 (hN S a17) ∧ ∃ a19 : Nat, fR S a17 v2.toNatClampNeg = some a19 ∧ (ob S a11 1 ∧ (P_X1_leastWet a11 a15 a19 v3 a10 (fun x22 S20 => Gr S S20 → (ob S20 a10 3 ∧ (∀ x23 : Int32, x23 = fI S20 a10 4 → (∀ x24 : Int64, x24 = x22 * x23.toInt64 → (((0 ≤ (lg_cmp x24 v5)) → (P_X9_driest_140 Q X63 v0 v1 v2 v3 v4 v5 v7 S20)) ∧ ((¬ 0 ≤ (lg_cmp x24 v5)) → (P_X9_driest_140 Q X63 v0 v1 v2 v3 v7 x24 v7 S20))))))) S)))))))))))))))))))))))
def P_X9_driest_63 (Q : Int32 → HS → Prop) (v0 : Nat) (v1 : Int32) (v2 : Int32) (v3 : Int32) (v4 : Int32) (v5 : Int64) (v7 : Int32) (S : HS) : Prop := ∀ X63 : Nat → Int32 → Int32 → Int32 → Int32 → Int64 → Int32 → HS → Prop, (∀ (v0 : Nat) (v1 : Int32) (v2 : Int32) (v3 : Int32) (v4 : Int32) (v5 : Int64) (v7 : Int32) (S : HS), B_X9_driest_63 Q X63 v0 v1 v2 v3 v4 v5 v7 S → X63 v0 v1 v2 v3 v4 v5 v7 S) → X63 v0 v1 v2 v3 v4 v5 v7 S
set_option maxRecDepth 20000 in
set_option maxHeartbeats 4000000 in
theorem TB_X9_driest_63 {X : CX} {Q : Int32 → HS → Prop} (C : Cx X cX9_driest RX9 11 rm_X9_driest) (E : ReI X rm_X9_driest Q) (ht : (xh X).sig.returnType = (some .int)) (hn : (xh X).name = yX9_driest.name) {X63 : Nat → Int32 → Int32 → Int32 → Int32 → Int64 → Int32 → HS → Prop} (hX63 : ∀ (v0 : Nat) (v1 : Int32) (v2 : Int32) (v3 : Int32) (v4 : Int32) (v5 : Int64) (v7 : Int32) (S : HS), X63 v0 v1 v2 v3 v4 v5 v7 S → WS X 11 0 0 63 [(0, .ref v0), (1, .int v1), (2, .int v2), (3, .int v3), (4, .int v4), (5, .long v5), (7, .int v7)] [] S) {v0 : Nat} {v1 : Int32} {v2 : Int32} {v3 : Int32} {v4 : Int32} {v5 : Int64} {v7 : Int32} {S : HS} (h : B_X9_driest_63 Q X63 v0 v1 v2 v3 v4 v5 v7 S) : WS X 11 0 0 63 [(0, .ref v0), (1, .int v1), (2, .int v2), (3, .int v3), (4, .int v4), (5, .long v5), (7, .int v7)] [] S := by
  refine r_iload (pc := 63) C dX9_driest_63 6 rfl ?_
  refine r_aload_n (pc := 65) C dX9_driest_65 0 rfl ?_
  obtain ⟨o_v0, h⟩ := h
  obtain ⟨a1, ea1, h⟩ := h
  refine r_getr (pc := 66) C fL_X9_16 dX9_driest_66 o_v0 ea1 ?_
  obtain ⟨o_a1, h⟩ := h
  refine r_geti (pc := 69) C fL_X9_196 dX9_driest_69 o_a1 ?_
  refine r_topi (fun x2 ex2 => ?_)
  have h := h x2 ex2
  refine r_icmp_ge (pc := 72) C (tgt := 146) dX9_driest_72 (by decide) (fun c3 => ?_) (fun c3 => ?_)
  · have h := h.1 c3
    refine r_aload_n (pc := 146) C dX9_driest_146 0 rfl ?_
    refine r_iload (pc := 147) C dX9_driest_147 4 rfl ?_
    refine r_callVi0 (pc := 149) C (rest := []) (a := v0) o_v0 [.int v4] yV_X9_grant g_637 (c_X9_grant h) dX9_driest_149 rfl rfl (Nat.le_of_ble_eq_true rfl) ⟨by decide, by decide⟩ ⟨by decide, by decide⟩ ⟨rfl, rfl⟩ (fun x6 S4 h g5 => ?_)
    have h := h g5
    have o_a1 := gr_ob g5 o_a1
    have o_v0 := gr_ob g5 o_v0
    exact r_iret (pc := 152) C E ht dX9_driest_152 (by decide) (by decide) h
  · have h := h.2 c3
    refine r_aload_n (pc := 75) C dX9_driest_75 0 rfl ?_
    obtain ⟨a7, ea7, h⟩ := h
    refine r_getr (pc := 76) C fL_X9_16 dX9_driest_76 o_v0 ea7 ?_
    obtain ⟨o_a7, h⟩ := h
    obtain ⟨a8, ea8, h⟩ := h
    refine r_getr (pc := 79) C fL_X9_116 dX9_driest_79 o_a7 ea8 ?_
    refine r_iload (pc := 82) C dX9_driest_82 6 rfl ?_
    obtain ⟨o_a8, h⟩ := h
    obtain ⟨i9, a10, ea10, h⟩ := h
    refine r_aald17 (pc := 84) C dX9_driest_84 o_a8 i9 ea10 ?_
    refine r_astore (pc := 85) C dX9_driest_85 (by decide) (lv' := [(8, .ref a10), (0, .ref v0), (1, .int v1), (2, .int v2), (3, .int v3), (4, .int v4), (5, .long v5), (7, .int v7)]) rfl ?_
    refine r_aload_n (pc := 87) C dX9_driest_87 1 rfl ?_
    obtain ⟨a11, ea11, h⟩ := h
    refine r_getr (pc := 88) C fL_X9_30 dX9_driest_88 o_v0 ea11 ?_
    refine r_aload_n (pc := 91) C dX9_driest_91 1 rfl ?_
    obtain ⟨a12, ea12, h⟩ := h
    refine r_getr (pc := 92) C fL_X9_16 dX9_driest_92 o_v0 ea12 ?_
    obtain ⟨o_a12, h⟩ := h
    obtain ⟨a13, ea13, h⟩ := h
    refine r_getr (pc := 95) C fL_X9_108 dX9_driest_95 o_a12 ea13 ?_
    refine r_iload_n (pc := 98) C dX9_driest_98 2 rfl ?_
    obtain ⟨o_a13, h⟩ := h
    obtain ⟨i14, a15, ea15, h⟩ := h
    refine r_aald19 (pc := 99) C dX9_driest_99 o_a13 i14 ea15 ?_
    refine r_aload_n (pc := 100) C dX9_driest_100 1 rfl ?_
    obtain ⟨a16, ea16, h⟩ := h
    refine r_getr (pc := 101) C fL_X9_16 dX9_driest_101 o_v0 ea16 ?_
    obtain ⟨o_a16, h⟩ := h
    obtain ⟨a17, ea17, h⟩ := h
    refine r_getr (pc := 104) C fL_X9_112 dX9_driest_104 o_a16 ea17 ?_
    refine r_iload_n (pc := 107) C dX9_driest_107 3 rfl ?_
    obtain ⟨o_a17, h⟩ := h
    obtain ⟨i18, a19, ea19, h⟩ := h
    refine r_aald18 (pc := 108) C dX9_driest_108 o_a17 i18 ea19 ?_
    refine r_iload_n (pc := 109) C dX9_driest_109 4 rfl ?_
    refine r_aload (pc := 110) C dX9_driest_110 0 rfl ?_
    obtain ⟨o_a11, h⟩ := h
    refine r_callVl0 (pc := 112) C (rest := []) (a := a11) o_a11 [.ref a15, .ref a19, .int v3, .ref a10] yV_X1_leastWet g_770 (c_X1_leastWet h) dX9_driest_112 rfl rfl (Nat.le_of_ble_eq_true rfl) ⟨by decide, by decide⟩ ⟨by decide, by decide⟩ ⟨rfl, rfl⟩ (fun x22 S20 h g21 => ?_)
    have h := h g21
    have o_a1 := gr_ob g21 o_a1
    have o_a11 := gr_ob g21 o_a11
    have o_a12 := gr_ob g21 o_a12
    have o_a13 := gr_ob g21 o_a13
    have o_a16 := gr_ob g21 o_a16
    have o_a17 := gr_ob g21 o_a17
    have o_a7 := gr_ob g21 o_a7
    have o_a8 := gr_ob g21 o_a8
    have o_v0 := gr_ob g21 o_v0
    refine r_aload (pc := 115) C dX9_driest_115 0 rfl ?_
    obtain ⟨o_a10, h⟩ := h
    refine r_geti (pc := 117) C fL_X9_134 dX9_driest_117 o_a10 ?_
    refine r_topi (fun x23 ex23 => ?_)
    have h := h x23 ex23
    refine r_i2l (pc := 120) C dX9_driest_120 ?_
    refine r_lmul (pc := 121) C dX9_driest_121 ?_
    refine r_topl (fun x24 ex24 => ?_)
    have h := h x24 ex24
    refine r_lstore (pc := 122) C dX9_driest_122 (by decide) (lv' := [(9, .long x24), (8, .ref a10), (0, .ref v0), (1, .int v1), (2, .int v2), (3, .int v3), (4, .int v4), (5, .long v5), (7, .int v7)]) rfl ?_
    refine r_lload (pc := 124) C dX9_driest_124 0 rfl ?_
    refine r_lload (pc := 126) C dX9_driest_126 7 rfl ?_
    refine r_lcmp (pc := 128) C dX9_driest_128 ?_
    refine r_if_ge (pc := 129) C (tgt := 140) dX9_driest_129 (by decide) (fun c25 => ?_) (fun c25 => ?_)
    · have h := h.1 c25
      exact r_sub [2, 3, 4, 5, 6, 7, 8] rfl (T_X9_driest_140 C E ht hn hX63 h)
    · have h := h.2 c25
      refine r_lload (pc := 132) C dX9_driest_132 0 rfl ?_
      refine r_lstore (pc := 134) C dX9_driest_134 (by decide) (lv' := [(5, .long x24), (9, .long x24), (8, .ref a10), (0, .ref v0), (1, .int v1), (2, .int v2), (3, .int v3), (4, .int v4), (7, .int v7)]) rfl ?_
      refine r_iload (pc := 136) C dX9_driest_136 8 rfl ?_
      refine r_istore (pc := 138) C dX9_driest_138 (by decide) (lv' := [(4, .int v7), (5, .long x24), (9, .long x24), (8, .ref a10), (0, .ref v0), (1, .int v1), (2, .int v2), (3, .int v3), (7, .int v7)]) rfl ?_
      exact r_sub [4, 5, 6, 7, 0, 1, 8] rfl (T_X9_driest_140 C E ht hn hX63 h)
theorem T_X9_driest_63 {X : CX} {Q : Int32 → HS → Prop} (C : Cx X cX9_driest RX9 11 rm_X9_driest) (E : ReI X rm_X9_driest Q) (ht : (xh X).sig.returnType = (some .int)) (hn : (xh X).name = yX9_driest.name) {v0 : Nat} {v1 : Int32} {v2 : Int32} {v3 : Int32} {v4 : Int32} {v5 : Int64} {v7 : Int32} {S : HS} (h : P_X9_driest_63 Q v0 v1 v2 v3 v4 v5 v7 S) : WS X 11 0 0 63 [(0, .ref v0), (1, .int v1), (2, .int v2), (3, .int v3), (4, .int v4), (5, .long v5), (7, .int v7)] [] S :=
  h (fun v0 v1 v2 v3 v4 v5 v7 S => WS X 11 0 0 63 [(0, .ref v0), (1, .int v1), (2, .int v2), (3, .int v3), (4, .int v4), (5, .long v5), (7, .int v7)] [] S) (fun v0 v1 v2 v3 v4 v5 v7 S hh => TB_X9_driest_63 C E ht hn (fun v0 v1 v2 v3 v4 v5 v7 S z => z) hh)
def P_X9_driest_0 (Q : Int32 → HS → Prop) (v0 : Nat) (v1 : Int32) (v2 : Int32) (v3 : Int32) (S : HS) : Prop := ob S v0 9 ∧ (∃ a1 : Nat, fR S v0 2 = some a1 ∧ (ob S a1 8 ∧ (P_X8_hasWalker a1 v1 (fun x4 S2 => Gr S S2 → bl x4 → (((x4 = 0) → (P_X9_driest_29 Q v0 S2)) ∧ ((¬ x4 = 0) → (∃ a6 : Nat, fR S2 v0 2 = some a6 ∧ (ob S2 a6 8 ∧ (P_X8_hasRoad a6 v2 (fun x9 S7 => Gr S2 S7 → bl x9 → (((x9 = 0) → (P_X9_driest_29 Q v0 S7)) ∧ ((¬ x9 = 0) → (P_X9_isWay v3 (fun x13 S11 => Gr S7 S11 → bl x13 → (((¬ x13 = 0) → (∃ a15 : Nat, fR S11 v0 2 = some a15 ∧ (ob S11 a15 8 ∧ (∀ x16 : Int32, x16 = fI S11 a15 1 → (((¬ x16 = 0) → (P_X9_driest_63 Q v0 v1 v2 v3 (0 : Int32) (4611686018427387904 : Int64) (0 : Int32) S11)) ∧ ((x16 = 0) → (P_X9_refuse v0 (6 : Int32) (fun x20 S18 => Gr S11 S18 → (Q x20 S18)) S11))))))) ∧ ((x13 = 0) → (P_X9_driest_29 Q v0 S11)))) S7)))) S2)))))) S)))
set_option maxRecDepth 20000 in
set_option maxHeartbeats 4000000 in
theorem T_X9_driest_0 {X : CX} {Q : Int32 → HS → Prop} (C : Cx X cX9_driest RX9 11 rm_X9_driest) (E : ReI X rm_X9_driest Q) (ht : (xh X).sig.returnType = (some .int)) (hn : (xh X).name = yX9_driest.name) {v0 : Nat} {v1 : Int32} {v2 : Int32} {v3 : Int32} {S : HS} (h : P_X9_driest_0 Q v0 v1 v2 v3 S) : WS X 11 0 0 0 [(0, .ref v0), (1, .int v1), (2, .int v2), (3, .int v3)] [] S := by
  refine r_aload_n (pc := 0) C dX9_driest_0 0 rfl ?_
  obtain ⟨o_v0, h⟩ := h
  obtain ⟨a1, ea1, h⟩ := h
  refine r_getr (pc := 1) C fL_X9_16 dX9_driest_1 o_v0 ea1 ?_
  refine r_iload_n (pc := 4) C dX9_driest_4 1 rfl ?_
  obtain ⟨o_a1, h⟩ := h
  refine r_callVi0 (pc := 5) C (rest := []) (a := a1) o_a1 [.int v1] yV_X8_hasWalker g_664 (c_X8_hasWalker h) dX9_driest_5 rfl rfl (Nat.le_of_ble_eq_true rfl) ⟨by decide, by decide⟩ ⟨by decide, by decide⟩ ⟨rfl, rfl⟩ (fun x4 S2 h g3 => ?_)
  have bx4 := h.1
  have h := h.2 g3 bx4
  have o_a1 := gr_ob g3 o_a1
  have o_v0 := gr_ob g3 o_v0
  refine r_if_eq (pc := 8) C (tgt := 29) dX9_driest_8 (by decide) (fun c5 => ?_) (fun c5 => ?_)
  · have h := h.1 c5
    exact r_sub [0] rfl (T_X9_driest_29 C E ht hn h)
  · have h := h.2 c5
    refine r_aload_n (pc := 11) C dX9_driest_11 0 rfl ?_
    obtain ⟨a6, ea6, h⟩ := h
    refine r_getr (pc := 12) C fL_X9_16 dX9_driest_12 o_v0 ea6 ?_
    refine r_iload_n (pc := 15) C dX9_driest_15 2 rfl ?_
    obtain ⟨o_a6, h⟩ := h
    refine r_callVi0 (pc := 16) C (rest := []) (a := a6) o_a6 [.int v2] yV_X8_hasRoad g_668 (c_X8_hasRoad h) dX9_driest_16 rfl rfl (Nat.le_of_ble_eq_true rfl) ⟨by decide, by decide⟩ ⟨by decide, by decide⟩ ⟨rfl, rfl⟩ (fun x9 S7 h g8 => ?_)
    have bx9 := h.1
    have h := h.2 g8 bx9
    have o_a1 := gr_ob g8 o_a1
    have o_a6 := gr_ob g8 o_a6
    have o_v0 := gr_ob g8 o_v0
    refine r_if_eq (pc := 19) C (tgt := 29) dX9_driest_19 (by decide) (fun c10 => ?_) (fun c10 => ?_)
    · have h := h.1 c10
      exact r_sub [0] rfl (T_X9_driest_29 C E ht hn h)
    · have h := h.2 c10
      refine r_iload_n (pc := 22) C dX9_driest_22 3 rfl ?_
      refine r_callSi0 (pc := 23) C (rest := []) rfl [.int v3] yS_X9_isWay g_672 (c_X9_isWay h) dX9_driest_23 rfl rfl (Nat.le_of_ble_eq_true rfl) ⟨by decide, by decide⟩ ⟨by decide, by decide⟩ ⟨rfl, rfl⟩ (fun x13 S11 h g12 => ?_)
      have bx13 := h.1
      have h := h.2 g12 bx13
      have o_a1 := gr_ob g12 o_a1
      have o_a6 := gr_ob g12 o_a6
      have o_v0 := gr_ob g12 o_v0
      refine r_if_ne (pc := 26) C (tgt := 35) dX9_driest_26 (by decide) (fun c14 => ?_) (fun c14 => ?_)
      · have h := h.1 c14
        refine r_aload_n (pc := 35) C dX9_driest_35 0 rfl ?_
        obtain ⟨a15, ea15, h⟩ := h
        refine r_getr (pc := 36) C fL_X9_16 dX9_driest_36 o_v0 ea15 ?_
        obtain ⟨o_a15, h⟩ := h
        refine r_geti (pc := 39) C fL_X9_196 dX9_driest_39 o_a15 ?_
        refine r_topi (fun x16 ex16 => ?_)
        have h := h x16 ex16
        refine r_if_ne (pc := 42) C (tgt := 52) dX9_driest_42 (by decide) (fun c17 => ?_) (fun c17 => ?_)
        · have h := h.1 c17
          refine r_iconst (pc := 52) C (v := (0 : Int32)) dX9_driest_52 (by decide) ?_
          refine r_istore (pc := 53) C dX9_driest_53 (by decide) (lv' := [(4, .int (0 : Int32)), (0, .ref v0), (1, .int v1), (2, .int v2), (3, .int v3)]) rfl ?_
          refine r_ldc2 (pc := 55) C (v := (4611686018427387904 : Int64)) dX9_driest_55 g_796 ?_
          refine r_lstore (pc := 58) C dX9_driest_58 (by decide) (lv' := [(5, .long (4611686018427387904 : Int64)), (4, .int (0 : Int32)), (0, .ref v0), (1, .int v1), (2, .int v2), (3, .int v3)]) rfl ?_
          refine r_iconst (pc := 60) C (v := (0 : Int32)) dX9_driest_60 (by decide) ?_
          refine r_istore (pc := 61) C dX9_driest_61 (by decide) (lv' := [(7, .int (0 : Int32)), (5, .long (4611686018427387904 : Int64)), (4, .int (0 : Int32)), (0, .ref v0), (1, .int v1), (2, .int v2), (3, .int v3)]) rfl ?_
          exact r_sub [3, 4, 5, 6, 2, 1, 0] rfl (T_X9_driest_63 C E ht hn h)
        · have h := h.2 c17
          refine r_aload_n (pc := 45) C dX9_driest_45 0 rfl ?_
          refine r_bipush (pc := 46) C (v := (6 : Int32)) dX9_driest_46 (by decide) ?_
          refine r_callVi0 (pc := 48) C (rest := []) (a := v0) o_v0 [.int (6 : Int32)] yV_X9_refuse g_430 (c_X9_refuse h) dX9_driest_48 rfl rfl (Nat.le_of_ble_eq_true rfl) ⟨by decide, by decide⟩ ⟨by decide, by decide⟩ ⟨rfl, rfl⟩ (fun x20 S18 h g19 => ?_)
          have h := h g19
          have o_a1 := gr_ob g19 o_a1
          have o_a15 := gr_ob g19 o_a15
          have o_a6 := gr_ob g19 o_a6
          have o_v0 := gr_ob g19 o_v0
          exact r_iret (pc := 51) C E ht dX9_driest_51 (by decide) (by decide) h
      · have h := h.2 c14
        exact r_sub [0] rfl (T_X9_driest_29 C E ht hn h)
def P_X9_driest (v0 : Nat) (v1 : Int32) (v2 : Int32) (v3 : Int32) (Q : Int32 → HS → Prop) (S : HS) : Prop := P_X9_driest_0 Q v0 v1 v2 v3 S
theorem c_X9_driest {l : Launch} {Ee : EE} {S : HS} {v0 : Nat} {v1 : Int32} {v2 : Int32} {v3 : Int32} {Q : Int32 → HS → Prop} (h : P_X9_driest v0 v1 v2 v3 Q S) : MI l yX9_driest cX9_driest 11 (some .int) rm_X9_driest Ee S [.ref v0, .int v1, .int v2, .int v3] Q :=
  openI (by decide) (Nat.le_of_ble_eq_true rfl) (fun X C E ht hn hE hl => by subst hE; exact r_sub [0, 1, 2, 3] rfl (T_X9_driest_0 C E ht hn h))
def rm_X9_even : Room := { frames := 6, cells := 0, slots := 0, locals := 155 }
def P_X9_even_0 (Q : Int32 → HS → Prop) (v0 : Nat) (v1 : Int32) (v2 : Int32) (v3 : Int32) (v4 : Int32) (S : HS) : Prop := ob S v0 9 ∧ (P_X9_tripTrouble v0 v1 v2 v3 v4 (fun x3 S1 => Gr S S1 → (P_X9_refusedBy v0 x3 (fun x6 S4 => Gr S1 S4 → bl x6 → (((x6 = 0) → (∃ a8 : Nat, fR S4 v0 2 = some a8 ∧ (ob S4 a8 8 ∧ (∃ a9 : Nat, fR S4 a8 9 = some a9 ∧ (ob S4 a9 19 ∧ (vp_in v1 (hN S4 a9) ∧ ∃ a11 : Nat, fR S4 a9 v1.toNatClampNeg = some a11 ∧ (∃ a12 : Nat, fR S4 v0 4 = some a12 ∧ (∃ a13 : Nat, fR S4 v0 2 = some a13 ∧ (ob S4 a13 8 ∧ (∃ a14 : Nat, fR S4 a13 8 = some a14 ∧ (ob S4 a14 18 ∧ (vp_in v2 (hN S4 a14) ∧ ∃ a16 : Nat, fR S4 a14 v2.toNatClampNeg = some a16 ∧ (∃ a17 : Nat, fR S4 v0 2 = some a17 ∧ (ob S4 a17 8 ∧ (∃ a18 : Nat, fR S4 a17 6 = some a18 ∧ (ob S4 a18 17 ∧ (vp_in v4 (hN S4 a18) ∧ ∃ a20 : Nat, fR S4 a18 v4.toNatClampNeg = some a20 ∧ (ob S4 a12 1 ∧ (P_X1_worstSpeed a12 a11 a16 v3 a20 (fun x23 S21 => Gr S4 S21 → (∃ a24 : Nat, fR S21 v0 4 = some a24 ∧ (∃ a25 : Nat, fR S21 v0 2 = some a25 ∧ (ob S21 a25 8 ∧ (∃ a26 : Nat, fR S21 a25 8 = some a26 ∧ (ob S21 a26 18 ∧ (vp_in v2 (hN S21 a26) ∧ ∃ a28 : Nat, fR S21 a26 v2.toNatClampNeg = some a28 ∧ (∃ a29 : Nat, fR S21 v0 2 = some a29 ∧ (ob S21 a29 8 ∧ (∃ a30 : Nat, fR S21 a29 6 = some a30 ∧ (ob S21 a30 17 ∧ (vp_in v4 (hN S21 a30) ∧ ∃ a32 : Nat, fR S21 a30 v4.toNatClampNeg = some a32 ∧ (ob S21 a24 1 ∧ (P_X1_leastWet a24 a11 a28 v3 a32 (fun x35 S33 => Gr S21 S33 → (∃ a36 : Nat, fR S33 v0 4 = some a36 ∧ (∃ a37 : Nat, fR S33 v0 2 = some a37 ∧ (ob S33 a37 8 ∧ (∃ a38 : Nat, fR S33 a37 8 = some a38 ∧ (ob S33 a38 18 ∧ (vp_in v2 (hN S33 a38) ∧ ∃ a40 : Nat, fR S33 a38 v2.toNatClampNeg = some a40 ∧ (∃ a41 : Nat, fR S33 v0 2 = some a41 ∧ (ob S33 a41 8 ∧ (∃ a42 : Nat, fR S33 a41 6 = some a42 ∧ (ob S33 a42 17 ∧ (vp_in v4 (hN S33 a42) ∧ ∃ a44 : Nat, fR S33 a42 v4.toNatClampNeg = some a44 ∧ (ob S33 a36 1 ∧ (P_X1_wetOf a36 a11 a40 v3 a44 x23 (fun x47 S45 => Gr S33 S45 → (((¬ (lg_cmp x47 x35) = 0) → (Q (0 : Int32) S45)) ∧ (((lg_cmp x47 x35) = 0) → (Q (1 : Int32) S45)))) S33)))))))))))))) S21)))))))))))))) S4))))))))))))))))))) ∧ ((¬ x6 = 0) → (Q (-1 : Int32) S4)))) S1)) S)
set_option maxRecDepth 20000 in
set_option maxHeartbeats 4000000 in
theorem T_X9_even_0 {X : CX} {Q : Int32 → HS → Prop} (C : Cx X cX9_even RX9 9 rm_X9_even) (E : ReI X rm_X9_even Q) (ht : (xh X).sig.returnType = (some .int)) (hn : (xh X).name = yX9_even.name) {v0 : Nat} {v1 : Int32} {v2 : Int32} {v3 : Int32} {v4 : Int32} {S : HS} (h : P_X9_even_0 Q v0 v1 v2 v3 v4 S) : WS X 9 0 0 0 [(0, .ref v0), (1, .int v1), (2, .int v2), (3, .int v3), (4, .int v4)] [] S := by
  refine r_aload_n (pc := 0) C dX9_even_0 0 rfl ?_
  refine r_aload_n (pc := 1) C dX9_even_1 0 rfl ?_
  refine r_iload_n (pc := 2) C dX9_even_2 1 rfl ?_
  refine r_iload_n (pc := 3) C dX9_even_3 2 rfl ?_
  refine r_iload_n (pc := 4) C dX9_even_4 3 rfl ?_
  refine r_iload (pc := 5) C dX9_even_5 4 rfl ?_
  obtain ⟨o_v0, h⟩ := h
  refine r_callVi0 (pc := 7) C (rest := [.ref v0]) (a := v0) o_v0 [.int v1, .int v2, .int v3, .int v4] yV_X9_tripTrouble g_660 (c_X9_tripTrouble h) dX9_even_7 rfl rfl (Nat.le_of_ble_eq_true rfl) ⟨by decide, by decide⟩ ⟨by decide, by decide⟩ ⟨rfl, rfl⟩ (fun x3 S1 h g2 => ?_)
  have h := h g2
  have o_v0 := gr_ob g2 o_v0
  refine r_callVi0 (pc := 10) C (rest := []) (a := v0) o_v0 [.int x3] yV_X9_refusedBy g_683 (c_X9_refusedBy h) dX9_even_10 rfl rfl (Nat.le_of_ble_eq_true rfl) ⟨by decide, by decide⟩ ⟨by decide, by decide⟩ ⟨rfl, rfl⟩ (fun x6 S4 h g5 => ?_)
  have bx6 := h.1
  have h := h.2 g5 bx6
  have o_v0 := gr_ob g5 o_v0
  refine r_if_eq (pc := 13) C (tgt := 18) dX9_even_13 (by decide) (fun c7 => ?_) (fun c7 => ?_)
  · have h := h.1 c7
    refine r_aload_n (pc := 18) C dX9_even_18 0 rfl ?_
    obtain ⟨a8, ea8, h⟩ := h
    refine r_getr (pc := 19) C fL_X9_16 dX9_even_19 o_v0 ea8 ?_
    obtain ⟨o_a8, h⟩ := h
    obtain ⟨a9, ea9, h⟩ := h
    refine r_getr (pc := 22) C fL_X9_108 dX9_even_22 o_a8 ea9 ?_
    refine r_iload_n (pc := 25) C dX9_even_25 1 rfl ?_
    obtain ⟨o_a9, h⟩ := h
    obtain ⟨i10, a11, ea11, h⟩ := h
    refine r_aald19 (pc := 26) C dX9_even_26 o_a9 i10 ea11 ?_
    refine r_astore (pc := 27) C dX9_even_27 (by decide) (lv' := [(5, .ref a11), (0, .ref v0), (1, .int v1), (2, .int v2), (3, .int v3), (4, .int v4)]) rfl ?_
    refine r_aload_n (pc := 29) C dX9_even_29 1 rfl ?_
    obtain ⟨a12, ea12, h⟩ := h
    refine r_getr (pc := 30) C fL_X9_30 dX9_even_30 o_v0 ea12 ?_
    refine r_aload (pc := 33) C dX9_even_33 0 rfl ?_
    refine r_aload_n (pc := 35) C dX9_even_35 1 rfl ?_
    obtain ⟨a13, ea13, h⟩ := h
    refine r_getr (pc := 36) C fL_X9_16 dX9_even_36 o_v0 ea13 ?_
    obtain ⟨o_a13, h⟩ := h
    obtain ⟨a14, ea14, h⟩ := h
    refine r_getr (pc := 39) C fL_X9_112 dX9_even_39 o_a13 ea14 ?_
    refine r_iload_n (pc := 42) C dX9_even_42 3 rfl ?_
    obtain ⟨o_a14, h⟩ := h
    obtain ⟨i15, a16, ea16, h⟩ := h
    refine r_aald18 (pc := 43) C dX9_even_43 o_a14 i15 ea16 ?_
    refine r_iload_n (pc := 44) C dX9_even_44 4 rfl ?_
    refine r_aload_n (pc := 45) C dX9_even_45 1 rfl ?_
    obtain ⟨a17, ea17, h⟩ := h
    refine r_getr (pc := 46) C fL_X9_16 dX9_even_46 o_v0 ea17 ?_
    obtain ⟨o_a17, h⟩ := h
    obtain ⟨a18, ea18, h⟩ := h
    refine r_getr (pc := 49) C fL_X9_116 dX9_even_49 o_a17 ea18 ?_
    refine r_iload (pc := 52) C dX9_even_52 5 rfl ?_
    obtain ⟨o_a18, h⟩ := h
    obtain ⟨i19, a20, ea20, h⟩ := h
    refine r_aald17 (pc := 54) C dX9_even_54 o_a18 i19 ea20 ?_
    obtain ⟨o_a12, h⟩ := h
    refine r_callVi0 (pc := 55) C (rest := []) (a := a12) o_a12 [.ref a11, .ref a16, .int v3, .ref a20] yV_X1_worstSpeed g_779 (c_X1_worstSpeed h) dX9_even_55 rfl rfl (Nat.le_of_ble_eq_true rfl) ⟨by decide, by decide⟩ ⟨by decide, by decide⟩ ⟨rfl, rfl⟩ (fun x23 S21 h g22 => ?_)
    have h := h g22
    have o_a12 := gr_ob g22 o_a12
    have o_a13 := gr_ob g22 o_a13
    have o_a14 := gr_ob g22 o_a14
    have o_a17 := gr_ob g22 o_a17
    have o_a18 := gr_ob g22 o_a18
    have o_a8 := gr_ob g22 o_a8
    have o_a9 := gr_ob g22 o_a9
    have o_v0 := gr_ob g22 o_v0
    refine r_istore (pc := 58) C dX9_even_58 (by decide) (lv' := [(6, .int x23), (5, .ref a11), (0, .ref v0), (1, .int v1), (2, .int v2), (3, .int v3), (4, .int v4)]) rfl ?_
    refine r_aload_n (pc := 60) C dX9_even_60 2 rfl ?_
    obtain ⟨a24, ea24, h⟩ := h
    refine r_getr (pc := 61) C fL_X9_30 dX9_even_61 o_v0 ea24 ?_
    refine r_aload (pc := 64) C dX9_even_64 1 rfl ?_
    refine r_aload_n (pc := 66) C dX9_even_66 2 rfl ?_
    obtain ⟨a25, ea25, h⟩ := h
    refine r_getr (pc := 67) C fL_X9_16 dX9_even_67 o_v0 ea25 ?_
    obtain ⟨o_a25, h⟩ := h
    obtain ⟨a26, ea26, h⟩ := h
    refine r_getr (pc := 70) C fL_X9_112 dX9_even_70 o_a25 ea26 ?_
    refine r_iload_n (pc := 73) C dX9_even_73 4 rfl ?_
    obtain ⟨o_a26, h⟩ := h
    obtain ⟨i27, a28, ea28, h⟩ := h
    refine r_aald18 (pc := 74) C dX9_even_74 o_a26 i27 ea28 ?_
    refine r_iload_n (pc := 75) C dX9_even_75 5 rfl ?_
    refine r_aload_n (pc := 76) C dX9_even_76 2 rfl ?_
    obtain ⟨a29, ea29, h⟩ := h
    refine r_getr (pc := 77) C fL_X9_16 dX9_even_77 o_v0 ea29 ?_
    obtain ⟨o_a29, h⟩ := h
    obtain ⟨a30, ea30, h⟩ := h
    refine r_getr (pc := 80) C fL_X9_116 dX9_even_80 o_a29 ea30 ?_
    refine r_iload (pc := 83) C dX9_even_83 6 rfl ?_
    obtain ⟨o_a30, h⟩ := h
    obtain ⟨i31, a32, ea32, h⟩ := h
    refine r_aald17 (pc := 85) C dX9_even_85 o_a30 i31 ea32 ?_
    obtain ⟨o_a24, h⟩ := h
    refine r_callVl0 (pc := 86) C (rest := []) (a := a24) o_a24 [.ref a11, .ref a28, .int v3, .ref a32] yV_X1_leastWet g_770 (c_X1_leastWet h) dX9_even_86 rfl rfl (Nat.le_of_ble_eq_true rfl) ⟨by decide, by decide⟩ ⟨by decide, by decide⟩ ⟨rfl, rfl⟩ (fun x35 S33 h g34 => ?_)
    have h := h g34
    have o_a12 := gr_ob g34 o_a12
    have o_a13 := gr_ob g34 o_a13
    have o_a14 := gr_ob g34 o_a14
    have o_a17 := gr_ob g34 o_a17
    have o_a18 := gr_ob g34 o_a18
    have o_a24 := gr_ob g34 o_a24
    have o_a25 := gr_ob g34 o_a25
    have o_a26 := gr_ob g34 o_a26
    have o_a29 := gr_ob g34 o_a29
    have o_a30 := gr_ob g34 o_a30
    have o_a8 := gr_ob g34 o_a8
    have o_a9 := gr_ob g34 o_a9
    have o_v0 := gr_ob g34 o_v0
    refine r_lstore (pc := 89) C dX9_even_89 (by decide) (lv' := [(7, .long x35), (6, .int x23), (5, .ref a11), (0, .ref v0), (1, .int v1), (2, .int v2), (3, .int v3), (4, .int v4)]) rfl ?_
    refine r_aload_n (pc := 91) C dX9_even_91 3 rfl ?_
    obtain ⟨a36, ea36, h⟩ := h
    refine r_getr (pc := 92) C fL_X9_30 dX9_even_92 o_v0 ea36 ?_
    refine r_aload (pc := 95) C dX9_even_95 2 rfl ?_
    refine r_aload_n (pc := 97) C dX9_even_97 3 rfl ?_
    obtain ⟨a37, ea37, h⟩ := h
    refine r_getr (pc := 98) C fL_X9_16 dX9_even_98 o_v0 ea37 ?_
    obtain ⟨o_a37, h⟩ := h
    obtain ⟨a38, ea38, h⟩ := h
    refine r_getr (pc := 101) C fL_X9_112 dX9_even_101 o_a37 ea38 ?_
    refine r_iload_n (pc := 104) C dX9_even_104 5 rfl ?_
    obtain ⟨o_a38, h⟩ := h
    obtain ⟨i39, a40, ea40, h⟩ := h
    refine r_aald18 (pc := 105) C dX9_even_105 o_a38 i39 ea40 ?_
    refine r_iload_n (pc := 106) C dX9_even_106 6 rfl ?_
    refine r_aload_n (pc := 107) C dX9_even_107 3 rfl ?_
    obtain ⟨a41, ea41, h⟩ := h
    refine r_getr (pc := 108) C fL_X9_16 dX9_even_108 o_v0 ea41 ?_
    obtain ⟨o_a41, h⟩ := h
    obtain ⟨a42, ea42, h⟩ := h
    refine r_getr (pc := 111) C fL_X9_116 dX9_even_111 o_a41 ea42 ?_
    refine r_iload (pc := 114) C dX9_even_114 7 rfl ?_
    obtain ⟨o_a42, h⟩ := h
    obtain ⟨i43, a44, ea44, h⟩ := h
    refine r_aald17 (pc := 116) C dX9_even_116 o_a42 i43 ea44 ?_
    refine r_iload (pc := 117) C dX9_even_117 1 rfl ?_
    obtain ⟨o_a36, h⟩ := h
    refine r_callVl0 (pc := 119) C (rest := []) (a := a36) o_a36 [.ref a11, .ref a40, .int v3, .ref a44, .int x23] yV_X1_wetOf g_688 (c_X1_wetOf h) dX9_even_119 rfl rfl (Nat.le_of_ble_eq_true rfl) ⟨by decide, by decide⟩ ⟨by decide, by decide⟩ ⟨rfl, rfl⟩ (fun x47 S45 h g46 => ?_)
    have h := h g46
    have o_a12 := gr_ob g46 o_a12
    have o_a13 := gr_ob g46 o_a13
    have o_a14 := gr_ob g46 o_a14
    have o_a17 := gr_ob g46 o_a17
    have o_a18 := gr_ob g46 o_a18
    have o_a24 := gr_ob g46 o_a24
    have o_a25 := gr_ob g46 o_a25
    have o_a26 := gr_ob g46 o_a26
    have o_a29 := gr_ob g46 o_a29
    have o_a30 := gr_ob g46 o_a30
    have o_a36 := gr_ob g46 o_a36
    have o_a37 := gr_ob g46 o_a37
    have o_a38 := gr_ob g46 o_a38
    have o_a41 := gr_ob g46 o_a41
    have o_a42 := gr_ob g46 o_a42
    have o_a8 := gr_ob g46 o_a8
    have o_a9 := gr_ob g46 o_a9
    have o_v0 := gr_ob g46 o_v0
    refine r_lload (pc := 122) C dX9_even_122 0 rfl ?_
    refine r_lcmp (pc := 124) C dX9_even_124 ?_
    refine r_if_ne (pc := 125) C (tgt := 132) dX9_even_125 (by decide) (fun c48 => ?_) (fun c48 => ?_)
    · have h := h.1 c48
      refine r_iconst (pc := 132) C (v := (0 : Int32)) dX9_even_132 (by decide) ?_
      exact r_iret (pc := 133) C E ht dX9_even_133 (by decide) (by decide) h
    · have h := h.2 c48
      refine r_iconst (pc := 128) C (v := (1 : Int32)) dX9_even_128 (by decide) ?_
      refine r_goto (pc := 129) C (tgt := 133) dX9_even_129 (by decide) ?_
      exact r_iret (pc := 133) C E ht dX9_even_133 (by decide) (by decide) h
  · have h := h.2 c7
    refine r_iconst (pc := 16) C (v := (-1 : Int32)) dX9_even_16 (by decide) ?_
    exact r_iret (pc := 17) C E ht dX9_even_17 (by decide) (by decide) h
def P_X9_even (v0 : Nat) (v1 : Int32) (v2 : Int32) (v3 : Int32) (v4 : Int32) (Q : Int32 → HS → Prop) (S : HS) : Prop := P_X9_even_0 Q v0 v1 v2 v3 v4 S
theorem c_X9_even {l : Launch} {Ee : EE} {S : HS} {v0 : Nat} {v1 : Int32} {v2 : Int32} {v3 : Int32} {v4 : Int32} {Q : Int32 → HS → Prop} (h : P_X9_even v0 v1 v2 v3 v4 Q S) : MI l yX9_even cX9_even 9 (some .int) rm_X9_even Ee S [.ref v0, .int v1, .int v2, .int v3, .int v4] Q :=
  openI (by decide) (Nat.le_of_ble_eq_true rfl) (fun X C E ht hn hE hl => by subst hE; exact r_sub [0, 1, 2, 3, 4] rfl (T_X9_even_0 C E ht hn h))
def rm_X9_fraction : Room := { frames := 1, cells := 0, slots := 0, locals := 30 }
def P_X9_fraction_0 (Q : Int64 → HS → Prop) (v0 : Int64) (v2 : Int64) (v4 : Int32) (S : HS) : Prop := P_X9_commonDivisor v0 v2 (fun x3 S1 => Gr S S1 → (((0 < (lg_cmp x3 (0 : Int64))) → (((v4 = 0) → (¬ x3 = 0 ∧ ∀ x7 : Int64, x7 = v0 / x3 → (Q x7 S1))) ∧ ((¬ v4 = 0) → (¬ x3 = 0 ∧ ∀ x9 : Int64, x9 = v2 / x3 → (Q x9 S1))))) ∧ ((¬ 0 < (lg_cmp x3 (0 : Int64))) → (((v4 = 0) → (Q (0 : Int64) S1)) ∧ ((¬ v4 = 0) → (Q (1 : Int64) S1)))))) S
set_option maxRecDepth 20000 in
set_option maxHeartbeats 4000000 in
theorem T_X9_fraction_0 {X : CX} {Q : Int64 → HS → Prop} (C : Cx X cX9_fraction RX9 7 rm_X9_fraction) (E : ReJ X rm_X9_fraction Q) (ht : (xh X).sig.returnType = (some .long)) (hn : (xh X).name = yX9_fraction.name) {v0 : Int64} {v2 : Int64} {v4 : Int32} {S : HS} (h : P_X9_fraction_0 Q v0 v2 v4 S) : WS X 7 0 0 0 [(0, .long v0), (2, .long v2), (4, .int v4)] [] S := by
  refine r_lload_n (pc := 0) C dX9_fraction_0 0 rfl ?_
  refine r_lload_n (pc := 1) C dX9_fraction_1 1 rfl ?_
  refine r_callSl0 (pc := 2) C (rest := []) rfl [.long v0, .long v2] yS_X9_commonDivisor g_725 (c_X9_commonDivisor h) dX9_fraction_2 rfl rfl (Nat.le_of_ble_eq_true rfl) ⟨by decide, by decide⟩ ⟨by decide, by decide⟩ ⟨rfl, rfl⟩ (fun x3 S1 h g2 => ?_)
  have h := h g2
  refine r_lstore (pc := 5) C dX9_fraction_5 (by decide) (lv' := [(5, .long x3), (0, .long v0), (2, .long v2), (4, .int v4)]) rfl ?_
  refine r_lload (pc := 7) C dX9_fraction_7 0 rfl ?_
  refine r_lconst (pc := 9) C (v := (0 : Int64)) dX9_fraction_9 (by decide) ?_
  refine r_lcmp (pc := 10) C dX9_fraction_10 ?_
  refine r_if_gt (pc := 11) C (tgt := 25) dX9_fraction_11 (by decide) (fun c4 => ?_) (fun c4 => ?_)
  · have h := h.1 c4
    refine r_iload (pc := 25) C dX9_fraction_25 3 rfl ?_
    refine r_if_eq (pc := 27) C (tgt := 34) dX9_fraction_27 (by decide) (fun c5 => ?_) (fun c5 => ?_)
    · have h := h.1 c5
      refine r_lload_n (pc := 34) C dX9_fraction_34 1 rfl ?_
      refine r_lload (pc := 35) C dX9_fraction_35 0 rfl ?_
      obtain ⟨q6, h⟩ := h
      refine r_ldiv (pc := 37) C dX9_fraction_37 q6 ?_
      refine r_topl (fun x7 ex7 => ?_)
      have h := h x7 ex7
      exact r_lret (pc := 38) C E ht dX9_fraction_38 (by decide) (by decide) h
    · have h := h.2 c5
      refine r_lload_n (pc := 30) C dX9_fraction_30 2 rfl ?_
      refine r_goto (pc := 31) C (tgt := 35) dX9_fraction_31 (by decide) ?_
      refine r_lload (pc := 35) C dX9_fraction_35 0 rfl ?_
      obtain ⟨q8, h⟩ := h
      refine r_ldiv (pc := 37) C dX9_fraction_37 q8 ?_
      refine r_topl (fun x9 ex9 => ?_)
      have h := h x9 ex9
      exact r_lret (pc := 38) C E ht dX9_fraction_38 (by decide) (by decide) h
  · have h := h.2 c4
    refine r_iload (pc := 14) C dX9_fraction_14 3 rfl ?_
    refine r_if_eq (pc := 16) C (tgt := 23) dX9_fraction_16 (by decide) (fun c10 => ?_) (fun c10 => ?_)
    · have h := h.1 c10
      refine r_lconst (pc := 23) C (v := (0 : Int64)) dX9_fraction_23 (by decide) ?_
      exact r_lret (pc := 24) C E ht dX9_fraction_24 (by decide) (by decide) h
    · have h := h.2 c10
      refine r_lconst (pc := 19) C (v := (1 : Int64)) dX9_fraction_19 (by decide) ?_
      refine r_goto (pc := 20) C (tgt := 24) dX9_fraction_20 (by decide) ?_
      exact r_lret (pc := 24) C E ht dX9_fraction_24 (by decide) (by decide) h
def P_X9_fraction (v0 : Int64) (v2 : Int64) (v4 : Int32) (Q : Int64 → HS → Prop) (S : HS) : Prop := P_X9_fraction_0 Q v0 v2 v4 S
theorem c_X9_fraction {l : Launch} {Ee : EE} {S : HS} {v0 : Int64} {v2 : Int64} {v4 : Int32} {Q : Int64 → HS → Prop} (h : P_X9_fraction v0 v2 v4 Q S) : MJ l yX9_fraction cX9_fraction 7 (some .long) rm_X9_fraction Ee S [.long v0, .long v2, .int v4] Q :=
  openJ (by decide) (Nat.le_of_ble_eq_true rfl) (fun X C E ht hn hE hl => by subst hE; exact r_sub [0, 1, 2] rfl (T_X9_fraction_0 C E ht hn h))
def rm_X9_isFace : Room := { frames := 0, cells := 0, slots := 0, locals := 0 }
def P_X9_isFace_0 (Q : Int32 → HS → Prop) (v0 : Int32) (S : HS) : Prop := ((v0 < 0) → (Q (0 : Int32) S)) ∧ ((¬ v0 < 0) → ((((5 : Int32) ≤ v0) → (Q (0 : Int32) S)) ∧ ((¬ (5 : Int32) ≤ v0) → (Q (1 : Int32) S))))
set_option maxRecDepth 20000 in
set_option maxHeartbeats 4000000 in
theorem T_X9_isFace_0 {X : CX} {Q : Int32 → HS → Prop} (C : Cx X cX9_isFace RX9 1 rm_X9_isFace) (E : ReI X rm_X9_isFace (fun r S => bl r ∧ Q r S)) (ht : (xh X).sig.returnType = (some .boolean)) (hn : (xh X).name = yX9_isFace.name) {v0 : Int32} {S : HS} (h : P_X9_isFace_0 Q v0 S) : WS X 1 0 0 0 [(0, .int v0)] [] S := by
  refine r_iload_n (pc := 0) C dX9_isFace_0 0 rfl ?_
  refine r_if_lt (pc := 1) C (tgt := 13) dX9_isFace_1 (by decide) (fun c1 => ?_) (fun c1 => ?_)
  · have h := h.1 c1
    refine r_iconst (pc := 13) C (v := (0 : Int32)) dX9_isFace_13 (by decide) ?_
    exact r_zret (pc := 14) C E ht dX9_isFace_14 (by decide) (by decide) (Or.inl rfl) h
  · have h := h.2 c1
    refine r_iload_n (pc := 4) C dX9_isFace_4 0 rfl ?_
    refine r_iconst (pc := 5) C (v := (5 : Int32)) dX9_isFace_5 (by decide) ?_
    refine r_icmp_ge (pc := 6) C (tgt := 13) dX9_isFace_6 (by decide) (fun c2 => ?_) (fun c2 => ?_)
    · have h := h.1 c2
      refine r_iconst (pc := 13) C (v := (0 : Int32)) dX9_isFace_13 (by decide) ?_
      exact r_zret (pc := 14) C E ht dX9_isFace_14 (by decide) (by decide) (Or.inl rfl) h
    · have h := h.2 c2
      refine r_iconst (pc := 9) C (v := (1 : Int32)) dX9_isFace_9 (by decide) ?_
      refine r_goto (pc := 10) C (tgt := 14) dX9_isFace_10 (by decide) ?_
      exact r_zret (pc := 14) C E ht dX9_isFace_14 (by decide) (by decide) (Or.inr rfl) h
def P_X9_isFace (v0 : Int32) (Q : Int32 → HS → Prop) (S : HS) : Prop := P_X9_isFace_0 Q v0 S
theorem c_X9_isFace {l : Launch} {Ee : EE} {S : HS} {v0 : Int32} {Q : Int32 → HS → Prop} (h : P_X9_isFace v0 Q S) : MI l yX9_isFace cX9_isFace 1 (some .boolean) rm_X9_isFace Ee S [.int v0] (fun r S => bl r ∧ Q r S) :=
  openI (by decide) (Nat.le_of_ble_eq_true rfl) (fun X C E ht hn hE hl => by subst hE; exact r_sub [0] rfl (T_X9_isFace_0 C E ht hn h))
def rm_X9_legTrouble : Room := { frames := 2, cells := 0, slots := 0, locals := 46 }
def P_X9_legTrouble_0 (Q : Int32 → HS → Prop) (v0 : Nat) (v1 : Int32) (v2 : Int32) (v3 : Int32) (v4 : Int32) (v5 : Int32) (S : HS) : Prop := ob S v0 9 ∧ (P_X9_tripTrouble v0 v1 v2 v3 v4 (fun x3 S1 => Gr S S1 → (((x3 = 0) → (∃ a5 : Nat, fR S1 v0 2 = some a5 ∧ (ob S1 a5 8 ∧ (∃ a6 : Nat, fR S1 a5 9 = some a6 ∧ (ob S1 a6 19 ∧ (vp_in v1 (hN S1 a6) ∧ ∃ a8 : Nat, fR S1 a6 v1.toNatClampNeg = some a8 ∧ (ob S1 a8 6 ∧ (P_X6_canGo a8 v5 (fun x11 S9 => Gr S1 S9 → bl x11 → (((x11 = 0) → (Q (2 : Int32) S9)) ∧ ((¬ x11 = 0) → (Q (0 : Int32) S9)))) S1)))))))) ∧ ((¬ x3 = 0) → (Q x3 S1)))) S)
set_option maxRecDepth 20000 in
set_option maxHeartbeats 4000000 in
theorem T_X9_legTrouble_0 {X : CX} {Q : Int32 → HS → Prop} (C : Cx X cX9_legTrouble RX9 7 rm_X9_legTrouble) (E : ReI X rm_X9_legTrouble Q) (ht : (xh X).sig.returnType = (some .int)) (hn : (xh X).name = yX9_legTrouble.name) {v0 : Nat} {v1 : Int32} {v2 : Int32} {v3 : Int32} {v4 : Int32} {v5 : Int32} {S : HS} (h : P_X9_legTrouble_0 Q v0 v1 v2 v3 v4 v5 S) : WS X 7 0 0 0 [(0, .ref v0), (1, .int v1), (2, .int v2), (3, .int v3), (4, .int v4), (5, .int v5)] [] S := by
  refine r_aload_n (pc := 0) C dX9_legTrouble_0 0 rfl ?_
  refine r_iload_n (pc := 1) C dX9_legTrouble_1 1 rfl ?_
  refine r_iload_n (pc := 2) C dX9_legTrouble_2 2 rfl ?_
  refine r_iload_n (pc := 3) C dX9_legTrouble_3 3 rfl ?_
  refine r_iload (pc := 4) C dX9_legTrouble_4 4 rfl ?_
  obtain ⟨o_v0, h⟩ := h
  refine r_callVi0 (pc := 6) C (rest := []) (a := v0) o_v0 [.int v1, .int v2, .int v3, .int v4] yV_X9_tripTrouble g_660 (c_X9_tripTrouble h) dX9_legTrouble_6 rfl rfl (Nat.le_of_ble_eq_true rfl) ⟨by decide, by decide⟩ ⟨by decide, by decide⟩ ⟨rfl, rfl⟩ (fun x3 S1 h g2 => ?_)
  have h := h g2
  have o_v0 := gr_ob g2 o_v0
  refine r_istore (pc := 9) C dX9_legTrouble_9 (by decide) (lv' := [(6, .int x3), (0, .ref v0), (1, .int v1), (2, .int v2), (3, .int v3), (4, .int v4), (5, .int v5)]) rfl ?_
  refine r_iload (pc := 11) C dX9_legTrouble_11 0 rfl ?_
  refine r_if_eq (pc := 13) C (tgt := 19) dX9_legTrouble_13 (by decide) (fun c4 => ?_) (fun c4 => ?_)
  · have h := h.1 c4
    refine r_aload_n (pc := 19) C dX9_legTrouble_19 1 rfl ?_
    obtain ⟨a5, ea5, h⟩ := h
    refine r_getr (pc := 20) C fL_X9_16 dX9_legTrouble_20 o_v0 ea5 ?_
    obtain ⟨o_a5, h⟩ := h
    obtain ⟨a6, ea6, h⟩ := h
    refine r_getr (pc := 23) C fL_X9_108 dX9_legTrouble_23 o_a5 ea6 ?_
    refine r_iload_n (pc := 26) C dX9_legTrouble_26 2 rfl ?_
    obtain ⟨o_a6, h⟩ := h
    obtain ⟨i7, a8, ea8, h⟩ := h
    refine r_aald19 (pc := 27) C dX9_legTrouble_27 o_a6 i7 ea8 ?_
    refine r_iload (pc := 28) C dX9_legTrouble_28 6 rfl ?_
    obtain ⟨o_a8, h⟩ := h
    refine r_callVi0 (pc := 30) C (rest := []) (a := a8) o_a8 [.int v5] yV_X6_canGo g_679 (c_X6_canGo h) dX9_legTrouble_30 rfl rfl (Nat.le_of_ble_eq_true rfl) ⟨by decide, by decide⟩ ⟨by decide, by decide⟩ ⟨rfl, rfl⟩ (fun x11 S9 h g10 => ?_)
    have bx11 := h.1
    have h := h.2 g10 bx11
    have o_a5 := gr_ob g10 o_a5
    have o_a6 := gr_ob g10 o_a6
    have o_a8 := gr_ob g10 o_a8
    have o_v0 := gr_ob g10 o_v0
    refine r_if_eq (pc := 33) C (tgt := 40) dX9_legTrouble_33 (by decide) (fun c12 => ?_) (fun c12 => ?_)
    · have h := h.1 c12
      refine r_iconst (pc := 40) C (v := (2 : Int32)) dX9_legTrouble_40 (by decide) ?_
      exact r_iret (pc := 41) C E ht dX9_legTrouble_41 (by decide) (by decide) h
    · have h := h.2 c12
      refine r_iconst (pc := 36) C (v := (0 : Int32)) dX9_legTrouble_36 (by decide) ?_
      refine r_goto (pc := 37) C (tgt := 41) dX9_legTrouble_37 (by decide) ?_
      exact r_iret (pc := 41) C E ht dX9_legTrouble_41 (by decide) (by decide) h
  · have h := h.2 c4
    refine r_iload (pc := 16) C dX9_legTrouble_16 0 rfl ?_
    exact r_iret (pc := 18) C E ht dX9_legTrouble_18 (by decide) (by decide) h
def P_X9_legTrouble (v0 : Nat) (v1 : Int32) (v2 : Int32) (v3 : Int32) (v4 : Int32) (v5 : Int32) (Q : Int32 → HS → Prop) (S : HS) : Prop := P_X9_legTrouble_0 Q v0 v1 v2 v3 v4 v5 S
theorem c_X9_legTrouble {l : Launch} {Ee : EE} {S : HS} {v0 : Nat} {v1 : Int32} {v2 : Int32} {v3 : Int32} {v4 : Int32} {v5 : Int32} {Q : Int32 → HS → Prop} (h : P_X9_legTrouble v0 v1 v2 v3 v4 v5 Q S) : MI l yX9_legTrouble cX9_legTrouble 7 (some .int) rm_X9_legTrouble Ee S [.ref v0, .int v1, .int v2, .int v3, .int v4, .int v5] Q :=
  openI (by decide) (Nat.le_of_ble_eq_true rfl) (fun X C E ht hn hE hl => by subst hE; exact r_sub [0, 1, 2, 3, 4, 5] rfl (T_X9_legTrouble_0 C E ht hn h))
def rm_X9_face : Room := { frames := 4, cells := 0, slots := 0, locals := 101 }
def P_X9_face_23 (Q : Int64 → HS → Prop) (v0 : Nat) (v1 : Int32) (v2 : Int32) (v3 : Int32) (v4 : Int32) (v5 : Int32) (v6 : Int32) (v7 : Int32) (s0 : Int32) (S : HS) : Prop := ob S v0 9 ∧ (P_X9_refusedBy v0 s0 (fun x3 S1 => Gr S S1 → bl x3 → (((x3 = 0) → (∃ a5 : Nat, fR S1 v0 4 = some a5 ∧ (∃ a6 : Nat, fR S1 v0 2 = some a6 ∧ (ob S1 a6 8 ∧ (∃ a7 : Nat, fR S1 a6 9 = some a7 ∧ (ob S1 a7 19 ∧ (vp_in v1 (hN S1 a7) ∧ ∃ a9 : Nat, fR S1 a7 v1.toNatClampNeg = some a9 ∧ (∃ a10 : Nat, fR S1 v0 2 = some a10 ∧ (ob S1 a10 8 ∧ (∃ a11 : Nat, fR S1 a10 8 = some a11 ∧ (ob S1 a11 18 ∧ (vp_in v2 (hN S1 a11) ∧ ∃ a13 : Nat, fR S1 a11 v2.toNatClampNeg = some a13 ∧ (∃ a14 : Nat, fR S1 v0 2 = some a14 ∧ (ob S1 a14 8 ∧ (∃ a15 : Nat, fR S1 a14 6 = some a15 ∧ (ob S1 a15 17 ∧ (vp_in v4 (hN S1 a15) ∧ ∃ a17 : Nat, fR S1 a15 v4.toNatClampNeg = some a17 ∧ (ob S1 a5 1 ∧ (P_X1_wetOf a5 a9 a13 v3 a17 v5 (fun x20 S18 => Gr S1 S18 → (∃ a21 : Nat, fR S18 v0 4 = some a21 ∧ (ob S18 a21 1 ∧ (∃ a22 : Nat, fR S18 a21 0 = some a22 ∧ (ob S18 a22 14 ∧ (vp_in v6 (hN S18 a22) ∧ ∀ x24 : Int64, x24 = fJ S18 a22 v6.toNatClampNeg → (P_X9_fraction x24 (2520 : Int64) v7 (fun x27 S25 => Gr S18 S25 → (Q x27 S25)) S18))))))) S1))))))))))))))))))) ∧ ((¬ x3 = 0) → (Q (-1 : Int64) S1)))) S)
set_option maxRecDepth 20000 in
set_option maxHeartbeats 4000000 in
theorem T_X9_face_23 {X : CX} {Q : Int64 → HS → Prop} (C : Cx X cX9_face RX9 9 rm_X9_face) (E : ReJ X rm_X9_face Q) (ht : (xh X).sig.returnType = (some .long)) (hn : (xh X).name = yX9_face.name) {v0 : Nat} {v1 : Int32} {v2 : Int32} {v3 : Int32} {v4 : Int32} {v5 : Int32} {v6 : Int32} {v7 : Int32} {s0 : Int32} {S : HS} (h : P_X9_face_23 Q v0 v1 v2 v3 v4 v5 v6 v7 s0 S) : WS X 9 0 0 23 [(0, .ref v0), (1, .int v1), (2, .int v2), (3, .int v3), (4, .int v4), (5, .int v5), (6, .int v6), (7, .int v7)] [.int s0] S := by
  refine r_istore (pc := 23) C dX9_face_23 (by decide) (lv' := [(8, .int s0), (0, .ref v0), (1, .int v1), (2, .int v2), (3, .int v3), (4, .int v4), (5, .int v5), (6, .int v6), (7, .int v7)]) rfl ?_
  refine r_aload_n (pc := 25) C dX9_face_25 1 rfl ?_
  refine r_iload (pc := 26) C dX9_face_26 0 rfl ?_
  obtain ⟨o_v0, h⟩ := h
  refine r_callVi0 (pc := 28) C (rest := []) (a := v0) o_v0 [.int s0] yV_X9_refusedBy g_683 (c_X9_refusedBy h) dX9_face_28 rfl rfl (Nat.le_of_ble_eq_true rfl) ⟨by decide, by decide⟩ ⟨by decide, by decide⟩ ⟨rfl, rfl⟩ (fun x3 S1 h g2 => ?_)
  have bx3 := h.1
  have h := h.2 g2 bx3
  have o_v0 := gr_ob g2 o_v0
  refine r_if_eq (pc := 31) C (tgt := 38) dX9_face_31 (by decide) (fun c4 => ?_) (fun c4 => ?_)
  · have h := h.1 c4
    refine r_aload_n (pc := 38) C dX9_face_38 1 rfl ?_
    obtain ⟨a5, ea5, h⟩ := h
    refine r_getr (pc := 39) C fL_X9_30 dX9_face_39 o_v0 ea5 ?_
    refine r_aload_n (pc := 42) C dX9_face_42 1 rfl ?_
    obtain ⟨a6, ea6, h⟩ := h
    refine r_getr (pc := 43) C fL_X9_16 dX9_face_43 o_v0 ea6 ?_
    obtain ⟨o_a6, h⟩ := h
    obtain ⟨a7, ea7, h⟩ := h
    refine r_getr (pc := 46) C fL_X9_108 dX9_face_46 o_a6 ea7 ?_
    refine r_iload_n (pc := 49) C dX9_face_49 2 rfl ?_
    obtain ⟨o_a7, h⟩ := h
    obtain ⟨i8, a9, ea9, h⟩ := h
    refine r_aald19 (pc := 50) C dX9_face_50 o_a7 i8 ea9 ?_
    refine r_aload_n (pc := 51) C dX9_face_51 1 rfl ?_
    obtain ⟨a10, ea10, h⟩ := h
    refine r_getr (pc := 52) C fL_X9_16 dX9_face_52 o_v0 ea10 ?_
    obtain ⟨o_a10, h⟩ := h
    obtain ⟨a11, ea11, h⟩ := h
    refine r_getr (pc := 55) C fL_X9_112 dX9_face_55 o_a10 ea11 ?_
    refine r_iload_n (pc := 58) C dX9_face_58 3 rfl ?_
    obtain ⟨o_a11, h⟩ := h
    obtain ⟨i12, a13, ea13, h⟩ := h
    refine r_aald18 (pc := 59) C dX9_face_59 o_a11 i12 ea13 ?_
    refine r_iload_n (pc := 60) C dX9_face_60 4 rfl ?_
    refine r_aload_n (pc := 61) C dX9_face_61 1 rfl ?_
    obtain ⟨a14, ea14, h⟩ := h
    refine r_getr (pc := 62) C fL_X9_16 dX9_face_62 o_v0 ea14 ?_
    obtain ⟨o_a14, h⟩ := h
    obtain ⟨a15, ea15, h⟩ := h
    refine r_getr (pc := 65) C fL_X9_116 dX9_face_65 o_a14 ea15 ?_
    refine r_iload (pc := 68) C dX9_face_68 5 rfl ?_
    obtain ⟨o_a15, h⟩ := h
    obtain ⟨i16, a17, ea17, h⟩ := h
    refine r_aald17 (pc := 70) C dX9_face_70 o_a15 i16 ea17 ?_
    refine r_iload (pc := 71) C dX9_face_71 6 rfl ?_
    obtain ⟨o_a5, h⟩ := h
    refine r_callVl0 (pc := 73) C (rest := []) (a := a5) o_a5 [.ref a9, .ref a13, .int v3, .ref a17, .int v5] yV_X1_wetOf g_688 (c_X1_wetOf h) dX9_face_73 rfl rfl (Nat.le_of_ble_eq_true rfl) ⟨by decide, by decide⟩ ⟨by decide, by decide⟩ ⟨rfl, rfl⟩ (fun x20 S18 h g19 => ?_)
    have h := h g19
    have o_a10 := gr_ob g19 o_a10
    have o_a11 := gr_ob g19 o_a11
    have o_a14 := gr_ob g19 o_a14
    have o_a15 := gr_ob g19 o_a15
    have o_a5 := gr_ob g19 o_a5
    have o_a6 := gr_ob g19 o_a6
    have o_a7 := gr_ob g19 o_a7
    have o_v0 := gr_ob g19 o_v0
    refine r_pop2 (pc := 76) C dX9_face_76 rfl ?_
    refine r_aload_n (pc := 77) C dX9_face_77 1 rfl ?_
    obtain ⟨a21, ea21, h⟩ := h
    refine r_getr (pc := 78) C fL_X9_30 dX9_face_78 o_v0 ea21 ?_
    obtain ⟨o_a21, h⟩ := h
    obtain ⟨a22, ea22, h⟩ := h
    refine r_getr (pc := 81) C fL_X9_124 dX9_face_81 o_a21 ea22 ?_
    refine r_iload (pc := 84) C dX9_face_84 7 rfl ?_
    obtain ⟨o_a22, h⟩ := h
    obtain ⟨i23, h⟩ := h
    refine r_lald (pc := 86) C dX9_face_86 o_a22 i23 ?_
    refine r_topl (fun x24 ex24 => ?_)
    have h := h x24 ex24
    refine r_ldc2 (pc := 87) C (v := (2520 : Int64)) dX9_face_87 g_721 ?_
    refine r_iload (pc := 90) C dX9_face_90 8 rfl ?_
    refine r_callSl0 (pc := 92) C (rest := []) rfl [.long x24, .long (2520 : Int64), .int v7] yS_X9_fraction g_722 (c_X9_fraction h) dX9_face_92 rfl rfl (Nat.le_of_ble_eq_true rfl) ⟨by decide, by decide⟩ ⟨by decide, by decide⟩ ⟨rfl, rfl⟩ (fun x27 S25 h g26 => ?_)
    have h := h g26
    have o_a10 := gr_ob g26 o_a10
    have o_a11 := gr_ob g26 o_a11
    have o_a14 := gr_ob g26 o_a14
    have o_a15 := gr_ob g26 o_a15
    have o_a21 := gr_ob g26 o_a21
    have o_a22 := gr_ob g26 o_a22
    have o_a5 := gr_ob g26 o_a5
    have o_a6 := gr_ob g26 o_a6
    have o_a7 := gr_ob g26 o_a7
    have o_v0 := gr_ob g26 o_v0
    exact r_lret (pc := 95) C E ht dX9_face_95 (by decide) (by decide) h
  · have h := h.2 c4
    refine r_ldc2 (pc := 34) C (v := (-1 : Int64)) dX9_face_34 g_687 ?_
    exact r_lret (pc := 37) C E ht dX9_face_37 (by decide) (by decide) h
def P_X9_face_0 (Q : Int64 → HS → Prop) (v0 : Nat) (v1 : Int32) (v2 : Int32) (v3 : Int32) (v4 : Int32) (v5 : Int32) (v6 : Int32) (v7 : Int32) (S : HS) : Prop := P_X9_isFace v6 (fun x3 S1 => Gr S S1 → bl x3 → (((x3 = 0) → (P_X9_face_23 Q v0 v1 v2 v3 v4 v5 v6 v7 (1 : Int32) S1)) ∧ ((¬ x3 = 0) → (ob S1 v0 9 ∧ (P_X9_legTrouble v0 v1 v2 v3 v4 v5 (fun x7 S5 => Gr S1 S5 → (P_X9_face_23 Q v0 v1 v2 v3 v4 v5 v6 v7 x7 S5)) S1))))) S
set_option maxRecDepth 20000 in
set_option maxHeartbeats 4000000 in
theorem T_X9_face_0 {X : CX} {Q : Int64 → HS → Prop} (C : Cx X cX9_face RX9 9 rm_X9_face) (E : ReJ X rm_X9_face Q) (ht : (xh X).sig.returnType = (some .long)) (hn : (xh X).name = yX9_face.name) {v0 : Nat} {v1 : Int32} {v2 : Int32} {v3 : Int32} {v4 : Int32} {v5 : Int32} {v6 : Int32} {v7 : Int32} {S : HS} (h : P_X9_face_0 Q v0 v1 v2 v3 v4 v5 v6 v7 S) : WS X 9 0 0 0 [(0, .ref v0), (1, .int v1), (2, .int v2), (3, .int v3), (4, .int v4), (5, .int v5), (6, .int v6), (7, .int v7)] [] S := by
  refine r_iload (pc := 0) C dX9_face_0 6 rfl ?_
  refine r_callSi0 (pc := 2) C (rest := []) rfl [.int v6] yS_X9_isFace g_653 (c_X9_isFace h) dX9_face_2 rfl rfl (Nat.le_of_ble_eq_true rfl) ⟨by decide, by decide⟩ ⟨by decide, by decide⟩ ⟨rfl, rfl⟩ (fun x3 S1 h g2 => ?_)
  have bx3 := h.1
  have h := h.2 g2 bx3
  refine r_if_eq (pc := 5) C (tgt := 22) dX9_face_5 (by decide) (fun c4 => ?_) (fun c4 => ?_)
  · have h := h.1 c4
    refine r_iconst (pc := 22) C (v := (1 : Int32)) dX9_face_22 (by decide) ?_
    exact r_sub [0, 1, 2, 3, 4, 5, 6, 7] rfl (T_X9_face_23 C E ht hn h)
  · have h := h.2 c4
    refine r_aload_n (pc := 8) C dX9_face_8 0 rfl ?_
    refine r_iload_n (pc := 9) C dX9_face_9 1 rfl ?_
    refine r_iload_n (pc := 10) C dX9_face_10 2 rfl ?_
    refine r_iload_n (pc := 11) C dX9_face_11 3 rfl ?_
    refine r_iload (pc := 12) C dX9_face_12 4 rfl ?_
    refine r_iload (pc := 14) C dX9_face_14 5 rfl ?_
    obtain ⟨o_v0, h⟩ := h
    refine r_callVi0 (pc := 16) C (rest := []) (a := v0) o_v0 [.int v1, .int v2, .int v3, .int v4, .int v5] yV_X9_legTrouble g_656 (c_X9_legTrouble h) dX9_face_16 rfl rfl (Nat.le_of_ble_eq_true rfl) ⟨by decide, by decide⟩ ⟨by decide, by decide⟩ ⟨rfl, rfl⟩ (fun x7 S5 h g6 => ?_)
    have h := h g6
    have o_v0 := gr_ob g6 o_v0
    refine r_goto (pc := 19) C (tgt := 23) dX9_face_19 (by decide) ?_
    exact r_sub [0, 1, 2, 3, 4, 5, 6, 7] rfl (T_X9_face_23 C E ht hn h)
def P_X9_face (v0 : Nat) (v1 : Int32) (v2 : Int32) (v3 : Int32) (v4 : Int32) (v5 : Int32) (v6 : Int32) (v7 : Int32) (Q : Int64 → HS → Prop) (S : HS) : Prop := P_X9_face_0 Q v0 v1 v2 v3 v4 v5 v6 v7 S
theorem c_X9_face {l : Launch} {Ee : EE} {S : HS} {v0 : Nat} {v1 : Int32} {v2 : Int32} {v3 : Int32} {v4 : Int32} {v5 : Int32} {v6 : Int32} {v7 : Int32} {Q : Int64 → HS → Prop} (h : P_X9_face v0 v1 v2 v3 v4 v5 v6 v7 Q S) : MJ l yX9_face cX9_face 9 (some .long) rm_X9_face Ee S [.ref v0, .int v1, .int v2, .int v3, .int v4, .int v5, .int v6, .int v7] Q :=
  openJ (by decide) (Nat.le_of_ble_eq_true rfl) (fun X C E ht hn hE hl => by subst hE; exact r_sub [0, 1, 2, 3, 4, 5, 6, 7] rfl (T_X9_face_0 C E ht hn h))
def rm_X9_fault : Room := { frames := 0, cells := 0, slots := 0, locals := 0 }
def P_X9_fault_0 (Q : Int32 → HS → Prop) (v0 : Nat) (S : HS) : Prop := ob S v0 9 ∧ (∀ x1 : Int32, x1 = fI S v0 7 → (Q x1 S))
set_option maxRecDepth 20000 in
set_option maxHeartbeats 4000000 in
theorem T_X9_fault_0 {X : CX} {Q : Int32 → HS → Prop} (C : Cx X cX9_fault RX9 1 rm_X9_fault) (E : ReI X rm_X9_fault Q) (ht : (xh X).sig.returnType = (some .int)) (hn : (xh X).name = yX9_fault.name) {v0 : Nat} {S : HS} (h : P_X9_fault_0 Q v0 S) : WS X 1 0 0 0 [(0, .ref v0)] [] S := by
  refine r_aload_n (pc := 0) C dX9_fault_0 0 rfl ?_
  obtain ⟨o_v0, h⟩ := h
  refine r_geti (pc := 1) C fL_X9_67 dX9_fault_1 o_v0 ?_
  refine r_topi (fun x1 ex1 => ?_)
  have h := h x1 ex1
  exact r_iret (pc := 4) C E ht dX9_fault_4 (by decide) (by decide) h
def P_X9_fault (v0 : Nat) (Q : Int32 → HS → Prop) (S : HS) : Prop := P_X9_fault_0 Q v0 S
theorem c_X9_fault {l : Launch} {Ee : EE} {S : HS} {v0 : Nat} {Q : Int32 → HS → Prop} (h : P_X9_fault v0 Q S) : MI l yX9_fault cX9_fault 1 (some .int) rm_X9_fault Ee S [.ref v0] Q :=
  openI (by decide) (Nat.le_of_ble_eq_true rfl) (fun X C E ht hn hE hl => by subst hE; exact r_sub [0] rfl (T_X9_fault_0 C E ht hn h))
def rm_X9_putBytes : Room := { frames := 0, cells := 0, slots := 0, locals := 0 }
def P_X9_putBytes_49 (Q : HS → Prop) (X3 : Nat → Int32 → Int32 → HS → Prop) (v0 : Nat) (v1 : Int32) (v2 : Int32) (S : HS) : Prop := ∀ x1 : Int32, x1 = v2 + (-8 : Int32) → (X3 v0 v1 x1 S)
set_option maxRecDepth 20000 in
set_option maxHeartbeats 4000000 in
theorem T_X9_putBytes_49 {X : CX} {Q : HS → Prop} (C : Cx X cX9_putBytes RX9 3 rm_X9_putBytes) (E : ReV X rm_X9_putBytes Q) (ht : (xh X).sig.returnType = none) (hn : (xh X).name = yX9_putBytes.name) {X3 : Nat → Int32 → Int32 → HS → Prop} (hX3 : ∀ (v0 : Nat) (v1 : Int32) (v2 : Int32) (S : HS), X3 v0 v1 v2 S → WS X 3 0 0 3 [(0, .ref v0), (1, .int v1), (2, .int v2)] [] S) {v0 : Nat} {v1 : Int32} {v2 : Int32} {S : HS} (h : P_X9_putBytes_49 Q X3 v0 v1 v2 S) : WS X 3 0 0 49 [(0, .ref v0), (1, .int v1), (2, .int v2)] [] S := by
  obtain ⟨x1, ex1⟩ : ∃ z : Int32, z = v2 + (-8 : Int32) := ⟨_, rfl⟩
  have h := h x1 ex1
  refine r_iinc (pc := 49) C (v := x1) (lv' := [(2, .int x1), (0, .ref v0), (1, .int v1)]) dX9_putBytes_49 2 rfl ex1.symm (by decide) rfl ?_
  refine r_goto (pc := 52) C (tgt := 3) dX9_putBytes_52 (by decide) ?_
  exact r_sub [1, 2, 0] rfl (hX3 v0 v1 x1 S h)
def B_X9_putBytes_3 (Q : HS → Prop) (X3 : Nat → Int32 → Int32 → HS → Prop) (v0 : Nat) (v1 : Int32) (v2 : Int32) (S : HS) : Prop := ((v2 < 0) → (Q S)) ∧ ((¬ v2 < 0) → (ob S v0 9 ∧ (∀ x2 : Int32, x2 = fI S v0 1 → (((x2 < 0) → (P_X9_putBytes_49 Q X3 v0 v1 v2 S)) ∧ ((¬ x2 < 0) → (∀ x4 : Int32, x4 = fI S v0 1 → (∃ a5 : Nat, fR S v0 0 = some a5 ∧ (ob S a5 12 ∧ ((((nI (hN S a5)) ≤ x4) → (P_X9_putBytes_49 Q X3 v0 v1 v2 S)) ∧ ((¬ (nI (hN S a5)) ≤ x4) → (∃ a7 : Nat, fR S v0 0 = some a7 ∧ (∀ x8 : Int32, x8 = fI S v0 1 → (ob S a7 12 ∧ (∀ x10 : Int32, x10 = ((v1.toUInt32 >>> (v2.toUInt32 &&& Int32.toUInt32 31)).toInt32).toInt8.toInt32 → (vp_in x8 (hN S a7) ∧ (∀ S11 : HS, S11 = sI S a7 x8.toNatClampNeg (vp_nar .byte x10) → (∀ x12 : Int32, x12 = fI S11 v0 1 → (∀ x13 : Int32, x13 = x12 + (1 : Int32) → (∀ S14 : HS, S14 = sI S11 v0 1 x13 → (P_X9_putBytes_49 Q X3 v0 v1 v2 S14))))))))))))))))))))
def P_X9_putBytes_3 (Q : HS → Prop) (v0 : Nat) (v1 : Int32) (v2 : Int32) (S : HS) : Prop := ∀ X3 : Nat → Int32 → Int32 → HS → Prop, (∀ (v0 : Nat) (v1 : Int32) (v2 : Int32) (S : HS), B_X9_putBytes_3 Q X3 v0 v1 v2 S → X3 v0 v1 v2 S) → X3 v0 v1 v2 S
set_option maxRecDepth 20000 in
set_option maxHeartbeats 4000000 in
theorem TB_X9_putBytes_3 {X : CX} {Q : HS → Prop} (C : Cx X cX9_putBytes RX9 3 rm_X9_putBytes) (E : ReV X rm_X9_putBytes Q) (ht : (xh X).sig.returnType = none) (hn : (xh X).name = yX9_putBytes.name) {X3 : Nat → Int32 → Int32 → HS → Prop} (hX3 : ∀ (v0 : Nat) (v1 : Int32) (v2 : Int32) (S : HS), X3 v0 v1 v2 S → WS X 3 0 0 3 [(0, .ref v0), (1, .int v1), (2, .int v2)] [] S) {v0 : Nat} {v1 : Int32} {v2 : Int32} {S : HS} (h : B_X9_putBytes_3 Q X3 v0 v1 v2 S) : WS X 3 0 0 3 [(0, .ref v0), (1, .int v1), (2, .int v2)] [] S := by
  refine r_iload_n (pc := 3) C dX9_putBytes_3 2 rfl ?_
  refine r_if_lt (pc := 4) C (tgt := 55) dX9_putBytes_4 (by decide) (fun c1 => ?_) (fun c1 => ?_)
  · have h := h.1 c1
    exact r_vret (pc := 55) C E ht dX9_putBytes_55 (by decide) (by decide) h
  · have h := h.2 c1
    refine r_aload_n (pc := 7) C dX9_putBytes_7 0 rfl ?_
    obtain ⟨o_v0, h⟩ := h
    refine r_geti (pc := 8) C fL_X9_48 dX9_putBytes_8 o_v0 ?_
    refine r_topi (fun x2 ex2 => ?_)
    have h := h x2 ex2
    refine r_if_lt (pc := 11) C (tgt := 49) dX9_putBytes_11 (by decide) (fun c3 => ?_) (fun c3 => ?_)
    · have h := h.1 c3
      exact r_sub [0, 1, 2] rfl (T_X9_putBytes_49 C E ht hn hX3 h)
    · have h := h.2 c3
      refine r_aload_n (pc := 14) C dX9_putBytes_14 0 rfl ?_
      refine r_geti (pc := 15) C fL_X9_48 dX9_putBytes_15 o_v0 ?_
      refine r_topi (fun x4 ex4 => ?_)
      have h := h x4 ex4
      refine r_aload_n (pc := 18) C dX9_putBytes_18 0 rfl ?_
      obtain ⟨a5, ea5, h⟩ := h
      refine r_getr (pc := 19) C fL_X9_9 dX9_putBytes_19 o_v0 ea5 ?_
      obtain ⟨o_a5, h⟩ := h
      refine r_alen12 (pc := 22) C dX9_putBytes_22 o_a5 ?_
      refine r_icmp_ge (pc := 23) C (tgt := 49) dX9_putBytes_23 (by decide) (fun c6 => ?_) (fun c6 => ?_)
      · have h := h.1 c6
        exact r_sub [0, 1, 2] rfl (T_X9_putBytes_49 C E ht hn hX3 h)
      · have h := h.2 c6
        refine r_aload_n (pc := 26) C dX9_putBytes_26 0 rfl ?_
        obtain ⟨a7, ea7, h⟩ := h
        refine r_getr (pc := 27) C fL_X9_9 dX9_putBytes_27 o_v0 ea7 ?_
        refine r_aload_n (pc := 30) C dX9_putBytes_30 0 rfl ?_
        refine r_geti (pc := 31) C fL_X9_48 dX9_putBytes_31 o_v0 ?_
        refine r_topi (fun x8 ex8 => ?_)
        have h := h x8 ex8
        refine r_iload_n (pc := 34) C dX9_putBytes_34 1 rfl ?_
        refine r_iload_n (pc := 35) C dX9_putBytes_35 2 rfl ?_
        refine r_iushr (pc := 36) C dX9_putBytes_36 ?_
        refine r_i2b (pc := 37) C dX9_putBytes_37 ?_
        obtain ⟨o_a7, h⟩ := h
        refine r_topi (fun x10 ex10 => ?_)
        have h := h x10 ex10
        obtain ⟨i9, h⟩ := h
        refine r_bast (pc := 38) C dX9_putBytes_38 o_a7 i9 ?_
        refine r_heap (fun S11 eS11 => ?_)
        have h := h S11 eS11
        have o_a5 := ob_I eS11 o_a5
        have o_a7 := ob_I eS11 o_a7
        have o_v0 := ob_I eS11 o_v0
        refine r_aload_n (pc := 39) C dX9_putBytes_39 0 rfl ?_
        refine r_dup (pc := 40) C dX9_putBytes_40 rfl ?_
        refine r_geti (pc := 41) C fL_X9_48 dX9_putBytes_41 o_v0 ?_
        refine r_topi (fun x12 ex12 => ?_)
        have h := h x12 ex12
        refine r_iconst (pc := 44) C (v := (1 : Int32)) dX9_putBytes_44 (by decide) ?_
        refine r_iadd (pc := 45) C dX9_putBytes_45 ?_
        refine r_topi (fun x13 ex13 => ?_)
        have h := h x13 ex13
        refine r_puti (pc := 46) C pfL_X9_48 dX9_putBytes_46 o_v0 ?_
        refine r_heap (fun S14 eS14 => ?_)
        have h := h S14 eS14
        have o_a5 := ob_I eS14 o_a5
        have o_a7 := ob_I eS14 o_a7
        have o_v0 := ob_I eS14 o_v0
        exact r_sub [0, 1, 2] rfl (T_X9_putBytes_49 C E ht hn hX3 h)
theorem T_X9_putBytes_3 {X : CX} {Q : HS → Prop} (C : Cx X cX9_putBytes RX9 3 rm_X9_putBytes) (E : ReV X rm_X9_putBytes Q) (ht : (xh X).sig.returnType = none) (hn : (xh X).name = yX9_putBytes.name) {v0 : Nat} {v1 : Int32} {v2 : Int32} {S : HS} (h : P_X9_putBytes_3 Q v0 v1 v2 S) : WS X 3 0 0 3 [(0, .ref v0), (1, .int v1), (2, .int v2)] [] S :=
  h (fun v0 v1 v2 S => WS X 3 0 0 3 [(0, .ref v0), (1, .int v1), (2, .int v2)] [] S) (fun v0 v1 v2 S hh => TB_X9_putBytes_3 C E ht hn (fun v0 v1 v2 S z => z) hh)
def P_X9_putBytes_0 (Q : HS → Prop) (v0 : Nat) (v1 : Int32) (S : HS) : Prop := P_X9_putBytes_3 Q v0 v1 (24 : Int32) S
set_option maxRecDepth 20000 in
set_option maxHeartbeats 4000000 in
theorem T_X9_putBytes_0 {X : CX} {Q : HS → Prop} (C : Cx X cX9_putBytes RX9 3 rm_X9_putBytes) (E : ReV X rm_X9_putBytes Q) (ht : (xh X).sig.returnType = none) (hn : (xh X).name = yX9_putBytes.name) {v0 : Nat} {v1 : Int32} {S : HS} (h : P_X9_putBytes_0 Q v0 v1 S) : WS X 3 0 0 0 [(0, .ref v0), (1, .int v1)] [] S := by
  refine r_bipush (pc := 0) C (v := (24 : Int32)) dX9_putBytes_0 (by decide) ?_
  refine r_istore_n (pc := 2) C dX9_putBytes_2 rfl (by decide) (lv' := [(2, .int (24 : Int32)), (0, .ref v0), (1, .int v1)]) rfl ?_
  exact r_sub [1, 2, 0] rfl (T_X9_putBytes_3 C E ht hn h)
def P_X9_putBytes (v0 : Nat) (v1 : Int32) (Q : HS → Prop) (S : HS) : Prop := P_X9_putBytes_0 Q v0 v1 S
theorem c_X9_putBytes {l : Launch} {Ee : EE} {S : HS} {v0 : Nat} {v1 : Int32} {Q : HS → Prop} (h : P_X9_putBytes v0 v1 Q S) : MV l yX9_putBytes cX9_putBytes 3 none rm_X9_putBytes Ee S [.ref v0, .int v1] Q :=
  openV (by decide) (Nat.le_of_ble_eq_true rfl) (fun X C E ht hn hE hl => by subst hE; exact r_sub [0, 1] rfl (T_X9_putBytes_0 C E ht hn h))
def rm_X9_feed : Room := { frames := 1, cells := 0, slots := 0, locals := 22 }
def P_X9_feed_0 (Q : Int32 → HS → Prop) (v0 : Nat) (v1 : Int32) (v2 : Int32) (v3 : Int32) (v4 : Int32) (v5 : Int32) (S : HS) : Prop := ob S v0 9 ∧ (∀ x1 : Int32, x1 = fI S v0 1 → ((((x1 + (20 : Int32)) ≤ (900 : Int32)) → (P_X9_putBytes v0 v1 (fun S3 => Gr S S3 → (P_X9_putBytes v0 v2 (fun S6 => Gr S3 S6 → (P_X9_putBytes v0 v3 (fun S9 => Gr S6 S9 → (P_X9_putBytes v0 v4 (fun S12 => Gr S9 S12 → (P_X9_putBytes v0 v5 (fun S15 => Gr S12 S15 → (∀ x18 : Int32, x18 = fI S15 v0 1 → (Q x18 S15))) S12)) S9)) S6)) S3)) S)) ∧ ((¬ (x1 + (20 : Int32)) ≤ (900 : Int32)) → (Q (-1 : Int32) S))))
set_option maxRecDepth 20000 in
set_option maxHeartbeats 4000000 in
theorem T_X9_feed_0 {X : CX} {Q : Int32 → HS → Prop} (C : Cx X cX9_feed RX9 6 rm_X9_feed) (E : ReI X rm_X9_feed Q) (ht : (xh X).sig.returnType = (some .int)) (hn : (xh X).name = yX9_feed.name) {v0 : Nat} {v1 : Int32} {v2 : Int32} {v3 : Int32} {v4 : Int32} {v5 : Int32} {S : HS} (h : P_X9_feed_0 Q v0 v1 v2 v3 v4 v5 S) : WS X 6 0 0 0 [(0, .ref v0), (1, .int v1), (2, .int v2), (3, .int v3), (4, .int v4), (5, .int v5)] [] S := by
  refine r_aload_n (pc := 0) C dX9_feed_0 0 rfl ?_
  obtain ⟨o_v0, h⟩ := h
  refine r_geti (pc := 1) C fL_X9_48 dX9_feed_1 o_v0 ?_
  refine r_topi (fun x1 ex1 => ?_)
  have h := h x1 ex1
  refine r_bipush (pc := 4) C (v := (20 : Int32)) dX9_feed_4 (by decide) ?_
  refine r_iadd (pc := 6) C dX9_feed_6 ?_
  refine r_sipush (pc := 7) C (v := (900 : Int32)) dX9_feed_7 (by decide) ?_
  refine r_icmp_le (pc := 10) C (tgt := 15) dX9_feed_10 (by decide) (fun c2 => ?_) (fun c2 => ?_)
  · have h := h.1 c2
    refine r_aload_n (pc := 15) C dX9_feed_15 0 rfl ?_
    refine r_iload_n (pc := 16) C dX9_feed_16 1 rfl ?_
    refine r_callVv0 (pc := 17) C (rest := []) (a := v0) o_v0 [.int v1] yV_X9_putBytes g_422 (c_X9_putBytes h) dX9_feed_17 rfl rfl (Nat.le_of_ble_eq_true rfl) ⟨by decide, by decide⟩ ⟨by decide, by decide⟩ ⟨rfl, rfl⟩ (fun S3 h g4 => ?_)
    have h := h g4
    have o_v0 := gr_ob g4 o_v0
    refine r_aload_n (pc := 20) C dX9_feed_20 0 rfl ?_
    refine r_iload_n (pc := 21) C dX9_feed_21 2 rfl ?_
    refine r_callVv0 (pc := 22) C (rest := []) (a := v0) o_v0 [.int v2] yV_X9_putBytes g_422 (c_X9_putBytes h) dX9_feed_22 rfl rfl (Nat.le_of_ble_eq_true rfl) ⟨by decide, by decide⟩ ⟨by decide, by decide⟩ ⟨rfl, rfl⟩ (fun S6 h g7 => ?_)
    have h := h g7
    have o_v0 := gr_ob g7 o_v0
    refine r_aload_n (pc := 25) C dX9_feed_25 0 rfl ?_
    refine r_iload_n (pc := 26) C dX9_feed_26 3 rfl ?_
    refine r_callVv0 (pc := 27) C (rest := []) (a := v0) o_v0 [.int v3] yV_X9_putBytes g_422 (c_X9_putBytes h) dX9_feed_27 rfl rfl (Nat.le_of_ble_eq_true rfl) ⟨by decide, by decide⟩ ⟨by decide, by decide⟩ ⟨rfl, rfl⟩ (fun S9 h g10 => ?_)
    have h := h g10
    have o_v0 := gr_ob g10 o_v0
    refine r_aload_n (pc := 30) C dX9_feed_30 0 rfl ?_
    refine r_iload (pc := 31) C dX9_feed_31 4 rfl ?_
    refine r_callVv0 (pc := 33) C (rest := []) (a := v0) o_v0 [.int v4] yV_X9_putBytes g_422 (c_X9_putBytes h) dX9_feed_33 rfl rfl (Nat.le_of_ble_eq_true rfl) ⟨by decide, by decide⟩ ⟨by decide, by decide⟩ ⟨rfl, rfl⟩ (fun S12 h g13 => ?_)
    have h := h g13
    have o_v0 := gr_ob g13 o_v0
    refine r_aload_n (pc := 36) C dX9_feed_36 0 rfl ?_
    refine r_iload (pc := 37) C dX9_feed_37 5 rfl ?_
    refine r_callVv0 (pc := 39) C (rest := []) (a := v0) o_v0 [.int v5] yV_X9_putBytes g_422 (c_X9_putBytes h) dX9_feed_39 rfl rfl (Nat.le_of_ble_eq_true rfl) ⟨by decide, by decide⟩ ⟨by decide, by decide⟩ ⟨rfl, rfl⟩ (fun S15 h g16 => ?_)
    have h := h g16
    have o_v0 := gr_ob g16 o_v0
    refine r_aload_n (pc := 42) C dX9_feed_42 0 rfl ?_
    refine r_geti (pc := 43) C fL_X9_48 dX9_feed_43 o_v0 ?_
    refine r_topi (fun x18 ex18 => ?_)
    have h := h x18 ex18
    exact r_iret (pc := 46) C E ht dX9_feed_46 (by decide) (by decide) h
  · have h := h.2 c2
    refine r_iconst (pc := 13) C (v := (-1 : Int32)) dX9_feed_13 (by decide) ?_
    exact r_iret (pc := 14) C E ht dX9_feed_14 (by decide) (by decide) h
def P_X9_feed (v0 : Nat) (v1 : Int32) (v2 : Int32) (v3 : Int32) (v4 : Int32) (v5 : Int32) (Q : Int32 → HS → Prop) (S : HS) : Prop := P_X9_feed_0 Q v0 v1 v2 v3 v4 v5 S
theorem c_X9_feed {l : Launch} {Ee : EE} {S : HS} {v0 : Nat} {v1 : Int32} {v2 : Int32} {v3 : Int32} {v4 : Int32} {v5 : Int32} {Q : Int32 → HS → Prop} (h : P_X9_feed v0 v1 v2 v3 v4 v5 Q S) : MI l yX9_feed cX9_feed 6 (some .int) rm_X9_feed Ee S [.ref v0, .int v1, .int v2, .int v3, .int v4, .int v5] Q :=
  openI (by decide) (Nat.le_of_ble_eq_true rfl) (fun X C E ht hn hE hl => by subst hE; exact r_sub [0, 1, 2, 3, 4, 5] rfl (T_X9_feed_0 C E ht hn h))
def rm_X9_leeTrouble : Room := { frames := 3, cells := 0, slots := 0, locals := 72 }
def P_X9_leeTrouble_0 (Q : Int32 → HS → Prop) (v0 : Nat) (v1 : Int32) (v2 : Int32) (v3 : Int32) (v4 : Int32) (v5 : Int32) (v6 : Int32) (S : HS) : Prop := ((v1 = v2) → (Q (1 : Int32) S)) ∧ ((¬ v1 = v2) → (ob S v0 9 ∧ (∃ a2 : Nat, fR S v0 2 = some a2 ∧ (ob S a2 8 ∧ (P_X8_hasWalker a2 v1 (fun x5 S3 => Gr S S3 → bl x5 → (((x5 = 0) → (Q (1 : Int32) S3)) ∧ ((¬ x5 = 0) → (∃ a7 : Nat, fR S3 v0 2 = some a7 ∧ (ob S3 a7 8 ∧ (P_X8_hasWalker a7 v2 (fun x10 S8 => Gr S3 S8 → bl x10 → (((¬ x10 = 0) → (P_X9_legTrouble v0 v1 v3 v4 v5 v6 (fun x14 S12 => Gr S8 S12 → (((x14 = 0) → (∃ a16 : Nat, fR S12 v0 2 = some a16 ∧ (ob S12 a16 8 ∧ (∃ a17 : Nat, fR S12 a16 9 = some a17 ∧ (ob S12 a17 19 ∧ (vp_in v2 (hN S12 a17) ∧ ∃ a19 : Nat, fR S12 a17 v2.toNatClampNeg = some a19 ∧ (ob S12 a19 6 ∧ (P_X6_canGo a19 v6 (fun x22 S20 => Gr S12 S20 → bl x22 → (((x22 = 0) → (Q (2 : Int32) S20)) ∧ ((¬ x22 = 0) → (Q (0 : Int32) S20)))) S12)))))))) ∧ ((¬ x14 = 0) → (Q x14 S12)))) S8)) ∧ ((x10 = 0) → (Q (1 : Int32) S8)))) S3)))))) S)))))
set_option maxRecDepth 20000 in
set_option maxHeartbeats 4000000 in
theorem T_X9_leeTrouble_0 {X : CX} {Q : Int32 → HS → Prop} (C : Cx X cX9_leeTrouble RX9 8 rm_X9_leeTrouble) (E : ReI X rm_X9_leeTrouble Q) (ht : (xh X).sig.returnType = (some .int)) (hn : (xh X).name = yX9_leeTrouble.name) {v0 : Nat} {v1 : Int32} {v2 : Int32} {v3 : Int32} {v4 : Int32} {v5 : Int32} {v6 : Int32} {S : HS} (h : P_X9_leeTrouble_0 Q v0 v1 v2 v3 v4 v5 v6 S) : WS X 8 0 0 0 [(0, .ref v0), (1, .int v1), (2, .int v2), (3, .int v3), (4, .int v4), (5, .int v5), (6, .int v6)] [] S := by
  refine r_iload_n (pc := 0) C dX9_leeTrouble_0 1 rfl ?_
  refine r_iload_n (pc := 1) C dX9_leeTrouble_1 2 rfl ?_
  refine r_icmp_eq (pc := 2) C (tgt := 27) dX9_leeTrouble_2 (by decide) (fun c1 => ?_) (fun c1 => ?_)
  · have h := h.1 c1
    refine r_iconst (pc := 27) C (v := (1 : Int32)) dX9_leeTrouble_27 (by decide) ?_
    exact r_iret (pc := 28) C E ht dX9_leeTrouble_28 (by decide) (by decide) h
  · have h := h.2 c1
    refine r_aload_n (pc := 5) C dX9_leeTrouble_5 0 rfl ?_
    obtain ⟨o_v0, h⟩ := h
    obtain ⟨a2, ea2, h⟩ := h
    refine r_getr (pc := 6) C fL_X9_16 dX9_leeTrouble_6 o_v0 ea2 ?_
    refine r_iload_n (pc := 9) C dX9_leeTrouble_9 1 rfl ?_
    obtain ⟨o_a2, h⟩ := h
    refine r_callVi0 (pc := 10) C (rest := []) (a := a2) o_a2 [.int v1] yV_X8_hasWalker g_664 (c_X8_hasWalker h) dX9_leeTrouble_10 rfl rfl (Nat.le_of_ble_eq_true rfl) ⟨by decide, by decide⟩ ⟨by decide, by decide⟩ ⟨rfl, rfl⟩ (fun x5 S3 h g4 => ?_)
    have bx5 := h.1
    have h := h.2 g4 bx5
    have o_a2 := gr_ob g4 o_a2
    have o_v0 := gr_ob g4 o_v0
    refine r_if_eq (pc := 13) C (tgt := 27) dX9_leeTrouble_13 (by decide) (fun c6 => ?_) (fun c6 => ?_)
    · have h := h.1 c6
      refine r_iconst (pc := 27) C (v := (1 : Int32)) dX9_leeTrouble_27 (by decide) ?_
      exact r_iret (pc := 28) C E ht dX9_leeTrouble_28 (by decide) (by decide) h
    · have h := h.2 c6
      refine r_aload_n (pc := 16) C dX9_leeTrouble_16 0 rfl ?_
      obtain ⟨a7, ea7, h⟩ := h
      refine r_getr (pc := 17) C fL_X9_16 dX9_leeTrouble_17 o_v0 ea7 ?_
      refine r_iload_n (pc := 20) C dX9_leeTrouble_20 2 rfl ?_
      obtain ⟨o_a7, h⟩ := h
      refine r_callVi0 (pc := 21) C (rest := []) (a := a7) o_a7 [.int v2] yV_X8_hasWalker g_664 (c_X8_hasWalker h) dX9_leeTrouble_21 rfl rfl (Nat.le_of_ble_eq_true rfl) ⟨by decide, by decide⟩ ⟨by decide, by decide⟩ ⟨rfl, rfl⟩ (fun x10 S8 h g9 => ?_)
      have bx10 := h.1
      have h := h.2 g9 bx10
      have o_a2 := gr_ob g9 o_a2
      have o_a7 := gr_ob g9 o_a7
      have o_v0 := gr_ob g9 o_v0
      refine r_if_ne (pc := 24) C (tgt := 29) dX9_leeTrouble_24 (by decide) (fun c11 => ?_) (fun c11 => ?_)
      · have h := h.1 c11
        refine r_aload_n (pc := 29) C dX9_leeTrouble_29 0 rfl ?_
        refine r_iload_n (pc := 30) C dX9_leeTrouble_30 1 rfl ?_
        refine r_iload_n (pc := 31) C dX9_leeTrouble_31 3 rfl ?_
        refine r_iload (pc := 32) C dX9_leeTrouble_32 4 rfl ?_
        refine r_iload (pc := 34) C dX9_leeTrouble_34 5 rfl ?_
        refine r_iload (pc := 36) C dX9_leeTrouble_36 6 rfl ?_
        refine r_callVi0 (pc := 38) C (rest := []) (a := v0) o_v0 [.int v1, .int v3, .int v4, .int v5, .int v6] yV_X9_legTrouble g_656 (c_X9_legTrouble h) dX9_leeTrouble_38 rfl rfl (Nat.le_of_ble_eq_true rfl) ⟨by decide, by decide⟩ ⟨by decide, by decide⟩ ⟨rfl, rfl⟩ (fun x14 S12 h g13 => ?_)
        have h := h g13
        have o_a2 := gr_ob g13 o_a2
        have o_a7 := gr_ob g13 o_a7
        have o_v0 := gr_ob g13 o_v0
        refine r_istore (pc := 41) C dX9_leeTrouble_41 (by decide) (lv' := [(7, .int x14), (0, .ref v0), (1, .int v1), (2, .int v2), (3, .int v3), (4, .int v4), (5, .int v5), (6, .int v6)]) rfl ?_
        refine r_iload (pc := 43) C dX9_leeTrouble_43 0 rfl ?_
        refine r_if_eq (pc := 45) C (tgt := 51) dX9_leeTrouble_45 (by decide) (fun c15 => ?_) (fun c15 => ?_)
        · have h := h.1 c15
          refine r_aload_n (pc := 51) C dX9_leeTrouble_51 1 rfl ?_
          obtain ⟨a16, ea16, h⟩ := h
          refine r_getr (pc := 52) C fL_X9_16 dX9_leeTrouble_52 o_v0 ea16 ?_
          obtain ⟨o_a16, h⟩ := h
          obtain ⟨a17, ea17, h⟩ := h
          refine r_getr (pc := 55) C fL_X9_108 dX9_leeTrouble_55 o_a16 ea17 ?_
          refine r_iload_n (pc := 58) C dX9_leeTrouble_58 3 rfl ?_
          obtain ⟨o_a17, h⟩ := h
          obtain ⟨i18, a19, ea19, h⟩ := h
          refine r_aald19 (pc := 59) C dX9_leeTrouble_59 o_a17 i18 ea19 ?_
          refine r_iload (pc := 60) C dX9_leeTrouble_60 7 rfl ?_
          obtain ⟨o_a19, h⟩ := h
          refine r_callVi0 (pc := 62) C (rest := []) (a := a19) o_a19 [.int v6] yV_X6_canGo g_679 (c_X6_canGo h) dX9_leeTrouble_62 rfl rfl (Nat.le_of_ble_eq_true rfl) ⟨by decide, by decide⟩ ⟨by decide, by decide⟩ ⟨rfl, rfl⟩ (fun x22 S20 h g21 => ?_)
          have bx22 := h.1
          have h := h.2 g21 bx22
          have o_a16 := gr_ob g21 o_a16
          have o_a17 := gr_ob g21 o_a17
          have o_a19 := gr_ob g21 o_a19
          have o_a2 := gr_ob g21 o_a2
          have o_a7 := gr_ob g21 o_a7
          have o_v0 := gr_ob g21 o_v0
          refine r_if_eq (pc := 65) C (tgt := 72) dX9_leeTrouble_65 (by decide) (fun c23 => ?_) (fun c23 => ?_)
          · have h := h.1 c23
            refine r_iconst (pc := 72) C (v := (2 : Int32)) dX9_leeTrouble_72 (by decide) ?_
            exact r_iret (pc := 73) C E ht dX9_leeTrouble_73 (by decide) (by decide) h
          · have h := h.2 c23
            refine r_iconst (pc := 68) C (v := (0 : Int32)) dX9_leeTrouble_68 (by decide) ?_
            refine r_goto (pc := 69) C (tgt := 73) dX9_leeTrouble_69 (by decide) ?_
            exact r_iret (pc := 73) C E ht dX9_leeTrouble_73 (by decide) (by decide) h
        · have h := h.2 c15
          refine r_iload (pc := 48) C dX9_leeTrouble_48 0 rfl ?_
          exact r_iret (pc := 50) C E ht dX9_leeTrouble_50 (by decide) (by decide) h
      · have h := h.2 c11
        refine r_iconst (pc := 27) C (v := (1 : Int32)) dX9_leeTrouble_27 (by decide) ?_
        exact r_iret (pc := 28) C E ht dX9_leeTrouble_28 (by decide) (by decide) h
def P_X9_leeTrouble (v0 : Nat) (v1 : Int32) (v2 : Int32) (v3 : Int32) (v4 : Int32) (v5 : Int32) (v6 : Int32) (Q : Int32 → HS → Prop) (S : HS) : Prop := P_X9_leeTrouble_0 Q v0 v1 v2 v3 v4 v5 v6 S
theorem c_X9_leeTrouble {l : Launch} {Ee : EE} {S : HS} {v0 : Nat} {v1 : Int32} {v2 : Int32} {v3 : Int32} {v4 : Int32} {v5 : Int32} {v6 : Int32} {Q : Int32 → HS → Prop} (h : P_X9_leeTrouble v0 v1 v2 v3 v4 v5 v6 Q S) : MI l yX9_leeTrouble cX9_leeTrouble 8 (some .int) rm_X9_leeTrouble Ee S [.ref v0, .int v1, .int v2, .int v3, .int v4, .int v5, .int v6] Q :=
  openI (by decide) (Nat.le_of_ble_eq_true rfl) (fun X C E ht hn hE hl => by subst hE; exact r_sub [0, 1, 2, 3, 4, 5, 6] rfl (T_X9_leeTrouble_0 C E ht hn h))
end
section
def rm_X9_first : Room := { frames := 4, cells := 0, slots := 0, locals := 99 }
def P_X9_first_0 (Q : Int32 → HS → Prop) (v0 : Nat) (v1 : Int32) (v2 : Int32) (v3 : Int32) (v4 : Int32) (v5 : Int32) (v6 : Int32) (S : HS) : Prop := ob S v0 9 ∧ (P_X9_leeTrouble v0 v1 v2 v3 v4 v5 v6 (fun x3 S1 => Gr S S1 → (P_X9_refusedBy v0 x3 (fun x6 S4 => Gr S1 S4 → bl x6 → (((x6 = 0) → (∃ a8 : Nat, fR S4 v0 4 = some a8 ∧ (∃ a9 : Nat, fR S4 v0 2 = some a9 ∧ (ob S4 a9 8 ∧ (∃ a10 : Nat, fR S4 a9 8 = some a10 ∧ (ob S4 a10 18 ∧ (vp_in v3 (hN S4 a10) ∧ ∃ a12 : Nat, fR S4 a10 v3.toNatClampNeg = some a12 ∧ (∃ a13 : Nat, fR S4 v0 2 = some a13 ∧ (ob S4 a13 8 ∧ (∃ a14 : Nat, fR S4 a13 6 = some a14 ∧ (ob S4 a14 17 ∧ (vp_in v5 (hN S4 a14) ∧ ∃ a16 : Nat, fR S4 a14 v5.toNatClampNeg = some a16 ∧ (ob S4 a8 1 ∧ (P_X1_lay a8 a12 v4 a16 v6 (fun S17 => Gr S4 S17 → (∃ a20 : Nat, fR S17 v0 4 = some a20 ∧ (∃ a21 : Nat, fR S17 v0 2 = some a21 ∧ (ob S17 a21 8 ∧ (∃ a22 : Nat, fR S17 a21 9 = some a22 ∧ (ob S17 a22 19 ∧ (vp_in v1 (hN S17 a22) ∧ ∃ a24 : Nat, fR S17 a22 v1.toNatClampNeg = some a24 ∧ (∃ a25 : Nat, fR S17 v0 2 = some a25 ∧ (ob S17 a25 8 ∧ (∃ a26 : Nat, fR S17 a25 9 = some a26 ∧ (ob S17 a26 19 ∧ (vp_in v2 (hN S17 a26) ∧ ∃ a28 : Nat, fR S17 a26 v2.toNatClampNeg = some a28 ∧ (ob S17 a20 1 ∧ (P_X1_wetInLee a20 a24 a28 (fun x31 S29 => Gr S17 S29 → (∃ a32 : Nat, fR S29 v0 4 = some a32 ∧ (∃ a33 : Nat, fR S29 v0 2 = some a33 ∧ (ob S29 a33 8 ∧ (∃ a34 : Nat, fR S29 a33 9 = some a34 ∧ (ob S29 a34 19 ∧ (vp_in v2 (hN S29 a34) ∧ ∃ a36 : Nat, fR S29 a34 v2.toNatClampNeg = some a36 ∧ (∃ a37 : Nat, fR S29 v0 2 = some a37 ∧ (ob S29 a37 8 ∧ (∃ a38 : Nat, fR S29 a37 9 = some a38 ∧ (ob S29 a38 19 ∧ (vp_in v1 (hN S29 a38) ∧ ∃ a40 : Nat, fR S29 a38 v1.toNatClampNeg = some a40 ∧ (ob S29 a32 1 ∧ (P_X1_wetInLee a32 a36 a40 (fun x43 S41 => Gr S29 S41 → (((¬ (lg_cmp x31 x43) = 0) → (((0 ≤ (lg_cmp x31 x43)) → (Q (1 : Int32) S41)) ∧ ((¬ 0 ≤ (lg_cmp x31 x43)) → (Q (0 : Int32) S41)))) ∧ (((lg_cmp x31 x43) = 0) → (Q (-2 : Int32) S41)))) S29)))))))))))))) S17)))))))))))))) S4)))))))))))))) ∧ ((¬ x6 = 0) → (Q (-1 : Int32) S4)))) S1)) S)
set_option maxRecDepth 20000 in
set_option maxHeartbeats 4000000 in
theorem T_X9_first_0 {X : CX} {Q : Int32 → HS → Prop} (C : Cx X cX9_first RX9 11 rm_X9_first) (E : ReI X rm_X9_first Q) (ht : (xh X).sig.returnType = (some .int)) (hn : (xh X).name = yX9_first.name) {v0 : Nat} {v1 : Int32} {v2 : Int32} {v3 : Int32} {v4 : Int32} {v5 : Int32} {v6 : Int32} {S : HS} (h : P_X9_first_0 Q v0 v1 v2 v3 v4 v5 v6 S) : WS X 11 0 0 0 [(0, .ref v0), (1, .int v1), (2, .int v2), (3, .int v3), (4, .int v4), (5, .int v5), (6, .int v6)] [] S := by
  refine r_aload_n (pc := 0) C dX9_first_0 0 rfl ?_
  refine r_aload_n (pc := 1) C dX9_first_1 0 rfl ?_
  refine r_iload_n (pc := 2) C dX9_first_2 1 rfl ?_
  refine r_iload_n (pc := 3) C dX9_first_3 2 rfl ?_
  refine r_iload_n (pc := 4) C dX9_first_4 3 rfl ?_
  refine r_iload (pc := 5) C dX9_first_5 4 rfl ?_
  refine r_iload (pc := 7) C dX9_first_7 5 rfl ?_
  refine r_iload (pc := 9) C dX9_first_9 6 rfl ?_
  obtain ⟨o_v0, h⟩ := h
  refine r_callVi0 (pc := 11) C (rest := [.ref v0]) (a := v0) o_v0 [.int v1, .int v2, .int v3, .int v4, .int v5, .int v6] yV_X9_leeTrouble g_801 (c_X9_leeTrouble h) dX9_first_11 rfl rfl (Nat.le_of_ble_eq_true rfl) ⟨by decide, by decide⟩ ⟨by decide, by decide⟩ ⟨rfl, rfl⟩ (fun x3 S1 h g2 => ?_)
  have h := h g2
  have o_v0 := gr_ob g2 o_v0
  refine r_callVi0 (pc := 14) C (rest := []) (a := v0) o_v0 [.int x3] yV_X9_refusedBy g_683 (c_X9_refusedBy h) dX9_first_14 rfl rfl (Nat.le_of_ble_eq_true rfl) ⟨by decide, by decide⟩ ⟨by decide, by decide⟩ ⟨rfl, rfl⟩ (fun x6 S4 h g5 => ?_)
  have bx6 := h.1
  have h := h.2 g5 bx6
  have o_v0 := gr_ob g5 o_v0
  refine r_if_eq (pc := 17) C (tgt := 22) dX9_first_17 (by decide) (fun c7 => ?_) (fun c7 => ?_)
  · have h := h.1 c7
    refine r_aload_n (pc := 22) C dX9_first_22 0 rfl ?_
    obtain ⟨a8, ea8, h⟩ := h
    refine r_getr (pc := 23) C fL_X9_30 dX9_first_23 o_v0 ea8 ?_
    refine r_aload_n (pc := 26) C dX9_first_26 0 rfl ?_
    obtain ⟨a9, ea9, h⟩ := h
    refine r_getr (pc := 27) C fL_X9_16 dX9_first_27 o_v0 ea9 ?_
    obtain ⟨o_a9, h⟩ := h
    obtain ⟨a10, ea10, h⟩ := h
    refine r_getr (pc := 30) C fL_X9_112 dX9_first_30 o_a9 ea10 ?_
    refine r_iload_n (pc := 33) C dX9_first_33 3 rfl ?_
    obtain ⟨o_a10, h⟩ := h
    obtain ⟨i11, a12, ea12, h⟩ := h
    refine r_aald18 (pc := 34) C dX9_first_34 o_a10 i11 ea12 ?_
    refine r_iload (pc := 35) C dX9_first_35 4 rfl ?_
    refine r_aload_n (pc := 37) C dX9_first_37 0 rfl ?_
    obtain ⟨a13, ea13, h⟩ := h
    refine r_getr (pc := 38) C fL_X9_16 dX9_first_38 o_v0 ea13 ?_
    obtain ⟨o_a13, h⟩ := h
    obtain ⟨a14, ea14, h⟩ := h
    refine r_getr (pc := 41) C fL_X9_116 dX9_first_41 o_a13 ea14 ?_
    refine r_iload (pc := 44) C dX9_first_44 5 rfl ?_
    obtain ⟨o_a14, h⟩ := h
    obtain ⟨i15, a16, ea16, h⟩ := h
    refine r_aald17 (pc := 46) C dX9_first_46 o_a14 i15 ea16 ?_
    refine r_iload (pc := 47) C dX9_first_47 6 rfl ?_
    obtain ⟨o_a8, h⟩ := h
    refine r_callVv0 (pc := 49) C (rest := []) (a := a8) o_a8 [.ref a12, .int v4, .ref a16, .int v6] yV_X1_lay g_754 (c_X1_lay h) dX9_first_49 rfl rfl (Nat.le_of_ble_eq_true rfl) ⟨by decide, by decide⟩ ⟨by decide, by decide⟩ ⟨rfl, rfl⟩ (fun S17 h g18 => ?_)
    have h := h g18
    have o_a10 := gr_ob g18 o_a10
    have o_a13 := gr_ob g18 o_a13
    have o_a14 := gr_ob g18 o_a14
    have o_a8 := gr_ob g18 o_a8
    have o_a9 := gr_ob g18 o_a9
    have o_v0 := gr_ob g18 o_v0
    refine r_aload_n (pc := 52) C dX9_first_52 0 rfl ?_
    obtain ⟨a20, ea20, h⟩ := h
    refine r_getr (pc := 53) C fL_X9_30 dX9_first_53 o_v0 ea20 ?_
    refine r_aload_n (pc := 56) C dX9_first_56 0 rfl ?_
    obtain ⟨a21, ea21, h⟩ := h
    refine r_getr (pc := 57) C fL_X9_16 dX9_first_57 o_v0 ea21 ?_
    obtain ⟨o_a21, h⟩ := h
    obtain ⟨a22, ea22, h⟩ := h
    refine r_getr (pc := 60) C fL_X9_108 dX9_first_60 o_a21 ea22 ?_
    refine r_iload_n (pc := 63) C dX9_first_63 1 rfl ?_
    obtain ⟨o_a22, h⟩ := h
    obtain ⟨i23, a24, ea24, h⟩ := h
    refine r_aald19 (pc := 64) C dX9_first_64 o_a22 i23 ea24 ?_
    refine r_aload_n (pc := 65) C dX9_first_65 0 rfl ?_
    obtain ⟨a25, ea25, h⟩ := h
    refine r_getr (pc := 66) C fL_X9_16 dX9_first_66 o_v0 ea25 ?_
    obtain ⟨o_a25, h⟩ := h
    obtain ⟨a26, ea26, h⟩ := h
    refine r_getr (pc := 69) C fL_X9_108 dX9_first_69 o_a25 ea26 ?_
    refine r_iload_n (pc := 72) C dX9_first_72 2 rfl ?_
    obtain ⟨o_a26, h⟩ := h
    obtain ⟨i27, a28, ea28, h⟩ := h
    refine r_aald19 (pc := 73) C dX9_first_73 o_a26 i27 ea28 ?_
    obtain ⟨o_a20, h⟩ := h
    refine r_callVl0 (pc := 74) C (rest := []) (a := a20) o_a20 [.ref a24, .ref a28] yV_X1_wetInLee g_805 (c_X1_wetInLee h) dX9_first_74 rfl rfl (Nat.le_of_ble_eq_true rfl) ⟨by decide, by decide⟩ ⟨by decide, by decide⟩ ⟨rfl, rfl⟩ (fun x31 S29 h g30 => ?_)
    have h := h g30
    have o_a10 := gr_ob g30 o_a10
    have o_a13 := gr_ob g30 o_a13
    have o_a14 := gr_ob g30 o_a14
    have o_a20 := gr_ob g30 o_a20
    have o_a21 := gr_ob g30 o_a21
    have o_a22 := gr_ob g30 o_a22
    have o_a25 := gr_ob g30 o_a25
    have o_a26 := gr_ob g30 o_a26
    have o_a8 := gr_ob g30 o_a8
    have o_a9 := gr_ob g30 o_a9
    have o_v0 := gr_ob g30 o_v0
    refine r_lstore (pc := 77) C dX9_first_77 (by decide) (lv' := [(7, .long x31), (0, .ref v0), (1, .int v1), (2, .int v2), (3, .int v3), (4, .int v4), (5, .int v5), (6, .int v6)]) rfl ?_
    refine r_aload_n (pc := 79) C dX9_first_79 1 rfl ?_
    obtain ⟨a32, ea32, h⟩ := h
    refine r_getr (pc := 80) C fL_X9_30 dX9_first_80 o_v0 ea32 ?_
    refine r_aload_n (pc := 83) C dX9_first_83 1 rfl ?_
    obtain ⟨a33, ea33, h⟩ := h
    refine r_getr (pc := 84) C fL_X9_16 dX9_first_84 o_v0 ea33 ?_
    obtain ⟨o_a33, h⟩ := h
    obtain ⟨a34, ea34, h⟩ := h
    refine r_getr (pc := 87) C fL_X9_108 dX9_first_87 o_a33 ea34 ?_
    refine r_iload_n (pc := 90) C dX9_first_90 3 rfl ?_
    obtain ⟨o_a34, h⟩ := h
    obtain ⟨i35, a36, ea36, h⟩ := h
    refine r_aald19 (pc := 91) C dX9_first_91 o_a34 i35 ea36 ?_
    refine r_aload_n (pc := 92) C dX9_first_92 1 rfl ?_
    obtain ⟨a37, ea37, h⟩ := h
    refine r_getr (pc := 93) C fL_X9_16 dX9_first_93 o_v0 ea37 ?_
    obtain ⟨o_a37, h⟩ := h
    obtain ⟨a38, ea38, h⟩ := h
    refine r_getr (pc := 96) C fL_X9_108 dX9_first_96 o_a37 ea38 ?_
    refine r_iload_n (pc := 99) C dX9_first_99 2 rfl ?_
    obtain ⟨o_a38, h⟩ := h
    obtain ⟨i39, a40, ea40, h⟩ := h
    refine r_aald19 (pc := 100) C dX9_first_100 o_a38 i39 ea40 ?_
    obtain ⟨o_a32, h⟩ := h
    refine r_callVl0 (pc := 101) C (rest := []) (a := a32) o_a32 [.ref a36, .ref a40] yV_X1_wetInLee g_805 (c_X1_wetInLee h) dX9_first_101 rfl rfl (Nat.le_of_ble_eq_true rfl) ⟨by decide, by decide⟩ ⟨by decide, by decide⟩ ⟨rfl, rfl⟩ (fun x43 S41 h g42 => ?_)
    have h := h g42
    have o_a10 := gr_ob g42 o_a10
    have o_a13 := gr_ob g42 o_a13
    have o_a14 := gr_ob g42 o_a14
    have o_a20 := gr_ob g42 o_a20
    have o_a21 := gr_ob g42 o_a21
    have o_a22 := gr_ob g42 o_a22
    have o_a25 := gr_ob g42 o_a25
    have o_a26 := gr_ob g42 o_a26
    have o_a32 := gr_ob g42 o_a32
    have o_a33 := gr_ob g42 o_a33
    have o_a34 := gr_ob g42 o_a34
    have o_a37 := gr_ob g42 o_a37
    have o_a38 := gr_ob g42 o_a38
    have o_a8 := gr_ob g42 o_a8
    have o_a9 := gr_ob g42 o_a9
    have o_v0 := gr_ob g42 o_v0
    refine r_lstore (pc := 104) C dX9_first_104 (by decide) (lv' := [(9, .long x43), (7, .long x31), (0, .ref v0), (1, .int v1), (2, .int v2), (3, .int v3), (4, .int v4), (5, .int v5), (6, .int v6)]) rfl ?_
    refine r_lload (pc := 106) C dX9_first_106 1 rfl ?_
    refine r_lload (pc := 108) C dX9_first_108 0 rfl ?_
    refine r_lcmp (pc := 110) C dX9_first_110 ?_
    refine r_if_ne (pc := 111) C (tgt := 117) dX9_first_111 (by decide) (fun c44 => ?_) (fun c44 => ?_)
    · have h := h.1 c44
      refine r_lload (pc := 117) C dX9_first_117 1 rfl ?_
      refine r_lload (pc := 119) C dX9_first_119 0 rfl ?_
      refine r_lcmp (pc := 121) C dX9_first_121 ?_
      refine r_if_ge (pc := 122) C (tgt := 129) dX9_first_122 (by decide) (fun c45 => ?_) (fun c45 => ?_)
      · have h := h.1 c45
        refine r_iconst (pc := 129) C (v := (1 : Int32)) dX9_first_129 (by decide) ?_
        exact r_iret (pc := 130) C E ht dX9_first_130 (by decide) (by decide) h
      · have h := h.2 c45
        refine r_iconst (pc := 125) C (v := (0 : Int32)) dX9_first_125 (by decide) ?_
        refine r_goto (pc := 126) C (tgt := 130) dX9_first_126 (by decide) ?_
        exact r_iret (pc := 130) C E ht dX9_first_130 (by decide) (by decide) h
    · have h := h.2 c44
      refine r_bipush (pc := 114) C (v := (-2 : Int32)) dX9_first_114 (by decide) ?_
      exact r_iret (pc := 116) C E ht dX9_first_116 (by decide) (by decide) h
  · have h := h.2 c7
    refine r_iconst (pc := 20) C (v := (-1 : Int32)) dX9_first_20 (by decide) ?_
    exact r_iret (pc := 21) C E ht dX9_first_21 (by decide) (by decide) h
def P_X9_first (v0 : Nat) (v1 : Int32) (v2 : Int32) (v3 : Int32) (v4 : Int32) (v5 : Int32) (v6 : Int32) (Q : Int32 → HS → Prop) (S : HS) : Prop := P_X9_first_0 Q v0 v1 v2 v3 v4 v5 v6 S
theorem c_X9_first {l : Launch} {Ee : EE} {S : HS} {v0 : Nat} {v1 : Int32} {v2 : Int32} {v3 : Int32} {v4 : Int32} {v5 : Int32} {v6 : Int32} {Q : Int32 → HS → Prop} (h : P_X9_first v0 v1 v2 v3 v4 v5 v6 Q S) : MI l yX9_first cX9_first 11 (some .int) rm_X9_first Ee S [.ref v0, .int v1, .int v2, .int v3, .int v4, .int v5, .int v6] Q :=
  openI (by decide) (Nat.le_of_ble_eq_true rfl) (fun X C E ht hn hE hl => by subst hE; exact r_sub [0, 1, 2, 3, 4, 5, 6] rfl (T_X9_first_0 C E ht hn h))
def rm_X9_fit : Room := { frames := 6, cells := 0, slots := 0, locals := 155 }
def P_X9_fit_15 (Q : Int32 → HS → Prop) (v0 : Nat) (S : HS) : Prop := ob S v0 9 ∧ (P_X9_refuse v0 (1 : Int32) (fun x3 S1 => Gr S S1 → (Q x3 S1)) S)
set_option maxRecDepth 20000 in
set_option maxHeartbeats 4000000 in
theorem T_X9_fit_15 {X : CX} {Q : Int32 → HS → Prop} (C : Cx X cX9_fit RX9 4 rm_X9_fit) (E : ReI X rm_X9_fit Q) (ht : (xh X).sig.returnType = (some .int)) (hn : (xh X).name = yX9_fit.name) {v0 : Nat} {S : HS} (h : P_X9_fit_15 Q v0 S) : WS X 4 0 0 15 [(0, .ref v0)] [] S := by
  refine r_aload_n (pc := 15) C dX9_fit_15 0 rfl ?_
  refine r_iconst (pc := 16) C (v := (1 : Int32)) dX9_fit_16 (by decide) ?_
  obtain ⟨o_v0, h⟩ := h
  refine r_callVi0 (pc := 17) C (rest := []) (a := v0) o_v0 [.int (1 : Int32)] yV_X9_refuse g_430 (c_X9_refuse h) dX9_fit_17 rfl rfl (Nat.le_of_ble_eq_true rfl) ⟨by decide, by decide⟩ ⟨by decide, by decide⟩ ⟨rfl, rfl⟩ (fun x3 S1 h g2 => ?_)
  have h := h g2
  have o_v0 := gr_ob g2 o_v0
  exact r_iret (pc := 20) C E ht dX9_fit_20 (by decide) (by decide) h
def P_X9_fit_0 (Q : Int32 → HS → Prop) (v0 : Nat) (v1 : Int32) (v2 : Int32) (S : HS) : Prop := ob S v0 9 ∧ (∃ a1 : Nat, fR S v0 2 = some a1 ∧ (ob S a1 8 ∧ (P_X8_hasSeen a1 v1 (fun x4 S2 => Gr S S2 → bl x4 → (((x4 = 0) → (P_X9_fit_15 Q v0 S2)) ∧ ((¬ x4 = 0) → (((0 ≤ v2) → (∃ a7 : Nat, fR S2 v0 4 = some a7 ∧ (∃ a8 : Nat, fR S2 v0 2 = some a8 ∧ (ob S2 a7 1 ∧ (P_X1_findFit a7 a8 v1 v2 (fun x11 S9 => Gr S2 S9 → (((¬ x11 = (-1 : Int32)) → (P_X9_grant v0 x11 (fun x15 S13 => Gr S9 S13 → (Q x15 S13)) S9)) ∧ ((x11 = (-1 : Int32)) → (P_X9_refuse v0 (1 : Int32) (fun x18 S16 => Gr S9 S16 → (Q x18 S16)) S9)))) S2))))) ∧ ((¬ 0 ≤ v2) → (P_X9_fit_15 Q v0 S2)))))) S)))
set_option maxRecDepth 20000 in
set_option maxHeartbeats 4000000 in
theorem T_X9_fit_0 {X : CX} {Q : Int32 → HS → Prop} (C : Cx X cX9_fit RX9 4 rm_X9_fit) (E : ReI X rm_X9_fit Q) (ht : (xh X).sig.returnType = (some .int)) (hn : (xh X).name = yX9_fit.name) {v0 : Nat} {v1 : Int32} {v2 : Int32} {S : HS} (h : P_X9_fit_0 Q v0 v1 v2 S) : WS X 4 0 0 0 [(0, .ref v0), (1, .int v1), (2, .int v2)] [] S := by
  refine r_aload_n (pc := 0) C dX9_fit_0 0 rfl ?_
  obtain ⟨o_v0, h⟩ := h
  obtain ⟨a1, ea1, h⟩ := h
  refine r_getr (pc := 1) C fL_X9_16 dX9_fit_1 o_v0 ea1 ?_
  refine r_iload_n (pc := 4) C dX9_fit_4 1 rfl ?_
  obtain ⟨o_a1, h⟩ := h
  refine r_callVi0 (pc := 5) C (rest := []) (a := a1) o_a1 [.int v1] yV_X8_hasSeen g_929 (c_X8_hasSeen h) dX9_fit_5 rfl rfl (Nat.le_of_ble_eq_true rfl) ⟨by decide, by decide⟩ ⟨by decide, by decide⟩ ⟨rfl, rfl⟩ (fun x4 S2 h g3 => ?_)
  have bx4 := h.1
  have h := h.2 g3 bx4
  have o_a1 := gr_ob g3 o_a1
  have o_v0 := gr_ob g3 o_v0
  refine r_if_eq (pc := 8) C (tgt := 15) dX9_fit_8 (by decide) (fun c5 => ?_) (fun c5 => ?_)
  · have h := h.1 c5
    exact r_sub [0] rfl (T_X9_fit_15 C E ht hn h)
  · have h := h.2 c5
    refine r_iload_n (pc := 11) C dX9_fit_11 2 rfl ?_
    refine r_if_ge (pc := 12) C (tgt := 21) dX9_fit_12 (by decide) (fun c6 => ?_) (fun c6 => ?_)
    · have h := h.1 c6
      refine r_aload_n (pc := 21) C dX9_fit_21 0 rfl ?_
      obtain ⟨a7, ea7, h⟩ := h
      refine r_getr (pc := 22) C fL_X9_30 dX9_fit_22 o_v0 ea7 ?_
      refine r_aload_n (pc := 25) C dX9_fit_25 0 rfl ?_
      obtain ⟨a8, ea8, h⟩ := h
      refine r_getr (pc := 26) C fL_X9_16 dX9_fit_26 o_v0 ea8 ?_
      refine r_iload_n (pc := 29) C dX9_fit_29 1 rfl ?_
      refine r_iload_n (pc := 30) C dX9_fit_30 2 rfl ?_
      obtain ⟨o_a7, h⟩ := h
      refine r_callVi0 (pc := 31) C (rest := []) (a := a7) o_a7 [.ref a8, .int v1, .int v2] yV_X1_findFit g_953 (c_X1_findFit h) dX9_fit_31 rfl rfl (Nat.le_of_ble_eq_true rfl) ⟨by decide, by decide⟩ ⟨by decide, by decide⟩ ⟨rfl, rfl⟩ (fun x11 S9 h g10 => ?_)
      have h := h g10
      have o_a1 := gr_ob g10 o_a1
      have o_a7 := gr_ob g10 o_a7
      have o_v0 := gr_ob g10 o_v0
      refine r_istore_n (pc := 34) C dX9_fit_34 rfl (by decide) (lv' := [(3, .int x11), (0, .ref v0), (1, .int v1), (2, .int v2)]) rfl ?_
      refine r_iload_n (pc := 35) C dX9_fit_35 0 rfl ?_
      refine r_iconst (pc := 36) C (v := (-1 : Int32)) dX9_fit_36 (by decide) ?_
      refine r_icmp_ne (pc := 37) C (tgt := 48) dX9_fit_37 (by decide) (fun c12 => ?_) (fun c12 => ?_)
      · have h := h.1 c12
        refine r_aload_n (pc := 48) C dX9_fit_48 1 rfl ?_
        refine r_iload_n (pc := 49) C dX9_fit_49 0 rfl ?_
        refine r_callVi0 (pc := 50) C (rest := []) (a := v0) o_v0 [.int x11] yV_X9_grant g_637 (c_X9_grant h) dX9_fit_50 rfl rfl (Nat.le_of_ble_eq_true rfl) ⟨by decide, by decide⟩ ⟨by decide, by decide⟩ ⟨rfl, rfl⟩ (fun x15 S13 h g14 => ?_)
        have h := h g14
        have o_a1 := gr_ob g14 o_a1
        have o_a7 := gr_ob g14 o_a7
        have o_v0 := gr_ob g14 o_v0
        exact r_iret (pc := 53) C E ht dX9_fit_53 (by decide) (by decide) h
      · have h := h.2 c12
        refine r_aload_n (pc := 40) C dX9_fit_40 1 rfl ?_
        refine r_iconst (pc := 41) C (v := (1 : Int32)) dX9_fit_41 (by decide) ?_
        refine r_callVi0 (pc := 42) C (rest := []) (a := v0) o_v0 [.int (1 : Int32)] yV_X9_refuse g_430 (c_X9_refuse h) dX9_fit_42 rfl rfl (Nat.le_of_ble_eq_true rfl) ⟨by decide, by decide⟩ ⟨by decide, by decide⟩ ⟨rfl, rfl⟩ (fun x18 S16 h g17 => ?_)
        have h := h g17
        have o_a1 := gr_ob g17 o_a1
        have o_a7 := gr_ob g17 o_a7
        have o_v0 := gr_ob g17 o_v0
        refine r_goto (pc := 45) C (tgt := 53) dX9_fit_45 (by decide) ?_
        exact r_iret (pc := 53) C E ht dX9_fit_53 (by decide) (by decide) h
    · have h := h.2 c6
      exact r_sub [0] rfl (T_X9_fit_15 C E ht hn h)
def P_X9_fit (v0 : Nat) (v1 : Int32) (v2 : Int32) (Q : Int32 → HS → Prop) (S : HS) : Prop := P_X9_fit_0 Q v0 v1 v2 S
theorem c_X9_fit {l : Launch} {Ee : EE} {S : HS} {v0 : Nat} {v1 : Int32} {v2 : Int32} {Q : Int32 → HS → Prop} (h : P_X9_fit v0 v1 v2 Q S) : MI l yX9_fit cX9_fit 4 (some .int) rm_X9_fit Ee S [.ref v0, .int v1, .int v2] Q :=
  openI (by decide) (Nat.le_of_ble_eq_true rfl) (fun X C E ht hn hE hl => by subst hE; exact r_sub [0, 1, 2] rfl (T_X9_fit_0 C E ht hn h))
def rm_X9_fits : Room := { frames := 6, cells := 0, slots := 0, locals := 153 }
def P_X9_fits_0 (Q : Int32 → HS → Prop) (v0 : Nat) (v1 : Int32) (S : HS) : Prop := ob S v0 9 ∧ (∃ a1 : Nat, fR S v0 2 = some a1 ∧ (ob S a1 8 ∧ (P_X8_hasSeen a1 v1 (fun x4 S2 => Gr S S2 → bl x4 → (((¬ x4 = 0) → (∃ a6 : Nat, fR S2 v0 4 = some a6 ∧ (∃ a7 : Nat, fR S2 v0 2 = some a7 ∧ (ob S2 a6 1 ∧ (P_X1_countFits a6 a7 v1 (fun x10 S8 => Gr S2 S8 → (P_X9_grant v0 x10 (fun x13 S11 => Gr S8 S11 → (Q x13 S11)) S8)) S2))))) ∧ ((x4 = 0) → (P_X9_refuse v0 (1 : Int32) (fun x16 S14 => Gr S2 S14 → (Q x16 S14)) S2)))) S)))
set_option maxRecDepth 20000 in
set_option maxHeartbeats 4000000 in
theorem T_X9_fits_0 {X : CX} {Q : Int32 → HS → Prop} (C : Cx X cX9_fits RX9 2 rm_X9_fits) (E : ReI X rm_X9_fits Q) (ht : (xh X).sig.returnType = (some .int)) (hn : (xh X).name = yX9_fits.name) {v0 : Nat} {v1 : Int32} {S : HS} (h : P_X9_fits_0 Q v0 v1 S) : WS X 2 0 0 0 [(0, .ref v0), (1, .int v1)] [] S := by
  refine r_aload_n (pc := 0) C dX9_fits_0 0 rfl ?_
  obtain ⟨o_v0, h⟩ := h
  obtain ⟨a1, ea1, h⟩ := h
  refine r_getr (pc := 1) C fL_X9_16 dX9_fits_1 o_v0 ea1 ?_
  refine r_iload_n (pc := 4) C dX9_fits_4 1 rfl ?_
  obtain ⟨o_a1, h⟩ := h
  refine r_callVi0 (pc := 5) C (rest := []) (a := a1) o_a1 [.int v1] yV_X8_hasSeen g_929 (c_X8_hasSeen h) dX9_fits_5 rfl rfl (Nat.le_of_ble_eq_true rfl) ⟨by decide, by decide⟩ ⟨by decide, by decide⟩ ⟨rfl, rfl⟩ (fun x4 S2 h g3 => ?_)
  have bx4 := h.1
  have h := h.2 g3 bx4
  have o_a1 := gr_ob g3 o_a1
  have o_v0 := gr_ob g3 o_v0
  refine r_if_ne (pc := 8) C (tgt := 17) dX9_fits_8 (by decide) (fun c5 => ?_) (fun c5 => ?_)
  · have h := h.1 c5
    refine r_aload_n (pc := 17) C dX9_fits_17 0 rfl ?_
    refine r_aload_n (pc := 18) C dX9_fits_18 0 rfl ?_
    obtain ⟨a6, ea6, h⟩ := h
    refine r_getr (pc := 19) C fL_X9_30 dX9_fits_19 o_v0 ea6 ?_
    refine r_aload_n (pc := 22) C dX9_fits_22 0 rfl ?_
    obtain ⟨a7, ea7, h⟩ := h
    refine r_getr (pc := 23) C fL_X9_16 dX9_fits_23 o_v0 ea7 ?_
    refine r_iload_n (pc := 26) C dX9_fits_26 1 rfl ?_
    obtain ⟨o_a6, h⟩ := h
    refine r_callVi0 (pc := 27) C (rest := [.ref v0]) (a := a6) o_a6 [.ref a7, .int v1] yV_X1_countFits g_933 (c_X1_countFits h) dX9_fits_27 rfl rfl (Nat.le_of_ble_eq_true rfl) ⟨by decide, by decide⟩ ⟨by decide, by decide⟩ ⟨rfl, rfl⟩ (fun x10 S8 h g9 => ?_)
    have h := h g9
    have o_a1 := gr_ob g9 o_a1
    have o_a6 := gr_ob g9 o_a6
    have o_v0 := gr_ob g9 o_v0
    refine r_callVi0 (pc := 30) C (rest := []) (a := v0) o_v0 [.int x10] yV_X9_grant g_637 (c_X9_grant h) dX9_fits_30 rfl rfl (Nat.le_of_ble_eq_true rfl) ⟨by decide, by decide⟩ ⟨by decide, by decide⟩ ⟨rfl, rfl⟩ (fun x13 S11 h g12 => ?_)
    have h := h g12
    have o_a1 := gr_ob g12 o_a1
    have o_a6 := gr_ob g12 o_a6
    have o_v0 := gr_ob g12 o_v0
    exact r_iret (pc := 33) C E ht dX9_fits_33 (by decide) (by decide) h
  · have h := h.2 c5
    refine r_aload_n (pc := 11) C dX9_fits_11 0 rfl ?_
    refine r_iconst (pc := 12) C (v := (1 : Int32)) dX9_fits_12 (by decide) ?_
    refine r_callVi0 (pc := 13) C (rest := []) (a := v0) o_v0 [.int (1 : Int32)] yV_X9_refuse g_430 (c_X9_refuse h) dX9_fits_13 rfl rfl (Nat.le_of_ble_eq_true rfl) ⟨by decide, by decide⟩ ⟨by decide, by decide⟩ ⟨rfl, rfl⟩ (fun x16 S14 h g15 => ?_)
    have h := h g15
    have o_a1 := gr_ob g15 o_a1
    have o_v0 := gr_ob g15 o_v0
    exact r_iret (pc := 16) C E ht dX9_fits_16 (by decide) (by decide) h
def P_X9_fits (v0 : Nat) (v1 : Int32) (Q : Int32 → HS → Prop) (S : HS) : Prop := P_X9_fits_0 Q v0 v1 S
theorem c_X9_fits {l : Launch} {Ee : EE} {S : HS} {v0 : Nat} {v1 : Int32} {Q : Int32 → HS → Prop} (h : P_X9_fits v0 v1 Q S) : MI l yX9_fits cX9_fits 2 (some .int) rm_X9_fits Ee S [.ref v0, .int v1] Q :=
  openI (by decide) (Nat.le_of_ble_eq_true rfl) (fun X C E ht hn hE hl => by subst hE; exact r_sub [0, 1] rfl (T_X9_fits_0 C E ht hn h))
def rm_X9_go : Room := { frames := 4, cells := 0, slots := 0, locals := 101 }
def P_X9_go_45 (Q : Int32 → HS → Prop) (v0 : Nat) (S : HS) : Prop := ob S v0 9 ∧ (P_X9_refuse v0 (1 : Int32) (fun x3 S1 => Gr S S1 → (Q x3 S1)) S)
set_option maxRecDepth 20000 in
set_option maxHeartbeats 4000000 in
theorem T_X9_go_45 {X : CX} {Q : Int32 → HS → Prop} (C : Cx X cX9_go RX9 8 rm_X9_go) (E : ReI X rm_X9_go Q) (ht : (xh X).sig.returnType = (some .int)) (hn : (xh X).name = yX9_go.name) {v0 : Nat} {S : HS} (h : P_X9_go_45 Q v0 S) : WS X 8 0 0 45 [(0, .ref v0)] [] S := by
  refine r_aload_n (pc := 45) C dX9_go_45 0 rfl ?_
  refine r_iconst (pc := 46) C (v := (1 : Int32)) dX9_go_46 (by decide) ?_
  obtain ⟨o_v0, h⟩ := h
  refine r_callVi0 (pc := 47) C (rest := []) (a := v0) o_v0 [.int (1 : Int32)] yV_X9_refuse g_430 (c_X9_refuse h) dX9_go_47 rfl rfl (Nat.le_of_ble_eq_true rfl) ⟨by decide, by decide⟩ ⟨by decide, by decide⟩ ⟨rfl, rfl⟩ (fun x3 S1 h g2 => ?_)
  have h := h g2
  have o_v0 := gr_ob g2 o_v0
  exact r_iret (pc := 50) C E ht dX9_go_50 (by decide) (by decide) h
def P_X9_go_243 (Q : Int32 → HS → Prop) (v0 : Nat) (v2 : Int32) (v5 : Nat) (v6 : Int32) (S : HS) : Prop := ob S v0 9 ∧ (∃ a1 : Nat, fR S v0 6 = some a1 ∧ (ob S a1 0 ∧ (∃ a2 : Nat, fR S a1 4 = some a2 ∧ (ob S v5 5 ∧ (P_X5_endOf v5 v2 (fun x5 S3 => Gr S S3 → (ob S3 a2 2 ∧ (∀ S6 : HS, S6 = sI S3 a2 0 x5 → (∃ a7 : Nat, fR S6 v0 6 = some a7 ∧ (ob S6 a7 0 ∧ (∃ a8 : Nat, fR S6 a7 4 = some a8 ∧ (ob S6 a8 2 ∧ (∀ S9 : HS, S9 = sI S6 a8 1 v6 → (P_X9_grant v0 v6 (fun x12 S10 => Gr S9 S10 → (Q x12 S10)) S9))))))))) S)))))
set_option maxRecDepth 20000 in
set_option maxHeartbeats 4000000 in
theorem T_X9_go_243 {X : CX} {Q : Int32 → HS → Prop} (C : Cx X cX9_go RX9 8 rm_X9_go) (E : ReI X rm_X9_go Q) (ht : (xh X).sig.returnType = (some .int)) (hn : (xh X).name = yX9_go.name) {v0 : Nat} {v2 : Int32} {v5 : Nat} {v6 : Int32} {S : HS} (h : P_X9_go_243 Q v0 v2 v5 v6 S) : WS X 8 0 0 243 [(0, .ref v0), (2, .int v2), (5, .ref v5), (6, .int v6)] [] S := by
  refine r_aload_n (pc := 243) C dX9_go_243 0 rfl ?_
  obtain ⟨o_v0, h⟩ := h
  obtain ⟨a1, ea1, h⟩ := h
  refine r_getr (pc := 244) C fL_X9_44 dX9_go_244 o_v0 ea1 ?_
  obtain ⟨o_a1, h⟩ := h
  obtain ⟨a2, ea2, h⟩ := h
  refine r_getr (pc := 247) C fL_X9_287 dX9_go_247 o_a1 ea2 ?_
  refine r_aload (pc := 250) C dX9_go_250 2 rfl ?_
  refine r_iload_n (pc := 252) C dX9_go_252 1 rfl ?_
  obtain ⟨o_v5, h⟩ := h
  refine r_callVi0 (pc := 253) C (rest := [.ref a2]) (a := v5) o_v5 [.int v2] yV_X5_endOf g_1003 (c_X5_endOf h) dX9_go_253 rfl rfl (Nat.le_of_ble_eq_true rfl) ⟨by decide, by decide⟩ ⟨by decide, by decide⟩ ⟨rfl, rfl⟩ (fun x5 S3 h g4 => ?_)
  have h := h g4
  have o_a1 := gr_ob g4 o_a1
  have o_v0 := gr_ob g4 o_v0
  have o_v5 := gr_ob g4 o_v5
  obtain ⟨o_a2, h⟩ := h
  refine r_puti (pc := 256) C pfL_X9_291 dX9_go_256 o_a2 ?_
  refine r_heap (fun S6 eS6 => ?_)
  have h := h S6 eS6
  have o_a1 := ob_I eS6 o_a1
  have o_a2 := ob_I eS6 o_a2
  have o_v0 := ob_I eS6 o_v0
  have o_v5 := ob_I eS6 o_v5
  refine r_aload_n (pc := 259) C dX9_go_259 0 rfl ?_
  obtain ⟨a7, ea7, h⟩ := h
  refine r_getr (pc := 260) C fL_X9_44 dX9_go_260 o_v0 ea7 ?_
  obtain ⟨o_a7, h⟩ := h
  obtain ⟨a8, ea8, h⟩ := h
  refine r_getr (pc := 263) C fL_X9_287 dX9_go_263 o_a7 ea8 ?_
  refine r_iload (pc := 266) C dX9_go_266 3 rfl ?_
  obtain ⟨o_a8, h⟩ := h
  refine r_puti (pc := 268) C pfL_X9_296 dX9_go_268 o_a8 ?_
  refine r_heap (fun S9 eS9 => ?_)
  have h := h S9 eS9
  have o_a1 := ob_I eS9 o_a1
  have o_a2 := ob_I eS9 o_a2
  have o_a7 := ob_I eS9 o_a7
  have o_a8 := ob_I eS9 o_a8
  have o_v0 := ob_I eS9 o_v0
  have o_v5 := ob_I eS9 o_v5
  refine r_aload_n (pc := 271) C dX9_go_271 0 rfl ?_
  refine r_iload (pc := 272) C dX9_go_272 3 rfl ?_
  refine r_callVi0 (pc := 274) C (rest := []) (a := v0) o_v0 [.int v6] yV_X9_grant g_637 (c_X9_grant h) dX9_go_274 rfl rfl (Nat.le_of_ble_eq_true rfl) ⟨by decide, by decide⟩ ⟨by decide, by decide⟩ ⟨rfl, rfl⟩ (fun x12 S10 h g11 => ?_)
  have h := h g11
  have o_a1 := gr_ob g11 o_a1
  have o_a2 := gr_ob g11 o_a2
  have o_a7 := gr_ob g11 o_a7
  have o_a8 := gr_ob g11 o_a8
  have o_v0 := gr_ob g11 o_v0
  have o_v5 := gr_ob g11 o_v5
  exact r_iret (pc := 277) C E ht dX9_go_277 (by decide) (by decide) h
def P_X9_go_0 (Q : Int32 → HS → Prop) (v0 : Nat) (v1 : Int32) (v2 : Int32) (v3 : Int32) (S : HS) : Prop := ob S v0 9 ∧ (∃ a1 : Nat, fR S v0 6 = some a1 ∧ (ob S a1 0 ∧ (P_X0_isOn a1 (fun x4 S2 => Gr S S2 → bl x4 → (((x4 = 0) → (P_X9_go_45 Q v0 S2)) ∧ ((¬ x4 = 0) → (∃ a6 : Nat, fR S2 v0 2 = some a6 ∧ (∃ a7 : Nat, fR S2 v0 6 = some a7 ∧ (ob S2 a7 0 ∧ (∀ x8 : Int32, x8 = fI S2 a7 0 → (ob S2 a6 8 ∧ (P_X8_hasWalker a6 x8 (fun x11 S9 => Gr S2 S9 → bl x11 → (((x11 = 0) → (P_X9_go_45 Q v0 S9)) ∧ ((¬ x11 = 0) → (∃ a13 : Nat, fR S9 v0 2 = some a13 ∧ (ob S9 a13 8 ∧ (P_X8_hasRoad a13 v1 (fun x16 S14 => Gr S9 S14 → bl x16 → (((x16 = 0) → (P_X9_go_45 Q v0 S14)) ∧ ((¬ x16 = 0) → (P_X9_isWay v2 (fun x20 S18 => Gr S14 S18 → bl x20 → (((¬ x20 = 0) → (∃ a22 : Nat, fR S18 v0 2 = some a22 ∧ (ob S18 a22 8 ∧ (∃ a23 : Nat, fR S18 a22 9 = some a23 ∧ (∃ a24 : Nat, fR S18 v0 6 = some a24 ∧ (ob S18 a24 0 ∧ (∀ x25 : Int32, x25 = fI S18 a24 0 → (ob S18 a23 19 ∧ (vp_in x25 (hN S18 a23) ∧ ∃ a27 : Nat, fR S18 a23 x25.toNatClampNeg = some a27 ∧ (∃ a28 : Nat, fR S18 v0 2 = some a28 ∧ (ob S18 a28 8 ∧ (∃ a29 : Nat, fR S18 a28 8 = some a29 ∧ (ob S18 a29 18 ∧ (vp_in v1 (hN S18 a29) ∧ ∃ a31 : Nat, fR S18 a29 v1.toNatClampNeg = some a31 ∧ (ob S18 a27 6 ∧ (P_X6_canGo a27 v3 (fun x34 S32 => Gr S18 S32 → bl x34 → (((¬ x34 = 0) → (ob S32 a31 5 ∧ (P_X5_startOf a31 v2 (fun x38 S36 => Gr S32 S36 → (∃ a39 : Nat, fR S36 v0 6 = some a39 ∧ (ob S36 a39 0 ∧ (∃ a40 : Nat, fR S36 a39 4 = some a40 ∧ (ob S36 a40 2 ∧ (∀ x41 : Int32, x41 = fI S36 a40 0 → (((x38 = x41) → (∃ a43 : Nat, fR S36 v0 6 = some a43 ∧ (ob S36 a43 0 ∧ (∃ a44 : Nat, fR S36 a43 4 = some a44 ∧ (ob S36 a44 2 ∧ (∀ x45 : Int32, x45 = fI S36 a44 1 → (P_X5_minutesAt a31 v3 (fun x48 S46 => Gr S36 S46 → (∀ x49 : Int32, x49 = x45 + x48 → (((x49 ≤ (999 : Int32)) → (∃ a51 : Nat, fR S46 v0 6 = some a51 ∧ (ob S46 a51 0 ∧ (P_X0_keepForUndo a51 (fun S52 => Gr S46 S52 → (∃ a55 : Nat, fR S52 v0 2 = some a55 ∧ (∃ a56 : Nat, fR S52 v0 6 = some a56 ∧ (ob S52 a56 0 ∧ (∃ a57 : Nat, fR S52 a56 4 = some a57 ∧ (ob S52 a57 2 ∧ (∀ x58 : Int32, x58 = fI S52 a57 1 → (ob S52 a55 8 ∧ (P_X8_hourOf a55 x58 (fun x61 S59 => Gr S52 S59 → (∃ a62 : Nat, fR S59 v0 2 = some a62 ∧ (ob S59 a62 8 ∧ (P_X8_hasHour a62 x61 (fun x65 S63 => Gr S59 S63 → bl x65 → (((x65 = 0) → (P_X9_go_243 Q v0 v2 a31 x49 S63)) ∧ ((¬ x65 = 0) → (∃ a67 : Nat, fR S63 v0 6 = some a67 ∧ (ob S63 a67 0 ∧ (P_X0_rainsIn a67 x61 (fun x70 S68 => Gr S63 S68 → bl x70 → (((x70 = 0) → (P_X9_go_243 Q v0 v2 a31 x49 S68)) ∧ ((¬ x70 = 0) → (∃ a72 : Nat, fR S68 v0 4 = some a72 ∧ (∃ a73 : Nat, fR S68 v0 2 = some a73 ∧ (ob S68 a73 8 ∧ (∃ a74 : Nat, fR S68 a73 6 = some a74 ∧ (ob S68 a74 17 ∧ (vp_in x61 (hN S68 a74) ∧ ∃ a76 : Nat, fR S68 a74 x61.toNatClampNeg = some a76 ∧ (ob S68 a72 1 ∧ (P_X1_wetOf a72 a27 a31 v2 a76 v3 (fun x79 S77 => Gr S68 S77 → (∃ a80 : Nat, fR S77 v0 6 = some a80 ∧ (ob S77 a80 0 ∧ (∃ a81 : Nat, fR S77 a80 4 = some a81 ∧ (∃ a82 : Nat, fR S77 v0 4 = some a82 ∧ (ob S77 a82 1 ∧ (∃ a83 : Nat, fR S77 a82 0 = some a83 ∧ (ob S77 a81 2 ∧ (P_X2_addFaces a81 a83 (fun S84 => Gr S77 S84 → (P_X9_go_243 Q v0 v2 a31 x49 S84)) S77))))))))) S68))))))))))) S63)))))) S59)))) S52))))))))) S46)))) ∧ ((¬ x49 ≤ (999 : Int32)) → (P_X9_refuse v0 (3 : Int32) (fun x89 S87 => Gr S46 S87 → (Q x89 S87)) S46))))) S36))))))) ∧ ((¬ x38 = x41) → (P_X9_refuse v0 (5 : Int32) (fun x92 S90 => Gr S36 S90 → (Q x92 S90)) S36))))))))) S32))) ∧ ((x34 = 0) → (P_X9_refuse v0 (2 : Int32) (fun x95 S93 => Gr S32 S93 → (Q x95 S93)) S32)))) S18)))))))))))))))) ∧ ((x20 = 0) → (P_X9_go_45 Q v0 S18)))) S14)))) S9)))))) S2))))))))) S)))
set_option maxRecDepth 20000 in
set_option maxHeartbeats 4000000 in
theorem T_X9_go_0 {X : CX} {Q : Int32 → HS → Prop} (C : Cx X cX9_go RX9 8 rm_X9_go) (E : ReI X rm_X9_go Q) (ht : (xh X).sig.returnType = (some .int)) (hn : (xh X).name = yX9_go.name) {v0 : Nat} {v1 : Int32} {v2 : Int32} {v3 : Int32} {S : HS} (h : P_X9_go_0 Q v0 v1 v2 v3 S) : WS X 8 0 0 0 [(0, .ref v0), (1, .int v1), (2, .int v2), (3, .int v3)] [] S := by
  refine r_aload_n (pc := 0) C dX9_go_0 0 rfl ?_
  obtain ⟨o_v0, h⟩ := h
  obtain ⟨a1, ea1, h⟩ := h
  refine r_getr (pc := 1) C fL_X9_44 dX9_go_1 o_v0 ea1 ?_
  obtain ⟨o_a1, h⟩ := h
  refine r_callVi0 (pc := 4) C (rest := []) (a := a1) o_a1 [] yV_X0_isOn g_981 (c_X0_isOn h) dX9_go_4 rfl rfl (Nat.le_of_ble_eq_true rfl) ⟨by decide, by decide⟩ ⟨by decide, by decide⟩ ⟨rfl, rfl⟩ (fun x4 S2 h g3 => ?_)
  have bx4 := h.1
  have h := h.2 g3 bx4
  have o_a1 := gr_ob g3 o_a1
  have o_v0 := gr_ob g3 o_v0
  refine r_if_eq (pc := 7) C (tgt := 45) dX9_go_7 (by decide) (fun c5 => ?_) (fun c5 => ?_)
  · have h := h.1 c5
    exact r_sub [0] rfl (T_X9_go_45 C E ht hn h)
  · have h := h.2 c5
    refine r_aload_n (pc := 10) C dX9_go_10 0 rfl ?_
    obtain ⟨a6, ea6, h⟩ := h
    refine r_getr (pc := 11) C fL_X9_16 dX9_go_11 o_v0 ea6 ?_
    refine r_aload_n (pc := 14) C dX9_go_14 0 rfl ?_
    obtain ⟨a7, ea7, h⟩ := h
    refine r_getr (pc := 15) C fL_X9_44 dX9_go_15 o_v0 ea7 ?_
    obtain ⟨o_a7, h⟩ := h
    refine r_geti (pc := 18) C fL_X9_282 dX9_go_18 o_a7 ?_
    refine r_topi (fun x8 ex8 => ?_)
    have h := h x8 ex8
    obtain ⟨o_a6, h⟩ := h
    refine r_callVi0 (pc := 21) C (rest := []) (a := a6) o_a6 [.int x8] yV_X8_hasWalker g_664 (c_X8_hasWalker h) dX9_go_21 rfl rfl (Nat.le_of_ble_eq_true rfl) ⟨by decide, by decide⟩ ⟨by decide, by decide⟩ ⟨rfl, rfl⟩ (fun x11 S9 h g10 => ?_)
    have bx11 := h.1
    have h := h.2 g10 bx11
    have o_a1 := gr_ob g10 o_a1
    have o_a6 := gr_ob g10 o_a6
    have o_a7 := gr_ob g10 o_a7
    have o_v0 := gr_ob g10 o_v0
    refine r_if_eq (pc := 24) C (tgt := 45) dX9_go_24 (by decide) (fun c12 => ?_) (fun c12 => ?_)
    · have h := h.1 c12
      exact r_sub [0] rfl (T_X9_go_45 C E ht hn h)
    · have h := h.2 c12
      refine r_aload_n (pc := 27) C dX9_go_27 0 rfl ?_
      obtain ⟨a13, ea13, h⟩ := h
      refine r_getr (pc := 28) C fL_X9_16 dX9_go_28 o_v0 ea13 ?_
      refine r_iload_n (pc := 31) C dX9_go_31 1 rfl ?_
      obtain ⟨o_a13, h⟩ := h
      refine r_callVi0 (pc := 32) C (rest := []) (a := a13) o_a13 [.int v1] yV_X8_hasRoad g_668 (c_X8_hasRoad h) dX9_go_32 rfl rfl (Nat.le_of_ble_eq_true rfl) ⟨by decide, by decide⟩ ⟨by decide, by decide⟩ ⟨rfl, rfl⟩ (fun x16 S14 h g15 => ?_)
      have bx16 := h.1
      have h := h.2 g15 bx16
      have o_a1 := gr_ob g15 o_a1
      have o_a13 := gr_ob g15 o_a13
      have o_a6 := gr_ob g15 o_a6
      have o_a7 := gr_ob g15 o_a7
      have o_v0 := gr_ob g15 o_v0
      refine r_if_eq (pc := 35) C (tgt := 45) dX9_go_35 (by decide) (fun c17 => ?_) (fun c17 => ?_)
      · have h := h.1 c17
        exact r_sub [0] rfl (T_X9_go_45 C E ht hn h)
      · have h := h.2 c17
        refine r_iload_n (pc := 38) C dX9_go_38 2 rfl ?_
        refine r_callSi0 (pc := 39) C (rest := []) rfl [.int v2] yS_X9_isWay g_672 (c_X9_isWay h) dX9_go_39 rfl rfl (Nat.le_of_ble_eq_true rfl) ⟨by decide, by decide⟩ ⟨by decide, by decide⟩ ⟨rfl, rfl⟩ (fun x20 S18 h g19 => ?_)
        have bx20 := h.1
        have h := h.2 g19 bx20
        have o_a1 := gr_ob g19 o_a1
        have o_a13 := gr_ob g19 o_a13
        have o_a6 := gr_ob g19 o_a6
        have o_a7 := gr_ob g19 o_a7
        have o_v0 := gr_ob g19 o_v0
        refine r_if_ne (pc := 42) C (tgt := 51) dX9_go_42 (by decide) (fun c21 => ?_) (fun c21 => ?_)
        · have h := h.1 c21
          refine r_aload_n (pc := 51) C dX9_go_51 0 rfl ?_
          obtain ⟨a22, ea22, h⟩ := h
          refine r_getr (pc := 52) C fL_X9_16 dX9_go_52 o_v0 ea22 ?_
          obtain ⟨o_a22, h⟩ := h
          obtain ⟨a23, ea23, h⟩ := h
          refine r_getr (pc := 55) C fL_X9_108 dX9_go_55 o_a22 ea23 ?_
          refine r_aload_n (pc := 58) C dX9_go_58 0 rfl ?_
          obtain ⟨a24, ea24, h⟩ := h
          refine r_getr (pc := 59) C fL_X9_44 dX9_go_59 o_v0 ea24 ?_
          obtain ⟨o_a24, h⟩ := h
          refine r_geti (pc := 62) C fL_X9_282 dX9_go_62 o_a24 ?_
          refine r_topi (fun x25 ex25 => ?_)
          have h := h x25 ex25
          obtain ⟨o_a23, h⟩ := h
          obtain ⟨i26, a27, ea27, h⟩ := h
          refine r_aald19 (pc := 65) C dX9_go_65 o_a23 i26 ea27 ?_
          refine r_astore (pc := 66) C dX9_go_66 (by decide) (lv' := [(4, .ref a27), (0, .ref v0), (1, .int v1), (2, .int v2), (3, .int v3)]) rfl ?_
          refine r_aload_n (pc := 68) C dX9_go_68 1 rfl ?_
          obtain ⟨a28, ea28, h⟩ := h
          refine r_getr (pc := 69) C fL_X9_16 dX9_go_69 o_v0 ea28 ?_
          obtain ⟨o_a28, h⟩ := h
          obtain ⟨a29, ea29, h⟩ := h
          refine r_getr (pc := 72) C fL_X9_112 dX9_go_72 o_a28 ea29 ?_
          refine r_iload_n (pc := 75) C dX9_go_75 2 rfl ?_
          obtain ⟨o_a29, h⟩ := h
          obtain ⟨i30, a31, ea31, h⟩ := h
          refine r_aald18 (pc := 76) C dX9_go_76 o_a29 i30 ea31 ?_
          refine r_astore (pc := 77) C dX9_go_77 (by decide) (lv' := [(5, .ref a31), (4, .ref a27), (0, .ref v0), (1, .int v1), (2, .int v2), (3, .int v3)]) rfl ?_
          refine r_aload (pc := 79) C dX9_go_79 1 rfl ?_
          refine r_iload_n (pc := 81) C dX9_go_81 5 rfl ?_
          obtain ⟨o_a27, h⟩ := h
          refine r_callVi0 (pc := 82) C (rest := []) (a := a27) o_a27 [.int v3] yV_X6_canGo g_679 (c_X6_canGo h) dX9_go_82 rfl rfl (Nat.le_of_ble_eq_true rfl) ⟨by decide, by decide⟩ ⟨by decide, by decide⟩ ⟨rfl, rfl⟩ (fun x34 S32 h g33 => ?_)
          have bx34 := h.1
          have h := h.2 g33 bx34
          have o_a1 := gr_ob g33 o_a1
          have o_a13 := gr_ob g33 o_a13
          have o_a22 := gr_ob g33 o_a22
          have o_a23 := gr_ob g33 o_a23
          have o_a24 := gr_ob g33 o_a24
          have o_a27 := gr_ob g33 o_a27
          have o_a28 := gr_ob g33 o_a28
          have o_a29 := gr_ob g33 o_a29
          have o_a6 := gr_ob g33 o_a6
          have o_a7 := gr_ob g33 o_a7
          have o_v0 := gr_ob g33 o_v0
          refine r_if_ne (pc := 85) C (tgt := 94) dX9_go_85 (by decide) (fun c35 => ?_) (fun c35 => ?_)
          · have h := h.1 c35
            refine r_aload (pc := 94) C dX9_go_94 0 rfl ?_
            refine r_iload_n (pc := 96) C dX9_go_96 4 rfl ?_
            obtain ⟨o_a31, h⟩ := h
            refine r_callVi0 (pc := 97) C (rest := []) (a := a31) o_a31 [.int v2] yV_X5_startOf g_985 (c_X5_startOf h) dX9_go_97 rfl rfl (Nat.le_of_ble_eq_true rfl) ⟨by decide, by decide⟩ ⟨by decide, by decide⟩ ⟨rfl, rfl⟩ (fun x38 S36 h g37 => ?_)
            have h := h g37
            have o_a1 := gr_ob g37 o_a1
            have o_a13 := gr_ob g37 o_a13
            have o_a22 := gr_ob g37 o_a22
            have o_a23 := gr_ob g37 o_a23
            have o_a24 := gr_ob g37 o_a24
            have o_a27 := gr_ob g37 o_a27
            have o_a28 := gr_ob g37 o_a28
            have o_a29 := gr_ob g37 o_a29
            have o_a31 := gr_ob g37 o_a31
            have o_a6 := gr_ob g37 o_a6
            have o_a7 := gr_ob g37 o_a7
            have o_v0 := gr_ob g37 o_v0
            refine r_aload_n (pc := 100) C dX9_go_100 2 rfl ?_
            obtain ⟨a39, ea39, h⟩ := h
            refine r_getr (pc := 101) C fL_X9_44 dX9_go_101 o_v0 ea39 ?_
            obtain ⟨o_a39, h⟩ := h
            obtain ⟨a40, ea40, h⟩ := h
            refine r_getr (pc := 104) C fL_X9_287 dX9_go_104 o_a39 ea40 ?_
            obtain ⟨o_a40, h⟩ := h
            refine r_geti (pc := 107) C fL_X9_291 dX9_go_107 o_a40 ?_
            refine r_topi (fun x41 ex41 => ?_)
            have h := h x41 ex41
            refine r_icmp_eq (pc := 110) C (tgt := 119) dX9_go_110 (by decide) (fun c42 => ?_) (fun c42 => ?_)
            · have h := h.1 c42
              refine r_aload_n (pc := 119) C dX9_go_119 2 rfl ?_
              obtain ⟨a43, ea43, h⟩ := h
              refine r_getr (pc := 120) C fL_X9_44 dX9_go_120 o_v0 ea43 ?_
              obtain ⟨o_a43, h⟩ := h
              obtain ⟨a44, ea44, h⟩ := h
              refine r_getr (pc := 123) C fL_X9_287 dX9_go_123 o_a43 ea44 ?_
              obtain ⟨o_a44, h⟩ := h
              refine r_geti (pc := 126) C fL_X9_296 dX9_go_126 o_a44 ?_
              refine r_topi (fun x45 ex45 => ?_)
              have h := h x45 ex45
              refine r_aload (pc := 129) C dX9_go_129 0 rfl ?_
              refine r_iload_n (pc := 131) C dX9_go_131 5 rfl ?_
              refine r_callVi0 (pc := 132) C (rest := [.int x45]) (a := a31) o_a31 [.int v3] yV_X5_minutesAt g_741 (c_X5_minutesAt h) dX9_go_132 rfl rfl (Nat.le_of_ble_eq_true rfl) ⟨by decide, by decide⟩ ⟨by decide, by decide⟩ ⟨rfl, rfl⟩ (fun x48 S46 h g47 => ?_)
              have h := h g47
              have o_a1 := gr_ob g47 o_a1
              have o_a13 := gr_ob g47 o_a13
              have o_a22 := gr_ob g47 o_a22
              have o_a23 := gr_ob g47 o_a23
              have o_a24 := gr_ob g47 o_a24
              have o_a27 := gr_ob g47 o_a27
              have o_a28 := gr_ob g47 o_a28
              have o_a29 := gr_ob g47 o_a29
              have o_a31 := gr_ob g47 o_a31
              have o_a39 := gr_ob g47 o_a39
              have o_a40 := gr_ob g47 o_a40
              have o_a43 := gr_ob g47 o_a43
              have o_a44 := gr_ob g47 o_a44
              have o_a6 := gr_ob g47 o_a6
              have o_a7 := gr_ob g47 o_a7
              have o_v0 := gr_ob g47 o_v0
              refine r_iadd (pc := 135) C dX9_go_135 ?_
              refine r_topi (fun x49 ex49 => ?_)
              have h := h x49 ex49
              refine r_istore (pc := 136) C dX9_go_136 (by decide) (lv' := [(6, .int x49), (5, .ref a31), (4, .ref a27), (0, .ref v0), (1, .int v1), (2, .int v2), (3, .int v3)]) rfl ?_
              refine r_iload (pc := 138) C dX9_go_138 0 rfl ?_
              refine r_sipush (pc := 140) C (v := (999 : Int32)) dX9_go_140 (by decide) ?_
              refine r_icmp_le (pc := 143) C (tgt := 152) dX9_go_143 (by decide) (fun c50 => ?_) (fun c50 => ?_)
              · have h := h.1 c50
                refine r_aload_n (pc := 152) C dX9_go_152 3 rfl ?_
                obtain ⟨a51, ea51, h⟩ := h
                refine r_getr (pc := 153) C fL_X9_44 dX9_go_153 o_v0 ea51 ?_
                obtain ⟨o_a51, h⟩ := h
                refine r_callVv0 (pc := 156) C (rest := []) (a := a51) o_a51 [] yV_X0_keepForUndo g_986 (c_X0_keepForUndo h) dX9_go_156 rfl rfl (Nat.le_of_ble_eq_true rfl) ⟨by decide, by decide⟩ ⟨by decide, by decide⟩ ⟨rfl, rfl⟩ (fun S52 h g53 => ?_)
                have h := h g53
                have o_a1 := gr_ob g53 o_a1
                have o_a13 := gr_ob g53 o_a13
                have o_a22 := gr_ob g53 o_a22
                have o_a23 := gr_ob g53 o_a23
                have o_a24 := gr_ob g53 o_a24
                have o_a27 := gr_ob g53 o_a27
                have o_a28 := gr_ob g53 o_a28
                have o_a29 := gr_ob g53 o_a29
                have o_a31 := gr_ob g53 o_a31
                have o_a39 := gr_ob g53 o_a39
                have o_a40 := gr_ob g53 o_a40
                have o_a43 := gr_ob g53 o_a43
                have o_a44 := gr_ob g53 o_a44
                have o_a51 := gr_ob g53 o_a51
                have o_a6 := gr_ob g53 o_a6
                have o_a7 := gr_ob g53 o_a7
                have o_v0 := gr_ob g53 o_v0
                refine r_aload_n (pc := 159) C dX9_go_159 3 rfl ?_
                obtain ⟨a55, ea55, h⟩ := h
                refine r_getr (pc := 160) C fL_X9_16 dX9_go_160 o_v0 ea55 ?_
                refine r_aload_n (pc := 163) C dX9_go_163 3 rfl ?_
                obtain ⟨a56, ea56, h⟩ := h
                refine r_getr (pc := 164) C fL_X9_44 dX9_go_164 o_v0 ea56 ?_
                obtain ⟨o_a56, h⟩ := h
                obtain ⟨a57, ea57, h⟩ := h
                refine r_getr (pc := 167) C fL_X9_287 dX9_go_167 o_a56 ea57 ?_
                obtain ⟨o_a57, h⟩ := h
                refine r_geti (pc := 170) C fL_X9_296 dX9_go_170 o_a57 ?_
                refine r_topi (fun x58 ex58 => ?_)
                have h := h x58 ex58
                obtain ⟨o_a55, h⟩ := h
                refine r_callVi0 (pc := 173) C (rest := []) (a := a55) o_a55 [.int x58] yV_X8_hourOf g_994 (c_X8_hourOf h) dX9_go_173 rfl rfl (Nat.le_of_ble_eq_true rfl) ⟨by decide, by decide⟩ ⟨by decide, by decide⟩ ⟨rfl, rfl⟩ (fun x61 S59 h g60 => ?_)
                have h := h g60
                have o_a1 := gr_ob g60 o_a1
                have o_a13 := gr_ob g60 o_a13
                have o_a22 := gr_ob g60 o_a22
                have o_a23 := gr_ob g60 o_a23
                have o_a24 := gr_ob g60 o_a24
                have o_a27 := gr_ob g60 o_a27
                have o_a28 := gr_ob g60 o_a28
                have o_a29 := gr_ob g60 o_a29
                have o_a31 := gr_ob g60 o_a31
                have o_a39 := gr_ob g60 o_a39
                have o_a40 := gr_ob g60 o_a40
                have o_a43 := gr_ob g60 o_a43
                have o_a44 := gr_ob g60 o_a44
                have o_a51 := gr_ob g60 o_a51
                have o_a55 := gr_ob g60 o_a55
                have o_a56 := gr_ob g60 o_a56
                have o_a57 := gr_ob g60 o_a57
                have o_a6 := gr_ob g60 o_a6
                have o_a7 := gr_ob g60 o_a7
                have o_v0 := gr_ob g60 o_v0
                refine r_istore (pc := 176) C dX9_go_176 (by decide) (lv' := [(7, .int x61), (6, .int x49), (5, .ref a31), (4, .ref a27), (0, .ref v0), (1, .int v1), (2, .int v2), (3, .int v3)]) rfl ?_
                refine r_aload_n (pc := 178) C dX9_go_178 4 rfl ?_
                obtain ⟨a62, ea62, h⟩ := h
                refine r_getr (pc := 179) C fL_X9_16 dX9_go_179 o_v0 ea62 ?_
                refine r_iload (pc := 182) C dX9_go_182 0 rfl ?_
                obtain ⟨o_a62, h⟩ := h
                refine r_callVi0 (pc := 184) C (rest := []) (a := a62) o_a62 [.int x61] yV_X8_hasHour g_675 (c_X8_hasHour h) dX9_go_184 rfl rfl (Nat.le_of_ble_eq_true rfl) ⟨by decide, by decide⟩ ⟨by decide, by decide⟩ ⟨rfl, rfl⟩ (fun x65 S63 h g64 => ?_)
                have bx65 := h.1
                have h := h.2 g64 bx65
                have o_a1 := gr_ob g64 o_a1
                have o_a13 := gr_ob g64 o_a13
                have o_a22 := gr_ob g64 o_a22
                have o_a23 := gr_ob g64 o_a23
                have o_a24 := gr_ob g64 o_a24
                have o_a27 := gr_ob g64 o_a27
                have o_a28 := gr_ob g64 o_a28
                have o_a29 := gr_ob g64 o_a29
                have o_a31 := gr_ob g64 o_a31
                have o_a39 := gr_ob g64 o_a39
                have o_a40 := gr_ob g64 o_a40
                have o_a43 := gr_ob g64 o_a43
                have o_a44 := gr_ob g64 o_a44
                have o_a51 := gr_ob g64 o_a51
                have o_a55 := gr_ob g64 o_a55
                have o_a56 := gr_ob g64 o_a56
                have o_a57 := gr_ob g64 o_a57
                have o_a6 := gr_ob g64 o_a6
                have o_a62 := gr_ob g64 o_a62
                have o_a7 := gr_ob g64 o_a7
                have o_v0 := gr_ob g64 o_v0
                refine r_if_eq (pc := 187) C (tgt := 243) dX9_go_187 (by decide) (fun c66 => ?_) (fun c66 => ?_)
                · have h := h.1 c66
                  exact r_sub [4, 6, 2, 1] rfl (T_X9_go_243 C E ht hn h)
                · have h := h.2 c66
                  refine r_aload_n (pc := 190) C dX9_go_190 4 rfl ?_
                  obtain ⟨a67, ea67, h⟩ := h
                  refine r_getr (pc := 191) C fL_X9_44 dX9_go_191 o_v0 ea67 ?_
                  refine r_iload (pc := 194) C dX9_go_194 0 rfl ?_
                  obtain ⟨o_a67, h⟩ := h
                  refine r_callVi0 (pc := 196) C (rest := []) (a := a67) o_a67 [.int x61] yV_X0_rainsIn g_995 (c_X0_rainsIn h) dX9_go_196 rfl rfl (Nat.le_of_ble_eq_true rfl) ⟨by decide, by decide⟩ ⟨by decide, by decide⟩ ⟨rfl, rfl⟩ (fun x70 S68 h g69 => ?_)
                  have bx70 := h.1
                  have h := h.2 g69 bx70
                  have o_a1 := gr_ob g69 o_a1
                  have o_a13 := gr_ob g69 o_a13
                  have o_a22 := gr_ob g69 o_a22
                  have o_a23 := gr_ob g69 o_a23
                  have o_a24 := gr_ob g69 o_a24
                  have o_a27 := gr_ob g69 o_a27
                  have o_a28 := gr_ob g69 o_a28
                  have o_a29 := gr_ob g69 o_a29
                  have o_a31 := gr_ob g69 o_a31
                  have o_a39 := gr_ob g69 o_a39
                  have o_a40 := gr_ob g69 o_a40
                  have o_a43 := gr_ob g69 o_a43
                  have o_a44 := gr_ob g69 o_a44
                  have o_a51 := gr_ob g69 o_a51
                  have o_a55 := gr_ob g69 o_a55
                  have o_a56 := gr_ob g69 o_a56
                  have o_a57 := gr_ob g69 o_a57
                  have o_a6 := gr_ob g69 o_a6
                  have o_a62 := gr_ob g69 o_a62
                  have o_a67 := gr_ob g69 o_a67
                  have o_a7 := gr_ob g69 o_a7
                  have o_v0 := gr_ob g69 o_v0
                  refine r_if_eq (pc := 199) C (tgt := 243) dX9_go_199 (by decide) (fun c71 => ?_) (fun c71 => ?_)
                  · have h := h.1 c71
                    exact r_sub [4, 6, 2, 1] rfl (T_X9_go_243 C E ht hn h)
                  · have h := h.2 c71
                    refine r_aload_n (pc := 202) C dX9_go_202 4 rfl ?_
                    obtain ⟨a72, ea72, h⟩ := h
                    refine r_getr (pc := 203) C fL_X9_30 dX9_go_203 o_v0 ea72 ?_
                    refine r_aload (pc := 206) C dX9_go_206 3 rfl ?_
                    refine r_aload (pc := 208) C dX9_go_208 2 rfl ?_
                    refine r_iload_n (pc := 210) C dX9_go_210 6 rfl ?_
                    refine r_aload_n (pc := 211) C dX9_go_211 4 rfl ?_
                    obtain ⟨a73, ea73, h⟩ := h
                    refine r_getr (pc := 212) C fL_X9_16 dX9_go_212 o_v0 ea73 ?_
                    obtain ⟨o_a73, h⟩ := h
                    obtain ⟨a74, ea74, h⟩ := h
                    refine r_getr (pc := 215) C fL_X9_116 dX9_go_215 o_a73 ea74 ?_
                    refine r_iload (pc := 218) C dX9_go_218 0 rfl ?_
                    obtain ⟨o_a74, h⟩ := h
                    obtain ⟨i75, a76, ea76, h⟩ := h
                    refine r_aald17 (pc := 220) C dX9_go_220 o_a74 i75 ea76 ?_
                    refine r_iload_n (pc := 221) C dX9_go_221 7 rfl ?_
                    obtain ⟨o_a72, h⟩ := h
                    refine r_callVl0 (pc := 222) C (rest := []) (a := a72) o_a72 [.ref a27, .ref a31, .int v2, .ref a76, .int v3] yV_X1_wetOf g_688 (c_X1_wetOf h) dX9_go_222 rfl rfl (Nat.le_of_ble_eq_true rfl) ⟨by decide, by decide⟩ ⟨by decide, by decide⟩ ⟨rfl, rfl⟩ (fun x79 S77 h g78 => ?_)
                    have h := h g78
                    have o_a1 := gr_ob g78 o_a1
                    have o_a13 := gr_ob g78 o_a13
                    have o_a22 := gr_ob g78 o_a22
                    have o_a23 := gr_ob g78 o_a23
                    have o_a24 := gr_ob g78 o_a24
                    have o_a27 := gr_ob g78 o_a27
                    have o_a28 := gr_ob g78 o_a28
                    have o_a29 := gr_ob g78 o_a29
                    have o_a31 := gr_ob g78 o_a31
                    have o_a39 := gr_ob g78 o_a39
                    have o_a40 := gr_ob g78 o_a40
                    have o_a43 := gr_ob g78 o_a43
                    have o_a44 := gr_ob g78 o_a44
                    have o_a51 := gr_ob g78 o_a51
                    have o_a55 := gr_ob g78 o_a55
                    have o_a56 := gr_ob g78 o_a56
                    have o_a57 := gr_ob g78 o_a57
                    have o_a6 := gr_ob g78 o_a6
                    have o_a62 := gr_ob g78 o_a62
                    have o_a67 := gr_ob g78 o_a67
                    have o_a7 := gr_ob g78 o_a7
                    have o_a72 := gr_ob g78 o_a72
                    have o_a73 := gr_ob g78 o_a73
                    have o_a74 := gr_ob g78 o_a74
                    have o_v0 := gr_ob g78 o_v0
                    refine r_pop2 (pc := 225) C dX9_go_225 rfl ?_
                    refine r_aload_n (pc := 226) C dX9_go_226 4 rfl ?_
                    obtain ⟨a80, ea80, h⟩ := h
                    refine r_getr (pc := 227) C fL_X9_44 dX9_go_227 o_v0 ea80 ?_
                    obtain ⟨o_a80, h⟩ := h
                    obtain ⟨a81, ea81, h⟩ := h
                    refine r_getr (pc := 230) C fL_X9_287 dX9_go_230 o_a80 ea81 ?_
                    refine r_aload_n (pc := 233) C dX9_go_233 4 rfl ?_
                    obtain ⟨a82, ea82, h⟩ := h
                    refine r_getr (pc := 234) C fL_X9_30 dX9_go_234 o_v0 ea82 ?_
                    obtain ⟨o_a82, h⟩ := h
                    obtain ⟨a83, ea83, h⟩ := h
                    refine r_getr (pc := 237) C fL_X9_124 dX9_go_237 o_a82 ea83 ?_
                    obtain ⟨o_a81, h⟩ := h
                    refine r_callVv0 (pc := 240) C (rest := []) (a := a81) o_a81 [.ref a83] yV_X2_addFaces g_999 (c_X2_addFaces h) dX9_go_240 rfl rfl (Nat.le_of_ble_eq_true rfl) ⟨by decide, by decide⟩ ⟨by decide, by decide⟩ ⟨rfl, rfl⟩ (fun S84 h g85 => ?_)
                    have h := h g85
                    have o_a1 := gr_ob g85 o_a1
                    have o_a13 := gr_ob g85 o_a13
                    have o_a22 := gr_ob g85 o_a22
                    have o_a23 := gr_ob g85 o_a23
                    have o_a24 := gr_ob g85 o_a24
                    have o_a27 := gr_ob g85 o_a27
                    have o_a28 := gr_ob g85 o_a28
                    have o_a29 := gr_ob g85 o_a29
                    have o_a31 := gr_ob g85 o_a31
                    have o_a39 := gr_ob g85 o_a39
                    have o_a40 := gr_ob g85 o_a40
                    have o_a43 := gr_ob g85 o_a43
                    have o_a44 := gr_ob g85 o_a44
                    have o_a51 := gr_ob g85 o_a51
                    have o_a55 := gr_ob g85 o_a55
                    have o_a56 := gr_ob g85 o_a56
                    have o_a57 := gr_ob g85 o_a57
                    have o_a6 := gr_ob g85 o_a6
                    have o_a62 := gr_ob g85 o_a62
                    have o_a67 := gr_ob g85 o_a67
                    have o_a7 := gr_ob g85 o_a7
                    have o_a72 := gr_ob g85 o_a72
                    have o_a73 := gr_ob g85 o_a73
                    have o_a74 := gr_ob g85 o_a74
                    have o_a80 := gr_ob g85 o_a80
                    have o_a81 := gr_ob g85 o_a81
                    have o_a82 := gr_ob g85 o_a82
                    have o_v0 := gr_ob g85 o_v0
                    exact r_sub [4, 6, 2, 1] rfl (T_X9_go_243 C E ht hn h)
              · have h := h.2 c50
                refine r_aload_n (pc := 146) C dX9_go_146 3 rfl ?_
                refine r_iconst (pc := 147) C (v := (3 : Int32)) dX9_go_147 (by decide) ?_
                refine r_callVi0 (pc := 148) C (rest := []) (a := v0) o_v0 [.int (3 : Int32)] yV_X9_refuse g_430 (c_X9_refuse h) dX9_go_148 rfl rfl (Nat.le_of_ble_eq_true rfl) ⟨by decide, by decide⟩ ⟨by decide, by decide⟩ ⟨rfl, rfl⟩ (fun x89 S87 h g88 => ?_)
                have h := h g88
                have o_a1 := gr_ob g88 o_a1
                have o_a13 := gr_ob g88 o_a13
                have o_a22 := gr_ob g88 o_a22
                have o_a23 := gr_ob g88 o_a23
                have o_a24 := gr_ob g88 o_a24
                have o_a27 := gr_ob g88 o_a27
                have o_a28 := gr_ob g88 o_a28
                have o_a29 := gr_ob g88 o_a29
                have o_a31 := gr_ob g88 o_a31
                have o_a39 := gr_ob g88 o_a39
                have o_a40 := gr_ob g88 o_a40
                have o_a43 := gr_ob g88 o_a43
                have o_a44 := gr_ob g88 o_a44
                have o_a6 := gr_ob g88 o_a6
                have o_a7 := gr_ob g88 o_a7
                have o_v0 := gr_ob g88 o_v0
                exact r_iret (pc := 151) C E ht dX9_go_151 (by decide) (by decide) h
            · have h := h.2 c42
              refine r_aload_n (pc := 113) C dX9_go_113 2 rfl ?_
              refine r_iconst (pc := 114) C (v := (5 : Int32)) dX9_go_114 (by decide) ?_
              refine r_callVi0 (pc := 115) C (rest := []) (a := v0) o_v0 [.int (5 : Int32)] yV_X9_refuse g_430 (c_X9_refuse h) dX9_go_115 rfl rfl (Nat.le_of_ble_eq_true rfl) ⟨by decide, by decide⟩ ⟨by decide, by decide⟩ ⟨rfl, rfl⟩ (fun x92 S90 h g91 => ?_)
              have h := h g91
              have o_a1 := gr_ob g91 o_a1
              have o_a13 := gr_ob g91 o_a13
              have o_a22 := gr_ob g91 o_a22
              have o_a23 := gr_ob g91 o_a23
              have o_a24 := gr_ob g91 o_a24
              have o_a27 := gr_ob g91 o_a27
              have o_a28 := gr_ob g91 o_a28
              have o_a29 := gr_ob g91 o_a29
              have o_a31 := gr_ob g91 o_a31
              have o_a39 := gr_ob g91 o_a39
              have o_a40 := gr_ob g91 o_a40
              have o_a6 := gr_ob g91 o_a6
              have o_a7 := gr_ob g91 o_a7
              have o_v0 := gr_ob g91 o_v0
              exact r_iret (pc := 118) C E ht dX9_go_118 (by decide) (by decide) h
          · have h := h.2 c35
            refine r_aload_n (pc := 88) C dX9_go_88 2 rfl ?_
            refine r_iconst (pc := 89) C (v := (2 : Int32)) dX9_go_89 (by decide) ?_
            refine r_callVi0 (pc := 90) C (rest := []) (a := v0) o_v0 [.int (2 : Int32)] yV_X9_refuse g_430 (c_X9_refuse h) dX9_go_90 rfl rfl (Nat.le_of_ble_eq_true rfl) ⟨by decide, by decide⟩ ⟨by decide, by decide⟩ ⟨rfl, rfl⟩ (fun x95 S93 h g94 => ?_)
            have h := h g94
            have o_a1 := gr_ob g94 o_a1
            have o_a13 := gr_ob g94 o_a13
            have o_a22 := gr_ob g94 o_a22
            have o_a23 := gr_ob g94 o_a23
            have o_a24 := gr_ob g94 o_a24
            have o_a27 := gr_ob g94 o_a27
            have o_a28 := gr_ob g94 o_a28
            have o_a29 := gr_ob g94 o_a29
            have o_a6 := gr_ob g94 o_a6
            have o_a7 := gr_ob g94 o_a7
            have o_v0 := gr_ob g94 o_v0
            exact r_iret (pc := 93) C E ht dX9_go_93 (by decide) (by decide) h
        · have h := h.2 c21
          exact r_sub [0] rfl (T_X9_go_45 C E ht hn h)
def P_X9_go (v0 : Nat) (v1 : Int32) (v2 : Int32) (v3 : Int32) (Q : Int32 → HS → Prop) (S : HS) : Prop := P_X9_go_0 Q v0 v1 v2 v3 S
theorem c_X9_go {l : Launch} {Ee : EE} {S : HS} {v0 : Nat} {v1 : Int32} {v2 : Int32} {v3 : Int32} {Q : Int32 → HS → Prop} (h : P_X9_go v0 v1 v2 v3 Q S) : MI l yX9_go cX9_go 8 (some .int) rm_X9_go Ee S [.ref v0, .int v1, .int v2, .int v3] Q :=
  openI (by decide) (Nat.le_of_ble_eq_true rfl) (fun X C E ht hn hE hl => by subst hE; exact r_sub [0, 1, 2, 3] rfl (T_X9_go_0 C E ht hn h))
def rm_X9_got : Room := { frames := 2, cells := 0, slots := 0, locals := 56 }
def P_X9_got_17 (Q : Int64 → HS → Prop) (v0 : Nat) (S : HS) : Prop := ob S v0 9 ∧ (P_X9_refuse v0 (1 : Int32) (fun x3 S1 => Gr S S1 → (Q x3.toInt64 S1)) S)
set_option maxRecDepth 20000 in
set_option maxHeartbeats 4000000 in
theorem T_X9_got_17 {X : CX} {Q : Int64 → HS → Prop} (C : Cx X cX9_got RX9 3 rm_X9_got) (E : ReJ X rm_X9_got Q) (ht : (xh X).sig.returnType = (some .long)) (hn : (xh X).name = yX9_got.name) {v0 : Nat} {S : HS} (h : P_X9_got_17 Q v0 S) : WS X 3 0 0 17 [(0, .ref v0)] [] S := by
  refine r_aload_n (pc := 17) C dX9_got_17 0 rfl ?_
  refine r_iconst (pc := 18) C (v := (1 : Int32)) dX9_got_18 (by decide) ?_
  obtain ⟨o_v0, h⟩ := h
  refine r_callVi0 (pc := 19) C (rest := []) (a := v0) o_v0 [.int (1 : Int32)] yV_X9_refuse g_430 (c_X9_refuse h) dX9_got_19 rfl rfl (Nat.le_of_ble_eq_true rfl) ⟨by decide, by decide⟩ ⟨by decide, by decide⟩ ⟨rfl, rfl⟩ (fun x3 S1 h g2 => ?_)
  have h := h g2
  have o_v0 := gr_ob g2 o_v0
  refine r_i2l (pc := 22) C dX9_got_22 ?_
  exact r_lret (pc := 23) C E ht dX9_got_23 (by decide) (by decide) h
def P_X9_got_0 (Q : Int64 → HS → Prop) (v0 : Nat) (v1 : Int32) (v2 : Int32) (S : HS) : Prop := ob S v0 9 ∧ (∃ a1 : Nat, fR S v0 6 = some a1 ∧ (ob S a1 0 ∧ (P_X0_isOn a1 (fun x4 S2 => Gr S S2 → bl x4 → (((x4 = 0) → (P_X9_got_17 Q v0 S2)) ∧ ((¬ x4 = 0) → (P_X9_isFace v1 (fun x8 S6 => Gr S2 S6 → bl x8 → (((¬ x8 = 0) → (∀ S10 : HS, S10 = sI S6 v0 9 (0 : Int32) → (∃ a11 : Nat, fR S10 v0 6 = some a11 ∧ (ob S10 a11 0 ∧ (∃ a12 : Nat, fR S10 a11 4 = some a12 ∧ (ob S10 a12 2 ∧ (∃ a13 : Nat, fR S10 a12 2 = some a13 ∧ (ob S10 a13 14 ∧ (vp_in v1 (hN S10 a13) ∧ ∀ x15 : Int64, x15 = fJ S10 a13 v1.toNatClampNeg → (P_X9_fraction x15 (2520 : Int64) v2 (fun x18 S16 => Gr S10 S16 → (Q x18 S16)) S10)))))))))) ∧ ((x8 = 0) → (P_X9_got_17 Q v0 S6)))) S2)))) S)))
set_option maxRecDepth 20000 in
set_option maxHeartbeats 4000000 in
theorem T_X9_got_0 {X : CX} {Q : Int64 → HS → Prop} (C : Cx X cX9_got RX9 3 rm_X9_got) (E : ReJ X rm_X9_got Q) (ht : (xh X).sig.returnType = (some .long)) (hn : (xh X).name = yX9_got.name) {v0 : Nat} {v1 : Int32} {v2 : Int32} {S : HS} (h : P_X9_got_0 Q v0 v1 v2 S) : WS X 3 0 0 0 [(0, .ref v0), (1, .int v1), (2, .int v2)] [] S := by
  refine r_aload_n (pc := 0) C dX9_got_0 0 rfl ?_
  obtain ⟨o_v0, h⟩ := h
  obtain ⟨a1, ea1, h⟩ := h
  refine r_getr (pc := 1) C fL_X9_44 dX9_got_1 o_v0 ea1 ?_
  obtain ⟨o_a1, h⟩ := h
  refine r_callVi0 (pc := 4) C (rest := []) (a := a1) o_a1 [] yV_X0_isOn g_981 (c_X0_isOn h) dX9_got_4 rfl rfl (Nat.le_of_ble_eq_true rfl) ⟨by decide, by decide⟩ ⟨by decide, by decide⟩ ⟨rfl, rfl⟩ (fun x4 S2 h g3 => ?_)
  have bx4 := h.1
  have h := h.2 g3 bx4
  have o_a1 := gr_ob g3 o_a1
  have o_v0 := gr_ob g3 o_v0
  refine r_if_eq (pc := 7) C (tgt := 17) dX9_got_7 (by decide) (fun c5 => ?_) (fun c5 => ?_)
  · have h := h.1 c5
    exact r_sub [0] rfl (T_X9_got_17 C E ht hn h)
  · have h := h.2 c5
    refine r_iload_n (pc := 10) C dX9_got_10 1 rfl ?_
    refine r_callSi0 (pc := 11) C (rest := []) rfl [.int v1] yS_X9_isFace g_653 (c_X9_isFace h) dX9_got_11 rfl rfl (Nat.le_of_ble_eq_true rfl) ⟨by decide, by decide⟩ ⟨by decide, by decide⟩ ⟨rfl, rfl⟩ (fun x8 S6 h g7 => ?_)
    have bx8 := h.1
    have h := h.2 g7 bx8
    have o_a1 := gr_ob g7 o_a1
    have o_v0 := gr_ob g7 o_v0
    refine r_if_ne (pc := 14) C (tgt := 24) dX9_got_14 (by decide) (fun c9 => ?_) (fun c9 => ?_)
    · have h := h.1 c9
      refine r_aload_n (pc := 24) C dX9_got_24 0 rfl ?_
      refine r_iconst (pc := 25) C (v := (0 : Int32)) dX9_got_25 (by decide) ?_
      refine r_puti (pc := 26) C pfL_X9_92 dX9_got_26 o_v0 ?_
      refine r_heap (fun S10 eS10 => ?_)
      have h := h S10 eS10
      have o_a1 := ob_I eS10 o_a1
      have o_v0 := ob_I eS10 o_v0
      refine r_aload_n (pc := 29) C dX9_got_29 0 rfl ?_
      obtain ⟨a11, ea11, h⟩ := h
      refine r_getr (pc := 30) C fL_X9_44 dX9_got_30 o_v0 ea11 ?_
      obtain ⟨o_a11, h⟩ := h
      obtain ⟨a12, ea12, h⟩ := h
      refine r_getr (pc := 33) C fL_X9_287 dX9_got_33 o_a11 ea12 ?_
      obtain ⟨o_a12, h⟩ := h
      obtain ⟨a13, ea13, h⟩ := h
      refine r_getr (pc := 36) C fL_X9_322 dX9_got_36 o_a12 ea13 ?_
      refine r_iload_n (pc := 39) C dX9_got_39 1 rfl ?_
      obtain ⟨o_a13, h⟩ := h
      obtain ⟨i14, h⟩ := h
      refine r_lald (pc := 40) C dX9_got_40 o_a13 i14 ?_
      refine r_topl (fun x15 ex15 => ?_)
      have h := h x15 ex15
      refine r_ldc2 (pc := 41) C (v := (2520 : Int64)) dX9_got_41 g_721 ?_
      refine r_iload_n (pc := 44) C dX9_got_44 2 rfl ?_
      refine r_callSl0 (pc := 45) C (rest := []) rfl [.long x15, .long (2520 : Int64), .int v2] yS_X9_fraction g_722 (c_X9_fraction h) dX9_got_45 rfl rfl (Nat.le_of_ble_eq_true rfl) ⟨by decide, by decide⟩ ⟨by decide, by decide⟩ ⟨rfl, rfl⟩ (fun x18 S16 h g17 => ?_)
      have h := h g17
      have o_a1 := gr_ob g17 o_a1
      have o_a11 := gr_ob g17 o_a11
      have o_a12 := gr_ob g17 o_a12
      have o_a13 := gr_ob g17 o_a13
      have o_v0 := gr_ob g17 o_v0
      exact r_lret (pc := 48) C E ht dX9_got_48 (by decide) (by decide) h
    · have h := h.2 c9
      exact r_sub [0] rfl (T_X9_got_17 C E ht hn h)
def P_X9_got (v0 : Nat) (v1 : Int32) (v2 : Int32) (Q : Int64 → HS → Prop) (S : HS) : Prop := P_X9_got_0 Q v0 v1 v2 S
theorem c_X9_got {l : Launch} {Ee : EE} {S : HS} {v0 : Nat} {v1 : Int32} {v2 : Int32} {Q : Int64 → HS → Prop} (h : P_X9_got v0 v1 v2 Q S) : MJ l yX9_got cX9_got 3 (some .long) rm_X9_got Ee S [.ref v0, .int v1, .int v2] Q :=
  openJ (by decide) (Nat.le_of_ble_eq_true rfl) (fun X C E ht hn hE hl => by subst hE; exact r_sub [0, 1, 2] rfl (T_X9_got_0 C E ht hn h))
def rm_X9_held : Room := { frames := 3, cells := 0, slots := 0, locals := 76 }
def P_X9_held_0 (Q : Int32 → HS → Prop) (v0 : Nat) (v1 : Int32) (v2 : Int32) (v3 : Int32) (v4 : Int32) (v5 : Int32) (S : HS) : Prop := ob S v0 9 ∧ (P_X9_legTrouble v0 v1 v2 v3 v4 v5 (fun x3 S1 => Gr S S1 → (P_X9_refusedBy v0 x3 (fun x6 S4 => Gr S1 S4 → bl x6 → (((x6 = 0) → (∃ a8 : Nat, fR S4 v0 2 = some a8 ∧ (ob S4 a8 8 ∧ (∃ a9 : Nat, fR S4 a8 9 = some a9 ∧ (ob S4 a9 19 ∧ (vp_in v1 (hN S4 a9) ∧ ∃ a11 : Nat, fR S4 a9 v1.toNatClampNeg = some a11 ∧ (ob S4 a11 6 ∧ (∀ x12 : Int32, x12 = fI S4 a11 0 → (((x12 = (3 : Int32)) → (∃ a14 : Nat, fR S4 v0 4 = some a14 ∧ (∃ a15 : Nat, fR S4 v0 2 = some a15 ∧ (ob S4 a15 8 ∧ (∃ a16 : Nat, fR S4 a15 8 = some a16 ∧ (ob S4 a16 18 ∧ (vp_in v2 (hN S4 a16) ∧ ∃ a18 : Nat, fR S4 a16 v2.toNatClampNeg = some a18 ∧ (∃ a19 : Nat, fR S4 v0 2 = some a19 ∧ (ob S4 a19 8 ∧ (∃ a20 : Nat, fR S4 a19 6 = some a20 ∧ (ob S4 a20 17 ∧ (vp_in v4 (hN S4 a20) ∧ ∃ a22 : Nat, fR S4 a20 v4.toNatClampNeg = some a22 ∧ (ob S4 a14 1 ∧ (P_X1_lay a14 a18 v3 a22 v5 (fun S23 => Gr S4 S23 → (∃ a26 : Nat, fR S23 v0 4 = some a26 ∧ (∃ a27 : Nat, fR S23 v0 2 = some a27 ∧ (ob S23 a27 8 ∧ (∃ a28 : Nat, fR S23 a27 9 = some a28 ∧ (ob S23 a28 19 ∧ (vp_in v1 (hN S23 a28) ∧ ∃ a30 : Nat, fR S23 a28 v1.toNatClampNeg = some a30 ∧ (ob S23 a26 1 ∧ (P_X1_isForward a26 a30 (fun x33 S31 => Gr S23 S31 → bl x33 → (((x33 = 0) → (Q (0 : Int32) S31)) ∧ ((¬ x33 = 0) → (Q (1 : Int32) S31)))) S23))))))))) S4)))))))))))))) ∧ ((¬ x12 = (3 : Int32)) → (Q (-2 : Int32) S4))))))))))) ∧ ((¬ x6 = 0) → (Q (-1 : Int32) S4)))) S1)) S)
set_option maxRecDepth 20000 in
set_option maxHeartbeats 4000000 in
theorem T_X9_held_0 {X : CX} {Q : Int32 → HS → Prop} (C : Cx X cX9_held RX9 6 rm_X9_held) (E : ReI X rm_X9_held Q) (ht : (xh X).sig.returnType = (some .int)) (hn : (xh X).name = yX9_held.name) {v0 : Nat} {v1 : Int32} {v2 : Int32} {v3 : Int32} {v4 : Int32} {v5 : Int32} {S : HS} (h : P_X9_held_0 Q v0 v1 v2 v3 v4 v5 S) : WS X 6 0 0 0 [(0, .ref v0), (1, .int v1), (2, .int v2), (3, .int v3), (4, .int v4), (5, .int v5)] [] S := by
  refine r_aload_n (pc := 0) C dX9_held_0 0 rfl ?_
  refine r_aload_n (pc := 1) C dX9_held_1 0 rfl ?_
  refine r_iload_n (pc := 2) C dX9_held_2 1 rfl ?_
  refine r_iload_n (pc := 3) C dX9_held_3 2 rfl ?_
  refine r_iload_n (pc := 4) C dX9_held_4 3 rfl ?_
  refine r_iload (pc := 5) C dX9_held_5 4 rfl ?_
  refine r_iload (pc := 7) C dX9_held_7 5 rfl ?_
  obtain ⟨o_v0, h⟩ := h
  refine r_callVi0 (pc := 9) C (rest := [.ref v0]) (a := v0) o_v0 [.int v1, .int v2, .int v3, .int v4, .int v5] yV_X9_legTrouble g_656 (c_X9_legTrouble h) dX9_held_9 rfl rfl (Nat.le_of_ble_eq_true rfl) ⟨by decide, by decide⟩ ⟨by decide, by decide⟩ ⟨rfl, rfl⟩ (fun x3 S1 h g2 => ?_)
  have h := h g2
  have o_v0 := gr_ob g2 o_v0
  refine r_callVi0 (pc := 12) C (rest := []) (a := v0) o_v0 [.int x3] yV_X9_refusedBy g_683 (c_X9_refusedBy h) dX9_held_12 rfl rfl (Nat.le_of_ble_eq_true rfl) ⟨by decide, by decide⟩ ⟨by decide, by decide⟩ ⟨rfl, rfl⟩ (fun x6 S4 h g5 => ?_)
  have bx6 := h.1
  have h := h.2 g5 bx6
  have o_v0 := gr_ob g5 o_v0
  refine r_if_eq (pc := 15) C (tgt := 20) dX9_held_15 (by decide) (fun c7 => ?_) (fun c7 => ?_)
  · have h := h.1 c7
    refine r_aload_n (pc := 20) C dX9_held_20 0 rfl ?_
    obtain ⟨a8, ea8, h⟩ := h
    refine r_getr (pc := 21) C fL_X9_16 dX9_held_21 o_v0 ea8 ?_
    obtain ⟨o_a8, h⟩ := h
    obtain ⟨a9, ea9, h⟩ := h
    refine r_getr (pc := 24) C fL_X9_108 dX9_held_24 o_a8 ea9 ?_
    refine r_iload_n (pc := 27) C dX9_held_27 1 rfl ?_
    obtain ⟨o_a9, h⟩ := h
    obtain ⟨i10, a11, ea11, h⟩ := h
    refine r_aald19 (pc := 28) C dX9_held_28 o_a9 i10 ea11 ?_
    obtain ⟨o_a11, h⟩ := h
    refine r_geti (pc := 29) C fL_X9_167 dX9_held_29 o_a11 ?_
    refine r_topi (fun x12 ex12 => ?_)
    have h := h x12 ex12
    refine r_iconst (pc := 32) C (v := (3 : Int32)) dX9_held_32 (by decide) ?_
    refine r_icmp_eq (pc := 33) C (tgt := 39) dX9_held_33 (by decide) (fun c13 => ?_) (fun c13 => ?_)
    · have h := h.1 c13
      refine r_aload_n (pc := 39) C dX9_held_39 0 rfl ?_
      obtain ⟨a14, ea14, h⟩ := h
      refine r_getr (pc := 40) C fL_X9_30 dX9_held_40 o_v0 ea14 ?_
      refine r_aload_n (pc := 43) C dX9_held_43 0 rfl ?_
      obtain ⟨a15, ea15, h⟩ := h
      refine r_getr (pc := 44) C fL_X9_16 dX9_held_44 o_v0 ea15 ?_
      obtain ⟨o_a15, h⟩ := h
      obtain ⟨a16, ea16, h⟩ := h
      refine r_getr (pc := 47) C fL_X9_112 dX9_held_47 o_a15 ea16 ?_
      refine r_iload_n (pc := 50) C dX9_held_50 2 rfl ?_
      obtain ⟨o_a16, h⟩ := h
      obtain ⟨i17, a18, ea18, h⟩ := h
      refine r_aald18 (pc := 51) C dX9_held_51 o_a16 i17 ea18 ?_
      refine r_iload_n (pc := 52) C dX9_held_52 3 rfl ?_
      refine r_aload_n (pc := 53) C dX9_held_53 0 rfl ?_
      obtain ⟨a19, ea19, h⟩ := h
      refine r_getr (pc := 54) C fL_X9_16 dX9_held_54 o_v0 ea19 ?_
      obtain ⟨o_a19, h⟩ := h
      obtain ⟨a20, ea20, h⟩ := h
      refine r_getr (pc := 57) C fL_X9_116 dX9_held_57 o_a19 ea20 ?_
      refine r_iload (pc := 60) C dX9_held_60 4 rfl ?_
      obtain ⟨o_a20, h⟩ := h
      obtain ⟨i21, a22, ea22, h⟩ := h
      refine r_aald17 (pc := 62) C dX9_held_62 o_a20 i21 ea22 ?_
      refine r_iload (pc := 63) C dX9_held_63 5 rfl ?_
      obtain ⟨o_a14, h⟩ := h
      refine r_callVv0 (pc := 65) C (rest := []) (a := a14) o_a14 [.ref a18, .int v3, .ref a22, .int v5] yV_X1_lay g_754 (c_X1_lay h) dX9_held_65 rfl rfl (Nat.le_of_ble_eq_true rfl) ⟨by decide, by decide⟩ ⟨by decide, by decide⟩ ⟨rfl, rfl⟩ (fun S23 h g24 => ?_)
      have h := h g24
      have o_a11 := gr_ob g24 o_a11
      have o_a14 := gr_ob g24 o_a14
      have o_a15 := gr_ob g24 o_a15
      have o_a16 := gr_ob g24 o_a16
      have o_a19 := gr_ob g24 o_a19
      have o_a20 := gr_ob g24 o_a20
      have o_a8 := gr_ob g24 o_a8
      have o_a9 := gr_ob g24 o_a9
      have o_v0 := gr_ob g24 o_v0
      refine r_aload_n (pc := 68) C dX9_held_68 0 rfl ?_
      obtain ⟨a26, ea26, h⟩ := h
      refine r_getr (pc := 69) C fL_X9_30 dX9_held_69 o_v0 ea26 ?_
      refine r_aload_n (pc := 72) C dX9_held_72 0 rfl ?_
      obtain ⟨a27, ea27, h⟩ := h
      refine r_getr (pc := 73) C fL_X9_16 dX9_held_73 o_v0 ea27 ?_
      obtain ⟨o_a27, h⟩ := h
      obtain ⟨a28, ea28, h⟩ := h
      refine r_getr (pc := 76) C fL_X9_108 dX9_held_76 o_a27 ea28 ?_
      refine r_iload_n (pc := 79) C dX9_held_79 1 rfl ?_
      obtain ⟨o_a28, h⟩ := h
      obtain ⟨i29, a30, ea30, h⟩ := h
      refine r_aald19 (pc := 80) C dX9_held_80 o_a28 i29 ea30 ?_
      obtain ⟨o_a26, h⟩ := h
      refine r_callVi0 (pc := 81) C (rest := []) (a := a26) o_a26 [.ref a30] yV_X1_isForward g_755 (c_X1_isForward h) dX9_held_81 rfl rfl (Nat.le_of_ble_eq_true rfl) ⟨by decide, by decide⟩ ⟨by decide, by decide⟩ ⟨rfl, rfl⟩ (fun x33 S31 h g32 => ?_)
      have bx33 := h.1
      have h := h.2 g32 bx33
      have o_a11 := gr_ob g32 o_a11
      have o_a14 := gr_ob g32 o_a14
      have o_a15 := gr_ob g32 o_a15
      have o_a16 := gr_ob g32 o_a16
      have o_a19 := gr_ob g32 o_a19
      have o_a20 := gr_ob g32 o_a20
      have o_a26 := gr_ob g32 o_a26
      have o_a27 := gr_ob g32 o_a27
      have o_a28 := gr_ob g32 o_a28
      have o_a8 := gr_ob g32 o_a8
      have o_a9 := gr_ob g32 o_a9
      have o_v0 := gr_ob g32 o_v0
      refine r_if_eq (pc := 84) C (tgt := 91) dX9_held_84 (by decide) (fun c34 => ?_) (fun c34 => ?_)
      · have h := h.1 c34
        refine r_iconst (pc := 91) C (v := (0 : Int32)) dX9_held_91 (by decide) ?_
        exact r_iret (pc := 92) C E ht dX9_held_92 (by decide) (by decide) h
      · have h := h.2 c34
        refine r_iconst (pc := 87) C (v := (1 : Int32)) dX9_held_87 (by decide) ?_
        refine r_goto (pc := 88) C (tgt := 92) dX9_held_88 (by decide) ?_
        exact r_iret (pc := 92) C E ht dX9_held_92 (by decide) (by decide) h
    · have h := h.2 c13
      refine r_bipush (pc := 36) C (v := (-2 : Int32)) dX9_held_36 (by decide) ?_
      exact r_iret (pc := 38) C E ht dX9_held_38 (by decide) (by decide) h
  · have h := h.2 c7
    refine r_iconst (pc := 18) C (v := (-1 : Int32)) dX9_held_18 (by decide) ?_
    exact r_iret (pc := 19) C E ht dX9_held_19 (by decide) (by decide) h
def P_X9_held (v0 : Nat) (v1 : Int32) (v2 : Int32) (v3 : Int32) (v4 : Int32) (v5 : Int32) (Q : Int32 → HS → Prop) (S : HS) : Prop := P_X9_held_0 Q v0 v1 v2 v3 v4 v5 S
theorem c_X9_held {l : Launch} {Ee : EE} {S : HS} {v0 : Nat} {v1 : Int32} {v2 : Int32} {v3 : Int32} {v4 : Int32} {v5 : Int32} {Q : Int32 → HS → Prop} (h : P_X9_held v0 v1 v2 v3 v4 v5 Q S) : MI l yX9_held cX9_held 6 (some .int) rm_X9_held Ee S [.ref v0, .int v1, .int v2, .int v3, .int v4, .int v5] Q :=
  openI (by decide) (Nat.le_of_ble_eq_true rfl) (fun X C E ht hn hE hl => by subst hE; exact r_sub [0, 1, 2, 3, 4, 5] rfl (T_X9_held_0 C E ht hn h))
def rm_X9_init : Room := { frames := 4, cells := 118, slots := 1517, locals := 81 }
def P_X9_init_0 (Q : HS → Prop) (v0 : Nat) (S : HS) : Prop := ∀ a1 : Nat, a1 ∉ hL S → ∀ S2 : HS, S2 = nW S a1 12 900 → (ob S2 v0 9 ∧ (∀ S3 : HS, S3 = sR S2 v0 0 (some a1) → (∀ a4 : Nat, a4 ∉ hL S3 → ∀ S5 : HS, S5 = nW S3 a4 8 0 → (P_X8_init a4 (fun S6 => Gr S5 S6 → (∀ S9 : HS, S9 = sR S6 v0 2 (some a4) → (∀ a10 : Nat, a10 ∉ hL S9 → ∀ S11 : HS, S11 = nW S9 a10 4 0 → (P_X4_init a10 (fun S12 => Gr S11 S12 → (∀ S15 : HS, S15 = sR S12 v0 3 (some a10) → (∀ a16 : Nat, a16 ∉ hL S15 → ∀ S17 : HS, S17 = nW S15 a16 1 0 → (P_X1_init a16 (fun S18 => Gr S17 S18 → (∀ S21 : HS, S21 = sR S18 v0 4 (some a16) → (∀ a22 : Nat, a22 ∉ hL S21 → ∀ S23 : HS, S23 = nW S21 a22 7 0 → (P_X7_init a22 (fun S24 => Gr S23 S24 → (∀ S27 : HS, S27 = sR S24 v0 5 (some a22) → (∀ a28 : Nat, a28 ∉ hL S27 → ∀ S29 : HS, S29 = nW S27 a28 0 0 → (P_X0_init a28 (fun S30 => Gr S29 S30 → (∀ S33 : HS, S33 = sR S30 v0 6 (some a28) → (Q S33))) S29)))) S23)))) S17)))) S11)))) S5))))
set_option maxRecDepth 20000 in
set_option maxHeartbeats 4000000 in
theorem T_X9_init_0 {X : CX} {Q : HS → Prop} (C : Cx X cX9_init RX9 1 rm_X9_init) (E : ReV X rm_X9_init Q) (ht : (xh X).sig.returnType = none) (hn : (xh X).name = yX9_init.name) {v0 : Nat} {S : HS} (h : P_X9_init_0 Q v0 S) : WS X 1 0 0 0 [(0, .ref v0)] [] S := by
  refine r_aload_n (pc := 0) C dX9_init_0 0 rfl ?_
  refine r_objinit (pc := 1) C g_27 dX9_init_1 (by decide) (Nat.le_of_ble_eq_true rfl) ?_
  refine r_aload_n (pc := 4) C dX9_init_4 0 rfl ?_
  refine r_sipush (pc := 5) C (v := (900 : Int32)) dX9_init_5 (by decide) ?_
  refine r_newa12 (pc := 8) C (N := 900) g_71 dX9_init_8 (by decide) (by decide) (by decide) (by decide) (by decide) (fun a1 q44 => ?_)
  refine r_heap (fun S2 eS2 => ?_)
  have h := h a1 q44 S2 eS2
  have g45 := gr_of_new eS2 q44
  have o_a1 := ob_of_new eS2
  obtain ⟨o_v0, h⟩ := h
  refine r_putFr (pc := 10) C pfL_X9_9 hn dX9_init_10 o_v0 ?_
  refine r_heap (fun S3 eS3 => ?_)
  have h := h S3 eS3
  have o_a1 := ob_R eS3 o_a1
  have o_v0 := ob_R eS3 o_v0
  refine r_aload_n (pc := 13) C dX9_init_13 0 rfl ?_
  refine r_new (pc := 14) C nc_X9_13 dX9_init_14 (by decide) (by decide) (fun a4 q42 => ?_)
  refine r_heap (fun S5 eS5 => ?_)
  have h := h a4 q42 S5 eS5
  have g43 := gr_of_new eS5 q42
  have o_a4 := ob_of_new eS5
  have o_a1 := gr_ob g43 o_a1
  have o_v0 := gr_ob g43 o_v0
  refine r_dup (pc := 17) C dX9_init_17 rfl ?_
  refine r_callIv (pc := 18) C (rest := [.ref a4, .ref v0]) (a := a4) [] yI_X8_init g_32 (c_X8_init h) dX9_init_18 rfl rfl (Nat.le_of_ble_eq_true rfl) ⟨by decide, by decide⟩ ⟨by decide, by decide⟩ (fun S6 h g7 => ?_)
  have h := h g7
  have o_a1 := gr_ob g7 o_a1
  have o_a4 := gr_ob g7 o_a4
  have o_v0 := gr_ob g7 o_v0
  refine r_putr (pc := 21) C pfL_X9_16 dX9_init_21 o_v0 ?_
  refine r_heap (fun S9 eS9 => ?_)
  have h := h S9 eS9
  have o_a1 := ob_R eS9 o_a1
  have o_a4 := ob_R eS9 o_a4
  have o_v0 := ob_R eS9 o_v0
  refine r_aload_n (pc := 24) C dX9_init_24 0 rfl ?_
  refine r_new (pc := 25) C nc_X9_20 dX9_init_25 (by decide) (by decide) (fun a10 q40 => ?_)
  refine r_heap (fun S11 eS11 => ?_)
  have h := h a10 q40 S11 eS11
  have g41 := gr_of_new eS11 q40
  have o_a10 := ob_of_new eS11
  have o_a1 := gr_ob g41 o_a1
  have o_a4 := gr_ob g41 o_a4
  have o_v0 := gr_ob g41 o_v0
  refine r_dup (pc := 28) C dX9_init_28 rfl ?_
  refine r_callNv (pc := 29) C (rest := [.ref a10, .ref v0]) (a := a10) [] yI_X4_init (List.mem_of_getElem? (i := 3) rfl) (c_X4_init h) dX9_init_29 rfl rfl (Nat.le_of_ble_eq_true rfl) ⟨by decide, by decide⟩ ⟨by decide, by decide⟩ (fun S12 h g13 => ?_)
  have h := h g13
  have o_a1 := gr_ob g13 o_a1
  have o_a10 := gr_ob g13 o_a10
  have o_a4 := gr_ob g13 o_a4
  have o_v0 := gr_ob g13 o_v0
  refine r_putFr (pc := 32) C pfL_X9_23 hn dX9_init_32 o_v0 ?_
  refine r_heap (fun S15 eS15 => ?_)
  have h := h S15 eS15
  have o_a1 := ob_R eS15 o_a1
  have o_a10 := ob_R eS15 o_a10
  have o_a4 := ob_R eS15 o_a4
  have o_v0 := ob_R eS15 o_v0
  refine r_aload_n (pc := 35) C dX9_init_35 0 rfl ?_
  refine r_new (pc := 36) C nc_X9_27 dX9_init_36 (by decide) (by decide) (fun a16 q38 => ?_)
  refine r_heap (fun S17 eS17 => ?_)
  have h := h a16 q38 S17 eS17
  have g39 := gr_of_new eS17 q38
  have o_a16 := ob_of_new eS17
  have o_a1 := gr_ob g39 o_a1
  have o_a10 := gr_ob g39 o_a10
  have o_a4 := gr_ob g39 o_a4
  have o_v0 := gr_ob g39 o_v0
  refine r_dup (pc := 39) C dX9_init_39 rfl ?_
  refine r_callNv (pc := 40) C (rest := [.ref a16, .ref v0]) (a := a16) [] yI_X1_init (List.mem_of_getElem? (i := 4) rfl) (c_X1_init h) dX9_init_40 rfl rfl (Nat.le_of_ble_eq_true rfl) ⟨by decide, by decide⟩ ⟨by decide, by decide⟩ (fun S18 h g19 => ?_)
  have h := h g19
  have o_a1 := gr_ob g19 o_a1
  have o_a10 := gr_ob g19 o_a10
  have o_a16 := gr_ob g19 o_a16
  have o_a4 := gr_ob g19 o_a4
  have o_v0 := gr_ob g19 o_v0
  refine r_putFr (pc := 43) C pfL_X9_30 hn dX9_init_43 o_v0 ?_
  refine r_heap (fun S21 eS21 => ?_)
  have h := h S21 eS21
  have o_a1 := ob_R eS21 o_a1
  have o_a10 := ob_R eS21 o_a10
  have o_a16 := ob_R eS21 o_a16
  have o_a4 := ob_R eS21 o_a4
  have o_v0 := ob_R eS21 o_v0
  refine r_aload_n (pc := 46) C dX9_init_46 0 rfl ?_
  refine r_new (pc := 47) C nc_X9_34 dX9_init_47 (by decide) (by decide) (fun a22 q36 => ?_)
  refine r_heap (fun S23 eS23 => ?_)
  have h := h a22 q36 S23 eS23
  have g37 := gr_of_new eS23 q36
  have o_a22 := ob_of_new eS23
  have o_a1 := gr_ob g37 o_a1
  have o_a10 := gr_ob g37 o_a10
  have o_a16 := gr_ob g37 o_a16
  have o_a4 := gr_ob g37 o_a4
  have o_v0 := gr_ob g37 o_v0
  refine r_dup (pc := 50) C dX9_init_50 rfl ?_
  refine r_callNv (pc := 51) C (rest := [.ref a22, .ref v0]) (a := a22) [] yI_X7_init (List.mem_of_getElem? (i := 5) rfl) (c_X7_init h) dX9_init_51 rfl rfl (Nat.le_of_ble_eq_true rfl) ⟨by decide, by decide⟩ ⟨by decide, by decide⟩ (fun S24 h g25 => ?_)
  have h := h g25
  have o_a1 := gr_ob g25 o_a1
  have o_a10 := gr_ob g25 o_a10
  have o_a16 := gr_ob g25 o_a16
  have o_a22 := gr_ob g25 o_a22
  have o_a4 := gr_ob g25 o_a4
  have o_v0 := gr_ob g25 o_v0
  refine r_putFr (pc := 54) C pfL_X9_37 hn dX9_init_54 o_v0 ?_
  refine r_heap (fun S27 eS27 => ?_)
  have h := h S27 eS27
  have o_a1 := ob_R eS27 o_a1
  have o_a10 := ob_R eS27 o_a10
  have o_a16 := ob_R eS27 o_a16
  have o_a22 := ob_R eS27 o_a22
  have o_a4 := ob_R eS27 o_a4
  have o_v0 := ob_R eS27 o_v0
  refine r_aload_n (pc := 57) C dX9_init_57 0 rfl ?_
  refine r_new (pc := 58) C nc_X9_41 dX9_init_58 (by decide) (by decide) (fun a28 q34 => ?_)
  refine r_heap (fun S29 eS29 => ?_)
  have h := h a28 q34 S29 eS29
  have g35 := gr_of_new eS29 q34
  have o_a28 := ob_of_new eS29
  have o_a1 := gr_ob g35 o_a1
  have o_a10 := gr_ob g35 o_a10
  have o_a16 := gr_ob g35 o_a16
  have o_a22 := gr_ob g35 o_a22
  have o_a4 := gr_ob g35 o_a4
  have o_v0 := gr_ob g35 o_v0
  refine r_dup (pc := 61) C dX9_init_61 rfl ?_
  refine r_callIv (pc := 62) C (rest := [.ref a28, .ref v0]) (a := a28) [] yI_X0_init g_333 (c_X0_init h) dX9_init_62 rfl rfl (Nat.le_of_ble_eq_true rfl) ⟨by decide, by decide⟩ ⟨by decide, by decide⟩ (fun S30 h g31 => ?_)
  have h := h g31
  have o_a1 := gr_ob g31 o_a1
  have o_a10 := gr_ob g31 o_a10
  have o_a16 := gr_ob g31 o_a16
  have o_a22 := gr_ob g31 o_a22
  have o_a28 := gr_ob g31 o_a28
  have o_a4 := gr_ob g31 o_a4
  have o_v0 := gr_ob g31 o_v0
  refine r_putFr (pc := 65) C pfL_X9_44 hn dX9_init_65 o_v0 ?_
  refine r_heap (fun S33 eS33 => ?_)
  have h := h S33 eS33
  have o_a1 := ob_R eS33 o_a1
  have o_a10 := ob_R eS33 o_a10
  have o_a16 := ob_R eS33 o_a16
  have o_a22 := ob_R eS33 o_a22
  have o_a28 := ob_R eS33 o_a28
  have o_a4 := ob_R eS33 o_a4
  have o_v0 := ob_R eS33 o_v0
  exact r_vret (pc := 68) C E ht dX9_init_68 (by decide) (by decide) h
def P_X9_init (v0 : Nat) (Q : HS → Prop) (S : HS) : Prop := P_X9_init_0 Q v0 S
theorem c_X9_init {l : Launch} {Ee : EE} {S : HS} {v0 : Nat} {Q : HS → Prop} (h : P_X9_init v0 Q S) : MV l yX9_init cX9_init 1 none rm_X9_init Ee S [.ref v0] Q :=
  openV (by decide) (Nat.le_of_ble_eq_true rfl) (fun X C E ht hn hE hl => by subst hE; exact r_sub [0] rfl (T_X9_init_0 C E ht hn h))
def rm_X9_isTill : Room := { frames := 0, cells := 0, slots := 0, locals := 0 }
def P_X9_isTill_0 (Q : Int32 → HS → Prop) (v0 : Int32) (S : HS) : Prop := ((v0 < 0) → (Q (0 : Int32) S)) ∧ ((¬ v0 < 0) → ((((400 : Int32) < v0) → (Q (0 : Int32) S)) ∧ ((¬ (400 : Int32) < v0) → (Q (1 : Int32) S))))
set_option maxRecDepth 20000 in
set_option maxHeartbeats 4000000 in
theorem T_X9_isTill_0 {X : CX} {Q : Int32 → HS → Prop} (C : Cx X cX9_isTill RX9 1 rm_X9_isTill) (E : ReI X rm_X9_isTill (fun r S => bl r ∧ Q r S)) (ht : (xh X).sig.returnType = (some .boolean)) (hn : (xh X).name = yX9_isTill.name) {v0 : Int32} {S : HS} (h : P_X9_isTill_0 Q v0 S) : WS X 1 0 0 0 [(0, .int v0)] [] S := by
  refine r_iload_n (pc := 0) C dX9_isTill_0 0 rfl ?_
  refine r_if_lt (pc := 1) C (tgt := 15) dX9_isTill_1 (by decide) (fun c1 => ?_) (fun c1 => ?_)
  · have h := h.1 c1
    refine r_iconst (pc := 15) C (v := (0 : Int32)) dX9_isTill_15 (by decide) ?_
    exact r_zret (pc := 16) C E ht dX9_isTill_16 (by decide) (by decide) (Or.inl rfl) h
  · have h := h.2 c1
    refine r_iload_n (pc := 4) C dX9_isTill_4 0 rfl ?_
    refine r_sipush (pc := 5) C (v := (400 : Int32)) dX9_isTill_5 (by decide) ?_
    refine r_icmp_gt (pc := 8) C (tgt := 15) dX9_isTill_8 (by decide) (fun c2 => ?_) (fun c2 => ?_)
    · have h := h.1 c2
      refine r_iconst (pc := 15) C (v := (0 : Int32)) dX9_isTill_15 (by decide) ?_
      exact r_zret (pc := 16) C E ht dX9_isTill_16 (by decide) (by decide) (Or.inl rfl) h
    · have h := h.2 c2
      refine r_iconst (pc := 11) C (v := (1 : Int32)) dX9_isTill_11 (by decide) ?_
      refine r_goto (pc := 12) C (tgt := 16) dX9_isTill_12 (by decide) ?_
      exact r_zret (pc := 16) C E ht dX9_isTill_16 (by decide) (by decide) (Or.inr rfl) h
def P_X9_isTill (v0 : Int32) (Q : Int32 → HS → Prop) (S : HS) : Prop := P_X9_isTill_0 Q v0 S
theorem c_X9_isTill {l : Launch} {Ee : EE} {S : HS} {v0 : Int32} {Q : Int32 → HS → Prop} (h : P_X9_isTill v0 Q S) : MI l yX9_isTill cX9_isTill 1 (some .boolean) rm_X9_isTill Ee S [.int v0] (fun r S => bl r ∧ Q r S) :=
  openI (by decide) (Nat.le_of_ble_eq_true rfl) (fun X C E ht hn hE hl => by subst hE; exact r_sub [0] rfl (T_X9_isTill_0 C E ht hn h))
def rm_X9_placesTrouble : Room := { frames := 1, cells := 0, slots := 0, locals := 21 }
def P_X9_placesTrouble_38 (Q : Int32 → HS → Prop) (s0 : Int32) (S : HS) : Prop := ((s0 = 0) → (Q (1 : Int32) S)) ∧ ((¬ s0 = 0) → (Q (0 : Int32) S))
set_option maxRecDepth 20000 in
set_option maxHeartbeats 4000000 in
theorem T_X9_placesTrouble_38 {X : CX} {Q : Int32 → HS → Prop} (C : Cx X cX9_placesTrouble RX9 5 rm_X9_placesTrouble) (E : ReI X rm_X9_placesTrouble Q) (ht : (xh X).sig.returnType = (some .int)) (hn : (xh X).name = yX9_placesTrouble.name) {s0 : Int32} {S : HS} (h : P_X9_placesTrouble_38 Q s0 S) : WS X 5 0 0 38 [] [.int s0] S := by
  refine r_istore (pc := 38) C dX9_placesTrouble_38 (by decide) (lv' := [(4, .int s0)]) rfl ?_
  refine r_iload (pc := 40) C dX9_placesTrouble_40 0 rfl ?_
  refine r_if_eq (pc := 42) C (tgt := 49) dX9_placesTrouble_42 (by decide) (fun c1 => ?_) (fun c1 => ?_)
  · have h := h.1 c1
    refine r_iconst (pc := 49) C (v := (1 : Int32)) dX9_placesTrouble_49 (by decide) ?_
    exact r_iret (pc := 50) C E ht dX9_placesTrouble_50 (by decide) (by decide) h
  · have h := h.2 c1
    refine r_iconst (pc := 45) C (v := (0 : Int32)) dX9_placesTrouble_45 (by decide) ?_
    refine r_goto (pc := 46) C (tgt := 50) dX9_placesTrouble_46 (by decide) ?_
    exact r_iret (pc := 50) C E ht dX9_placesTrouble_50 (by decide) (by decide) h
def P_X9_placesTrouble_37 (Q : Int32 → HS → Prop)  (S : HS) : Prop := P_X9_placesTrouble_38 Q (0 : Int32) S
set_option maxRecDepth 20000 in
set_option maxHeartbeats 4000000 in
theorem T_X9_placesTrouble_37 {X : CX} {Q : Int32 → HS → Prop} (C : Cx X cX9_placesTrouble RX9 5 rm_X9_placesTrouble) (E : ReI X rm_X9_placesTrouble Q) (ht : (xh X).sig.returnType = (some .int)) (hn : (xh X).name = yX9_placesTrouble.name)  {S : HS} (h : P_X9_placesTrouble_37 Q S) : WS X 5 0 0 37 [] [] S := by
  refine r_iconst (pc := 37) C (v := (0 : Int32)) dX9_placesTrouble_37 (by decide) ?_
  exact r_sub [] rfl (T_X9_placesTrouble_38 C E ht hn h)
def P_X9_placesTrouble_0 (Q : Int32 → HS → Prop) (v0 : Nat) (v1 : Int32) (v2 : Int32) (v3 : Int32) (S : HS) : Prop := ob S v0 9 ∧ (∃ a1 : Nat, fR S v0 2 = some a1 ∧ (ob S a1 8 ∧ (P_X8_hasWalker a1 v1 (fun x4 S2 => Gr S S2 → bl x4 → (((x4 = 0) → (P_X9_placesTrouble_37 Q S2)) ∧ ((¬ x4 = 0) → (∃ a6 : Nat, fR S2 v0 2 = some a6 ∧ (ob S2 a6 8 ∧ (P_X8_hasPlace a6 v2 (fun x9 S7 => Gr S2 S7 → bl x9 → (((x9 = 0) → (P_X9_placesTrouble_37 Q S7)) ∧ ((¬ x9 = 0) → (∃ a11 : Nat, fR S7 v0 2 = some a11 ∧ (ob S7 a11 8 ∧ (P_X8_hasPlace a11 v3 (fun x14 S12 => Gr S7 S12 → bl x14 → (((x14 = 0) → (P_X9_placesTrouble_37 Q S12)) ∧ ((¬ x14 = 0) → (P_X9_placesTrouble_38 Q (1 : Int32) S12)))) S7)))))) S2)))))) S)))
set_option maxRecDepth 20000 in
set_option maxHeartbeats 4000000 in
theorem T_X9_placesTrouble_0 {X : CX} {Q : Int32 → HS → Prop} (C : Cx X cX9_placesTrouble RX9 5 rm_X9_placesTrouble) (E : ReI X rm_X9_placesTrouble Q) (ht : (xh X).sig.returnType = (some .int)) (hn : (xh X).name = yX9_placesTrouble.name) {v0 : Nat} {v1 : Int32} {v2 : Int32} {v3 : Int32} {S : HS} (h : P_X9_placesTrouble_0 Q v0 v1 v2 v3 S) : WS X 5 0 0 0 [(0, .ref v0), (1, .int v1), (2, .int v2), (3, .int v3)] [] S := by
  refine r_aload_n (pc := 0) C dX9_placesTrouble_0 0 rfl ?_
  obtain ⟨o_v0, h⟩ := h
  obtain ⟨a1, ea1, h⟩ := h
  refine r_getr (pc := 1) C fL_X9_16 dX9_placesTrouble_1 o_v0 ea1 ?_
  refine r_iload_n (pc := 4) C dX9_placesTrouble_4 1 rfl ?_
  obtain ⟨o_a1, h⟩ := h
  refine r_callVi0 (pc := 5) C (rest := []) (a := a1) o_a1 [.int v1] yV_X8_hasWalker g_664 (c_X8_hasWalker h) dX9_placesTrouble_5 rfl rfl (Nat.le_of_ble_eq_true rfl) ⟨by decide, by decide⟩ ⟨by decide, by decide⟩ ⟨rfl, rfl⟩ (fun x4 S2 h g3 => ?_)
  have bx4 := h.1
  have h := h.2 g3 bx4
  have o_a1 := gr_ob g3 o_a1
  have o_v0 := gr_ob g3 o_v0
  refine r_if_eq (pc := 8) C (tgt := 37) dX9_placesTrouble_8 (by decide) (fun c5 => ?_) (fun c5 => ?_)
  · have h := h.1 c5
    exact r_sub [] rfl (T_X9_placesTrouble_37 C E ht hn h)
  · have h := h.2 c5
    refine r_aload_n (pc := 11) C dX9_placesTrouble_11 0 rfl ?_
    obtain ⟨a6, ea6, h⟩ := h
    refine r_getr (pc := 12) C fL_X9_16 dX9_placesTrouble_12 o_v0 ea6 ?_
    refine r_iload_n (pc := 15) C dX9_placesTrouble_15 2 rfl ?_
    obtain ⟨o_a6, h⟩ := h
    refine r_callVi0 (pc := 16) C (rest := []) (a := a6) o_a6 [.int v2] yV_X8_hasPlace g_825 (c_X8_hasPlace h) dX9_placesTrouble_16 rfl rfl (Nat.le_of_ble_eq_true rfl) ⟨by decide, by decide⟩ ⟨by decide, by decide⟩ ⟨rfl, rfl⟩ (fun x9 S7 h g8 => ?_)
    have bx9 := h.1
    have h := h.2 g8 bx9
    have o_a1 := gr_ob g8 o_a1
    have o_a6 := gr_ob g8 o_a6
    have o_v0 := gr_ob g8 o_v0
    refine r_if_eq (pc := 19) C (tgt := 37) dX9_placesTrouble_19 (by decide) (fun c10 => ?_) (fun c10 => ?_)
    · have h := h.1 c10
      exact r_sub [] rfl (T_X9_placesTrouble_37 C E ht hn h)
    · have h := h.2 c10
      refine r_aload_n (pc := 22) C dX9_placesTrouble_22 0 rfl ?_
      obtain ⟨a11, ea11, h⟩ := h
      refine r_getr (pc := 23) C fL_X9_16 dX9_placesTrouble_23 o_v0 ea11 ?_
      refine r_iload_n (pc := 26) C dX9_placesTrouble_26 3 rfl ?_
      obtain ⟨o_a11, h⟩ := h
      refine r_callVi0 (pc := 27) C (rest := []) (a := a11) o_a11 [.int v3] yV_X8_hasPlace g_825 (c_X8_hasPlace h) dX9_placesTrouble_27 rfl rfl (Nat.le_of_ble_eq_true rfl) ⟨by decide, by decide⟩ ⟨by decide, by decide⟩ ⟨rfl, rfl⟩ (fun x14 S12 h g13 => ?_)
      have bx14 := h.1
      have h := h.2 g13 bx14
      have o_a1 := gr_ob g13 o_a1
      have o_a11 := gr_ob g13 o_a11
      have o_a6 := gr_ob g13 o_a6
      have o_v0 := gr_ob g13 o_v0
      refine r_if_eq (pc := 30) C (tgt := 37) dX9_placesTrouble_30 (by decide) (fun c15 => ?_) (fun c15 => ?_)
      · have h := h.1 c15
        exact r_sub [] rfl (T_X9_placesTrouble_37 C E ht hn h)
      · have h := h.2 c15
        refine r_iconst (pc := 33) C (v := (1 : Int32)) dX9_placesTrouble_33 (by decide) ?_
        refine r_goto (pc := 34) C (tgt := 38) dX9_placesTrouble_34 (by decide) ?_
        exact r_sub [] rfl (T_X9_placesTrouble_38 C E ht hn h)
def P_X9_placesTrouble (v0 : Nat) (v1 : Int32) (v2 : Int32) (v3 : Int32) (Q : Int32 → HS → Prop) (S : HS) : Prop := P_X9_placesTrouble_0 Q v0 v1 v2 v3 S
theorem c_X9_placesTrouble {l : Launch} {Ee : EE} {S : HS} {v0 : Nat} {v1 : Int32} {v2 : Int32} {v3 : Int32} {Q : Int32 → HS → Prop} (h : P_X9_placesTrouble v0 v1 v2 v3 Q S) : MI l yX9_placesTrouble cX9_placesTrouble 5 (some .int) rm_X9_placesTrouble Ee S [.ref v0, .int v1, .int v2, .int v3] Q :=
  openI (by decide) (Nat.le_of_ble_eq_true rfl) (fun X C E ht hn hE hl => by subst hE; exact r_sub [0, 1, 2, 3] rfl (T_X9_placesTrouble_0 C E ht hn h))
def rm_X9_wayTrouble : Room := { frames := 6, cells := 8, slots := 7937, locals := 160 }
def P_X9_wayTrouble_0 (Q : Int32 → HS → Prop) (v0 : Nat) (v1 : Int32) (v2 : Int32) (v3 : Int32) (v4 : Int32) (v5 : Int32) (S : HS) : Prop := ob S v0 9 ∧ (P_X9_placesTrouble v0 v1 v2 v3 (fun x3 S1 => Gr S S1 → (((x3 = 0) → (P_X9_isTill v5 (fun x7 S5 => Gr S1 S5 → bl x7 → (((x7 = 0) → (Q (2 : Int32) S5)) ∧ ((¬ x7 = 0) → (((v4 < 0) → (Q (2 : Int32) S5)) ∧ ((¬ v4 < 0) → (((v4 ≤ v5) → (∃ a11 : Nat, fR S5 v0 5 = some a11 ∧ (∃ a12 : Nat, fR S5 v0 2 = some a12 ∧ (∃ a13 : Nat, fR S5 v0 4 = some a13 ∧ (ob S5 a11 7 ∧ (P_X7_reckon a11 a12 a13 v1 v3 v5 v4 (fun S14 => Gr S5 S14 → (∃ a17 : Nat, fR S14 v0 5 = some a17 ∧ (ob S14 a17 7 ∧ (P_X7_isOpen a17 v2 v4 (fun x20 S18 => Gr S14 S18 → bl x20 → (((x20 = 0) → (Q (6 : Int32) S18)) ∧ ((¬ x20 = 0) → (Q (0 : Int32) S18)))) S14)))) S5)))))) ∧ ((¬ v4 ≤ v5) → (Q (2 : Int32) S5)))))))) S1)) ∧ ((¬ x3 = 0) → (Q x3 S1)))) S)
set_option maxRecDepth 20000 in
set_option maxHeartbeats 4000000 in
theorem T_X9_wayTrouble_0 {X : CX} {Q : Int32 → HS → Prop} (C : Cx X cX9_wayTrouble RX9 7 rm_X9_wayTrouble) (E : ReI X rm_X9_wayTrouble Q) (ht : (xh X).sig.returnType = (some .int)) (hn : (xh X).name = yX9_wayTrouble.name) {v0 : Nat} {v1 : Int32} {v2 : Int32} {v3 : Int32} {v4 : Int32} {v5 : Int32} {S : HS} (h : P_X9_wayTrouble_0 Q v0 v1 v2 v3 v4 v5 S) : WS X 7 0 0 0 [(0, .ref v0), (1, .int v1), (2, .int v2), (3, .int v3), (4, .int v4), (5, .int v5)] [] S := by
  refine r_aload_n (pc := 0) C dX9_wayTrouble_0 0 rfl ?_
  refine r_iload_n (pc := 1) C dX9_wayTrouble_1 1 rfl ?_
  refine r_iload_n (pc := 2) C dX9_wayTrouble_2 2 rfl ?_
  refine r_iload_n (pc := 3) C dX9_wayTrouble_3 3 rfl ?_
  obtain ⟨o_v0, h⟩ := h
  refine r_callVi0 (pc := 4) C (rest := []) (a := v0) o_v0 [.int v1, .int v2, .int v3] yV_X9_placesTrouble g_821 (c_X9_placesTrouble h) dX9_wayTrouble_4 rfl rfl (Nat.le_of_ble_eq_true rfl) ⟨by decide, by decide⟩ ⟨by decide, by decide⟩ ⟨rfl, rfl⟩ (fun x3 S1 h g2 => ?_)
  have h := h g2
  have o_v0 := gr_ob g2 o_v0
  refine r_istore (pc := 7) C dX9_wayTrouble_7 (by decide) (lv' := [(6, .int x3), (0, .ref v0), (1, .int v1), (2, .int v2), (3, .int v3), (4, .int v4), (5, .int v5)]) rfl ?_
  refine r_iload (pc := 9) C dX9_wayTrouble_9 0 rfl ?_
  refine r_if_eq (pc := 11) C (tgt := 17) dX9_wayTrouble_11 (by decide) (fun c4 => ?_) (fun c4 => ?_)
  · have h := h.1 c4
    refine r_iload (pc := 17) C dX9_wayTrouble_17 6 rfl ?_
    refine r_callSi0 (pc := 19) C (rest := []) rfl [.int v5] yS_X9_isTill g_829 (c_X9_isTill h) dX9_wayTrouble_19 rfl rfl (Nat.le_of_ble_eq_true rfl) ⟨by decide, by decide⟩ ⟨by decide, by decide⟩ ⟨rfl, rfl⟩ (fun x7 S5 h g6 => ?_)
    have bx7 := h.1
    have h := h.2 g6 bx7
    have o_v0 := gr_ob g6 o_v0
    refine r_if_eq (pc := 22) C (tgt := 37) dX9_wayTrouble_22 (by decide) (fun c8 => ?_) (fun c8 => ?_)
    · have h := h.1 c8
      refine r_iconst (pc := 37) C (v := (2 : Int32)) dX9_wayTrouble_37 (by decide) ?_
      exact r_iret (pc := 38) C E ht dX9_wayTrouble_38 (by decide) (by decide) h
    · have h := h.2 c8
      refine r_iload (pc := 25) C dX9_wayTrouble_25 5 rfl ?_
      refine r_if_lt (pc := 27) C (tgt := 37) dX9_wayTrouble_27 (by decide) (fun c9 => ?_) (fun c9 => ?_)
      · have h := h.1 c9
        refine r_iconst (pc := 37) C (v := (2 : Int32)) dX9_wayTrouble_37 (by decide) ?_
        exact r_iret (pc := 38) C E ht dX9_wayTrouble_38 (by decide) (by decide) h
      · have h := h.2 c9
        refine r_iload (pc := 30) C dX9_wayTrouble_30 5 rfl ?_
        refine r_iload (pc := 32) C dX9_wayTrouble_32 6 rfl ?_
        refine r_icmp_le (pc := 34) C (tgt := 39) dX9_wayTrouble_34 (by decide) (fun c10 => ?_) (fun c10 => ?_)
        · have h := h.1 c10
          refine r_aload_n (pc := 39) C dX9_wayTrouble_39 1 rfl ?_
          obtain ⟨a11, ea11, h⟩ := h
          refine r_getr (pc := 40) C fL_X9_37 dX9_wayTrouble_40 o_v0 ea11 ?_
          refine r_aload_n (pc := 43) C dX9_wayTrouble_43 1 rfl ?_
          obtain ⟨a12, ea12, h⟩ := h
          refine r_getr (pc := 44) C fL_X9_16 dX9_wayTrouble_44 o_v0 ea12 ?_
          refine r_aload_n (pc := 47) C dX9_wayTrouble_47 1 rfl ?_
          obtain ⟨a13, ea13, h⟩ := h
          refine r_getr (pc := 48) C fL_X9_30 dX9_wayTrouble_48 o_v0 ea13 ?_
          refine r_iload_n (pc := 51) C dX9_wayTrouble_51 2 rfl ?_
          refine r_iload_n (pc := 52) C dX9_wayTrouble_52 4 rfl ?_
          refine r_iload (pc := 53) C dX9_wayTrouble_53 6 rfl ?_
          refine r_iload (pc := 55) C dX9_wayTrouble_55 5 rfl ?_
          obtain ⟨o_a11, h⟩ := h
          refine r_callVv (pc := 57) C (rest := []) (a := a11) o_a11 [.ref a12, .ref a13, .int v1, .int v3, .int v5, .int v4] yV_X7_reckon g_832 (c_X7_reckon h) dX9_wayTrouble_57 rfl rfl (Nat.le_of_ble_eq_true rfl) ⟨by decide, by decide⟩ ⟨by decide, by decide⟩ (fun S14 h g15 => ?_)
          have h := h g15
          have o_a11 := gr_ob g15 o_a11
          have o_v0 := gr_ob g15 o_v0
          refine r_aload_n (pc := 60) C dX9_wayTrouble_60 1 rfl ?_
          obtain ⟨a17, ea17, h⟩ := h
          refine r_getr (pc := 61) C fL_X9_37 dX9_wayTrouble_61 o_v0 ea17 ?_
          refine r_iload_n (pc := 64) C dX9_wayTrouble_64 3 rfl ?_
          refine r_iload (pc := 65) C dX9_wayTrouble_65 5 rfl ?_
          obtain ⟨o_a17, h⟩ := h
          refine r_callVi0 (pc := 67) C (rest := []) (a := a17) o_a17 [.int v2, .int v4] yV_X7_isOpen g_888 (c_X7_isOpen h) dX9_wayTrouble_67 rfl rfl (Nat.le_of_ble_eq_true rfl) ⟨by decide, by decide⟩ ⟨by decide, by decide⟩ ⟨rfl, rfl⟩ (fun x20 S18 h g19 => ?_)
          have bx20 := h.1
          have h := h.2 g19 bx20
          have o_a11 := gr_ob g19 o_a11
          have o_a17 := gr_ob g19 o_a17
          have o_v0 := gr_ob g19 o_v0
          refine r_if_eq (pc := 70) C (tgt := 77) dX9_wayTrouble_70 (by decide) (fun c21 => ?_) (fun c21 => ?_)
          · have h := h.1 c21
            refine r_bipush (pc := 77) C (v := (6 : Int32)) dX9_wayTrouble_77 (by decide) ?_
            exact r_iret (pc := 79) C E ht dX9_wayTrouble_79 (by decide) (by decide) h
          · have h := h.2 c21
            refine r_iconst (pc := 73) C (v := (0 : Int32)) dX9_wayTrouble_73 (by decide) ?_
            refine r_goto (pc := 74) C (tgt := 79) dX9_wayTrouble_74 (by decide) ?_
            exact r_iret (pc := 79) C E ht dX9_wayTrouble_79 (by decide) (by decide) h
        · have h := h.2 c10
          refine r_iconst (pc := 37) C (v := (2 : Int32)) dX9_wayTrouble_37 (by decide) ?_
          exact r_iret (pc := 38) C E ht dX9_wayTrouble_38 (by decide) (by decide) h
  · have h := h.2 c4
    refine r_iload (pc := 14) C dX9_wayTrouble_14 0 rfl ?_
    exact r_iret (pc := 16) C E ht dX9_wayTrouble_16 (by decide) (by decide) h
def P_X9_wayTrouble (v0 : Nat) (v1 : Int32) (v2 : Int32) (v3 : Int32) (v4 : Int32) (v5 : Int32) (Q : Int32 → HS → Prop) (S : HS) : Prop := P_X9_wayTrouble_0 Q v0 v1 v2 v3 v4 v5 S
theorem c_X9_wayTrouble {l : Launch} {Ee : EE} {S : HS} {v0 : Nat} {v1 : Int32} {v2 : Int32} {v3 : Int32} {v4 : Int32} {v5 : Int32} {Q : Int32 → HS → Prop} (h : P_X9_wayTrouble v0 v1 v2 v3 v4 v5 Q S) : MI l yX9_wayTrouble cX9_wayTrouble 7 (some .int) rm_X9_wayTrouble Ee S [.ref v0, .int v1, .int v2, .int v3, .int v4, .int v5] Q :=
  openI (by decide) (Nat.le_of_ble_eq_true rfl) (fun X C E ht hn hE hl => by subst hE; exact r_sub [0, 1, 2, 3, 4, 5] rfl (T_X9_wayTrouble_0 C E ht hn h))
def rm_X9_least : Room := { frames := 7, cells := 8, slots := 7937, locals := 186 }
def P_X9_least_0 (Q : Int64 → HS → Prop) (v0 : Nat) (v1 : Int32) (v2 : Int32) (v3 : Int32) (v4 : Int32) (v5 : Int32) (v6 : Int32) (S : HS) : Prop := ob S v0 9 ∧ (P_X9_wayTrouble v0 v1 v2 v3 v4 v5 (fun x3 S1 => Gr S S1 → (P_X9_refusedBy v0 x3 (fun x6 S4 => Gr S1 S4 → bl x6 → (((x6 = 0) → (∃ a8 : Nat, fR S4 v0 5 = some a8 ∧ (ob S4 a8 7 ∧ (P_X7_meanFrom a8 v2 v4 (fun x11 S9 => Gr S4 S9 → (P_X9_fraction x11 (252000 : Int64) v6 (fun x14 S12 => Gr S9 S12 → (Q x14 S12)) S9)) S4)))) ∧ ((¬ x6 = 0) → (Q (-1 : Int64) S4)))) S1)) S)
set_option maxRecDepth 20000 in
set_option maxHeartbeats 4000000 in
theorem T_X9_least_0 {X : CX} {Q : Int64 → HS → Prop} (C : Cx X cX9_least RX9 7 rm_X9_least) (E : ReJ X rm_X9_least Q) (ht : (xh X).sig.returnType = (some .long)) (hn : (xh X).name = yX9_least.name) {v0 : Nat} {v1 : Int32} {v2 : Int32} {v3 : Int32} {v4 : Int32} {v5 : Int32} {v6 : Int32} {S : HS} (h : P_X9_least_0 Q v0 v1 v2 v3 v4 v5 v6 S) : WS X 7 0 0 0 [(0, .ref v0), (1, .int v1), (2, .int v2), (3, .int v3), (4, .int v4), (5, .int v5), (6, .int v6)] [] S := by
  refine r_aload_n (pc := 0) C dX9_least_0 0 rfl ?_
  refine r_aload_n (pc := 1) C dX9_least_1 0 rfl ?_
  refine r_iload_n (pc := 2) C dX9_least_2 1 rfl ?_
  refine r_iload_n (pc := 3) C dX9_least_3 2 rfl ?_
  refine r_iload_n (pc := 4) C dX9_least_4 3 rfl ?_
  refine r_iload (pc := 5) C dX9_least_5 4 rfl ?_
  refine r_iload (pc := 7) C dX9_least_7 5 rfl ?_
  obtain ⟨o_v0, h⟩ := h
  refine r_callVi (pc := 9) C (rest := [.ref v0]) (a := v0) o_v0 [.int v1, .int v2, .int v3, .int v4, .int v5] yV_X9_wayTrouble g_817 (c_X9_wayTrouble h) dX9_least_9 rfl rfl (Nat.le_of_ble_eq_true rfl) ⟨by decide, by decide⟩ ⟨by decide, by decide⟩ (fun x3 S1 h g2 => ?_)
  have h := h g2
  have o_v0 := gr_ob g2 o_v0
  refine r_callVi0 (pc := 12) C (rest := []) (a := v0) o_v0 [.int x3] yV_X9_refusedBy g_683 (c_X9_refusedBy h) dX9_least_12 rfl rfl (Nat.le_of_ble_eq_true rfl) ⟨by decide, by decide⟩ ⟨by decide, by decide⟩ ⟨rfl, rfl⟩ (fun x6 S4 h g5 => ?_)
  have bx6 := h.1
  have h := h.2 g5 bx6
  have o_v0 := gr_ob g5 o_v0
  refine r_if_eq (pc := 15) C (tgt := 22) dX9_least_15 (by decide) (fun c7 => ?_) (fun c7 => ?_)
  · have h := h.1 c7
    refine r_aload_n (pc := 22) C dX9_least_22 0 rfl ?_
    obtain ⟨a8, ea8, h⟩ := h
    refine r_getr (pc := 23) C fL_X9_37 dX9_least_23 o_v0 ea8 ?_
    refine r_iload_n (pc := 26) C dX9_least_26 2 rfl ?_
    refine r_iload (pc := 27) C dX9_least_27 4 rfl ?_
    obtain ⟨o_a8, h⟩ := h
    refine r_callVl0 (pc := 29) C (rest := []) (a := a8) o_a8 [.int v2, .int v4] yV_X7_meanFrom g_896 (c_X7_meanFrom h) dX9_least_29 rfl rfl (Nat.le_of_ble_eq_true rfl) ⟨by decide, by decide⟩ ⟨by decide, by decide⟩ ⟨rfl, rfl⟩ (fun x11 S9 h g10 => ?_)
    have h := h g10
    have o_a8 := gr_ob g10 o_a8
    have o_v0 := gr_ob g10 o_v0
    refine r_ldc2 (pc := 32) C (v := (252000 : Int64)) dX9_least_32 g_736 ?_
    refine r_iload (pc := 35) C dX9_least_35 6 rfl ?_
    refine r_callSl0 (pc := 37) C (rest := []) rfl [.long x11, .long (252000 : Int64), .int v6] yS_X9_fraction g_722 (c_X9_fraction h) dX9_least_37 rfl rfl (Nat.le_of_ble_eq_true rfl) ⟨by decide, by decide⟩ ⟨by decide, by decide⟩ ⟨rfl, rfl⟩ (fun x14 S12 h g13 => ?_)
    have h := h g13
    have o_a8 := gr_ob g13 o_a8
    have o_v0 := gr_ob g13 o_v0
    exact r_lret (pc := 40) C E ht dX9_least_40 (by decide) (by decide) h
  · have h := h.2 c7
    refine r_ldc2 (pc := 18) C (v := (-1 : Int64)) dX9_least_18 g_687 ?_
    exact r_lret (pc := 21) C E ht dX9_least_21 (by decide) (by decide) h
def P_X9_least (v0 : Nat) (v1 : Int32) (v2 : Int32) (v3 : Int32) (v4 : Int32) (v5 : Int32) (v6 : Int32) (Q : Int64 → HS → Prop) (S : HS) : Prop := P_X9_least_0 Q v0 v1 v2 v3 v4 v5 v6 S
theorem c_X9_least {l : Launch} {Ee : EE} {S : HS} {v0 : Nat} {v1 : Int32} {v2 : Int32} {v3 : Int32} {v4 : Int32} {v5 : Int32} {v6 : Int32} {Q : Int64 → HS → Prop} (h : P_X9_least v0 v1 v2 v3 v4 v5 v6 Q S) : MJ l yX9_least cX9_least 7 (some .long) rm_X9_least Ee S [.ref v0, .int v1, .int v2, .int v3, .int v4, .int v5, .int v6] Q :=
  openJ (by decide) (Nat.le_of_ble_eq_true rfl) (fun X C E ht hn hE hl => by subst hE; exact r_sub [0, 1, 2, 3, 4, 5, 6] rfl (T_X9_least_0 C E ht hn h))
def rm_X9_lee : Room := { frames := 4, cells := 0, slots := 0, locals := 99 }
def P_X9_lee_0 (Q : Int64 → HS → Prop) (v0 : Nat) (v1 : Int32) (v2 : Int32) (v3 : Int32) (v4 : Int32) (v5 : Int32) (v6 : Int32) (v7 : Int32) (S : HS) : Prop := ob S v0 9 ∧ (P_X9_leeTrouble v0 v1 v2 v3 v4 v5 v6 (fun x3 S1 => Gr S S1 → (P_X9_refusedBy v0 x3 (fun x6 S4 => Gr S1 S4 → bl x6 → (((x6 = 0) → (∃ a8 : Nat, fR S4 v0 4 = some a8 ∧ (∃ a9 : Nat, fR S4 v0 2 = some a9 ∧ (ob S4 a9 8 ∧ (∃ a10 : Nat, fR S4 a9 8 = some a10 ∧ (ob S4 a10 18 ∧ (vp_in v3 (hN S4 a10) ∧ ∃ a12 : Nat, fR S4 a10 v3.toNatClampNeg = some a12 ∧ (∃ a13 : Nat, fR S4 v0 2 = some a13 ∧ (ob S4 a13 8 ∧ (∃ a14 : Nat, fR S4 a13 6 = some a14 ∧ (ob S4 a14 17 ∧ (vp_in v5 (hN S4 a14) ∧ ∃ a16 : Nat, fR S4 a14 v5.toNatClampNeg = some a16 ∧ (ob S4 a8 1 ∧ (P_X1_lay a8 a12 v4 a16 v6 (fun S17 => Gr S4 S17 → (∃ a20 : Nat, fR S17 v0 4 = some a20 ∧ (∃ a21 : Nat, fR S17 v0 2 = some a21 ∧ (ob S17 a21 8 ∧ (∃ a22 : Nat, fR S17 a21 9 = some a22 ∧ (ob S17 a22 19 ∧ (vp_in v1 (hN S17 a22) ∧ ∃ a24 : Nat, fR S17 a22 v1.toNatClampNeg = some a24 ∧ (∃ a25 : Nat, fR S17 v0 2 = some a25 ∧ (ob S17 a25 8 ∧ (∃ a26 : Nat, fR S17 a25 9 = some a26 ∧ (ob S17 a26 19 ∧ (vp_in v2 (hN S17 a26) ∧ ∃ a28 : Nat, fR S17 a26 v2.toNatClampNeg = some a28 ∧ (ob S17 a20 1 ∧ (P_X1_wetInLee a20 a24 a28 (fun x31 S29 => Gr S17 S29 → (P_X9_fraction x31 (2520 : Int64) v7 (fun x34 S32 => Gr S29 S32 → (Q x34 S32)) S29)) S17)))))))))))))) S4)))))))))))))) ∧ ((¬ x6 = 0) → (Q (-1 : Int64) S4)))) S1)) S)
set_option maxRecDepth 20000 in
set_option maxHeartbeats 4000000 in
theorem T_X9_lee_0 {X : CX} {Q : Int64 → HS → Prop} (C : Cx X cX9_lee RX9 8 rm_X9_lee) (E : ReJ X rm_X9_lee Q) (ht : (xh X).sig.returnType = (some .long)) (hn : (xh X).name = yX9_lee.name) {v0 : Nat} {v1 : Int32} {v2 : Int32} {v3 : Int32} {v4 : Int32} {v5 : Int32} {v6 : Int32} {v7 : Int32} {S : HS} (h : P_X9_lee_0 Q v0 v1 v2 v3 v4 v5 v6 v7 S) : WS X 8 0 0 0 [(0, .ref v0), (1, .int v1), (2, .int v2), (3, .int v3), (4, .int v4), (5, .int v5), (6, .int v6), (7, .int v7)] [] S := by
  refine r_aload_n (pc := 0) C dX9_lee_0 0 rfl ?_
  refine r_aload_n (pc := 1) C dX9_lee_1 0 rfl ?_
  refine r_iload_n (pc := 2) C dX9_lee_2 1 rfl ?_
  refine r_iload_n (pc := 3) C dX9_lee_3 2 rfl ?_
  refine r_iload_n (pc := 4) C dX9_lee_4 3 rfl ?_
  refine r_iload (pc := 5) C dX9_lee_5 4 rfl ?_
  refine r_iload (pc := 7) C dX9_lee_7 5 rfl ?_
  refine r_iload (pc := 9) C dX9_lee_9 6 rfl ?_
  obtain ⟨o_v0, h⟩ := h
  refine r_callVi0 (pc := 11) C (rest := [.ref v0]) (a := v0) o_v0 [.int v1, .int v2, .int v3, .int v4, .int v5, .int v6] yV_X9_leeTrouble g_801 (c_X9_leeTrouble h) dX9_lee_11 rfl rfl (Nat.le_of_ble_eq_true rfl) ⟨by decide, by decide⟩ ⟨by decide, by decide⟩ ⟨rfl, rfl⟩ (fun x3 S1 h g2 => ?_)
  have h := h g2
  have o_v0 := gr_ob g2 o_v0
  refine r_callVi0 (pc := 14) C (rest := []) (a := v0) o_v0 [.int x3] yV_X9_refusedBy g_683 (c_X9_refusedBy h) dX9_lee_14 rfl rfl (Nat.le_of_ble_eq_true rfl) ⟨by decide, by decide⟩ ⟨by decide, by decide⟩ ⟨rfl, rfl⟩ (fun x6 S4 h g5 => ?_)
  have bx6 := h.1
  have h := h.2 g5 bx6
  have o_v0 := gr_ob g5 o_v0
  refine r_if_eq (pc := 17) C (tgt := 24) dX9_lee_17 (by decide) (fun c7 => ?_) (fun c7 => ?_)
  · have h := h.1 c7
    refine r_aload_n (pc := 24) C dX9_lee_24 0 rfl ?_
    obtain ⟨a8, ea8, h⟩ := h
    refine r_getr (pc := 25) C fL_X9_30 dX9_lee_25 o_v0 ea8 ?_
    refine r_aload_n (pc := 28) C dX9_lee_28 0 rfl ?_
    obtain ⟨a9, ea9, h⟩ := h
    refine r_getr (pc := 29) C fL_X9_16 dX9_lee_29 o_v0 ea9 ?_
    obtain ⟨o_a9, h⟩ := h
    obtain ⟨a10, ea10, h⟩ := h
    refine r_getr (pc := 32) C fL_X9_112 dX9_lee_32 o_a9 ea10 ?_
    refine r_iload_n (pc := 35) C dX9_lee_35 3 rfl ?_
    obtain ⟨o_a10, h⟩ := h
    obtain ⟨i11, a12, ea12, h⟩ := h
    refine r_aald18 (pc := 36) C dX9_lee_36 o_a10 i11 ea12 ?_
    refine r_iload (pc := 37) C dX9_lee_37 4 rfl ?_
    refine r_aload_n (pc := 39) C dX9_lee_39 0 rfl ?_
    obtain ⟨a13, ea13, h⟩ := h
    refine r_getr (pc := 40) C fL_X9_16 dX9_lee_40 o_v0 ea13 ?_
    obtain ⟨o_a13, h⟩ := h
    obtain ⟨a14, ea14, h⟩ := h
    refine r_getr (pc := 43) C fL_X9_116 dX9_lee_43 o_a13 ea14 ?_
    refine r_iload (pc := 46) C dX9_lee_46 5 rfl ?_
    obtain ⟨o_a14, h⟩ := h
    obtain ⟨i15, a16, ea16, h⟩ := h
    refine r_aald17 (pc := 48) C dX9_lee_48 o_a14 i15 ea16 ?_
    refine r_iload (pc := 49) C dX9_lee_49 6 rfl ?_
    obtain ⟨o_a8, h⟩ := h
    refine r_callVv0 (pc := 51) C (rest := []) (a := a8) o_a8 [.ref a12, .int v4, .ref a16, .int v6] yV_X1_lay g_754 (c_X1_lay h) dX9_lee_51 rfl rfl (Nat.le_of_ble_eq_true rfl) ⟨by decide, by decide⟩ ⟨by decide, by decide⟩ ⟨rfl, rfl⟩ (fun S17 h g18 => ?_)
    have h := h g18
    have o_a10 := gr_ob g18 o_a10
    have o_a13 := gr_ob g18 o_a13
    have o_a14 := gr_ob g18 o_a14
    have o_a8 := gr_ob g18 o_a8
    have o_a9 := gr_ob g18 o_a9
    have o_v0 := gr_ob g18 o_v0
    refine r_aload_n (pc := 54) C dX9_lee_54 0 rfl ?_
    obtain ⟨a20, ea20, h⟩ := h
    refine r_getr (pc := 55) C fL_X9_30 dX9_lee_55 o_v0 ea20 ?_
    refine r_aload_n (pc := 58) C dX9_lee_58 0 rfl ?_
    obtain ⟨a21, ea21, h⟩ := h
    refine r_getr (pc := 59) C fL_X9_16 dX9_lee_59 o_v0 ea21 ?_
    obtain ⟨o_a21, h⟩ := h
    obtain ⟨a22, ea22, h⟩ := h
    refine r_getr (pc := 62) C fL_X9_108 dX9_lee_62 o_a21 ea22 ?_
    refine r_iload_n (pc := 65) C dX9_lee_65 1 rfl ?_
    obtain ⟨o_a22, h⟩ := h
    obtain ⟨i23, a24, ea24, h⟩ := h
    refine r_aald19 (pc := 66) C dX9_lee_66 o_a22 i23 ea24 ?_
    refine r_aload_n (pc := 67) C dX9_lee_67 0 rfl ?_
    obtain ⟨a25, ea25, h⟩ := h
    refine r_getr (pc := 68) C fL_X9_16 dX9_lee_68 o_v0 ea25 ?_
    obtain ⟨o_a25, h⟩ := h
    obtain ⟨a26, ea26, h⟩ := h
    refine r_getr (pc := 71) C fL_X9_108 dX9_lee_71 o_a25 ea26 ?_
    refine r_iload_n (pc := 74) C dX9_lee_74 2 rfl ?_
    obtain ⟨o_a26, h⟩ := h
    obtain ⟨i27, a28, ea28, h⟩ := h
    refine r_aald19 (pc := 75) C dX9_lee_75 o_a26 i27 ea28 ?_
    obtain ⟨o_a20, h⟩ := h
    refine r_callVl0 (pc := 76) C (rest := []) (a := a20) o_a20 [.ref a24, .ref a28] yV_X1_wetInLee g_805 (c_X1_wetInLee h) dX9_lee_76 rfl rfl (Nat.le_of_ble_eq_true rfl) ⟨by decide, by decide⟩ ⟨by decide, by decide⟩ ⟨rfl, rfl⟩ (fun x31 S29 h g30 => ?_)
    have h := h g30
    have o_a10 := gr_ob g30 o_a10
    have o_a13 := gr_ob g30 o_a13
    have o_a14 := gr_ob g30 o_a14
    have o_a20 := gr_ob g30 o_a20
    have o_a21 := gr_ob g30 o_a21
    have o_a22 := gr_ob g30 o_a22
    have o_a25 := gr_ob g30 o_a25
    have o_a26 := gr_ob g30 o_a26
    have o_a8 := gr_ob g30 o_a8
    have o_a9 := gr_ob g30 o_a9
    have o_v0 := gr_ob g30 o_v0
    refine r_ldc2 (pc := 79) C (v := (2520 : Int64)) dX9_lee_79 g_721 ?_
    refine r_iload (pc := 82) C dX9_lee_82 7 rfl ?_
    refine r_callSl0 (pc := 84) C (rest := []) rfl [.long x31, .long (2520 : Int64), .int v7] yS_X9_fraction g_722 (c_X9_fraction h) dX9_lee_84 rfl rfl (Nat.le_of_ble_eq_true rfl) ⟨by decide, by decide⟩ ⟨by decide, by decide⟩ ⟨rfl, rfl⟩ (fun x34 S32 h g33 => ?_)
    have h := h g33
    have o_a10 := gr_ob g33 o_a10
    have o_a13 := gr_ob g33 o_a13
    have o_a14 := gr_ob g33 o_a14
    have o_a20 := gr_ob g33 o_a20
    have o_a21 := gr_ob g33 o_a21
    have o_a22 := gr_ob g33 o_a22
    have o_a25 := gr_ob g33 o_a25
    have o_a26 := gr_ob g33 o_a26
    have o_a8 := gr_ob g33 o_a8
    have o_a9 := gr_ob g33 o_a9
    have o_v0 := gr_ob g33 o_v0
    exact r_lret (pc := 87) C E ht dX9_lee_87 (by decide) (by decide) h
  · have h := h.2 c7
    refine r_ldc2 (pc := 20) C (v := (-1 : Int64)) dX9_lee_20 g_687 ?_
    exact r_lret (pc := 23) C E ht dX9_lee_23 (by decide) (by decide) h
def P_X9_lee (v0 : Nat) (v1 : Int32) (v2 : Int32) (v3 : Int32) (v4 : Int32) (v5 : Int32) (v6 : Int32) (v7 : Int32) (Q : Int64 → HS → Prop) (S : HS) : Prop := P_X9_lee_0 Q v0 v1 v2 v3 v4 v5 v6 v7 S
theorem c_X9_lee {l : Launch} {Ee : EE} {S : HS} {v0 : Nat} {v1 : Int32} {v2 : Int32} {v3 : Int32} {v4 : Int32} {v5 : Int32} {v6 : Int32} {v7 : Int32} {Q : Int64 → HS → Prop} (h : P_X9_lee v0 v1 v2 v3 v4 v5 v6 v7 Q S) : MJ l yX9_lee cX9_lee 8 (some .long) rm_X9_lee Ee S [.ref v0, .int v1, .int v2, .int v3, .int v4, .int v5, .int v6, .int v7] Q :=
  openJ (by decide) (Nat.le_of_ble_eq_true rfl) (fun X C E ht hn hE hl => by subst hE; exact r_sub [0, 1, 2, 3, 4, 5, 6, 7] rfl (T_X9_lee_0 C E ht hn h))
def rm_X9_lies : Room := { frames := 6, cells := 0, slots := 0, locals := 155 }
def P_X9_lies_54 (Q : Int32 → HS → Prop) (X20 : Nat → Int32 → Int32 → HS → Prop) (v0 : Nat) (v1 : Int32) (v2 : Int32) (S : HS) : Prop := ∀ x1 : Int32, x1 = v2 + (1 : Int32) → (X20 v0 v1 x1 S)
set_option maxRecDepth 20000 in
set_option maxHeartbeats 4000000 in
theorem T_X9_lies_54 {X : CX} {Q : Int32 → HS → Prop} (C : Cx X cX9_lies RX9 3 rm_X9_lies) (E : ReI X rm_X9_lies Q) (ht : (xh X).sig.returnType = (some .int)) (hn : (xh X).name = yX9_lies.name) {X20 : Nat → Int32 → Int32 → HS → Prop} (hX20 : ∀ (v0 : Nat) (v1 : Int32) (v2 : Int32) (S : HS), X20 v0 v1 v2 S → WS X 3 0 0 20 [(0, .ref v0), (1, .int v1), (2, .int v2)] [] S) {v0 : Nat} {v1 : Int32} {v2 : Int32} {S : HS} (h : P_X9_lies_54 Q X20 v0 v1 v2 S) : WS X 3 0 0 54 [(0, .ref v0), (1, .int v1), (2, .int v2)] [] S := by
  obtain ⟨x1, ex1⟩ : ∃ z : Int32, z = v2 + (1 : Int32) := ⟨_, rfl⟩
  have h := h x1 ex1
  refine r_iinc (pc := 54) C (v := x1) (lv' := [(2, .int x1), (0, .ref v0), (1, .int v1)]) dX9_lies_54 2 rfl ex1.symm (by decide) rfl ?_
  refine r_goto (pc := 57) C (tgt := 20) dX9_lies_57 (by decide) ?_
  exact r_sub [1, 2, 0] rfl (hX20 v0 v1 x1 S h)
def B_X9_lies_20 (Q : Int32 → HS → Prop) (X20 : Nat → Int32 → Int32 → HS → Prop) (v0 : Nat) (v1 : Int32) (v2 : Int32) (S : HS) : Prop := ob S v0 9 ∧ (∃ a1 : Nat, fR S v0 2 = some a1 ∧ (ob S a1 8 ∧ (∀ x2 : Int32, x2 = fI S a1 5 → (((x2 ≤ v2) → (P_X9_grant v0 v1 (fun x6 S4 => Gr S S4 → (Q x6 S4)) S)) ∧ ((¬ x2 ≤ v2) → (∃ a7 : Nat, fR S v0 4 = some a7 ∧ (∃ a8 : Nat, fR S v0 2 = some a8 ∧ (ob S a7 1 ∧ (P_X1_findFit a7 a8 v2 (0 : Int32) (fun x11 S9 => Gr S S9 → (((¬ x11 = (-1 : Int32)) → (P_X9_lies_54 Q X20 v0 v1 v2 S9)) ∧ ((x11 = (-1 : Int32)) → (∀ x13 : Int32, x13 = v1 ||| ((1 : Int32) <<< (v2 &&& 31)) → (P_X9_lies_54 Q X20 v0 x13 v2 S9))))) S)))))))))
def P_X9_lies_20 (Q : Int32 → HS → Prop) (v0 : Nat) (v1 : Int32) (v2 : Int32) (S : HS) : Prop := ∀ X20 : Nat → Int32 → Int32 → HS → Prop, (∀ (v0 : Nat) (v1 : Int32) (v2 : Int32) (S : HS), B_X9_lies_20 Q X20 v0 v1 v2 S → X20 v0 v1 v2 S) → X20 v0 v1 v2 S
set_option maxRecDepth 20000 in
set_option maxHeartbeats 4000000 in
theorem TB_X9_lies_20 {X : CX} {Q : Int32 → HS → Prop} (C : Cx X cX9_lies RX9 3 rm_X9_lies) (E : ReI X rm_X9_lies Q) (ht : (xh X).sig.returnType = (some .int)) (hn : (xh X).name = yX9_lies.name) {X20 : Nat → Int32 → Int32 → HS → Prop} (hX20 : ∀ (v0 : Nat) (v1 : Int32) (v2 : Int32) (S : HS), X20 v0 v1 v2 S → WS X 3 0 0 20 [(0, .ref v0), (1, .int v1), (2, .int v2)] [] S) {v0 : Nat} {v1 : Int32} {v2 : Int32} {S : HS} (h : B_X9_lies_20 Q X20 v0 v1 v2 S) : WS X 3 0 0 20 [(0, .ref v0), (1, .int v1), (2, .int v2)] [] S := by
  refine r_iload_n (pc := 20) C dX9_lies_20 2 rfl ?_
  refine r_aload_n (pc := 21) C dX9_lies_21 0 rfl ?_
  obtain ⟨o_v0, h⟩ := h
  obtain ⟨a1, ea1, h⟩ := h
  refine r_getr (pc := 22) C fL_X9_16 dX9_lies_22 o_v0 ea1 ?_
  obtain ⟨o_a1, h⟩ := h
  refine r_geti (pc := 25) C fL_X9_264 dX9_lies_25 o_a1 ?_
  refine r_topi (fun x2 ex2 => ?_)
  have h := h x2 ex2
  refine r_icmp_ge (pc := 28) C (tgt := 60) dX9_lies_28 (by decide) (fun c3 => ?_) (fun c3 => ?_)
  · have h := h.1 c3
    refine r_aload_n (pc := 60) C dX9_lies_60 0 rfl ?_
    refine r_iload_n (pc := 61) C dX9_lies_61 1 rfl ?_
    refine r_callVi0 (pc := 62) C (rest := []) (a := v0) o_v0 [.int v1] yV_X9_grant g_637 (c_X9_grant h) dX9_lies_62 rfl rfl (Nat.le_of_ble_eq_true rfl) ⟨by decide, by decide⟩ ⟨by decide, by decide⟩ ⟨rfl, rfl⟩ (fun x6 S4 h g5 => ?_)
    have h := h g5
    have o_a1 := gr_ob g5 o_a1
    have o_v0 := gr_ob g5 o_v0
    exact r_iret (pc := 65) C E ht dX9_lies_65 (by decide) (by decide) h
  · have h := h.2 c3
    refine r_aload_n (pc := 31) C dX9_lies_31 0 rfl ?_
    obtain ⟨a7, ea7, h⟩ := h
    refine r_getr (pc := 32) C fL_X9_30 dX9_lies_32 o_v0 ea7 ?_
    refine r_aload_n (pc := 35) C dX9_lies_35 0 rfl ?_
    obtain ⟨a8, ea8, h⟩ := h
    refine r_getr (pc := 36) C fL_X9_16 dX9_lies_36 o_v0 ea8 ?_
    refine r_iload_n (pc := 39) C dX9_lies_39 2 rfl ?_
    refine r_iconst (pc := 40) C (v := (0 : Int32)) dX9_lies_40 (by decide) ?_
    obtain ⟨o_a7, h⟩ := h
    refine r_callVi0 (pc := 41) C (rest := []) (a := a7) o_a7 [.ref a8, .int v2, .int (0 : Int32)] yV_X1_findFit g_953 (c_X1_findFit h) dX9_lies_41 rfl rfl (Nat.le_of_ble_eq_true rfl) ⟨by decide, by decide⟩ ⟨by decide, by decide⟩ ⟨rfl, rfl⟩ (fun x11 S9 h g10 => ?_)
    have h := h g10
    have o_a1 := gr_ob g10 o_a1
    have o_a7 := gr_ob g10 o_a7
    have o_v0 := gr_ob g10 o_v0
    refine r_iconst (pc := 44) C (v := (-1 : Int32)) dX9_lies_44 (by decide) ?_
    refine r_icmp_ne (pc := 45) C (tgt := 54) dX9_lies_45 (by decide) (fun c12 => ?_) (fun c12 => ?_)
    · have h := h.1 c12
      exact r_sub [0, 1, 2] rfl (T_X9_lies_54 C E ht hn hX20 h)
    · have h := h.2 c12
      refine r_iload_n (pc := 48) C dX9_lies_48 1 rfl ?_
      refine r_iconst (pc := 49) C (v := (1 : Int32)) dX9_lies_49 (by decide) ?_
      refine r_iload_n (pc := 50) C dX9_lies_50 2 rfl ?_
      refine r_ishl (pc := 51) C dX9_lies_51 ?_
      refine r_ior (pc := 52) C dX9_lies_52 ?_
      refine r_topi (fun x13 ex13 => ?_)
      have h := h x13 ex13
      refine r_istore_n (pc := 53) C dX9_lies_53 rfl (by decide) (lv' := [(1, .int x13), (0, .ref v0), (2, .int v2)]) rfl ?_
      exact r_sub [1, 0, 2] rfl (T_X9_lies_54 C E ht hn hX20 h)
theorem T_X9_lies_20 {X : CX} {Q : Int32 → HS → Prop} (C : Cx X cX9_lies RX9 3 rm_X9_lies) (E : ReI X rm_X9_lies Q) (ht : (xh X).sig.returnType = (some .int)) (hn : (xh X).name = yX9_lies.name) {v0 : Nat} {v1 : Int32} {v2 : Int32} {S : HS} (h : P_X9_lies_20 Q v0 v1 v2 S) : WS X 3 0 0 20 [(0, .ref v0), (1, .int v1), (2, .int v2)] [] S :=
  h (fun v0 v1 v2 S => WS X 3 0 0 20 [(0, .ref v0), (1, .int v1), (2, .int v2)] [] S) (fun v0 v1 v2 S hh => TB_X9_lies_20 C E ht hn (fun v0 v1 v2 S z => z) hh)
def P_X9_lies_0 (Q : Int32 → HS → Prop) (v0 : Nat) (S : HS) : Prop := ob S v0 9 ∧ (∃ a1 : Nat, fR S v0 2 = some a1 ∧ (ob S a1 8 ∧ (P_X8_isTold a1 (fun x4 S2 => Gr S S2 → bl x4 → (((¬ x4 = 0) → (P_X9_lies_20 Q v0 (0 : Int32) (0 : Int32) S2)) ∧ ((x4 = 0) → (P_X9_refuse v0 (1 : Int32) (fun x8 S6 => Gr S2 S6 → (Q x8 S6)) S2)))) S)))
set_option maxRecDepth 20000 in
set_option maxHeartbeats 4000000 in
theorem T_X9_lies_0 {X : CX} {Q : Int32 → HS → Prop} (C : Cx X cX9_lies RX9 3 rm_X9_lies) (E : ReI X rm_X9_lies Q) (ht : (xh X).sig.returnType = (some .int)) (hn : (xh X).name = yX9_lies.name) {v0 : Nat} {S : HS} (h : P_X9_lies_0 Q v0 S) : WS X 3 0 0 0 [(0, .ref v0)] [] S := by
  refine r_aload_n (pc := 0) C dX9_lies_0 0 rfl ?_
  obtain ⟨o_v0, h⟩ := h
  obtain ⟨a1, ea1, h⟩ := h
  refine r_getr (pc := 1) C fL_X9_16 dX9_lies_1 o_v0 ea1 ?_
  obtain ⟨o_a1, h⟩ := h
  refine r_callVi0 (pc := 4) C (rest := []) (a := a1) o_a1 [] yV_X8_isTold g_961 (c_X8_isTold h) dX9_lies_4 rfl rfl (Nat.le_of_ble_eq_true rfl) ⟨by decide, by decide⟩ ⟨by decide, by decide⟩ ⟨rfl, rfl⟩ (fun x4 S2 h g3 => ?_)
  have bx4 := h.1
  have h := h.2 g3 bx4
  have o_a1 := gr_ob g3 o_a1
  have o_v0 := gr_ob g3 o_v0
  refine r_if_ne (pc := 7) C (tgt := 16) dX9_lies_7 (by decide) (fun c5 => ?_) (fun c5 => ?_)
  · have h := h.1 c5
    refine r_iconst (pc := 16) C (v := (0 : Int32)) dX9_lies_16 (by decide) ?_
    refine r_istore_n (pc := 17) C dX9_lies_17 rfl (by decide) (lv' := [(1, .int (0 : Int32)), (0, .ref v0)]) rfl ?_
    refine r_iconst (pc := 18) C (v := (0 : Int32)) dX9_lies_18 (by decide) ?_
    refine r_istore_n (pc := 19) C dX9_lies_19 rfl (by decide) (lv' := [(2, .int (0 : Int32)), (1, .int (0 : Int32)), (0, .ref v0)]) rfl ?_
    exact r_sub [2, 1, 0] rfl (T_X9_lies_20 C E ht hn h)
  · have h := h.2 c5
    refine r_aload_n (pc := 10) C dX9_lies_10 0 rfl ?_
    refine r_iconst (pc := 11) C (v := (1 : Int32)) dX9_lies_11 (by decide) ?_
    refine r_callVi0 (pc := 12) C (rest := []) (a := v0) o_v0 [.int (1 : Int32)] yV_X9_refuse g_430 (c_X9_refuse h) dX9_lies_12 rfl rfl (Nat.le_of_ble_eq_true rfl) ⟨by decide, by decide⟩ ⟨by decide, by decide⟩ ⟨rfl, rfl⟩ (fun x8 S6 h g7 => ?_)
    have h := h g7
    have o_a1 := gr_ob g7 o_a1
    have o_v0 := gr_ob g7 o_v0
    exact r_iret (pc := 15) C E ht dX9_lies_15 (by decide) (by decide) h
def P_X9_lies (v0 : Nat) (Q : Int32 → HS → Prop) (S : HS) : Prop := P_X9_lies_0 Q v0 S
theorem c_X9_lies {l : Launch} {Ee : EE} {S : HS} {v0 : Nat} {Q : Int32 → HS → Prop} (h : P_X9_lies v0 Q S) : MI l yX9_lies cX9_lies 3 (some .int) rm_X9_lies Ee S [.ref v0] Q :=
  openI (by decide) (Nat.le_of_ble_eq_true rfl) (fun X C E ht hn hE hl => by subst hE; exact r_sub [0] rfl (T_X9_lies_0 C E ht hn h))
def rm_X9_mark : Room := { frames := 2, cells := 0, slots := 0, locals := 42 }
def P_X9_mark_0 (Q : Int32 → HS → Prop) (v0 : Nat) (S : HS) : Prop := ob S v0 9 ∧ (∃ a1 : Nat, fR S v0 6 = some a1 ∧ (ob S a1 0 ∧ (P_X0_isOn a1 (fun x4 S2 => Gr S S2 → bl x4 → (((¬ x4 = 0) → (∃ a6 : Nat, fR S2 v0 6 = some a6 ∧ (ob S2 a6 0 ∧ (P_X0_setMark a6 (fun x9 S7 => Gr S2 S7 → (((¬ x9 = (-1 : Int32)) → (P_X9_grant v0 x9 (fun x13 S11 => Gr S7 S11 → (Q x13 S11)) S7)) ∧ ((x9 = (-1 : Int32)) → (P_X9_refuse v0 (3 : Int32) (fun x16 S14 => Gr S7 S14 → (Q x16 S14)) S7)))) S2)))) ∧ ((x4 = 0) → (P_X9_refuse v0 (1 : Int32) (fun x19 S17 => Gr S2 S17 → (Q x19 S17)) S2)))) S)))
set_option maxRecDepth 20000 in
set_option maxHeartbeats 4000000 in
theorem T_X9_mark_0 {X : CX} {Q : Int32 → HS → Prop} (C : Cx X cX9_mark RX9 2 rm_X9_mark) (E : ReI X rm_X9_mark Q) (ht : (xh X).sig.returnType = (some .int)) (hn : (xh X).name = yX9_mark.name) {v0 : Nat} {S : HS} (h : P_X9_mark_0 Q v0 S) : WS X 2 0 0 0 [(0, .ref v0)] [] S := by
  refine r_aload_n (pc := 0) C dX9_mark_0 0 rfl ?_
  obtain ⟨o_v0, h⟩ := h
  obtain ⟨a1, ea1, h⟩ := h
  refine r_getr (pc := 1) C fL_X9_44 dX9_mark_1 o_v0 ea1 ?_
  obtain ⟨o_a1, h⟩ := h
  refine r_callVi0 (pc := 4) C (rest := []) (a := a1) o_a1 [] yV_X0_isOn g_981 (c_X0_isOn h) dX9_mark_4 rfl rfl (Nat.le_of_ble_eq_true rfl) ⟨by decide, by decide⟩ ⟨by decide, by decide⟩ ⟨rfl, rfl⟩ (fun x4 S2 h g3 => ?_)
  have bx4 := h.1
  have h := h.2 g3 bx4
  have o_a1 := gr_ob g3 o_a1
  have o_v0 := gr_ob g3 o_v0
  refine r_if_ne (pc := 7) C (tgt := 16) dX9_mark_7 (by decide) (fun c5 => ?_) (fun c5 => ?_)
  · have h := h.1 c5
    refine r_aload_n (pc := 16) C dX9_mark_16 0 rfl ?_
    obtain ⟨a6, ea6, h⟩ := h
    refine r_getr (pc := 17) C fL_X9_44 dX9_mark_17 o_v0 ea6 ?_
    obtain ⟨o_a6, h⟩ := h
    refine r_callVi0 (pc := 20) C (rest := []) (a := a6) o_a6 [] yV_X0_setMark g_1048 (c_X0_setMark h) dX9_mark_20 rfl rfl (Nat.le_of_ble_eq_true rfl) ⟨by decide, by decide⟩ ⟨by decide, by decide⟩ ⟨rfl, rfl⟩ (fun x9 S7 h g8 => ?_)
    have h := h g8
    have o_a1 := gr_ob g8 o_a1
    have o_a6 := gr_ob g8 o_a6
    have o_v0 := gr_ob g8 o_v0
    refine r_istore_n (pc := 23) C dX9_mark_23 rfl (by decide) (lv' := [(1, .int x9), (0, .ref v0)]) rfl ?_
    refine r_iload_n (pc := 24) C dX9_mark_24 0 rfl ?_
    refine r_iconst (pc := 25) C (v := (-1 : Int32)) dX9_mark_25 (by decide) ?_
    refine r_icmp_ne (pc := 26) C (tgt := 37) dX9_mark_26 (by decide) (fun c10 => ?_) (fun c10 => ?_)
    · have h := h.1 c10
      refine r_aload_n (pc := 37) C dX9_mark_37 1 rfl ?_
      refine r_iload_n (pc := 38) C dX9_mark_38 0 rfl ?_
      refine r_callVi0 (pc := 39) C (rest := []) (a := v0) o_v0 [.int x9] yV_X9_grant g_637 (c_X9_grant h) dX9_mark_39 rfl rfl (Nat.le_of_ble_eq_true rfl) ⟨by decide, by decide⟩ ⟨by decide, by decide⟩ ⟨rfl, rfl⟩ (fun x13 S11 h g12 => ?_)
      have h := h g12
      have o_a1 := gr_ob g12 o_a1
      have o_a6 := gr_ob g12 o_a6
      have o_v0 := gr_ob g12 o_v0
      exact r_iret (pc := 42) C E ht dX9_mark_42 (by decide) (by decide) h
    · have h := h.2 c10
      refine r_aload_n (pc := 29) C dX9_mark_29 1 rfl ?_
      refine r_iconst (pc := 30) C (v := (3 : Int32)) dX9_mark_30 (by decide) ?_
      refine r_callVi0 (pc := 31) C (rest := []) (a := v0) o_v0 [.int (3 : Int32)] yV_X9_refuse g_430 (c_X9_refuse h) dX9_mark_31 rfl rfl (Nat.le_of_ble_eq_true rfl) ⟨by decide, by decide⟩ ⟨by decide, by decide⟩ ⟨rfl, rfl⟩ (fun x16 S14 h g15 => ?_)
      have h := h g15
      have o_a1 := gr_ob g15 o_a1
      have o_a6 := gr_ob g15 o_a6
      have o_v0 := gr_ob g15 o_v0
      refine r_goto (pc := 34) C (tgt := 42) dX9_mark_34 (by decide) ?_
      exact r_iret (pc := 42) C E ht dX9_mark_42 (by decide) (by decide) h
  · have h := h.2 c5
    refine r_aload_n (pc := 10) C dX9_mark_10 0 rfl ?_
    refine r_iconst (pc := 11) C (v := (1 : Int32)) dX9_mark_11 (by decide) ?_
    refine r_callVi0 (pc := 12) C (rest := []) (a := v0) o_v0 [.int (1 : Int32)] yV_X9_refuse g_430 (c_X9_refuse h) dX9_mark_12 rfl rfl (Nat.le_of_ble_eq_true rfl) ⟨by decide, by decide⟩ ⟨by decide, by decide⟩ ⟨rfl, rfl⟩ (fun x19 S17 h g18 => ?_)
    have h := h g18
    have o_a1 := gr_ob g18 o_a1
    have o_v0 := gr_ob g18 o_v0
    exact r_iret (pc := 15) C E ht dX9_mark_15 (by decide) (by decide) h
def P_X9_mark (v0 : Nat) (Q : Int32 → HS → Prop) (S : HS) : Prop := P_X9_mark_0 Q v0 S
theorem c_X9_mark {l : Launch} {Ee : EE} {S : HS} {v0 : Nat} {Q : Int32 → HS → Prop} (h : P_X9_mark v0 Q S) : MI l yX9_mark cX9_mark 2 (some .int) rm_X9_mark Ee S [.ref v0] Q :=
  openI (by decide) (Nat.le_of_ble_eq_true rfl) (fun X C E ht hn hE hl => by subst hE; exact r_sub [0] rfl (T_X9_mark_0 C E ht hn h))
end
