def rm_X4_init : Room := { frames := 3, cells := 32, slots := 208, locals := 61 }
def P_X4_init_0 (Q : HS → Prop) (v0 : Nat) (S : HS) : Prop := ∀ a1 : Nat, a1 ∉ hL S → ∀ S2 : HS, S2 = nW S a1 12 0 → (ob S2 v0 4 ∧ (∀ a3 : Nat, a3 ∉ hL (sR S2 v0 2 (some a1)) → ∀ S4 : HS, S4 = nW (sR S2 v0 2 (some a1)) a3 8 0 → (P_X8_init a3 (fun S5 => Gr S4 S5 → (∀ a8 : Nat, a8 ∉ hL (sR S5 v0 5 (some a3)) → ∀ S9 : HS, S9 = nW (sR S5 v0 5 (some a3)) a8 14 12 → (∀ a10 : Nat, a10 ∉ hL (sR S9 v0 11 (some a8)) → ∀ S11 : HS, S11 = nW (sR S9 v0 11 (some a8)) a10 13 12 → (Q (sR S11 v0 12 (some a10)))))) S4)))
set_option maxRecDepth 20000 in
set_option maxHeartbeats 4000000 in
theorem T_X4_init_0 {X : CX} {Q : HS → Prop} (C : Cx X cX4_init RX4 1 rm_X4_init) (E : ReV X rm_X4_init Q) (ht : (xh X).sig.returnType = none) (hn : (xh X).name = yX4_init.name) {v0 : Nat} {S : HS} (h : P_X4_init_0 Q v0 S) : WS X 1 0 0 0 [(0, .ref v0)] [] S := by
  refine r_aload_n (pc := 0) C dX4_init_0 0 rfl ?_
  refine r_objinit (pc := 1) C g_221 dX4_init_1 (by decide) (Nat.le_of_ble_eq_true rfl) ?_
  refine r_aload_n (pc := 4) C dX4_init_4 0 rfl ?_
  refine r_iconst (pc := 5) C (v := (0 : Int32)) dX4_init_5 (by decide) ?_
  refine r_newa12 (pc := 6) C (N := 0) g_71 dX4_init_6 (by decide) (by decide) (by decide) (by decide) (by decide) (fun a1 q18 => ?_)
  refine r_heap (fun S2 eS2 => ?_)
  have h := h a1 q18 S2 eS2
  have g19 := gr_of_new eS2 q18
  have o_a1 := ob_of_new eS2
  obtain ⟨o_v0, h⟩ := h
  refine r_putr (pc := 8) C pfL_X4_9 dX4_init_8 o_v0 ?_
  refine r_aload_n (pc := 11) C dX4_init_11 0 rfl ?_
  refine r_new (pc := 12) C nc_X4_15 dX4_init_12 (by decide) (by decide) (fun a3 q16 => ?_)
  refine r_heap (fun S4 eS4 => ?_)
  have h := h a3 q16 S4 eS4
  have g17 := gr_of_new eS4 q16
  have o_a3 := ob_of_new eS4
  have o_a1 := gr_ob g17 o_a1
  have o_v0 := gr_ob g17 o_v0
  refine r_dup (pc := 15) C dX4_init_15 rfl ?_
  refine r_callIv (pc := 16) C (rest := [.ref a3, .ref v0]) (a := a3) [] yI_X8_init g_223 (c_X8_init h) dX4_init_16 rfl rfl (Nat.le_of_ble_eq_true rfl) ⟨by decide, by decide⟩ ⟨by decide, by decide⟩ (fun S5 h g6 => ?_)
  have h := h g6
  have o_a1 := gr_ob g6 o_a1
  have o_a3 := gr_ob g6 o_a3
  have o_v0 := gr_ob g6 o_v0
  refine r_putr (pc := 19) C pfL_X4_18 dX4_init_19 o_v0 ?_
  refine r_aload_n (pc := 22) C dX4_init_22 0 rfl ?_
  refine r_bipush (pc := 23) C (v := (12 : Int32)) dX4_init_23 (by decide) ?_
  refine r_newa14 (pc := 25) C (N := 12) g_266 dX4_init_25 (by decide) (by decide) (by decide) (by decide) (by decide) (fun a8 q14 => ?_)
  refine r_heap (fun S9 eS9 => ?_)
  have h := h a8 q14 S9 eS9
  have g15 := gr_of_new eS9 q14
  have o_a8 := ob_of_new eS9
  have o_a1 := gr_ob g15 o_a1
  have o_a3 := gr_ob g15 o_a3
  have o_v0 := gr_ob g15 o_v0
  refine r_putFr (pc := 27) C pfL_X4_22 hn dX4_init_27 o_v0 ?_
  refine r_aload_n (pc := 30) C dX4_init_30 0 rfl ?_
  refine r_bipush (pc := 31) C (v := (12 : Int32)) dX4_init_31 (by decide) ?_
  refine r_newa13 (pc := 33) C (N := 12) g_72 dX4_init_33 (by decide) (by decide) (by decide) (by decide) (by decide) (fun a10 q12 => ?_)
  refine r_heap (fun S11 eS11 => ?_)
  have h := h a10 q12 S11 eS11
  have g13 := gr_of_new eS11 q12
  have o_a10 := ob_of_new eS11
  have o_a1 := gr_ob g13 o_a1
  have o_a3 := gr_ob g13 o_a3
  have o_a8 := gr_ob g13 o_a8
  have o_v0 := gr_ob g13 o_v0
  refine r_putFr (pc := 35) C pfL_X4_26 hn dX4_init_35 o_v0 ?_
  exact r_vret (pc := 38) C E ht dX4_init_38 (by decide) (by decide) h
def P_X4_init (v0 : Nat) (Q : HS → Prop) (S : HS) : Prop := P_X4_init_0 Q v0 S
theorem c_X4_init {l : Launch} {Ee : EE} {S : HS} {v0 : Nat} {Q : HS → Prop} (h : P_X4_init v0 Q S) : MV l yX4_init cX4_init 1 none rm_X4_init Ee S [.ref v0] Q :=
  openV (by decide) (Nat.le_of_ble_eq_true rfl) (fun X C E ht hn hE hl => by subst hE; exact r_sub [0] rfl (T_X4_init_0 C E ht hn h))
def rm_X4_kindOf : Room := { frames := 8, cells := 0, slots := 0, locals := 188 }
def P_X4_kindOf_0 (Q : Int32 → HS → Prop) (v0 : Nat) (v1 : Nat) (S : HS) : Prop := ob S v0 4 ∧ (P_X4_is v0 18 (fun x3 S1 => Gr (sI S v0 9 (0 : Int32)) S1 → bl x3 → (((x3 = 0) → (P_X4_is v0 19 (fun x7 S5 => Gr S1 S5 → bl x7 → (((x7 = 0) → (P_X4_is v0 20 (fun x11 S9 => Gr S5 S9 → bl x11 → (((x11 = 0) → (ob S9 v1 6 ∧ (P_X4_word v0 21 (fun x15 S13 => Gr (sI S9 v1 0 (0 : Int32)) S13 → bl x15 → (∀ x16 : Int32, x16 = fI S13 v0 9 → (bl x15 ∧ Q x15 (sI S13 v1 1 x16)))) (sI S9 v1 0 (0 : Int32))))) ∧ ((¬ x11 = 0) → (ob S9 v1 6 ∧ (P_X4_wordAndWhole v0 20 (1 : Int32) (99 : Int32) (fun x19 S17 => Gr (sI S9 v1 0 (3 : Int32)) S17 → bl x19 → (∀ x20 : Int32, x20 = fI S17 v0 9 → (bl x19 ∧ Q x19 (sI S17 v1 1 x20)))) (sI S9 v1 0 (3 : Int32))))))) S5)) ∧ ((¬ x7 = 0) → (ob S5 v1 6 ∧ (P_X4_wordAndWhole v0 19 (0 : Int32) (999 : Int32) (fun x23 S21 => Gr (sI S5 v1 0 (2 : Int32)) S21 → bl x23 → (∀ x24 : Int32, x24 = fI S21 v0 9 → (bl x23 ∧ Q x23 (sI S21 v1 1 x24)))) (sI S5 v1 0 (2 : Int32))))))) S1)) ∧ ((¬ x3 = 0) → (ob S1 v1 6 ∧ (P_X4_wordAndWhole v0 18 (1 : Int32) (8 : Int32) (fun x27 S25 => Gr (sI S1 v1 0 (1 : Int32)) S25 → bl x27 → (∀ x28 : Int32, x28 = fI S25 v0 9 → (bl x27 ∧ Q x27 (sI S25 v1 1 x28)))) (sI S1 v1 0 (1 : Int32))))))) (sI S v0 9 (0 : Int32)))
set_option maxRecDepth 20000 in
set_option maxHeartbeats 4000000 in
theorem T_X4_kindOf_0 {X : CX} {Q : Int32 → HS → Prop} (C : Cx X cX4_kindOf RX4 3 rm_X4_kindOf) (E : ReI X rm_X4_kindOf (fun r S => bl r ∧ Q r S)) (ht : (xh X).sig.returnType = (some .boolean)) (hn : (xh X).name = yX4_kindOf.name) {v0 : Nat} {v1 : Nat} {S : HS} (h : P_X4_kindOf_0 Q v0 v1 S) : WS X 3 0 0 0 [(0, .ref v0), (1, .ref v1)] [] S := by
  refine r_aload_n (pc := 0) C dX4_kindOf_0 0 rfl ?_
  refine r_iconst (pc := 1) C (v := (0 : Int32)) dX4_kindOf_1 (by decide) ?_
  obtain ⟨o_v0, h⟩ := h
  refine r_puti (pc := 2) C pfL_X4_147 dX4_kindOf_2 o_v0 ?_
  refine r_aload_n (pc := 5) C dX4_kindOf_5 0 rfl ?_
  refine r_ldsw (pc := 6) C 18 rfl dX4_kindOf_6 ?_
  refine r_callVi0 (pc := 9) C (rest := []) (a := v0) o_v0 [.ref (eK (xE X) 18)] yV_X4_is g_458 (c_X4_is h) dX4_kindOf_9 rfl rfl (Nat.le_of_ble_eq_true rfl) ⟨by decide, by decide⟩ ⟨by decide, by decide⟩ ⟨rfl, rfl⟩ (fun x3 S1 h g2 => ?_)
  have bx3 := h.1
  have h := h.2 g2 bx3
  have o_v0 := gr_ob g2 o_v0
  refine r_if_eq (pc := 12) C (tgt := 34) dX4_kindOf_12 (by decide) (fun c4 => ?_) (fun c4 => ?_)
  · have h := h.1 c4
    refine r_aload_n (pc := 34) C dX4_kindOf_34 0 rfl ?_
    refine r_ldsw (pc := 35) C 19 rfl dX4_kindOf_35 ?_
    refine r_callVi0 (pc := 38) C (rest := []) (a := v0) o_v0 [.ref (eK (xE X) 19)] yV_X4_is g_458 (c_X4_is h) dX4_kindOf_38 rfl rfl (Nat.le_of_ble_eq_true rfl) ⟨by decide, by decide⟩ ⟨by decide, by decide⟩ ⟨rfl, rfl⟩ (fun x7 S5 h g6 => ?_)
    have bx7 := h.1
    have h := h.2 g6 bx7
    have o_v0 := gr_ob g6 o_v0
    refine r_if_eq (pc := 41) C (tgt := 64) dX4_kindOf_41 (by decide) (fun c8 => ?_) (fun c8 => ?_)
    · have h := h.1 c8
      refine r_aload_n (pc := 64) C dX4_kindOf_64 0 rfl ?_
      refine r_ldsw (pc := 65) C 20 rfl dX4_kindOf_65 ?_
      refine r_callVi0 (pc := 68) C (rest := []) (a := v0) o_v0 [.ref (eK (xE X) 20)] yV_X4_is g_458 (c_X4_is h) dX4_kindOf_68 rfl rfl (Nat.le_of_ble_eq_true rfl) ⟨by decide, by decide⟩ ⟨by decide, by decide⟩ ⟨rfl, rfl⟩ (fun x11 S9 h g10 => ?_)
      have bx11 := h.1
      have h := h.2 g10 bx11
      have o_v0 := gr_ob g10 o_v0
      refine r_if_eq (pc := 71) C (tgt := 93) dX4_kindOf_71 (by decide) (fun c12 => ?_) (fun c12 => ?_)
      · have h := h.1 c12
        refine r_aload_n (pc := 93) C dX4_kindOf_93 1 rfl ?_
        refine r_iconst (pc := 94) C (v := (0 : Int32)) dX4_kindOf_94 (by decide) ?_
        obtain ⟨o_v1, h⟩ := h
        refine r_puti (pc := 95) C pfL_X4_264 dX4_kindOf_95 o_v1 ?_
        refine r_aload_n (pc := 98) C dX4_kindOf_98 0 rfl ?_
        refine r_ldsw (pc := 99) C 21 rfl dX4_kindOf_99 ?_
        refine r_callVi0 (pc := 102) C (rest := []) (a := v0) o_v0 [.ref (eK (xE X) 21)] yV_X4_word g_528 (c_X4_word h) dX4_kindOf_102 rfl rfl (Nat.le_of_ble_eq_true rfl) ⟨by decide, by decide⟩ ⟨by decide, by decide⟩ ⟨rfl, rfl⟩ (fun x15 S13 h g14 => ?_)
        have bx15 := h.1
        have h := h.2 g14 bx15
        have o_v0 := gr_ob g14 o_v0
        have o_v1 := gr_ob g14 o_v1
        refine r_istore_n (pc := 105) C dX4_kindOf_105 rfl (by decide) (lv' := [(2, .int x15), (0, .ref v0), (1, .ref v1)]) rfl ?_
        refine r_aload_n (pc := 106) C dX4_kindOf_106 2 rfl ?_
        refine r_aload_n (pc := 107) C dX4_kindOf_107 1 rfl ?_
        refine r_geti (pc := 108) C fL_X4_147 dX4_kindOf_108 o_v0 ?_
        refine r_topi (fun x16 ex16 => ?_)
        have h := h x16 ex16
        refine r_puti (pc := 111) C pfL_X4_273 dX4_kindOf_111 o_v1 ?_
        refine r_iload_n (pc := 114) C dX4_kindOf_114 0 rfl ?_
        exact r_zret (pc := 115) C E ht dX4_kindOf_115 (by decide) (by decide) h.1 h.2
      · have h := h.2 c12
        refine r_aload_n (pc := 74) C dX4_kindOf_74 1 rfl ?_
        refine r_iconst (pc := 75) C (v := (3 : Int32)) dX4_kindOf_75 (by decide) ?_
        obtain ⟨o_v1, h⟩ := h
        refine r_puti (pc := 76) C pfL_X4_264 dX4_kindOf_76 o_v1 ?_
        refine r_aload_n (pc := 79) C dX4_kindOf_79 0 rfl ?_
        refine r_ldsw (pc := 80) C 20 rfl dX4_kindOf_80 ?_
        refine r_iconst (pc := 83) C (v := (1 : Int32)) dX4_kindOf_83 (by decide) ?_
        refine r_bipush (pc := 84) C (v := (99 : Int32)) dX4_kindOf_84 (by decide) ?_
        refine r_callVi0 (pc := 86) C (rest := []) (a := v0) o_v0 [.ref (eK (xE X) 20), .int (1 : Int32), .int (99 : Int32)] yV_X4_wordAndWhole g_524 (c_X4_wordAndWhole h) dX4_kindOf_86 rfl rfl (Nat.le_of_ble_eq_true rfl) ⟨by decide, by decide⟩ ⟨by decide, by decide⟩ ⟨rfl, rfl⟩ (fun x19 S17 h g18 => ?_)
        have bx19 := h.1
        have h := h.2 g18 bx19
        have o_v0 := gr_ob g18 o_v0
        have o_v1 := gr_ob g18 o_v1
        refine r_istore_n (pc := 89) C dX4_kindOf_89 rfl (by decide) (lv' := [(2, .int x19), (0, .ref v0), (1, .ref v1)]) rfl ?_
        refine r_goto (pc := 90) C (tgt := 106) dX4_kindOf_90 (by decide) ?_
        refine r_aload_n (pc := 106) C dX4_kindOf_106 2 rfl ?_
        refine r_aload_n (pc := 107) C dX4_kindOf_107 1 rfl ?_
        refine r_geti (pc := 108) C fL_X4_147 dX4_kindOf_108 o_v0 ?_
        refine r_topi (fun x20 ex20 => ?_)
        have h := h x20 ex20
        refine r_puti (pc := 111) C pfL_X4_273 dX4_kindOf_111 o_v1 ?_
        refine r_iload_n (pc := 114) C dX4_kindOf_114 0 rfl ?_
        exact r_zret (pc := 115) C E ht dX4_kindOf_115 (by decide) (by decide) h.1 h.2
    · have h := h.2 c8
      refine r_aload_n (pc := 44) C dX4_kindOf_44 1 rfl ?_
      refine r_iconst (pc := 45) C (v := (2 : Int32)) dX4_kindOf_45 (by decide) ?_
      obtain ⟨o_v1, h⟩ := h
      refine r_puti (pc := 46) C pfL_X4_264 dX4_kindOf_46 o_v1 ?_
      refine r_aload_n (pc := 49) C dX4_kindOf_49 0 rfl ?_
      refine r_ldsw (pc := 50) C 19 rfl dX4_kindOf_50 ?_
      refine r_iconst (pc := 53) C (v := (0 : Int32)) dX4_kindOf_53 (by decide) ?_
      refine r_sipush (pc := 54) C (v := (999 : Int32)) dX4_kindOf_54 (by decide) ?_
      refine r_callVi0 (pc := 57) C (rest := []) (a := v0) o_v0 [.ref (eK (xE X) 19), .int (0 : Int32), .int (999 : Int32)] yV_X4_wordAndWhole g_524 (c_X4_wordAndWhole h) dX4_kindOf_57 rfl rfl (Nat.le_of_ble_eq_true rfl) ⟨by decide, by decide⟩ ⟨by decide, by decide⟩ ⟨rfl, rfl⟩ (fun x23 S21 h g22 => ?_)
      have bx23 := h.1
      have h := h.2 g22 bx23
      have o_v0 := gr_ob g22 o_v0
      have o_v1 := gr_ob g22 o_v1
      refine r_istore_n (pc := 60) C dX4_kindOf_60 rfl (by decide) (lv' := [(2, .int x23), (0, .ref v0), (1, .ref v1)]) rfl ?_
      refine r_goto (pc := 61) C (tgt := 106) dX4_kindOf_61 (by decide) ?_
      refine r_aload_n (pc := 106) C dX4_kindOf_106 2 rfl ?_
      refine r_aload_n (pc := 107) C dX4_kindOf_107 1 rfl ?_
      refine r_geti (pc := 108) C fL_X4_147 dX4_kindOf_108 o_v0 ?_
      refine r_topi (fun x24 ex24 => ?_)
      have h := h x24 ex24
      refine r_puti (pc := 111) C pfL_X4_273 dX4_kindOf_111 o_v1 ?_
      refine r_iload_n (pc := 114) C dX4_kindOf_114 0 rfl ?_
      exact r_zret (pc := 115) C E ht dX4_kindOf_115 (by decide) (by decide) h.1 h.2
  · have h := h.2 c4
    refine r_aload_n (pc := 15) C dX4_kindOf_15 1 rfl ?_
    refine r_iconst (pc := 16) C (v := (1 : Int32)) dX4_kindOf_16 (by decide) ?_
    obtain ⟨o_v1, h⟩ := h
    refine r_puti (pc := 17) C pfL_X4_264 dX4_kindOf_17 o_v1 ?_
    refine r_aload_n (pc := 20) C dX4_kindOf_20 0 rfl ?_
    refine r_ldsw (pc := 21) C 18 rfl dX4_kindOf_21 ?_
    refine r_iconst (pc := 24) C (v := (1 : Int32)) dX4_kindOf_24 (by decide) ?_
    refine r_bipush (pc := 25) C (v := (8 : Int32)) dX4_kindOf_25 (by decide) ?_
    refine r_callVi0 (pc := 27) C (rest := []) (a := v0) o_v0 [.ref (eK (xE X) 18), .int (1 : Int32), .int (8 : Int32)] yV_X4_wordAndWhole g_524 (c_X4_wordAndWhole h) dX4_kindOf_27 rfl rfl (Nat.le_of_ble_eq_true rfl) ⟨by decide, by decide⟩ ⟨by decide, by decide⟩ ⟨rfl, rfl⟩ (fun x27 S25 h g26 => ?_)
    have bx27 := h.1
    have h := h.2 g26 bx27
    have o_v0 := gr_ob g26 o_v0
    have o_v1 := gr_ob g26 o_v1
    refine r_istore_n (pc := 30) C dX4_kindOf_30 rfl (by decide) (lv' := [(2, .int x27), (0, .ref v0), (1, .ref v1)]) rfl ?_
    refine r_goto (pc := 31) C (tgt := 106) dX4_kindOf_31 (by decide) ?_
    refine r_aload_n (pc := 106) C dX4_kindOf_106 2 rfl ?_
    refine r_aload_n (pc := 107) C dX4_kindOf_107 1 rfl ?_
    refine r_geti (pc := 108) C fL_X4_147 dX4_kindOf_108 o_v0 ?_
    refine r_topi (fun x28 ex28 => ?_)
    have h := h x28 ex28
    refine r_puti (pc := 111) C pfL_X4_273 dX4_kindOf_111 o_v1 ?_
    refine r_iload_n (pc := 114) C dX4_kindOf_114 0 rfl ?_
    exact r_zret (pc := 115) C E ht dX4_kindOf_115 (by decide) (by decide) h.1 h.2
def P_X4_kindOf (v0 : Nat) (v1 : Nat) (Q : Int32 → HS → Prop) (S : HS) : Prop := P_X4_kindOf_0 Q v0 v1 S
theorem c_X4_kindOf {l : Launch} {Ee : EE} {S : HS} {v0 : Nat} {v1 : Nat} {Q : Int32 → HS → Prop} (h : P_X4_kindOf v0 v1 Q S) : MI l yX4_kindOf cX4_kindOf 3 (some .boolean) rm_X4_kindOf Ee S [.ref v0, .ref v1] (fun r S => bl r ∧ Q r S) :=
  openI (by decide) (Nat.le_of_ble_eq_true rfl) (fun X C E ht hn hE hl => by subst hE; exact r_sub [0, 1] rfl (T_X4_kindOf_0 C E ht hn h))
def rm_X4_newName : Room := { frames := 7, cells := 0, slots := 0, locals := 165 }
def P_X4_newName_69 (Q : Int32 → HS → Prop) (v0 : Nat) (S : HS) : Prop := ob S v0 4 ∧ (P_X4_next v0 (fun S1 => Gr S S1 → (Q (1 : Int32) S1)) S)
set_option maxRecDepth 20000 in
set_option maxHeartbeats 4000000 in
theorem T_X4_newName_69 {X : CX} {Q : Int32 → HS → Prop} (C : Cx X cX4_newName RX4 2 rm_X4_newName) (E : ReI X rm_X4_newName (fun r S => bl r ∧ Q r S)) (ht : (xh X).sig.returnType = (some .boolean)) (hn : (xh X).name = yX4_newName.name) {v0 : Nat} {S : HS} (h : P_X4_newName_69 Q v0 S) : WS X 2 0 0 69 [(0, .ref v0)] [] S := by
  refine r_aload_n (pc := 69) C dX4_newName_69 0 rfl ?_
  obtain ⟨o_v0, h⟩ := h
  refine r_callVv0 (pc := 70) C (rest := []) (a := v0) o_v0 [] yV_X4_next g_449 (c_X4_next h) dX4_newName_70 rfl rfl (Nat.le_of_ble_eq_true rfl) ⟨by decide, by decide⟩ ⟨by decide, by decide⟩ ⟨rfl, rfl⟩ (fun S1 h g2 => ?_)
  have h := h g2
  have o_v0 := gr_ob g2 o_v0
  refine r_iconst (pc := 73) C (v := (1 : Int32)) dX4_newName_73 (by decide) ?_
  exact r_zret (pc := 74) C E ht dX4_newName_74 (by decide) (by decide) (Or.inr rfl) h
def P_X4_newName_0 (Q : Int32 → HS → Prop) (v0 : Nat) (v1 : Int32) (S : HS) : Prop := ob S v0 4 ∧ (P_X4_canBeName v0 (fun x3 S1 => Gr S S1 → bl x3 → (((¬ x3 = 0) → (P_X4_findName v0 (fun x7 S5 => Gr S1 S5 → (((x7 = (-1 : Int32)) → (∀ x9 : Int32, x9 = fI S5 v0 10 → ((((12 : Int32) ≤ x9) → (P_X4_newName_69 Q v0 S5)) ∧ ((¬ (12 : Int32) ≤ x9) → (∃ a11 : Nat, fR S5 v0 11 = some a11 ∧ (∀ x12 : Int32, x12 = fI S5 v0 10 → (∀ x13 : Int64, x13 = fJ S5 v0 8 → (ob S5 a11 14 ∧ (vp_in x12 (hN S5 a11) ∧ (∃ a15 : Nat, fR (sJ S5 a11 x12.toNatClampNeg x13) v0 12 = some a15 ∧ (∀ x16 : Int32, x16 = fI (sJ S5 a11 x12.toNatClampNeg x13) v0 10 → (ob (sJ S5 a11 x12.toNatClampNeg x13) a15 13 ∧ (vp_in x16 (hN (sJ S5 a11 x12.toNatClampNeg x13) a15) ∧ (∀ x18 : Int32, x18 = fI (sI (sJ S5 a11 x12.toNatClampNeg x13) a15 x16.toNatClampNeg v1) v0 10 → (∀ x19 : Int32, x19 = x18 + (1 : Int32) → (P_X4_newName_69 Q v0 (sI (sI (sJ S5 a11 x12.toNatClampNeg x13) a15 x16.toNatClampNeg v1) v0 10 x19))))))))))))))))) ∧ ((¬ x7 = (-1 : Int32)) → (P_X4_fail v0 (3 : Int32) (fun x22 S20 => Gr S5 S20 → bl x22 → (bl x22 ∧ Q x22 S20)) S5)))) S1)) ∧ ((x3 = 0) → (P_X4_fail v0 (1 : Int32) (fun x25 S23 => Gr S1 S23 → bl x25 → (bl x25 ∧ Q x25 S23)) S1)))) S)
set_option maxRecDepth 20000 in
set_option maxHeartbeats 4000000 in
theorem T_X4_newName_0 {X : CX} {Q : Int32 → HS → Prop} (C : Cx X cX4_newName RX4 2 rm_X4_newName) (E : ReI X rm_X4_newName (fun r S => bl r ∧ Q r S)) (ht : (xh X).sig.returnType = (some .boolean)) (hn : (xh X).name = yX4_newName.name) {v0 : Nat} {v1 : Int32} {S : HS} (h : P_X4_newName_0 Q v0 v1 S) : WS X 2 0 0 0 [(0, .ref v0), (1, .int v1)] [] S := by
  refine r_aload_n (pc := 0) C dX4_newName_0 0 rfl ?_
  obtain ⟨o_v0, h⟩ := h
  refine r_callVi0 (pc := 1) C (rest := []) (a := v0) o_v0 [] yV_X4_canBeName g_566 (c_X4_canBeName h) dX4_newName_1 rfl rfl (Nat.le_of_ble_eq_true rfl) ⟨by decide, by decide⟩ ⟨by decide, by decide⟩ ⟨rfl, rfl⟩ (fun x3 S1 h g2 => ?_)
  have bx3 := h.1
  have h := h.2 g2 bx3
  have o_v0 := gr_ob g2 o_v0
  refine r_if_ne (pc := 4) C (tgt := 13) dX4_newName_4 (by decide) (fun c4 => ?_) (fun c4 => ?_)
  · have h := h.1 c4
    refine r_aload_n (pc := 13) C dX4_newName_13 0 rfl ?_
    refine r_callVi0 (pc := 14) C (rest := []) (a := v0) o_v0 [] yV_X4_findName g_576 (c_X4_findName h) dX4_newName_14 rfl rfl (Nat.le_of_ble_eq_true rfl) ⟨by decide, by decide⟩ ⟨by decide, by decide⟩ ⟨rfl, rfl⟩ (fun x7 S5 h g6 => ?_)
    have h := h g6
    have o_v0 := gr_ob g6 o_v0
    refine r_iconst (pc := 17) C (v := (-1 : Int32)) dX4_newName_17 (by decide) ?_
    refine r_icmp_eq (pc := 18) C (tgt := 27) dX4_newName_18 (by decide) (fun c8 => ?_) (fun c8 => ?_)
    · have h := h.1 c8
      refine r_aload_n (pc := 27) C dX4_newName_27 0 rfl ?_
      refine r_geti (pc := 28) C fL_X4_116 dX4_newName_28 o_v0 ?_
      refine r_topi (fun x9 ex9 => ?_)
      have h := h x9 ex9
      refine r_bipush (pc := 31) C (v := (12 : Int32)) dX4_newName_31 (by decide) ?_
      refine r_icmp_ge (pc := 33) C (tgt := 69) dX4_newName_33 (by decide) (fun c10 => ?_) (fun c10 => ?_)
      · have h := h.1 c10
        exact r_sub [0] rfl (T_X4_newName_69 C E ht hn h)
      · have h := h.2 c10
        refine r_aload_n (pc := 36) C dX4_newName_36 0 rfl ?_
        obtain ⟨a11, ea11, h⟩ := h
        refine r_getr (pc := 37) C fL_X4_22 dX4_newName_37 o_v0 ea11 ?_
        refine r_aload_n (pc := 40) C dX4_newName_40 0 rfl ?_
        refine r_geti (pc := 41) C fL_X4_116 dX4_newName_41 o_v0 ?_
        refine r_topi (fun x12 ex12 => ?_)
        have h := h x12 ex12
        refine r_aload_n (pc := 44) C dX4_newName_44 0 rfl ?_
        refine r_getl (pc := 45) C fL_X4_132 dX4_newName_45 o_v0 ?_
        refine r_topl (fun x13 ex13 => ?_)
        have h := h x13 ex13
        obtain ⟨o_a11, h⟩ := h
        obtain ⟨i14, h⟩ := h
        refine r_last (pc := 48) C dX4_newName_48 o_a11 i14 ?_
        refine r_aload_n (pc := 49) C dX4_newName_49 0 rfl ?_
        obtain ⟨a15, ea15, h⟩ := h
        refine r_getr (pc := 50) C fL_X4_26 dX4_newName_50 o_v0 ea15 ?_
        refine r_aload_n (pc := 53) C dX4_newName_53 0 rfl ?_
        refine r_geti (pc := 54) C fL_X4_116 dX4_newName_54 o_v0 ?_
        refine r_topi (fun x16 ex16 => ?_)
        have h := h x16 ex16
        refine r_iload_n (pc := 57) C dX4_newName_57 1 rfl ?_
        obtain ⟨o_a15, h⟩ := h
        obtain ⟨i17, h⟩ := h
        refine r_iast (pc := 58) C dX4_newName_58 o_a15 i17 ?_
        refine r_aload_n (pc := 59) C dX4_newName_59 0 rfl ?_
        refine r_dup (pc := 60) C dX4_newName_60 rfl ?_
        refine r_geti (pc := 61) C fL_X4_116 dX4_newName_61 o_v0 ?_
        refine r_topi (fun x18 ex18 => ?_)
        have h := h x18 ex18
        refine r_iconst (pc := 64) C (v := (1 : Int32)) dX4_newName_64 (by decide) ?_
        refine r_iadd (pc := 65) C dX4_newName_65 ?_
        refine r_topi (fun x19 ex19 => ?_)
        have h := h x19 ex19
        refine r_puti (pc := 66) C pfL_X4_116 dX4_newName_66 o_v0 ?_
        exact r_sub [0] rfl (T_X4_newName_69 C E ht hn h)
    · have h := h.2 c8
      refine r_aload_n (pc := 21) C dX4_newName_21 0 rfl ?_
      refine r_iconst (pc := 22) C (v := (3 : Int32)) dX4_newName_22 (by decide) ?_
      refine r_callVi0 (pc := 23) C (rest := []) (a := v0) o_v0 [.int (3 : Int32)] yV_X4_fail g_519 (c_X4_fail h) dX4_newName_23 rfl rfl (Nat.le_of_ble_eq_true rfl) ⟨by decide, by decide⟩ ⟨by decide, by decide⟩ ⟨rfl, rfl⟩ (fun x22 S20 h g21 => ?_)
      have bx22 := h.1
      have h := h.2 g21 bx22
      have o_v0 := gr_ob g21 o_v0
      exact r_zret (pc := 26) C E ht dX4_newName_26 (by decide) (by decide) h.1 h.2
  · have h := h.2 c4
    refine r_aload_n (pc := 7) C dX4_newName_7 0 rfl ?_
    refine r_iconst (pc := 8) C (v := (1 : Int32)) dX4_newName_8 (by decide) ?_
    refine r_callVi0 (pc := 9) C (rest := []) (a := v0) o_v0 [.int (1 : Int32)] yV_X4_fail g_519 (c_X4_fail h) dX4_newName_9 rfl rfl (Nat.le_of_ble_eq_true rfl) ⟨by decide, by decide⟩ ⟨by decide, by decide⟩ ⟨rfl, rfl⟩ (fun x25 S23 h g24 => ?_)
    have bx25 := h.1
    have h := h.2 g24 bx25
    have o_v0 := gr_ob g24 o_v0
    exact r_zret (pc := 12) C E ht dX4_newName_12 (by decide) (by decide) h.1 h.2
def P_X4_newName (v0 : Nat) (v1 : Int32) (Q : Int32 → HS → Prop) (S : HS) : Prop := P_X4_newName_0 Q v0 v1 S
theorem c_X4_newName {l : Launch} {Ee : EE} {S : HS} {v0 : Nat} {v1 : Int32} {Q : Int32 → HS → Prop} (h : P_X4_newName v0 v1 Q S) : MI l yX4_newName cX4_newName 2 (some .boolean) rm_X4_newName Ee S [.ref v0, .int v1] (fun r S => bl r ∧ Q r S) :=
  openI (by decide) (Nat.le_of_ble_eq_true rfl) (fun X C E ht hn hE hl => by subst hE; exact r_sub [0, 1] rfl (T_X4_newName_0 C E ht hn h))
def rm_X8_clear : Room := { frames := 0, cells := 0, slots := 0, locals := 0 }
def P_X8_clear_0 (Q : HS → Prop) (v0 : Nat) (S : HS) : Prop := ob S v0 8 ∧ (Q (sI (sI (sI (sI (sI (sI S v0 0 (0 : Int32)) v0 1 (0 : Int32)) v0 2 (0 : Int32)) v0 3 (0 : Int32)) v0 4 (0 : Int32)) v0 5 (0 : Int32)))
set_option maxRecDepth 20000 in
set_option maxHeartbeats 4000000 in
theorem T_X8_clear_0 {X : CX} {Q : HS → Prop} (C : Cx X cX8_clear RX8 1 rm_X8_clear) (E : ReV X rm_X8_clear Q) (ht : (xh X).sig.returnType = none) (hn : (xh X).name = yX8_clear.name) {v0 : Nat} {S : HS} (h : P_X8_clear_0 Q v0 S) : WS X 1 0 0 0 [(0, .ref v0)] [] S := by
  refine r_aload_n (pc := 0) C dX8_clear_0 0 rfl ?_
  refine r_iconst (pc := 1) C (v := (0 : Int32)) dX8_clear_1 (by decide) ?_
  obtain ⟨o_v0, h⟩ := h
  refine r_puti (pc := 2) C pfL_X8_42 dX8_clear_2 o_v0 ?_
  refine r_aload_n (pc := 5) C dX8_clear_5 0 rfl ?_
  refine r_iconst (pc := 6) C (v := (0 : Int32)) dX8_clear_6 (by decide) ?_
  refine r_puti (pc := 7) C pfL_X8_46 dX8_clear_7 o_v0 ?_
  refine r_aload_n (pc := 10) C dX8_clear_10 0 rfl ?_
  refine r_iconst (pc := 11) C (v := (0 : Int32)) dX8_clear_11 (by decide) ?_
  refine r_puti (pc := 12) C pfL_X8_49 dX8_clear_12 o_v0 ?_
  refine r_aload_n (pc := 15) C dX8_clear_15 0 rfl ?_
  refine r_iconst (pc := 16) C (v := (0 : Int32)) dX8_clear_16 (by decide) ?_
  refine r_puti (pc := 17) C pfL_X8_52 dX8_clear_17 o_v0 ?_
  refine r_aload_n (pc := 20) C dX8_clear_20 0 rfl ?_
  refine r_iconst (pc := 21) C (v := (0 : Int32)) dX8_clear_21 (by decide) ?_
  refine r_puti (pc := 22) C pfL_X8_55 dX8_clear_22 o_v0 ?_
  refine r_aload_n (pc := 25) C dX8_clear_25 0 rfl ?_
  refine r_iconst (pc := 26) C (v := (0 : Int32)) dX8_clear_26 (by decide) ?_
  refine r_puti (pc := 27) C pfL_X8_58 dX8_clear_27 o_v0 ?_
  exact r_vret (pc := 30) C E ht dX8_clear_30 (by decide) (by decide) h
def P_X8_clear (v0 : Nat) (Q : HS → Prop) (S : HS) : Prop := P_X8_clear_0 Q v0 S
theorem c_X8_clear {l : Launch} {Ee : EE} {S : HS} {v0 : Nat} {Q : HS → Prop} (h : P_X8_clear v0 Q S) : MV l yX8_clear cX8_clear 1 none rm_X8_clear Ee S [.ref v0] Q :=
  openV (by decide) (Nat.le_of_ble_eq_true rfl) (fun X C E ht hn hE hl => by subst hE; exact r_sub [0] rfl (T_X8_clear_0 C E ht hn h))
def rm_X4_open : Room := { frames := 2, cells := 0, slots := 0, locals := 46 }
def P_X4_open_0 (Q : HS → Prop) (v0 : Nat) (v1 : Nat) (v2 : Int32) (S : HS) : Prop := ob S v0 4 ∧ (ob (sR S v0 2 (some v1)) v1 12 ∧ (∀ x1 : Int32, x1 = (if nI (hN (sR S v0 2 (some v1)) v1) < v2 then nI (hN (sR S v0 2 (some v1)) v1) else v2) → (∃ a2 : Nat, fR (sI (sI (sI (sI (sI (sR S v0 2 (some v1)) v0 3 x1) v0 4 (0 : Int32)) v0 0 (0 : Int32)) v0 1 (0 : Int32)) v0 10 (0 : Int32)) v0 5 = some a2 ∧ (ob (sI (sI (sI (sI (sI (sR S v0 2 (some v1)) v0 3 x1) v0 4 (0 : Int32)) v0 0 (0 : Int32)) v0 1 (0 : Int32)) v0 10 (0 : Int32)) a2 8 ∧ (P_X8_clear a2 (fun S3 => Gr (sI (sI (sI (sI (sI (sR S v0 2 (some v1)) v0 3 x1) v0 4 (0 : Int32)) v0 0 (0 : Int32)) v0 1 (0 : Int32)) v0 10 (0 : Int32)) S3 → (P_X4_next v0 (fun S6 => Gr S3 S6 → (Q S6)) S3)) (sI (sI (sI (sI (sI (sR S v0 2 (some v1)) v0 3 x1) v0 4 (0 : Int32)) v0 0 (0 : Int32)) v0 1 (0 : Int32)) v0 10 (0 : Int32)))))))
set_option maxRecDepth 20000 in
set_option maxHeartbeats 4000000 in
theorem T_X4_open_0 {X : CX} {Q : HS → Prop} (C : Cx X cX4_open RX4 3 rm_X4_open) (E : ReV X rm_X4_open Q) (ht : (xh X).sig.returnType = none) (hn : (xh X).name = yX4_open.name) {v0 : Nat} {v1 : Nat} {v2 : Int32} {S : HS} (h : P_X4_open_0 Q v0 v1 v2 S) : WS X 3 0 0 0 [(0, .ref v0), (1, .ref v1), (2, .int v2)] [] S := by
  refine r_aload_n (pc := 0) C dX4_open_0 0 rfl ?_
  refine r_aload_n (pc := 1) C dX4_open_1 1 rfl ?_
  obtain ⟨o_v0, h⟩ := h
  refine r_putr (pc := 2) C pfL_X4_9 dX4_open_2 o_v0 ?_
  refine r_aload_n (pc := 5) C dX4_open_5 0 rfl ?_
  refine r_iload_n (pc := 6) C dX4_open_6 2 rfl ?_
  refine r_aload_n (pc := 7) C dX4_open_7 1 rfl ?_
  obtain ⟨o_v1, h⟩ := h
  refine r_alen12 (pc := 8) C dX4_open_8 o_v1 ?_
  refine r_min (pc := 9) C g_442 dX4_open_9 (by decide) (Nat.le_of_ble_eq_true rfl) (by decide) (by decide) ?_
  refine r_topi (fun x1 ex1 => ?_)
  have h := h x1 ex1
  refine r_puti (pc := 12) C pfL_X4_104 dX4_open_12 o_v0 ?_
  refine r_aload_n (pc := 15) C dX4_open_15 0 rfl ?_
  refine r_iconst (pc := 16) C (v := (0 : Int32)) dX4_open_16 (by decide) ?_
  refine r_puti (pc := 17) C pfL_X4_107 dX4_open_17 o_v0 ?_
  refine r_aload_n (pc := 20) C dX4_open_20 0 rfl ?_
  refine r_iconst (pc := 21) C (v := (0 : Int32)) dX4_open_21 (by decide) ?_
  refine r_puti (pc := 22) C pfL_X4_110 dX4_open_22 o_v0 ?_
  refine r_aload_n (pc := 25) C dX4_open_25 0 rfl ?_
  refine r_iconst (pc := 26) C (v := (0 : Int32)) dX4_open_26 (by decide) ?_
  refine r_puti (pc := 27) C pfL_X4_113 dX4_open_27 o_v0 ?_
  refine r_aload_n (pc := 30) C dX4_open_30 0 rfl ?_
  refine r_iconst (pc := 31) C (v := (0 : Int32)) dX4_open_31 (by decide) ?_
  refine r_puti (pc := 32) C pfL_X4_116 dX4_open_32 o_v0 ?_
  refine r_aload_n (pc := 35) C dX4_open_35 0 rfl ?_
  obtain ⟨a2, ea2, h⟩ := h
  refine r_getr (pc := 36) C fL_X4_18 dX4_open_36 o_v0 ea2 ?_
  obtain ⟨o_a2, h⟩ := h
  refine r_callVv0 (pc := 39) C (rest := []) (a := a2) o_a2 [] yV_X8_clear g_445 (c_X8_clear h) dX4_open_39 rfl rfl (Nat.le_of_ble_eq_true rfl) ⟨by decide, by decide⟩ ⟨by decide, by decide⟩ ⟨rfl, rfl⟩ (fun S3 h g4 => ?_)
  have h := h g4
  have o_a2 := gr_ob g4 o_a2
  have o_v0 := gr_ob g4 o_v0
  have o_v1 := gr_ob g4 o_v1
  refine r_aload_n (pc := 42) C dX4_open_42 0 rfl ?_
  refine r_callVv0 (pc := 43) C (rest := []) (a := v0) o_v0 [] yV_X4_next g_449 (c_X4_next h) dX4_open_43 rfl rfl (Nat.le_of_ble_eq_true rfl) ⟨by decide, by decide⟩ ⟨by decide, by decide⟩ ⟨rfl, rfl⟩ (fun S6 h g7 => ?_)
  have h := h g7
  have o_a2 := gr_ob g7 o_a2
  have o_v0 := gr_ob g7 o_v0
  have o_v1 := gr_ob g7 o_v1
  exact r_vret (pc := 46) C E ht dX4_open_46 (by decide) (by decide) h
def P_X4_open (v0 : Nat) (v1 : Nat) (v2 : Int32) (Q : HS → Prop) (S : HS) : Prop := P_X4_open_0 Q v0 v1 v2 S
theorem c_X4_open {l : Launch} {Ee : EE} {S : HS} {v0 : Nat} {v1 : Nat} {v2 : Int32} {Q : HS → Prop} (h : P_X4_open v0 v1 v2 Q S) : MV l yX4_open cX4_open 3 none rm_X4_open Ee S [.ref v0, .ref v1, .int v2] Q :=
  openV (by decide) (Nat.le_of_ble_eq_true rfl) (fun X C E ht hn hE hl => by subst hE; exact r_sub [0, 1, 2] rfl (T_X4_open_0 C E ht hn h))
def rm_X4_placeBut : Room := { frames := 7, cells := 0, slots := 0, locals := 165 }
def P_X4_placeBut_29 (Q : Int32 → HS → Prop) (v0 : Nat) (S : HS) : Prop := ob S v0 4 ∧ (P_X4_fail v0 (2 : Int32) (fun x3 S1 => Gr S S1 → bl x3 → (bl x3 ∧ Q x3 S1)) S)
set_option maxRecDepth 20000 in
set_option maxHeartbeats 4000000 in
theorem T_X4_placeBut_29 {X : CX} {Q : Int32 → HS → Prop} (C : Cx X cX4_placeBut RX4 3 rm_X4_placeBut) (E : ReI X rm_X4_placeBut (fun r S => bl r ∧ Q r S)) (ht : (xh X).sig.returnType = (some .boolean)) (hn : (xh X).name = yX4_placeBut.name) {v0 : Nat} {S : HS} (h : P_X4_placeBut_29 Q v0 S) : WS X 3 0 0 29 [(0, .ref v0)] [] S := by
  refine r_aload_n (pc := 29) C dX4_placeBut_29 0 rfl ?_
  refine r_iconst (pc := 30) C (v := (2 : Int32)) dX4_placeBut_30 (by decide) ?_
  obtain ⟨o_v0, h⟩ := h
  refine r_callVi0 (pc := 31) C (rest := []) (a := v0) o_v0 [.int (2 : Int32)] yV_X4_fail g_519 (c_X4_fail h) dX4_placeBut_31 rfl rfl (Nat.le_of_ble_eq_true rfl) ⟨by decide, by decide⟩ ⟨by decide, by decide⟩ ⟨rfl, rfl⟩ (fun x3 S1 h g2 => ?_)
  have bx3 := h.1
  have h := h.2 g2 bx3
  have o_v0 := gr_ob g2 o_v0
  exact r_zret (pc := 34) C E ht dX4_placeBut_34 (by decide) (by decide) h.1 h.2
def P_X4_placeBut_0 (Q : Int32 → HS → Prop) (v0 : Nat) (v1 : Int32) (S : HS) : Prop := ob S v0 4 ∧ (P_X4_canBeName v0 (fun x3 S1 => Gr S S1 → bl x3 → (((¬ x3 = 0) → (P_X4_findName v0 (fun x7 S5 => Gr S1 S5 → (((x7 = (-1 : Int32)) → (P_X4_placeBut_29 Q v0 S5)) ∧ ((¬ x7 = (-1 : Int32)) → (((x7 < (8 : Int32)) → (((¬ x7 = v1) → (P_X4_next v0 (fun S11 => Gr (sI S5 v0 9 x7) S11 → (Q (1 : Int32) S11)) (sI S5 v0 9 x7))) ∧ ((x7 = v1) → (P_X4_fail v0 (3 : Int32) (fun x16 S14 => Gr S5 S14 → bl x16 → (bl x16 ∧ Q x16 S14)) S5)))) ∧ ((¬ x7 < (8 : Int32)) → (P_X4_placeBut_29 Q v0 S5)))))) S1)) ∧ ((x3 = 0) → (P_X4_fail v0 (1 : Int32) (fun x19 S17 => Gr S1 S17 → bl x19 → (bl x19 ∧ Q x19 S17)) S1)))) S)
set_option maxRecDepth 20000 in
set_option maxHeartbeats 4000000 in
theorem T_X4_placeBut_0 {X : CX} {Q : Int32 → HS → Prop} (C : Cx X cX4_placeBut RX4 3 rm_X4_placeBut) (E : ReI X rm_X4_placeBut (fun r S => bl r ∧ Q r S)) (ht : (xh X).sig.returnType = (some .boolean)) (hn : (xh X).name = yX4_placeBut.name) {v0 : Nat} {v1 : Int32} {S : HS} (h : P_X4_placeBut_0 Q v0 v1 S) : WS X 3 0 0 0 [(0, .ref v0), (1, .int v1)] [] S := by
  refine r_aload_n (pc := 0) C dX4_placeBut_0 0 rfl ?_
  obtain ⟨o_v0, h⟩ := h
  refine r_callVi0 (pc := 1) C (rest := []) (a := v0) o_v0 [] yV_X4_canBeName g_566 (c_X4_canBeName h) dX4_placeBut_1 rfl rfl (Nat.le_of_ble_eq_true rfl) ⟨by decide, by decide⟩ ⟨by decide, by decide⟩ ⟨rfl, rfl⟩ (fun x3 S1 h g2 => ?_)
  have bx3 := h.1
  have h := h.2 g2 bx3
  have o_v0 := gr_ob g2 o_v0
  refine r_if_ne (pc := 4) C (tgt := 13) dX4_placeBut_4 (by decide) (fun c4 => ?_) (fun c4 => ?_)
  · have h := h.1 c4
    refine r_aload_n (pc := 13) C dX4_placeBut_13 0 rfl ?_
    refine r_callVi0 (pc := 14) C (rest := []) (a := v0) o_v0 [] yV_X4_findName g_576 (c_X4_findName h) dX4_placeBut_14 rfl rfl (Nat.le_of_ble_eq_true rfl) ⟨by decide, by decide⟩ ⟨by decide, by decide⟩ ⟨rfl, rfl⟩ (fun x7 S5 h g6 => ?_)
    have h := h g6
    have o_v0 := gr_ob g6 o_v0
    refine r_istore_n (pc := 17) C dX4_placeBut_17 rfl (by decide) (lv' := [(2, .int x7), (0, .ref v0), (1, .int v1)]) rfl ?_
    refine r_iload_n (pc := 18) C dX4_placeBut_18 0 rfl ?_
    refine r_iconst (pc := 19) C (v := (-1 : Int32)) dX4_placeBut_19 (by decide) ?_
    refine r_icmp_eq (pc := 20) C (tgt := 29) dX4_placeBut_20 (by decide) (fun c8 => ?_) (fun c8 => ?_)
    · have h := h.1 c8
      exact r_sub [1] rfl (T_X4_placeBut_29 C E ht hn h)
    · have h := h.2 c8
      refine r_iload_n (pc := 23) C dX4_placeBut_23 0 rfl ?_
      refine r_bipush (pc := 24) C (v := (8 : Int32)) dX4_placeBut_24 (by decide) ?_
      refine r_icmp_lt (pc := 26) C (tgt := 35) dX4_placeBut_26 (by decide) (fun c9 => ?_) (fun c9 => ?_)
      · have h := h.1 c9
        refine r_iload_n (pc := 35) C dX4_placeBut_35 0 rfl ?_
        refine r_iload_n (pc := 36) C dX4_placeBut_36 2 rfl ?_
        refine r_icmp_ne (pc := 37) C (tgt := 46) dX4_placeBut_37 (by decide) (fun c10 => ?_) (fun c10 => ?_)
        · have h := h.1 c10
          refine r_aload_n (pc := 46) C dX4_placeBut_46 1 rfl ?_
          refine r_iload_n (pc := 47) C dX4_placeBut_47 0 rfl ?_
          refine r_puti (pc := 48) C pfL_X4_147 dX4_placeBut_48 o_v0 ?_
          refine r_aload_n (pc := 51) C dX4_placeBut_51 1 rfl ?_
          refine r_callVv0 (pc := 52) C (rest := []) (a := v0) o_v0 [] yV_X4_next g_449 (c_X4_next h) dX4_placeBut_52 rfl rfl (Nat.le_of_ble_eq_true rfl) ⟨by decide, by decide⟩ ⟨by decide, by decide⟩ ⟨rfl, rfl⟩ (fun S11 h g12 => ?_)
          have h := h g12
          have o_v0 := gr_ob g12 o_v0
          refine r_iconst (pc := 55) C (v := (1 : Int32)) dX4_placeBut_55 (by decide) ?_
          exact r_zret (pc := 56) C E ht dX4_placeBut_56 (by decide) (by decide) (Or.inr rfl) h
        · have h := h.2 c10
          refine r_aload_n (pc := 40) C dX4_placeBut_40 1 rfl ?_
          refine r_iconst (pc := 41) C (v := (3 : Int32)) dX4_placeBut_41 (by decide) ?_
          refine r_callVi0 (pc := 42) C (rest := []) (a := v0) o_v0 [.int (3 : Int32)] yV_X4_fail g_519 (c_X4_fail h) dX4_placeBut_42 rfl rfl (Nat.le_of_ble_eq_true rfl) ⟨by decide, by decide⟩ ⟨by decide, by decide⟩ ⟨rfl, rfl⟩ (fun x16 S14 h g15 => ?_)
          have bx16 := h.1
          have h := h.2 g15 bx16
          have o_v0 := gr_ob g15 o_v0
          exact r_zret (pc := 45) C E ht dX4_placeBut_45 (by decide) (by decide) h.1 h.2
      · have h := h.2 c9
        exact r_sub [1] rfl (T_X4_placeBut_29 C E ht hn h)
  · have h := h.2 c4
    refine r_aload_n (pc := 7) C dX4_placeBut_7 0 rfl ?_
    refine r_iconst (pc := 8) C (v := (1 : Int32)) dX4_placeBut_8 (by decide) ?_
    refine r_callVi0 (pc := 9) C (rest := []) (a := v0) o_v0 [.int (1 : Int32)] yV_X4_fail g_519 (c_X4_fail h) dX4_placeBut_9 rfl rfl (Nat.le_of_ble_eq_true rfl) ⟨by decide, by decide⟩ ⟨by decide, by decide⟩ ⟨rfl, rfl⟩ (fun x19 S17 h g18 => ?_)
    have bx19 := h.1
    have h := h.2 g18 bx19
    have o_v0 := gr_ob g18 o_v0
    exact r_zret (pc := 12) C E ht dX4_placeBut_12 (by decide) (by decide) h.1 h.2
def P_X4_placeBut (v0 : Nat) (v1 : Int32) (Q : Int32 → HS → Prop) (S : HS) : Prop := P_X4_placeBut_0 Q v0 v1 S
theorem c_X4_placeBut {l : Launch} {Ee : EE} {S : HS} {v0 : Nat} {v1 : Int32} {Q : Int32 → HS → Prop} (h : P_X4_placeBut v0 v1 Q S) : MI l yX4_placeBut cX4_placeBut 3 (some .boolean) rm_X4_placeBut Ee S [.ref v0, .int v1] (fun r S => bl r ∧ Q r S) :=
  openI (by decide) (Nat.le_of_ble_eq_true rfl) (fun X C E ht hn hE hl => by subst hE; exact r_sub [0, 1] rfl (T_X4_placeBut_0 C E ht hn h))
def rm_X4_placeLine : Room := { frames := 8, cells := 0, slots := 0, locals := 188 }
def P_X4_placeLine_64 (Q : Int32 → HS → Prop) (v0 : Nat) (v1 : Int32) (S : HS) : Prop := ob S v0 4 ∧ (∃ a1 : Nat, fR S v0 5 = some a1 ∧ (ob S a1 8 ∧ (∃ a2 : Nat, fR S a1 7 = some a2 ∧ (∃ a3 : Nat, fR S v0 5 = some a3 ∧ (ob S a3 8 ∧ (∀ x4 : Int32, x4 = fI S a3 2 → (ob S a2 13 ∧ (vp_in x4 (hN S a2) ∧ (∃ a6 : Nat, fR (sI S a2 x4.toNatClampNeg v1) v0 5 = some a6 ∧ (ob (sI S a2 x4.toNatClampNeg v1) a6 8 ∧ (∀ x7 : Int32, x7 = fI (sI S a2 x4.toNatClampNeg v1) a6 2 → (∀ x8 : Int32, x8 = x7 + (1 : Int32) → (Q (1 : Int32) (sI (sI S a2 x4.toNatClampNeg v1) a6 2 x8))))))))))))))
set_option maxRecDepth 20000 in
set_option maxHeartbeats 4000000 in
theorem T_X4_placeLine_64 {X : CX} {Q : Int32 → HS → Prop} (C : Cx X cX4_placeLine RX4 2 rm_X4_placeLine) (E : ReI X rm_X4_placeLine (fun r S => bl r ∧ Q r S)) (ht : (xh X).sig.returnType = (some .boolean)) (hn : (xh X).name = yX4_placeLine.name) {v0 : Nat} {v1 : Int32} {S : HS} (h : P_X4_placeLine_64 Q v0 v1 S) : WS X 2 0 0 64 [(0, .ref v0), (1, .int v1)] [] S := by
  refine r_aload_n (pc := 64) C dX4_placeLine_64 0 rfl ?_
  obtain ⟨o_v0, h⟩ := h
  obtain ⟨a1, ea1, h⟩ := h
  refine r_getr (pc := 65) C fL_X4_18 dX4_placeLine_65 o_v0 ea1 ?_
  obtain ⟨o_a1, h⟩ := h
  obtain ⟨a2, ea2, h⟩ := h
  refine r_getr (pc := 68) C fL_X4_218 dX4_placeLine_68 o_a1 ea2 ?_
  refine r_aload_n (pc := 71) C dX4_placeLine_71 0 rfl ?_
  obtain ⟨a3, ea3, h⟩ := h
  refine r_getr (pc := 72) C fL_X4_18 dX4_placeLine_72 o_v0 ea3 ?_
  obtain ⟨o_a3, h⟩ := h
  refine r_geti (pc := 75) C fL_X4_58 dX4_placeLine_75 o_a3 ?_
  refine r_topi (fun x4 ex4 => ?_)
  have h := h x4 ex4
  refine r_iload_n (pc := 78) C dX4_placeLine_78 1 rfl ?_
  obtain ⟨o_a2, h⟩ := h
  obtain ⟨i5, h⟩ := h
  refine r_iast (pc := 79) C dX4_placeLine_79 o_a2 i5 ?_
  refine r_aload_n (pc := 80) C dX4_placeLine_80 0 rfl ?_
  obtain ⟨a6, ea6, h⟩ := h
  refine r_getr (pc := 81) C fL_X4_18 dX4_placeLine_81 o_v0 ea6 ?_
  refine r_dup (pc := 84) C dX4_placeLine_84 rfl ?_
  obtain ⟨o_a6, h⟩ := h
  refine r_geti (pc := 85) C fL_X4_58 dX4_placeLine_85 o_a6 ?_
  refine r_topi (fun x7 ex7 => ?_)
  have h := h x7 ex7
  refine r_iconst (pc := 88) C (v := (1 : Int32)) dX4_placeLine_88 (by decide) ?_
  refine r_iadd (pc := 89) C dX4_placeLine_89 ?_
  refine r_topi (fun x8 ex8 => ?_)
  have h := h x8 ex8
  refine r_puti (pc := 90) C pfL_X4_58 dX4_placeLine_90 o_a6 ?_
  refine r_iconst (pc := 93) C (v := (1 : Int32)) dX4_placeLine_93 (by decide) ?_
  exact r_zret (pc := 94) C E ht dX4_placeLine_94 (by decide) (by decide) (Or.inr rfl) h
def P_X4_placeLine_0 (Q : Int32 → HS → Prop) (v0 : Nat) (S : HS) : Prop := ob S v0 4 ∧ (∃ a1 : Nat, fR S v0 5 = some a1 ∧ (ob S a1 8 ∧ (∀ x2 : Int32, x2 = fI S a1 2 → (P_X4_newName v0 x2 (fun x5 S3 => Gr S S3 → bl x5 → (((¬ x5 = 0) → (P_X4_is v0 15 (fun x9 S7 => Gr S3 S7 → bl x9 → (((x9 = 0) → (P_X4_is v0 16 (fun x13 S11 => Gr S7 S11 → bl x13 → (((x13 = 0) → (P_X4_placeLine_64 Q v0 (-1 : Int32) S11)) ∧ ((¬ x13 = 0) → (P_X4_wordAndWhole v0 16 (0 : Int32) (9 : Int32) (fun x17 S15 => Gr S11 S15 → bl x17 → (((¬ x17 = 0) → (∀ x19 : Int32, x19 = fI S15 v0 9 → (P_X4_placeLine_64 Q v0 x19 S15))) ∧ ((x17 = 0) → (Q (0 : Int32) S15)))) S11)))) S7)) ∧ ((¬ x9 = 0) → (P_X4_next v0 (fun S20 => Gr S7 S20 → (P_X4_placeLine_64 Q v0 (0 : Int32) S20)) S7)))) S3)) ∧ ((x5 = 0) → (Q (0 : Int32) S3)))) S))))
set_option maxRecDepth 20000 in
set_option maxHeartbeats 4000000 in
theorem T_X4_placeLine_0 {X : CX} {Q : Int32 → HS → Prop} (C : Cx X cX4_placeLine RX4 2 rm_X4_placeLine) (E : ReI X rm_X4_placeLine (fun r S => bl r ∧ Q r S)) (ht : (xh X).sig.returnType = (some .boolean)) (hn : (xh X).name = yX4_placeLine.name) {v0 : Nat} {S : HS} (h : P_X4_placeLine_0 Q v0 S) : WS X 2 0 0 0 [(0, .ref v0)] [] S := by
  refine r_aload_n (pc := 0) C dX4_placeLine_0 0 rfl ?_
  refine r_aload_n (pc := 1) C dX4_placeLine_1 0 rfl ?_
  obtain ⟨o_v0, h⟩ := h
  obtain ⟨a1, ea1, h⟩ := h
  refine r_getr (pc := 2) C fL_X4_18 dX4_placeLine_2 o_v0 ea1 ?_
  obtain ⟨o_a1, h⟩ := h
  refine r_geti (pc := 5) C fL_X4_58 dX4_placeLine_5 o_a1 ?_
  refine r_topi (fun x2 ex2 => ?_)
  have h := h x2 ex2
  refine r_callVi0 (pc := 8) C (rest := []) (a := v0) o_v0 [.int x2] yV_X4_newName g_562 (c_X4_newName h) dX4_placeLine_8 rfl rfl (Nat.le_of_ble_eq_true rfl) ⟨by decide, by decide⟩ ⟨by decide, by decide⟩ ⟨rfl, rfl⟩ (fun x5 S3 h g4 => ?_)
  have bx5 := h.1
  have h := h.2 g4 bx5
  have o_a1 := gr_ob g4 o_a1
  have o_v0 := gr_ob g4 o_v0
  refine r_if_ne (pc := 11) C (tgt := 16) dX4_placeLine_11 (by decide) (fun c6 => ?_) (fun c6 => ?_)
  · have h := h.1 c6
    refine r_iconst (pc := 16) C (v := (-1 : Int32)) dX4_placeLine_16 (by decide) ?_
    refine r_istore_n (pc := 17) C dX4_placeLine_17 rfl (by decide) (lv' := [(1, .int (-1 : Int32)), (0, .ref v0)]) rfl ?_
    refine r_aload_n (pc := 18) C dX4_placeLine_18 1 rfl ?_
    refine r_lds (pc := 19) C 15 rfl dX4_placeLine_19 ?_
    refine r_callVi0 (pc := 21) C (rest := []) (a := v0) o_v0 [.ref (eK (xE X) 15)] yV_X4_is g_458 (c_X4_is h) dX4_placeLine_21 rfl rfl (Nat.le_of_ble_eq_true rfl) ⟨by decide, by decide⟩ ⟨by decide, by decide⟩ ⟨rfl, rfl⟩ (fun x9 S7 h g8 => ?_)
    have bx9 := h.1
    have h := h.2 g8 bx9
    have o_a1 := gr_ob g8 o_a1
    have o_v0 := gr_ob g8 o_v0
    refine r_if_eq (pc := 24) C (tgt := 36) dX4_placeLine_24 (by decide) (fun c10 => ?_) (fun c10 => ?_)
    · have h := h.1 c10
      refine r_aload_n (pc := 36) C dX4_placeLine_36 1 rfl ?_
      refine r_lds (pc := 37) C 16 rfl dX4_placeLine_37 ?_
      refine r_callVi0 (pc := 39) C (rest := []) (a := v0) o_v0 [.ref (eK (xE X) 16)] yV_X4_is g_458 (c_X4_is h) dX4_placeLine_39 rfl rfl (Nat.le_of_ble_eq_true rfl) ⟨by decide, by decide⟩ ⟨by decide, by decide⟩ ⟨rfl, rfl⟩ (fun x13 S11 h g12 => ?_)
      have bx13 := h.1
      have h := h.2 g12 bx13
      have o_a1 := gr_ob g12 o_a1
      have o_v0 := gr_ob g12 o_v0
      refine r_if_eq (pc := 42) C (tgt := 64) dX4_placeLine_42 (by decide) (fun c14 => ?_) (fun c14 => ?_)
      · have h := h.1 c14
        exact r_sub [1, 0] rfl (T_X4_placeLine_64 C E ht hn h)
      · have h := h.2 c14
        refine r_aload_n (pc := 45) C dX4_placeLine_45 1 rfl ?_
        refine r_lds (pc := 46) C 16 rfl dX4_placeLine_46 ?_
        refine r_iconst (pc := 48) C (v := (0 : Int32)) dX4_placeLine_48 (by decide) ?_
        refine r_bipush (pc := 49) C (v := (9 : Int32)) dX4_placeLine_49 (by decide) ?_
        refine r_callVi0 (pc := 51) C (rest := []) (a := v0) o_v0 [.ref (eK (xE X) 16), .int (0 : Int32), .int (9 : Int32)] yV_X4_wordAndWhole g_524 (c_X4_wordAndWhole h) dX4_placeLine_51 rfl rfl (Nat.le_of_ble_eq_true rfl) ⟨by decide, by decide⟩ ⟨by decide, by decide⟩ ⟨rfl, rfl⟩ (fun x17 S15 h g16 => ?_)
        have bx17 := h.1
        have h := h.2 g16 bx17
        have o_a1 := gr_ob g16 o_a1
        have o_v0 := gr_ob g16 o_v0
        refine r_if_ne (pc := 54) C (tgt := 59) dX4_placeLine_54 (by decide) (fun c18 => ?_) (fun c18 => ?_)
        · have h := h.1 c18
          refine r_aload_n (pc := 59) C dX4_placeLine_59 1 rfl ?_
          refine r_geti (pc := 60) C fL_X4_147 dX4_placeLine_60 o_v0 ?_
          refine r_topi (fun x19 ex19 => ?_)
          have h := h x19 ex19
          refine r_istore_n (pc := 63) C dX4_placeLine_63 rfl (by decide) (lv' := [(1, .int x19), (0, .ref v0)]) rfl ?_
          exact r_sub [1, 0] rfl (T_X4_placeLine_64 C E ht hn h)
        · have h := h.2 c18
          refine r_iconst (pc := 57) C (v := (0 : Int32)) dX4_placeLine_57 (by decide) ?_
          exact r_zret (pc := 58) C E ht dX4_placeLine_58 (by decide) (by decide) (Or.inl rfl) h
    · have h := h.2 c10
      refine r_iconst (pc := 27) C (v := (0 : Int32)) dX4_placeLine_27 (by decide) ?_
      refine r_istore_n (pc := 28) C dX4_placeLine_28 rfl (by decide) (lv' := [(1, .int (0 : Int32)), (0, .ref v0)]) rfl ?_
      refine r_aload_n (pc := 29) C dX4_placeLine_29 1 rfl ?_
      refine r_callVv0 (pc := 30) C (rest := []) (a := v0) o_v0 [] yV_X4_next g_449 (c_X4_next h) dX4_placeLine_30 rfl rfl (Nat.le_of_ble_eq_true rfl) ⟨by decide, by decide⟩ ⟨by decide, by decide⟩ ⟨rfl, rfl⟩ (fun S20 h g21 => ?_)
      have h := h g21
      have o_a1 := gr_ob g21 o_a1
      have o_v0 := gr_ob g21 o_v0
      refine r_goto (pc := 33) C (tgt := 64) dX4_placeLine_33 (by decide) ?_
      exact r_sub [1, 0] rfl (T_X4_placeLine_64 C E ht hn h)
  · have h := h.2 c6
    refine r_iconst (pc := 14) C (v := (0 : Int32)) dX4_placeLine_14 (by decide) ?_
    exact r_zret (pc := 15) C E ht dX4_placeLine_15 (by decide) (by decide) (Or.inl rfl) h
def P_X4_placeLine (v0 : Nat) (Q : Int32 → HS → Prop) (S : HS) : Prop := P_X4_placeLine_0 Q v0 S
theorem c_X4_placeLine {l : Launch} {Ee : EE} {S : HS} {v0 : Nat} {Q : Int32 → HS → Prop} (h : P_X4_placeLine v0 Q S) : MI l yX4_placeLine cX4_placeLine 2 (some .boolean) rm_X4_placeLine Ee S [.ref v0] (fun r S => bl r ∧ Q r S) :=
  openI (by decide) (Nat.le_of_ble_eq_true rfl) (fun X C E ht hn hE hl => by subst hE; exact r_sub [0] rfl (T_X4_placeLine_0 C E ht hn h))
def rm_X4_side : Room := { frames := 6, cells := 0, slots := 0, locals := 144 }
def P_X4_side_74 (Q : Int32 → HS → Prop) (v0 : Nat) (S : HS) : Prop := ob S v0 4 ∧ (P_X4_next v0 (fun S1 => Gr S S1 → (Q (1 : Int32) S1)) S)
set_option maxRecDepth 20000 in
set_option maxHeartbeats 4000000 in
theorem T_X4_side_74 {X : CX} {Q : Int32 → HS → Prop} (C : Cx X cX4_side RX4 1 rm_X4_side) (E : ReI X rm_X4_side (fun r S => bl r ∧ Q r S)) (ht : (xh X).sig.returnType = (some .boolean)) (hn : (xh X).name = yX4_side.name) {v0 : Nat} {S : HS} (h : P_X4_side_74 Q v0 S) : WS X 1 0 0 74 [(0, .ref v0)] [] S := by
  refine r_aload_n (pc := 74) C dX4_side_74 0 rfl ?_
  obtain ⟨o_v0, h⟩ := h
  refine r_callVv0 (pc := 75) C (rest := []) (a := v0) o_v0 [] yV_X4_next g_449 (c_X4_next h) dX4_side_75 rfl rfl (Nat.le_of_ble_eq_true rfl) ⟨by decide, by decide⟩ ⟨by decide, by decide⟩ ⟨rfl, rfl⟩ (fun S1 h g2 => ?_)
  have h := h g2
  have o_v0 := gr_ob g2 o_v0
  refine r_iconst (pc := 78) C (v := (1 : Int32)) dX4_side_78 (by decide) ?_
  exact r_zret (pc := 79) C E ht dX4_side_79 (by decide) (by decide) (Or.inr rfl) h
def P_X4_side_0 (Q : Int32 → HS → Prop) (v0 : Nat) (S : HS) : Prop := ob S v0 4 ∧ (P_X4_is v0 6 (fun x3 S1 => Gr S S1 → bl x3 → (((x3 = 0) → (P_X4_is v0 7 (fun x7 S5 => Gr S1 S5 → bl x7 → (((x7 = 0) → (P_X4_is v0 8 (fun x11 S9 => Gr S5 S9 → bl x11 → (((x11 = 0) → (P_X4_is v0 9 (fun x15 S13 => Gr S9 S13 → bl x15 → (((x15 = 0) → (P_X4_fail v0 (1 : Int32) (fun x19 S17 => Gr S13 S17 → bl x19 → (bl x19 ∧ Q x19 S17)) S13)) ∧ ((¬ x15 = 0) → (P_X4_side_74 Q v0 (sI S13 v0 9 (3 : Int32)))))) S9)) ∧ ((¬ x11 = 0) → (P_X4_side_74 Q v0 (sI S9 v0 9 (2 : Int32)))))) S5)) ∧ ((¬ x7 = 0) → (P_X4_side_74 Q v0 (sI S5 v0 9 (1 : Int32)))))) S1)) ∧ ((¬ x3 = 0) → (P_X4_side_74 Q v0 (sI S1 v0 9 (0 : Int32)))))) S)
set_option maxRecDepth 20000 in
set_option maxHeartbeats 4000000 in
theorem T_X4_side_0 {X : CX} {Q : Int32 → HS → Prop} (C : Cx X cX4_side RX4 1 rm_X4_side) (E : ReI X rm_X4_side (fun r S => bl r ∧ Q r S)) (ht : (xh X).sig.returnType = (some .boolean)) (hn : (xh X).name = yX4_side.name) {v0 : Nat} {S : HS} (h : P_X4_side_0 Q v0 S) : WS X 1 0 0 0 [(0, .ref v0)] [] S := by
  refine r_aload_n (pc := 0) C dX4_side_0 0 rfl ?_
  refine r_lds (pc := 1) C 6 rfl dX4_side_1 ?_
  obtain ⟨o_v0, h⟩ := h
  refine r_callVi0 (pc := 3) C (rest := []) (a := v0) o_v0 [.ref (eK (xE X) 6)] yV_X4_is g_458 (c_X4_is h) dX4_side_3 rfl rfl (Nat.le_of_ble_eq_true rfl) ⟨by decide, by decide⟩ ⟨by decide, by decide⟩ ⟨rfl, rfl⟩ (fun x3 S1 h g2 => ?_)
  have bx3 := h.1
  have h := h.2 g2 bx3
  have o_v0 := gr_ob g2 o_v0
  refine r_if_eq (pc := 6) C (tgt := 17) dX4_side_6 (by decide) (fun c4 => ?_) (fun c4 => ?_)
  · have h := h.1 c4
    refine r_aload_n (pc := 17) C dX4_side_17 0 rfl ?_
    refine r_lds (pc := 18) C 7 rfl dX4_side_18 ?_
    refine r_callVi0 (pc := 20) C (rest := []) (a := v0) o_v0 [.ref (eK (xE X) 7)] yV_X4_is g_458 (c_X4_is h) dX4_side_20 rfl rfl (Nat.le_of_ble_eq_true rfl) ⟨by decide, by decide⟩ ⟨by decide, by decide⟩ ⟨rfl, rfl⟩ (fun x7 S5 h g6 => ?_)
    have bx7 := h.1
    have h := h.2 g6 bx7
    have o_v0 := gr_ob g6 o_v0
    refine r_if_eq (pc := 23) C (tgt := 34) dX4_side_23 (by decide) (fun c8 => ?_) (fun c8 => ?_)
    · have h := h.1 c8
      refine r_aload_n (pc := 34) C dX4_side_34 0 rfl ?_
      refine r_lds (pc := 35) C 8 rfl dX4_side_35 ?_
      refine r_callVi0 (pc := 37) C (rest := []) (a := v0) o_v0 [.ref (eK (xE X) 8)] yV_X4_is g_458 (c_X4_is h) dX4_side_37 rfl rfl (Nat.le_of_ble_eq_true rfl) ⟨by decide, by decide⟩ ⟨by decide, by decide⟩ ⟨rfl, rfl⟩ (fun x11 S9 h g10 => ?_)
      have bx11 := h.1
      have h := h.2 g10 bx11
      have o_v0 := gr_ob g10 o_v0
      refine r_if_eq (pc := 40) C (tgt := 51) dX4_side_40 (by decide) (fun c12 => ?_) (fun c12 => ?_)
      · have h := h.1 c12
        refine r_aload_n (pc := 51) C dX4_side_51 0 rfl ?_
        refine r_lds (pc := 52) C 9 rfl dX4_side_52 ?_
        refine r_callVi0 (pc := 54) C (rest := []) (a := v0) o_v0 [.ref (eK (xE X) 9)] yV_X4_is g_458 (c_X4_is h) dX4_side_54 rfl rfl (Nat.le_of_ble_eq_true rfl) ⟨by decide, by decide⟩ ⟨by decide, by decide⟩ ⟨rfl, rfl⟩ (fun x15 S13 h g14 => ?_)
        have bx15 := h.1
        have h := h.2 g14 bx15
        have o_v0 := gr_ob g14 o_v0
        refine r_if_eq (pc := 57) C (tgt := 68) dX4_side_57 (by decide) (fun c16 => ?_) (fun c16 => ?_)
        · have h := h.1 c16
          refine r_aload_n (pc := 68) C dX4_side_68 0 rfl ?_
          refine r_iconst (pc := 69) C (v := (1 : Int32)) dX4_side_69 (by decide) ?_
          refine r_callVi0 (pc := 70) C (rest := []) (a := v0) o_v0 [.int (1 : Int32)] yV_X4_fail g_519 (c_X4_fail h) dX4_side_70 rfl rfl (Nat.le_of_ble_eq_true rfl) ⟨by decide, by decide⟩ ⟨by decide, by decide⟩ ⟨rfl, rfl⟩ (fun x19 S17 h g18 => ?_)
          have bx19 := h.1
          have h := h.2 g18 bx19
          have o_v0 := gr_ob g18 o_v0
          exact r_zret (pc := 73) C E ht dX4_side_73 (by decide) (by decide) h.1 h.2
        · have h := h.2 c16
          refine r_aload_n (pc := 60) C dX4_side_60 0 rfl ?_
          refine r_iconst (pc := 61) C (v := (3 : Int32)) dX4_side_61 (by decide) ?_
          refine r_puti (pc := 62) C pfL_X4_147 dX4_side_62 o_v0 ?_
          refine r_goto (pc := 65) C (tgt := 74) dX4_side_65 (by decide) ?_
          exact r_sub [0] rfl (T_X4_side_74 C E ht hn h)
      · have h := h.2 c12
        refine r_aload_n (pc := 43) C dX4_side_43 0 rfl ?_
        refine r_iconst (pc := 44) C (v := (2 : Int32)) dX4_side_44 (by decide) ?_
        refine r_puti (pc := 45) C pfL_X4_147 dX4_side_45 o_v0 ?_
        refine r_goto (pc := 48) C (tgt := 74) dX4_side_48 (by decide) ?_
        exact r_sub [0] rfl (T_X4_side_74 C E ht hn h)
    · have h := h.2 c8
      refine r_aload_n (pc := 26) C dX4_side_26 0 rfl ?_
      refine r_iconst (pc := 27) C (v := (1 : Int32)) dX4_side_27 (by decide) ?_
      refine r_puti (pc := 28) C pfL_X4_147 dX4_side_28 o_v0 ?_
      refine r_goto (pc := 31) C (tgt := 74) dX4_side_31 (by decide) ?_
      exact r_sub [0] rfl (T_X4_side_74 C E ht hn h)
  · have h := h.2 c4
    refine r_aload_n (pc := 9) C dX4_side_9 0 rfl ?_
    refine r_iconst (pc := 10) C (v := (0 : Int32)) dX4_side_10 (by decide) ?_
    refine r_puti (pc := 11) C pfL_X4_147 dX4_side_11 o_v0 ?_
    refine r_goto (pc := 14) C (tgt := 74) dX4_side_14 (by decide) ?_
    exact r_sub [0] rfl (T_X4_side_74 C E ht hn h)
def P_X4_side (v0 : Nat) (Q : Int32 → HS → Prop) (S : HS) : Prop := P_X4_side_0 Q v0 S
theorem c_X4_side {l : Launch} {Ee : EE} {S : HS} {v0 : Nat} {Q : Int32 → HS → Prop} (h : P_X4_side v0 Q S) : MI l yX4_side cX4_side 1 (some .boolean) rm_X4_side Ee S [.ref v0] (fun r S => bl r ∧ Q r S) :=
  openI (by decide) (Nat.le_of_ble_eq_true rfl) (fun X C E ht hn hE hl => by subst hE; exact r_sub [0] rfl (T_X4_side_0 C E ht hn h))
def rm_X4_rainLine : Room := { frames := 8, cells := 0, slots := 0, locals := 188 }
def P_X4_rainLine_0 (Q : Int32 → HS → Prop) (v0 : Nat) (S : HS) : Prop := ob S v0 4 ∧ (∃ a1 : Nat, fR S v0 5 = some a1 ∧ (ob S a1 8 ∧ (∃ a2 : Nat, fR S a1 6 = some a2 ∧ (∃ a3 : Nat, fR S v0 5 = some a3 ∧ (ob S a3 8 ∧ (∀ x4 : Int32, x4 = fI S a3 1 → (ob S a2 17 ∧ (vp_in x4 (hN S a2) ∧ ∃ a6 : Nat, fR S a2 x4.toNatClampNeg = some a6 ∧ (P_X4_wordAndWhole v0 3 (0 : Int32) (9 : Int32) (fun x9 S7 => Gr S S7 → bl x9 → (((¬ x9 = 0) → (∀ x11 : Int32, x11 = fI S7 v0 9 → (ob S7 a6 3 ∧ (P_X4_wordAndWhole v0 4 (1 : Int32) (9 : Int32) (fun x14 S12 => Gr (sI S7 a6 0 x11) S12 → bl x14 → (((¬ x14 = 0) → (∀ x16 : Int32, x16 = fI S12 v0 9 → (P_X4_word v0 5 (fun x19 S17 => Gr (sI S12 a6 1 x16) S17 → bl x19 → (((x19 = 0) → (Q (0 : Int32) S17)) ∧ ((¬ x19 = 0) → (P_X4_side v0 (fun x23 S21 => Gr S17 S21 → bl x23 → (((¬ x23 = 0) → (∀ x25 : Int32, x25 = fI S21 v0 9 → (P_X4_whole v0 (0 : Int32) (9 : Int32) (fun x28 S26 => Gr (sI S21 a6 2 x25) S26 → bl x28 → (((¬ x28 = 0) → (∀ x30 : Int32, x30 = fI S26 v0 9 → (P_X4_wordAndWhole v0 10 (0 : Int32) (100 : Int32) (fun x33 S31 => Gr (sI S26 a6 3 x30) S31 → bl x33 → (((¬ x33 = 0) → (∀ x35 : Int32, x35 = fI S31 v0 9 → (∃ a36 : Nat, fR (sI S31 a6 4 x35) v0 5 = some a36 ∧ (ob (sI S31 a6 4 x35) a36 8 ∧ (∀ x37 : Int32, x37 = fI (sI S31 a6 4 x35) a36 1 → (∀ x38 : Int32, x38 = x37 + (1 : Int32) → (Q (1 : Int32) (sI (sI S31 a6 4 x35) a36 1 x38)))))))) ∧ ((x33 = 0) → (Q (0 : Int32) S31)))) (sI S26 a6 3 x30)))) ∧ ((x28 = 0) → (Q (0 : Int32) S26)))) (sI S21 a6 2 x25)))) ∧ ((x23 = 0) → (Q (0 : Int32) S21)))) S17)))) (sI S12 a6 1 x16)))) ∧ ((x14 = 0) → (Q (0 : Int32) S12)))) (sI S7 a6 0 x11))))) ∧ ((x9 = 0) → (Q (0 : Int32) S7)))) S)))))))))
set_option maxRecDepth 20000 in
set_option maxHeartbeats 4000000 in
theorem T_X4_rainLine_0 {X : CX} {Q : Int32 → HS → Prop} (C : Cx X cX4_rainLine RX4 2 rm_X4_rainLine) (E : ReI X rm_X4_rainLine (fun r S => bl r ∧ Q r S)) (ht : (xh X).sig.returnType = (some .boolean)) (hn : (xh X).name = yX4_rainLine.name) {v0 : Nat} {S : HS} (h : P_X4_rainLine_0 Q v0 S) : WS X 2 0 0 0 [(0, .ref v0)] [] S := by
  refine r_aload_n (pc := 0) C dX4_rainLine_0 0 rfl ?_
  obtain ⟨o_v0, h⟩ := h
  obtain ⟨a1, ea1, h⟩ := h
  refine r_getr (pc := 1) C fL_X4_18 dX4_rainLine_1 o_v0 ea1 ?_
  obtain ⟨o_a1, h⟩ := h
  obtain ⟨a2, ea2, h⟩ := h
  refine r_getr (pc := 4) C fL_X4_188 dX4_rainLine_4 o_a1 ea2 ?_
  refine r_aload_n (pc := 7) C dX4_rainLine_7 0 rfl ?_
  obtain ⟨a3, ea3, h⟩ := h
  refine r_getr (pc := 8) C fL_X4_18 dX4_rainLine_8 o_v0 ea3 ?_
  obtain ⟨o_a3, h⟩ := h
  refine r_geti (pc := 11) C fL_X4_45 dX4_rainLine_11 o_a3 ?_
  refine r_topi (fun x4 ex4 => ?_)
  have h := h x4 ex4
  obtain ⟨o_a2, h⟩ := h
  obtain ⟨i5, a6, ea6, h⟩ := h
  refine r_aald17 (pc := 14) C dX4_rainLine_14 o_a2 i5 ea6 ?_
  refine r_astore_n (pc := 15) C dX4_rainLine_15 rfl (by decide) (lv' := [(1, .ref a6), (0, .ref v0)]) rfl ?_
  refine r_aload_n (pc := 16) C dX4_rainLine_16 1 rfl ?_
  refine r_lds (pc := 17) C 3 rfl dX4_rainLine_17 ?_
  refine r_iconst (pc := 19) C (v := (0 : Int32)) dX4_rainLine_19 (by decide) ?_
  refine r_bipush (pc := 20) C (v := (9 : Int32)) dX4_rainLine_20 (by decide) ?_
  refine r_callVi0 (pc := 22) C (rest := []) (a := v0) o_v0 [.ref (eK (xE X) 3), .int (0 : Int32), .int (9 : Int32)] yV_X4_wordAndWhole g_524 (c_X4_wordAndWhole h) dX4_rainLine_22 rfl rfl (Nat.le_of_ble_eq_true rfl) ⟨by decide, by decide⟩ ⟨by decide, by decide⟩ ⟨rfl, rfl⟩ (fun x9 S7 h g8 => ?_)
  have bx9 := h.1
  have h := h.2 g8 bx9
  have o_a1 := gr_ob g8 o_a1
  have o_a2 := gr_ob g8 o_a2
  have o_a3 := gr_ob g8 o_a3
  have o_v0 := gr_ob g8 o_v0
  refine r_if_ne (pc := 25) C (tgt := 30) dX4_rainLine_25 (by decide) (fun c10 => ?_) (fun c10 => ?_)
  · have h := h.1 c10
    refine r_aload_n (pc := 30) C dX4_rainLine_30 0 rfl ?_
    refine r_aload_n (pc := 31) C dX4_rainLine_31 1 rfl ?_
    refine r_geti (pc := 32) C fL_X4_147 dX4_rainLine_32 o_v0 ?_
    refine r_topi (fun x11 ex11 => ?_)
    have h := h x11 ex11
    obtain ⟨o_a6, h⟩ := h
    refine r_puti (pc := 35) C pfL_X4_193 dX4_rainLine_35 o_a6 ?_
    refine r_aload_n (pc := 38) C dX4_rainLine_38 1 rfl ?_
    refine r_lds (pc := 39) C 4 rfl dX4_rainLine_39 ?_
    refine r_iconst (pc := 41) C (v := (1 : Int32)) dX4_rainLine_41 (by decide) ?_
    refine r_bipush (pc := 42) C (v := (9 : Int32)) dX4_rainLine_42 (by decide) ?_
    refine r_callVi0 (pc := 44) C (rest := []) (a := v0) o_v0 [.ref (eK (xE X) 4), .int (1 : Int32), .int (9 : Int32)] yV_X4_wordAndWhole g_524 (c_X4_wordAndWhole h) dX4_rainLine_44 rfl rfl (Nat.le_of_ble_eq_true rfl) ⟨by decide, by decide⟩ ⟨by decide, by decide⟩ ⟨rfl, rfl⟩ (fun x14 S12 h g13 => ?_)
    have bx14 := h.1
    have h := h.2 g13 bx14
    have o_a1 := gr_ob g13 o_a1
    have o_a2 := gr_ob g13 o_a2
    have o_a3 := gr_ob g13 o_a3
    have o_a6 := gr_ob g13 o_a6
    have o_v0 := gr_ob g13 o_v0
    refine r_if_ne (pc := 47) C (tgt := 52) dX4_rainLine_47 (by decide) (fun c15 => ?_) (fun c15 => ?_)
    · have h := h.1 c15
      refine r_aload_n (pc := 52) C dX4_rainLine_52 0 rfl ?_
      refine r_aload_n (pc := 53) C dX4_rainLine_53 1 rfl ?_
      refine r_geti (pc := 54) C fL_X4_147 dX4_rainLine_54 o_v0 ?_
      refine r_topi (fun x16 ex16 => ?_)
      have h := h x16 ex16
      refine r_puti (pc := 57) C pfL_X4_199 dX4_rainLine_57 o_a6 ?_
      refine r_aload_n (pc := 60) C dX4_rainLine_60 1 rfl ?_
      refine r_lds (pc := 61) C 5 rfl dX4_rainLine_61 ?_
      refine r_callVi0 (pc := 63) C (rest := []) (a := v0) o_v0 [.ref (eK (xE X) 5)] yV_X4_word g_528 (c_X4_word h) dX4_rainLine_63 rfl rfl (Nat.le_of_ble_eq_true rfl) ⟨by decide, by decide⟩ ⟨by decide, by decide⟩ ⟨rfl, rfl⟩ (fun x19 S17 h g18 => ?_)
      have bx19 := h.1
      have h := h.2 g18 bx19
      have o_a1 := gr_ob g18 o_a1
      have o_a2 := gr_ob g18 o_a2
      have o_a3 := gr_ob g18 o_a3
      have o_a6 := gr_ob g18 o_a6
      have o_v0 := gr_ob g18 o_v0
      refine r_if_eq (pc := 66) C (tgt := 76) dX4_rainLine_66 (by decide) (fun c20 => ?_) (fun c20 => ?_)
      · have h := h.1 c20
        refine r_iconst (pc := 76) C (v := (0 : Int32)) dX4_rainLine_76 (by decide) ?_
        exact r_zret (pc := 77) C E ht dX4_rainLine_77 (by decide) (by decide) (Or.inl rfl) h
      · have h := h.2 c20
        refine r_aload_n (pc := 69) C dX4_rainLine_69 1 rfl ?_
        refine r_callVi0 (pc := 70) C (rest := []) (a := v0) o_v0 [] yV_X4_side g_548 (c_X4_side h) dX4_rainLine_70 rfl rfl (Nat.le_of_ble_eq_true rfl) ⟨by decide, by decide⟩ ⟨by decide, by decide⟩ ⟨rfl, rfl⟩ (fun x23 S21 h g22 => ?_)
        have bx23 := h.1
        have h := h.2 g22 bx23
        have o_a1 := gr_ob g22 o_a1
        have o_a2 := gr_ob g22 o_a2
        have o_a3 := gr_ob g22 o_a3
        have o_a6 := gr_ob g22 o_a6
        have o_v0 := gr_ob g22 o_v0
        refine r_if_ne (pc := 73) C (tgt := 78) dX4_rainLine_73 (by decide) (fun c24 => ?_) (fun c24 => ?_)
        · have h := h.1 c24
          refine r_aload_n (pc := 78) C dX4_rainLine_78 0 rfl ?_
          refine r_aload_n (pc := 79) C dX4_rainLine_79 1 rfl ?_
          refine r_geti (pc := 80) C fL_X4_147 dX4_rainLine_80 o_v0 ?_
          refine r_topi (fun x25 ex25 => ?_)
          have h := h x25 ex25
          refine r_puti (pc := 83) C pfL_X4_206 dX4_rainLine_83 o_a6 ?_
          refine r_aload_n (pc := 86) C dX4_rainLine_86 1 rfl ?_
          refine r_iconst (pc := 87) C (v := (0 : Int32)) dX4_rainLine_87 (by decide) ?_
          refine r_bipush (pc := 88) C (v := (9 : Int32)) dX4_rainLine_88 (by decide) ?_
          refine r_callVi0 (pc := 90) C (rest := []) (a := v0) o_v0 [.int (0 : Int32), .int (9 : Int32)] yV_X4_whole g_532 (c_X4_whole h) dX4_rainLine_90 rfl rfl (Nat.le_of_ble_eq_true rfl) ⟨by decide, by decide⟩ ⟨by decide, by decide⟩ ⟨rfl, rfl⟩ (fun x28 S26 h g27 => ?_)
          have bx28 := h.1
          have h := h.2 g27 bx28
          have o_a1 := gr_ob g27 o_a1
          have o_a2 := gr_ob g27 o_a2
          have o_a3 := gr_ob g27 o_a3
          have o_a6 := gr_ob g27 o_a6
          have o_v0 := gr_ob g27 o_v0
          refine r_if_ne (pc := 93) C (tgt := 98) dX4_rainLine_93 (by decide) (fun c29 => ?_) (fun c29 => ?_)
          · have h := h.1 c29
            refine r_aload_n (pc := 98) C dX4_rainLine_98 0 rfl ?_
            refine r_aload_n (pc := 99) C dX4_rainLine_99 1 rfl ?_
            refine r_geti (pc := 100) C fL_X4_147 dX4_rainLine_100 o_v0 ?_
            refine r_topi (fun x30 ex30 => ?_)
            have h := h x30 ex30
            refine r_puti (pc := 103) C pfL_X4_209 dX4_rainLine_103 o_a6 ?_
            refine r_aload_n (pc := 106) C dX4_rainLine_106 1 rfl ?_
            refine r_lds (pc := 107) C 10 rfl dX4_rainLine_107 ?_
            refine r_iconst (pc := 109) C (v := (0 : Int32)) dX4_rainLine_109 (by decide) ?_
            refine r_bipush (pc := 110) C (v := (100 : Int32)) dX4_rainLine_110 (by decide) ?_
            refine r_callVi0 (pc := 112) C (rest := []) (a := v0) o_v0 [.ref (eK (xE X) 10), .int (0 : Int32), .int (100 : Int32)] yV_X4_wordAndWhole g_524 (c_X4_wordAndWhole h) dX4_rainLine_112 rfl rfl (Nat.le_of_ble_eq_true rfl) ⟨by decide, by decide⟩ ⟨by decide, by decide⟩ ⟨rfl, rfl⟩ (fun x33 S31 h g32 => ?_)
            have bx33 := h.1
            have h := h.2 g32 bx33
            have o_a1 := gr_ob g32 o_a1
            have o_a2 := gr_ob g32 o_a2
            have o_a3 := gr_ob g32 o_a3
            have o_a6 := gr_ob g32 o_a6
            have o_v0 := gr_ob g32 o_v0
            refine r_if_ne (pc := 115) C (tgt := 120) dX4_rainLine_115 (by decide) (fun c34 => ?_) (fun c34 => ?_)
            · have h := h.1 c34
              refine r_aload_n (pc := 120) C dX4_rainLine_120 0 rfl ?_
              refine r_aload_n (pc := 121) C dX4_rainLine_121 1 rfl ?_
              refine r_geti (pc := 122) C fL_X4_147 dX4_rainLine_122 o_v0 ?_
              refine r_topi (fun x35 ex35 => ?_)
              have h := h x35 ex35
              refine r_puti (pc := 125) C pfL_X4_213 dX4_rainLine_125 o_a6 ?_
              refine r_aload_n (pc := 128) C dX4_rainLine_128 1 rfl ?_
              obtain ⟨a36, ea36, h⟩ := h
              refine r_getr (pc := 129) C fL_X4_18 dX4_rainLine_129 o_v0 ea36 ?_
              refine r_dup (pc := 132) C dX4_rainLine_132 rfl ?_
              obtain ⟨o_a36, h⟩ := h
              refine r_geti (pc := 133) C fL_X4_45 dX4_rainLine_133 o_a36 ?_
              refine r_topi (fun x37 ex37 => ?_)
              have h := h x37 ex37
              refine r_iconst (pc := 136) C (v := (1 : Int32)) dX4_rainLine_136 (by decide) ?_
              refine r_iadd (pc := 137) C dX4_rainLine_137 ?_
              refine r_topi (fun x38 ex38 => ?_)
              have h := h x38 ex38
              refine r_puti (pc := 138) C pfL_X4_45 dX4_rainLine_138 o_a36 ?_
              refine r_iconst (pc := 141) C (v := (1 : Int32)) dX4_rainLine_141 (by decide) ?_
              exact r_zret (pc := 142) C E ht dX4_rainLine_142 (by decide) (by decide) (Or.inr rfl) h
            · have h := h.2 c34
              refine r_iconst (pc := 118) C (v := (0 : Int32)) dX4_rainLine_118 (by decide) ?_
              exact r_zret (pc := 119) C E ht dX4_rainLine_119 (by decide) (by decide) (Or.inl rfl) h
          · have h := h.2 c29
            refine r_iconst (pc := 96) C (v := (0 : Int32)) dX4_rainLine_96 (by decide) ?_
            exact r_zret (pc := 97) C E ht dX4_rainLine_97 (by decide) (by decide) (Or.inl rfl) h
        · have h := h.2 c24
          refine r_iconst (pc := 76) C (v := (0 : Int32)) dX4_rainLine_76 (by decide) ?_
          exact r_zret (pc := 77) C E ht dX4_rainLine_77 (by decide) (by decide) (Or.inl rfl) h
    · have h := h.2 c15
      refine r_iconst (pc := 50) C (v := (0 : Int32)) dX4_rainLine_50 (by decide) ?_
      exact r_zret (pc := 51) C E ht dX4_rainLine_51 (by decide) (by decide) (Or.inl rfl) h
  · have h := h.2 c10
    refine r_iconst (pc := 28) C (v := (0 : Int32)) dX4_rainLine_28 (by decide) ?_
    exact r_zret (pc := 29) C E ht dX4_rainLine_29 (by decide) (by decide) (Or.inl rfl) h
def P_X4_rainLine (v0 : Nat) (Q : Int32 → HS → Prop) (S : HS) : Prop := P_X4_rainLine_0 Q v0 S
theorem c_X4_rainLine {l : Launch} {Ee : EE} {S : HS} {v0 : Nat} {Q : Int32 → HS → Prop} (h : P_X4_rainLine v0 Q S) : MI l yX4_rainLine cX4_rainLine 2 (some .boolean) rm_X4_rainLine Ee S [.ref v0] (fun r S => bl r ∧ Q r S) :=
  openI (by decide) (Nat.le_of_ble_eq_true rfl) (fun X C E ht hn hE hl => by subst hE; exact r_sub [0] rfl (T_X4_rainLine_0 C E ht hn h))
def rm_X4_roadLine : Room := { frames := 8, cells := 0, slots := 0, locals := 188 }
def P_X4_roadLine_130 (Q : Int32 → HS → Prop) (v0 : Nat) (S : HS) : Prop := ob S v0 4 ∧ (∃ a1 : Nat, fR S v0 5 = some a1 ∧ (ob S a1 8 ∧ (∀ x2 : Int32, x2 = fI S a1 3 → (∀ x3 : Int32, x3 = x2 + (1 : Int32) → (Q (1 : Int32) (sI S a1 3 x3))))))
set_option maxRecDepth 20000 in
set_option maxHeartbeats 4000000 in
theorem T_X4_roadLine_130 {X : CX} {Q : Int32 → HS → Prop} (C : Cx X cX4_roadLine RX4 2 rm_X4_roadLine) (E : ReI X rm_X4_roadLine (fun r S => bl r ∧ Q r S)) (ht : (xh X).sig.returnType = (some .boolean)) (hn : (xh X).name = yX4_roadLine.name) {v0 : Nat} {S : HS} (h : P_X4_roadLine_130 Q v0 S) : WS X 2 0 0 130 [(0, .ref v0)] [] S := by
  refine r_aload_n (pc := 130) C dX4_roadLine_130 0 rfl ?_
  obtain ⟨o_v0, h⟩ := h
  obtain ⟨a1, ea1, h⟩ := h
  refine r_getr (pc := 131) C fL_X4_18 dX4_roadLine_131 o_v0 ea1 ?_
  refine r_dup (pc := 134) C dX4_roadLine_134 rfl ?_
  obtain ⟨o_a1, h⟩ := h
  refine r_geti (pc := 135) C fL_X4_66 dX4_roadLine_135 o_a1 ?_
  refine r_topi (fun x2 ex2 => ?_)
  have h := h x2 ex2
  refine r_iconst (pc := 138) C (v := (1 : Int32)) dX4_roadLine_138 (by decide) ?_
  refine r_iadd (pc := 139) C dX4_roadLine_139 ?_
  refine r_topi (fun x3 ex3 => ?_)
  have h := h x3 ex3
  refine r_puti (pc := 140) C pfL_X4_66 dX4_roadLine_140 o_a1 ?_
  refine r_iconst (pc := 143) C (v := (1 : Int32)) dX4_roadLine_143 (by decide) ?_
  exact r_zret (pc := 144) C E ht dX4_roadLine_144 (by decide) (by decide) (Or.inr rfl) h
def P_X4_roadLine_0 (Q : Int32 → HS → Prop) (v0 : Nat) (S : HS) : Prop := ob S v0 4 ∧ (∃ a1 : Nat, fR S v0 5 = some a1 ∧ (ob S a1 8 ∧ (∃ a2 : Nat, fR S a1 8 = some a2 ∧ (∃ a3 : Nat, fR S v0 5 = some a3 ∧ (ob S a3 8 ∧ (∀ x4 : Int32, x4 = fI S a3 3 → (ob S a2 18 ∧ (vp_in x4 (hN S a2) ∧ ∃ a6 : Nat, fR S a2 x4.toNatClampNeg = some a6 ∧ (P_X4_placeBut v0 (-1 : Int32) (fun x9 S7 => Gr S S7 → bl x9 → (((¬ x9 = 0) → (∀ x11 : Int32, x11 = fI S7 v0 9 → (ob S7 a6 5 ∧ (P_X4_side v0 (fun x14 S12 => Gr (sI S7 a6 0 x11) S12 → bl x14 → (((¬ x14 = 0) → (∀ x16 : Int32, x16 = fI S12 v0 9 → (P_X4_whole v0 (1 : Int32) (60 : Int32) (fun x19 S17 => Gr (sI S12 a6 2 x16) S17 → bl x19 → (((¬ x19 = 0) → (∀ x21 : Int32, x21 = fI S17 v0 9 → (∀ x22 : Int32, x22 = fI (sI S17 a6 3 x21) a6 0 → (P_X4_placeBut v0 x22 (fun x25 S23 => Gr (sI S17 a6 3 x21) S23 → bl x25 → (((¬ x25 = 0) → (∀ x27 : Int32, x27 = fI S23 v0 9 → (P_X4_is v0 17 (fun x30 S28 => Gr (sI (sI S23 a6 1 x27) a6 4 (0 : Int32)) S28 → bl x30 → (((x30 = 0) → (P_X4_roadLine_130 Q v0 S28)) ∧ ((¬ x30 = 0) → (∀ x32 : Int32, x32 = fI S28 a6 3 → (P_X4_wordAndWhole v0 17 (0 : Int32) x32 (fun x35 S33 => Gr S28 S33 → bl x35 → (((¬ x35 = 0) → (∀ x37 : Int32, x37 = fI S33 v0 9 → (P_X4_roadLine_130 Q v0 (sI S33 a6 4 x37)))) ∧ ((x35 = 0) → (Q (0 : Int32) S33)))) S28))))) (sI (sI S23 a6 1 x27) a6 4 (0 : Int32))))) ∧ ((x25 = 0) → (Q (0 : Int32) S23)))) (sI S17 a6 3 x21))))) ∧ ((x19 = 0) → (Q (0 : Int32) S17)))) (sI S12 a6 2 x16)))) ∧ ((x14 = 0) → (Q (0 : Int32) S12)))) (sI S7 a6 0 x11))))) ∧ ((x9 = 0) → (Q (0 : Int32) S7)))) S)))))))))
set_option maxRecDepth 20000 in
set_option maxHeartbeats 4000000 in
theorem T_X4_roadLine_0 {X : CX} {Q : Int32 → HS → Prop} (C : Cx X cX4_roadLine RX4 2 rm_X4_roadLine) (E : ReI X rm_X4_roadLine (fun r S => bl r ∧ Q r S)) (ht : (xh X).sig.returnType = (some .boolean)) (hn : (xh X).name = yX4_roadLine.name) {v0 : Nat} {S : HS} (h : P_X4_roadLine_0 Q v0 S) : WS X 2 0 0 0 [(0, .ref v0)] [] S := by
  refine r_aload_n (pc := 0) C dX4_roadLine_0 0 rfl ?_
  obtain ⟨o_v0, h⟩ := h
  obtain ⟨a1, ea1, h⟩ := h
  refine r_getr (pc := 1) C fL_X4_18 dX4_roadLine_1 o_v0 ea1 ?_
  obtain ⟨o_a1, h⟩ := h
  obtain ⟨a2, ea2, h⟩ := h
  refine r_getr (pc := 4) C fL_X4_221 dX4_roadLine_4 o_a1 ea2 ?_
  refine r_aload_n (pc := 7) C dX4_roadLine_7 0 rfl ?_
  obtain ⟨a3, ea3, h⟩ := h
  refine r_getr (pc := 8) C fL_X4_18 dX4_roadLine_8 o_v0 ea3 ?_
  obtain ⟨o_a3, h⟩ := h
  refine r_geti (pc := 11) C fL_X4_66 dX4_roadLine_11 o_a3 ?_
  refine r_topi (fun x4 ex4 => ?_)
  have h := h x4 ex4
  obtain ⟨o_a2, h⟩ := h
  obtain ⟨i5, a6, ea6, h⟩ := h
  refine r_aald18 (pc := 14) C dX4_roadLine_14 o_a2 i5 ea6 ?_
  refine r_astore_n (pc := 15) C dX4_roadLine_15 rfl (by decide) (lv' := [(1, .ref a6), (0, .ref v0)]) rfl ?_
  refine r_aload_n (pc := 16) C dX4_roadLine_16 1 rfl ?_
  refine r_iconst (pc := 17) C (v := (-1 : Int32)) dX4_roadLine_17 (by decide) ?_
  refine r_callVi0 (pc := 18) C (rest := []) (a := v0) o_v0 [.int (-1 : Int32)] yV_X4_placeBut g_584 (c_X4_placeBut h) dX4_roadLine_18 rfl rfl (Nat.le_of_ble_eq_true rfl) ⟨by decide, by decide⟩ ⟨by decide, by decide⟩ ⟨rfl, rfl⟩ (fun x9 S7 h g8 => ?_)
  have bx9 := h.1
  have h := h.2 g8 bx9
  have o_a1 := gr_ob g8 o_a1
  have o_a2 := gr_ob g8 o_a2
  have o_a3 := gr_ob g8 o_a3
  have o_v0 := gr_ob g8 o_v0
  refine r_if_ne (pc := 21) C (tgt := 26) dX4_roadLine_21 (by decide) (fun c10 => ?_) (fun c10 => ?_)
  · have h := h.1 c10
    refine r_aload_n (pc := 26) C dX4_roadLine_26 0 rfl ?_
    refine r_aload_n (pc := 27) C dX4_roadLine_27 1 rfl ?_
    refine r_geti (pc := 28) C fL_X4_147 dX4_roadLine_28 o_v0 ?_
    refine r_topi (fun x11 ex11 => ?_)
    have h := h x11 ex11
    obtain ⟨o_a6, h⟩ := h
    refine r_puti (pc := 31) C pfL_X4_227 dX4_roadLine_31 o_a6 ?_
    refine r_aload_n (pc := 34) C dX4_roadLine_34 1 rfl ?_
    refine r_callVi0 (pc := 35) C (rest := []) (a := v0) o_v0 [] yV_X4_side g_548 (c_X4_side h) dX4_roadLine_35 rfl rfl (Nat.le_of_ble_eq_true rfl) ⟨by decide, by decide⟩ ⟨by decide, by decide⟩ ⟨rfl, rfl⟩ (fun x14 S12 h g13 => ?_)
    have bx14 := h.1
    have h := h.2 g13 bx14
    have o_a1 := gr_ob g13 o_a1
    have o_a2 := gr_ob g13 o_a2
    have o_a3 := gr_ob g13 o_a3
    have o_a6 := gr_ob g13 o_a6
    have o_v0 := gr_ob g13 o_v0
    refine r_if_ne (pc := 38) C (tgt := 43) dX4_roadLine_38 (by decide) (fun c15 => ?_) (fun c15 => ?_)
    · have h := h.1 c15
      refine r_aload_n (pc := 43) C dX4_roadLine_43 0 rfl ?_
      refine r_aload_n (pc := 44) C dX4_roadLine_44 1 rfl ?_
      refine r_geti (pc := 45) C fL_X4_147 dX4_roadLine_45 o_v0 ?_
      refine r_topi (fun x16 ex16 => ?_)
      have h := h x16 ex16
      refine r_puti (pc := 48) C pfL_X4_232 dX4_roadLine_48 o_a6 ?_
      refine r_aload_n (pc := 51) C dX4_roadLine_51 1 rfl ?_
      refine r_iconst (pc := 52) C (v := (1 : Int32)) dX4_roadLine_52 (by decide) ?_
      refine r_bipush (pc := 53) C (v := (60 : Int32)) dX4_roadLine_53 (by decide) ?_
      refine r_callVi0 (pc := 55) C (rest := []) (a := v0) o_v0 [.int (1 : Int32), .int (60 : Int32)] yV_X4_whole g_532 (c_X4_whole h) dX4_roadLine_55 rfl rfl (Nat.le_of_ble_eq_true rfl) ⟨by decide, by decide⟩ ⟨by decide, by decide⟩ ⟨rfl, rfl⟩ (fun x19 S17 h g18 => ?_)
      have bx19 := h.1
      have h := h.2 g18 bx19
      have o_a1 := gr_ob g18 o_a1
      have o_a2 := gr_ob g18 o_a2
      have o_a3 := gr_ob g18 o_a3
      have o_a6 := gr_ob g18 o_a6
      have o_v0 := gr_ob g18 o_v0
      refine r_if_ne (pc := 58) C (tgt := 63) dX4_roadLine_58 (by decide) (fun c20 => ?_) (fun c20 => ?_)
      · have h := h.1 c20
        refine r_aload_n (pc := 63) C dX4_roadLine_63 0 rfl ?_
        refine r_aload_n (pc := 64) C dX4_roadLine_64 1 rfl ?_
        refine r_geti (pc := 65) C fL_X4_147 dX4_roadLine_65 o_v0 ?_
        refine r_topi (fun x21 ex21 => ?_)
        have h := h x21 ex21
        refine r_puti (pc := 68) C pfL_X4_234 dX4_roadLine_68 o_a6 ?_
        refine r_aload_n (pc := 71) C dX4_roadLine_71 1 rfl ?_
        refine r_aload_n (pc := 72) C dX4_roadLine_72 0 rfl ?_
        refine r_geti (pc := 73) C fL_X4_227 dX4_roadLine_73 o_a6 ?_
        refine r_topi (fun x22 ex22 => ?_)
        have h := h x22 ex22
        refine r_callVi0 (pc := 76) C (rest := []) (a := v0) o_v0 [.int x22] yV_X4_placeBut g_584 (c_X4_placeBut h) dX4_roadLine_76 rfl rfl (Nat.le_of_ble_eq_true rfl) ⟨by decide, by decide⟩ ⟨by decide, by decide⟩ ⟨rfl, rfl⟩ (fun x25 S23 h g24 => ?_)
        have bx25 := h.1
        have h := h.2 g24 bx25
        have o_a1 := gr_ob g24 o_a1
        have o_a2 := gr_ob g24 o_a2
        have o_a3 := gr_ob g24 o_a3
        have o_a6 := gr_ob g24 o_a6
        have o_v0 := gr_ob g24 o_v0
        refine r_if_ne (pc := 79) C (tgt := 84) dX4_roadLine_79 (by decide) (fun c26 => ?_) (fun c26 => ?_)
        · have h := h.1 c26
          refine r_aload_n (pc := 84) C dX4_roadLine_84 0 rfl ?_
          refine r_aload_n (pc := 85) C dX4_roadLine_85 1 rfl ?_
          refine r_geti (pc := 86) C fL_X4_147 dX4_roadLine_86 o_v0 ?_
          refine r_topi (fun x27 ex27 => ?_)
          have h := h x27 ex27
          refine r_puti (pc := 89) C pfL_X4_235 dX4_roadLine_89 o_a6 ?_
          refine r_aload_n (pc := 92) C dX4_roadLine_92 0 rfl ?_
          refine r_iconst (pc := 93) C (v := (0 : Int32)) dX4_roadLine_93 (by decide) ?_
          refine r_puti (pc := 94) C pfL_X4_238 dX4_roadLine_94 o_a6 ?_
          refine r_aload_n (pc := 97) C dX4_roadLine_97 1 rfl ?_
          refine r_lds (pc := 98) C 17 rfl dX4_roadLine_98 ?_
          refine r_callVi0 (pc := 100) C (rest := []) (a := v0) o_v0 [.ref (eK (xE X) 17)] yV_X4_is g_458 (c_X4_is h) dX4_roadLine_100 rfl rfl (Nat.le_of_ble_eq_true rfl) ⟨by decide, by decide⟩ ⟨by decide, by decide⟩ ⟨rfl, rfl⟩ (fun x30 S28 h g29 => ?_)
          have bx30 := h.1
          have h := h.2 g29 bx30
          have o_a1 := gr_ob g29 o_a1
          have o_a2 := gr_ob g29 o_a2
          have o_a3 := gr_ob g29 o_a3
          have o_a6 := gr_ob g29 o_a6
          have o_v0 := gr_ob g29 o_v0
          refine r_if_eq (pc := 103) C (tgt := 130) dX4_roadLine_103 (by decide) (fun c31 => ?_) (fun c31 => ?_)
          · have h := h.1 c31
            exact r_sub [1] rfl (T_X4_roadLine_130 C E ht hn h)
          · have h := h.2 c31
            refine r_aload_n (pc := 106) C dX4_roadLine_106 1 rfl ?_
            refine r_lds (pc := 107) C 17 rfl dX4_roadLine_107 ?_
            refine r_iconst (pc := 109) C (v := (0 : Int32)) dX4_roadLine_109 (by decide) ?_
            refine r_aload_n (pc := 110) C dX4_roadLine_110 0 rfl ?_
            refine r_geti (pc := 111) C fL_X4_234 dX4_roadLine_111 o_a6 ?_
            refine r_topi (fun x32 ex32 => ?_)
            have h := h x32 ex32
            refine r_callVi0 (pc := 114) C (rest := []) (a := v0) o_v0 [.ref (eK (xE X) 17), .int (0 : Int32), .int x32] yV_X4_wordAndWhole g_524 (c_X4_wordAndWhole h) dX4_roadLine_114 rfl rfl (Nat.le_of_ble_eq_true rfl) ⟨by decide, by decide⟩ ⟨by decide, by decide⟩ ⟨rfl, rfl⟩ (fun x35 S33 h g34 => ?_)
            have bx35 := h.1
            have h := h.2 g34 bx35
            have o_a1 := gr_ob g34 o_a1
            have o_a2 := gr_ob g34 o_a2
            have o_a3 := gr_ob g34 o_a3
            have o_a6 := gr_ob g34 o_a6
            have o_v0 := gr_ob g34 o_v0
            refine r_if_ne (pc := 117) C (tgt := 122) dX4_roadLine_117 (by decide) (fun c36 => ?_) (fun c36 => ?_)
            · have h := h.1 c36
              refine r_aload_n (pc := 122) C dX4_roadLine_122 0 rfl ?_
              refine r_aload_n (pc := 123) C dX4_roadLine_123 1 rfl ?_
              refine r_geti (pc := 124) C fL_X4_147 dX4_roadLine_124 o_v0 ?_
              refine r_topi (fun x37 ex37 => ?_)
              have h := h x37 ex37
              refine r_puti (pc := 127) C pfL_X4_238 dX4_roadLine_127 o_a6 ?_
              exact r_sub [1] rfl (T_X4_roadLine_130 C E ht hn h)
            · have h := h.2 c36
              refine r_iconst (pc := 120) C (v := (0 : Int32)) dX4_roadLine_120 (by decide) ?_
              exact r_zret (pc := 121) C E ht dX4_roadLine_121 (by decide) (by decide) (Or.inl rfl) h
        · have h := h.2 c26
          refine r_iconst (pc := 82) C (v := (0 : Int32)) dX4_roadLine_82 (by decide) ?_
          exact r_zret (pc := 83) C E ht dX4_roadLine_83 (by decide) (by decide) (Or.inl rfl) h
      · have h := h.2 c20
        refine r_iconst (pc := 61) C (v := (0 : Int32)) dX4_roadLine_61 (by decide) ?_
        exact r_zret (pc := 62) C E ht dX4_roadLine_62 (by decide) (by decide) (Or.inl rfl) h
    · have h := h.2 c15
      refine r_iconst (pc := 41) C (v := (0 : Int32)) dX4_roadLine_41 (by decide) ?_
      exact r_zret (pc := 42) C E ht dX4_roadLine_42 (by decide) (by decide) (Or.inl rfl) h
  · have h := h.2 c10
    refine r_iconst (pc := 24) C (v := (0 : Int32)) dX4_roadLine_24 (by decide) ?_
    exact r_zret (pc := 25) C E ht dX4_roadLine_25 (by decide) (by decide) (Or.inl rfl) h
def P_X4_roadLine (v0 : Nat) (Q : Int32 → HS → Prop) (S : HS) : Prop := P_X4_roadLine_0 Q v0 S
theorem c_X4_roadLine {l : Launch} {Ee : EE} {S : HS} {v0 : Nat} {Q : Int32 → HS → Prop} (h : P_X4_roadLine v0 Q S) : MI l yX4_roadLine cX4_roadLine 2 (some .boolean) rm_X4_roadLine Ee S [.ref v0] (fun r S => bl r ∧ Q r S) :=
  openI (by decide) (Nat.le_of_ble_eq_true rfl) (fun X C E ht hn hE hl => by subst hE; exact r_sub [0] rfl (T_X4_roadLine_0 C E ht hn h))
def rm_X4_sign : Room := { frames := 2, cells := 0, slots := 0, locals := 46 }
def P_X4_sign_0 (Q : Int32 → HS → Prop) (v0 : Nat) (v1 : Int32) (S : HS) : Prop := ob S v0 4 ∧ (∀ x1 : Int32, x1 = fI S v0 6 → (((x1 = v1) → (P_X4_next v0 (fun S3 => Gr S S3 → (Q (1 : Int32) S3)) S)) ∧ ((¬ x1 = v1) → (P_X4_fail v0 (1 : Int32) (fun x8 S6 => Gr S S6 → bl x8 → (bl x8 ∧ Q x8 S6)) S))))
set_option maxRecDepth 20000 in
set_option maxHeartbeats 4000000 in
theorem T_X4_sign_0 {X : CX} {Q : Int32 → HS → Prop} (C : Cx X cX4_sign RX4 2 rm_X4_sign) (E : ReI X rm_X4_sign (fun r S => bl r ∧ Q r S)) (ht : (xh X).sig.returnType = (some .boolean)) (hn : (xh X).name = yX4_sign.name) {v0 : Nat} {v1 : Int32} {S : HS} (h : P_X4_sign_0 Q v0 v1 S) : WS X 2 0 0 0 [(0, .ref v0), (1, .int v1)] [] S := by
  refine r_aload_n (pc := 0) C dX4_sign_0 0 rfl ?_
  obtain ⟨o_v0, h⟩ := h
  refine r_geti (pc := 1) C fL_X4_92 dX4_sign_1 o_v0 ?_
  refine r_topi (fun x1 ex1 => ?_)
  have h := h x1 ex1
  refine r_iload_n (pc := 4) C dX4_sign_4 1 rfl ?_
  refine r_icmp_eq (pc := 5) C (tgt := 14) dX4_sign_5 (by decide) (fun c2 => ?_) (fun c2 => ?_)
  · have h := h.1 c2
    refine r_aload_n (pc := 14) C dX4_sign_14 0 rfl ?_
    refine r_callVv0 (pc := 15) C (rest := []) (a := v0) o_v0 [] yV_X4_next g_449 (c_X4_next h) dX4_sign_15 rfl rfl (Nat.le_of_ble_eq_true rfl) ⟨by decide, by decide⟩ ⟨by decide, by decide⟩ ⟨rfl, rfl⟩ (fun S3 h g4 => ?_)
    have h := h g4
    have o_v0 := gr_ob g4 o_v0
    refine r_iconst (pc := 18) C (v := (1 : Int32)) dX4_sign_18 (by decide) ?_
    exact r_zret (pc := 19) C E ht dX4_sign_19 (by decide) (by decide) (Or.inr rfl) h
  · have h := h.2 c2
    refine r_aload_n (pc := 8) C dX4_sign_8 0 rfl ?_
    refine r_iconst (pc := 9) C (v := (1 : Int32)) dX4_sign_9 (by decide) ?_
    refine r_callVi0 (pc := 10) C (rest := []) (a := v0) o_v0 [.int (1 : Int32)] yV_X4_fail g_519 (c_X4_fail h) dX4_sign_10 rfl rfl (Nat.le_of_ble_eq_true rfl) ⟨by decide, by decide⟩ ⟨by decide, by decide⟩ ⟨rfl, rfl⟩ (fun x8 S6 h g7 => ?_)
    have bx8 := h.1
    have h := h.2 g7 bx8
    have o_v0 := gr_ob g7 o_v0
    exact r_zret (pc := 13) C E ht dX4_sign_13 (by decide) (by decide) h.1 h.2
def P_X4_sign (v0 : Nat) (v1 : Int32) (Q : Int32 → HS → Prop) (S : HS) : Prop := P_X4_sign_0 Q v0 v1 S
theorem c_X4_sign {l : Launch} {Ee : EE} {S : HS} {v0 : Nat} {v1 : Int32} {Q : Int32 → HS → Prop} (h : P_X4_sign v0 v1 Q S) : MI l yX4_sign cX4_sign 2 (some .boolean) rm_X4_sign Ee S [.ref v0, .int v1] (fun r S => bl r ∧ Q r S) :=
  openI (by decide) (Nat.le_of_ble_eq_true rfl) (fun X C E ht hn hE hl => by subst hE; exact r_sub [0, 1] rfl (T_X4_sign_0 C E ht hn h))
def rm_X4_someWalker : Room := { frames := 7, cells := 0, slots := 0, locals := 165 }
def P_X4_someWalker_0 (Q : Int32 → HS → Prop) (v0 : Nat) (S : HS) : Prop := ob S v0 4 ∧ (P_X4_canBeName v0 (fun x3 S1 => Gr S S1 → bl x3 → (((¬ x3 = 0) → (P_X4_findName v0 (fun x7 S5 => Gr S1 S5 → ((((8 : Int32) ≤ x7) → (∀ x9 : Int32, x9 = x7 - (8 : Int32) → (P_X4_next v0 (fun S10 => Gr (sI S5 v0 9 x9) S10 → (Q (1 : Int32) S10)) (sI S5 v0 9 x9)))) ∧ ((¬ (8 : Int32) ≤ x7) → (P_X4_fail v0 (2 : Int32) (fun x15 S13 => Gr S5 S13 → bl x15 → (bl x15 ∧ Q x15 S13)) S5)))) S1)) ∧ ((x3 = 0) → (P_X4_fail v0 (1 : Int32) (fun x18 S16 => Gr S1 S16 → bl x18 → (bl x18 ∧ Q x18 S16)) S1)))) S)
set_option maxRecDepth 20000 in
set_option maxHeartbeats 4000000 in
theorem T_X4_someWalker_0 {X : CX} {Q : Int32 → HS → Prop} (C : Cx X cX4_someWalker RX4 2 rm_X4_someWalker) (E : ReI X rm_X4_someWalker (fun r S => bl r ∧ Q r S)) (ht : (xh X).sig.returnType = (some .boolean)) (hn : (xh X).name = yX4_someWalker.name) {v0 : Nat} {S : HS} (h : P_X4_someWalker_0 Q v0 S) : WS X 2 0 0 0 [(0, .ref v0)] [] S := by
  refine r_aload_n (pc := 0) C dX4_someWalker_0 0 rfl ?_
  obtain ⟨o_v0, h⟩ := h
  refine r_callVi0 (pc := 1) C (rest := []) (a := v0) o_v0 [] yV_X4_canBeName g_566 (c_X4_canBeName h) dX4_someWalker_1 rfl rfl (Nat.le_of_ble_eq_true rfl) ⟨by decide, by decide⟩ ⟨by decide, by decide⟩ ⟨rfl, rfl⟩ (fun x3 S1 h g2 => ?_)
  have bx3 := h.1
  have h := h.2 g2 bx3
  have o_v0 := gr_ob g2 o_v0
  refine r_if_ne (pc := 4) C (tgt := 13) dX4_someWalker_4 (by decide) (fun c4 => ?_) (fun c4 => ?_)
  · have h := h.1 c4
    refine r_aload_n (pc := 13) C dX4_someWalker_13 0 rfl ?_
    refine r_callVi0 (pc := 14) C (rest := []) (a := v0) o_v0 [] yV_X4_findName g_576 (c_X4_findName h) dX4_someWalker_14 rfl rfl (Nat.le_of_ble_eq_true rfl) ⟨by decide, by decide⟩ ⟨by decide, by decide⟩ ⟨rfl, rfl⟩ (fun x7 S5 h g6 => ?_)
    have h := h g6
    have o_v0 := gr_ob g6 o_v0
    refine r_istore_n (pc := 17) C dX4_someWalker_17 rfl (by decide) (lv' := [(1, .int x7), (0, .ref v0)]) rfl ?_
    refine r_iload_n (pc := 18) C dX4_someWalker_18 0 rfl ?_
    refine r_bipush (pc := 19) C (v := (8 : Int32)) dX4_someWalker_19 (by decide) ?_
    refine r_icmp_ge (pc := 21) C (tgt := 30) dX4_someWalker_21 (by decide) (fun c8 => ?_) (fun c8 => ?_)
    · have h := h.1 c8
      refine r_aload_n (pc := 30) C dX4_someWalker_30 1 rfl ?_
      refine r_iload_n (pc := 31) C dX4_someWalker_31 0 rfl ?_
      refine r_bipush (pc := 32) C (v := (8 : Int32)) dX4_someWalker_32 (by decide) ?_
      refine r_isub (pc := 34) C dX4_someWalker_34 ?_
      refine r_topi (fun x9 ex9 => ?_)
      have h := h x9 ex9
      refine r_puti (pc := 35) C pfL_X4_147 dX4_someWalker_35 o_v0 ?_
      refine r_aload_n (pc := 38) C dX4_someWalker_38 1 rfl ?_
      refine r_callVv0 (pc := 39) C (rest := []) (a := v0) o_v0 [] yV_X4_next g_449 (c_X4_next h) dX4_someWalker_39 rfl rfl (Nat.le_of_ble_eq_true rfl) ⟨by decide, by decide⟩ ⟨by decide, by decide⟩ ⟨rfl, rfl⟩ (fun S10 h g11 => ?_)
      have h := h g11
      have o_v0 := gr_ob g11 o_v0
      refine r_iconst (pc := 42) C (v := (1 : Int32)) dX4_someWalker_42 (by decide) ?_
      exact r_zret (pc := 43) C E ht dX4_someWalker_43 (by decide) (by decide) (Or.inr rfl) h
    · have h := h.2 c8
      refine r_aload_n (pc := 24) C dX4_someWalker_24 1 rfl ?_
      refine r_iconst (pc := 25) C (v := (2 : Int32)) dX4_someWalker_25 (by decide) ?_
      refine r_callVi0 (pc := 26) C (rest := []) (a := v0) o_v0 [.int (2 : Int32)] yV_X4_fail g_519 (c_X4_fail h) dX4_someWalker_26 rfl rfl (Nat.le_of_ble_eq_true rfl) ⟨by decide, by decide⟩ ⟨by decide, by decide⟩ ⟨rfl, rfl⟩ (fun x15 S13 h g14 => ?_)
      have bx15 := h.1
      have h := h.2 g14 bx15
      have o_v0 := gr_ob g14 o_v0
      exact r_zret (pc := 29) C E ht dX4_someWalker_29 (by decide) (by decide) h.1 h.2
  · have h := h.2 c4
    refine r_aload_n (pc := 7) C dX4_someWalker_7 0 rfl ?_
    refine r_iconst (pc := 8) C (v := (1 : Int32)) dX4_someWalker_8 (by decide) ?_
    refine r_callVi0 (pc := 9) C (rest := []) (a := v0) o_v0 [.int (1 : Int32)] yV_X4_fail g_519 (c_X4_fail h) dX4_someWalker_9 rfl rfl (Nat.le_of_ble_eq_true rfl) ⟨by decide, by decide⟩ ⟨by decide, by decide⟩ ⟨rfl, rfl⟩ (fun x18 S16 h g17 => ?_)
    have bx18 := h.1
    have h := h.2 g17 bx18
    have o_v0 := gr_ob g17 o_v0
    exact r_zret (pc := 12) C E ht dX4_someWalker_12 (by decide) (by decide) h.1 h.2
def P_X4_someWalker (v0 : Nat) (Q : Int32 → HS → Prop) (S : HS) : Prop := P_X4_someWalker_0 Q v0 S
theorem c_X4_someWalker {l : Launch} {Ee : EE} {S : HS} {v0 : Nat} {Q : Int32 → HS → Prop} (h : P_X4_someWalker v0 Q S) : MI l yX4_someWalker cX4_someWalker 2 (some .boolean) rm_X4_someWalker Ee S [.ref v0] (fun r S => bl r ∧ Q r S) :=
  openI (by decide) (Nat.le_of_ble_eq_true rfl) (fun X C E ht hn hE hl => by subst hE; exact r_sub [0] rfl (T_X4_someWalker_0 C E ht hn h))
def rm_X4_seenLine : Room := { frames := 8, cells := 0, slots := 0, locals := 186 }
def P_X4_seenLine_47 (Q : Int32 → HS → Prop) (X30 : Nat → Int32 → HS → Prop) (v0 : Nat) (v1 : Int32) (S : HS) : Prop := ob S v0 4 ∧ (P_X4_whole v0 (0 : Int32) (999 : Int32) (fun x3 S1 => Gr S S1 → bl x3 → (((¬ x3 = 0) → (∃ a5 : Nat, fR S1 v0 5 = some a5 ∧ (ob S1 a5 8 ∧ (∃ a6 : Nat, fR S1 a5 11 = some a6 ∧ (∃ a7 : Nat, fR S1 v0 5 = some a7 ∧ (ob S1 a7 8 ∧ (∀ x8 : Int32, x8 = fI S1 a7 5 → (∀ x9 : Int32, x9 = fI S1 v0 9 → (ob S1 a6 13 ∧ (vp_in ((x8 * (5 : Int32)) + v1) (hN S1 a6) ∧ (∀ x11 : Int32, x11 = v1 + (1 : Int32) → (X30 v0 x11 (sI S1 a6 ((x8 * (5 : Int32)) + v1).toNatClampNeg x9))))))))))))) ∧ ((x3 = 0) → (Q (0 : Int32) S1)))) S)
set_option maxRecDepth 20000 in
set_option maxHeartbeats 4000000 in
theorem T_X4_seenLine_47 {X : CX} {Q : Int32 → HS → Prop} (C : Cx X cX4_seenLine RX4 2 rm_X4_seenLine) (E : ReI X rm_X4_seenLine (fun r S => bl r ∧ Q r S)) (ht : (xh X).sig.returnType = (some .boolean)) (hn : (xh X).name = yX4_seenLine.name) {X30 : Nat → Int32 → HS → Prop} (hX30 : ∀ (v0 : Nat) (v1 : Int32) (S : HS), X30 v0 v1 S → WS X 2 0 0 30 [(0, .ref v0), (1, .int v1)] [] S) {v0 : Nat} {v1 : Int32} {S : HS} (h : P_X4_seenLine_47 Q X30 v0 v1 S) : WS X 2 0 0 47 [(0, .ref v0), (1, .int v1)] [] S := by
  refine r_aload_n (pc := 47) C dX4_seenLine_47 0 rfl ?_
  refine r_iconst (pc := 48) C (v := (0 : Int32)) dX4_seenLine_48 (by decide) ?_
  refine r_sipush (pc := 49) C (v := (999 : Int32)) dX4_seenLine_49 (by decide) ?_
  obtain ⟨o_v0, h⟩ := h
  refine r_callVi0 (pc := 52) C (rest := []) (a := v0) o_v0 [.int (0 : Int32), .int (999 : Int32)] yV_X4_whole g_532 (c_X4_whole h) dX4_seenLine_52 rfl rfl (Nat.le_of_ble_eq_true rfl) ⟨by decide, by decide⟩ ⟨by decide, by decide⟩ ⟨rfl, rfl⟩ (fun x3 S1 h g2 => ?_)
  have bx3 := h.1
  have h := h.2 g2 bx3
  have o_v0 := gr_ob g2 o_v0
  refine r_if_ne (pc := 55) C (tgt := 60) dX4_seenLine_55 (by decide) (fun c4 => ?_) (fun c4 => ?_)
  · have h := h.1 c4
    refine r_aload_n (pc := 60) C dX4_seenLine_60 0 rfl ?_
    obtain ⟨a5, ea5, h⟩ := h
    refine r_getr (pc := 61) C fL_X4_18 dX4_seenLine_61 o_v0 ea5 ?_
    obtain ⟨o_a5, h⟩ := h
    obtain ⟨a6, ea6, h⟩ := h
    refine r_getr (pc := 64) C fL_X4_292 dX4_seenLine_64 o_a5 ea6 ?_
    refine r_aload_n (pc := 67) C dX4_seenLine_67 0 rfl ?_
    obtain ⟨a7, ea7, h⟩ := h
    refine r_getr (pc := 68) C fL_X4_18 dX4_seenLine_68 o_v0 ea7 ?_
    obtain ⟨o_a7, h⟩ := h
    refine r_geti (pc := 71) C fL_X4_82 dX4_seenLine_71 o_a7 ?_
    refine r_topi (fun x8 ex8 => ?_)
    have h := h x8 ex8
    refine r_iconst (pc := 74) C (v := (5 : Int32)) dX4_seenLine_74 (by decide) ?_
    refine r_imul (pc := 75) C dX4_seenLine_75 ?_
    refine r_iload_n (pc := 76) C dX4_seenLine_76 1 rfl ?_
    refine r_iadd (pc := 77) C dX4_seenLine_77 ?_
    refine r_aload_n (pc := 78) C dX4_seenLine_78 0 rfl ?_
    refine r_geti (pc := 79) C fL_X4_147 dX4_seenLine_79 o_v0 ?_
    refine r_topi (fun x9 ex9 => ?_)
    have h := h x9 ex9
    obtain ⟨o_a6, h⟩ := h
    obtain ⟨i10, h⟩ := h
    refine r_iast (pc := 82) C dX4_seenLine_82 o_a6 i10 ?_
    obtain ⟨x11, ex11⟩ : ∃ z : Int32, z = v1 + (1 : Int32) := ⟨_, rfl⟩
    have h := h x11 ex11
    refine r_iinc (pc := 83) C (v := x11) (lv' := [(1, .int x11), (0, .ref v0)]) dX4_seenLine_83 1 rfl ex11.symm (by decide) rfl ?_
    refine r_goto (pc := 86) C (tgt := 30) dX4_seenLine_86 (by decide) ?_
    exact r_sub [1, 0] rfl (hX30 v0 x11 (sI S1 a6 ((x8 * (5 : Int32)) + v1).toNatClampNeg x9) h)
  · have h := h.2 c4
    refine r_iconst (pc := 58) C (v := (0 : Int32)) dX4_seenLine_58 (by decide) ?_
    exact r_zret (pc := 59) C E ht dX4_seenLine_59 (by decide) (by decide) (Or.inl rfl) h
def B_X4_seenLine_30 (Q : Int32 → HS → Prop) (X30 : Nat → Int32 → HS → Prop) (v0 : Nat) (v1 : Int32) (S : HS) : Prop := (((5 : Int32) ≤ v1) → (ob S v0 4 ∧ (∃ a2 : Nat, fR S v0 5 = some a2 ∧ (ob S a2 8 ∧ (∀ x3 : Int32, x3 = fI S a2 5 → (∀ x4 : Int32, x4 = x3 + (1 : Int32) → (Q (1 : Int32) (sI S a2 5 x4)))))))) ∧ ((¬ (5 : Int32) ≤ v1) → (((v1 ≤ 0) → (P_X4_seenLine_47 Q X30 v0 v1 S)) ∧ ((¬ v1 ≤ 0) → (ob S v0 4 ∧ (P_X4_sign v0 (4 : Int32) (fun x8 S6 => Gr S S6 → bl x8 → (((x8 = 0) → (Q (0 : Int32) S6)) ∧ ((¬ x8 = 0) → (P_X4_seenLine_47 Q X30 v0 v1 S6)))) S)))))
def P_X4_seenLine_30 (Q : Int32 → HS → Prop) (v0 : Nat) (v1 : Int32) (S : HS) : Prop := ∀ X30 : Nat → Int32 → HS → Prop, (∀ (v0 : Nat) (v1 : Int32) (S : HS), B_X4_seenLine_30 Q X30 v0 v1 S → X30 v0 v1 S) → X30 v0 v1 S
set_option maxRecDepth 20000 in
set_option maxHeartbeats 4000000 in
theorem TB_X4_seenLine_30 {X : CX} {Q : Int32 → HS → Prop} (C : Cx X cX4_seenLine RX4 2 rm_X4_seenLine) (E : ReI X rm_X4_seenLine (fun r S => bl r ∧ Q r S)) (ht : (xh X).sig.returnType = (some .boolean)) (hn : (xh X).name = yX4_seenLine.name) {X30 : Nat → Int32 → HS → Prop} (hX30 : ∀ (v0 : Nat) (v1 : Int32) (S : HS), X30 v0 v1 S → WS X 2 0 0 30 [(0, .ref v0), (1, .int v1)] [] S) {v0 : Nat} {v1 : Int32} {S : HS} (h : B_X4_seenLine_30 Q X30 v0 v1 S) : WS X 2 0 0 30 [(0, .ref v0), (1, .int v1)] [] S := by
  refine r_iload_n (pc := 30) C dX4_seenLine_30 1 rfl ?_
  refine r_iconst (pc := 31) C (v := (5 : Int32)) dX4_seenLine_31 (by decide) ?_
  refine r_icmp_ge (pc := 32) C (tgt := 89) dX4_seenLine_32 (by decide) (fun c1 => ?_) (fun c1 => ?_)
  · have h := h.1 c1
    refine r_aload_n (pc := 89) C dX4_seenLine_89 0 rfl ?_
    obtain ⟨o_v0, h⟩ := h
    obtain ⟨a2, ea2, h⟩ := h
    refine r_getr (pc := 90) C fL_X4_18 dX4_seenLine_90 o_v0 ea2 ?_
    refine r_dup (pc := 93) C dX4_seenLine_93 rfl ?_
    obtain ⟨o_a2, h⟩ := h
    refine r_geti (pc := 94) C fL_X4_82 dX4_seenLine_94 o_a2 ?_
    refine r_topi (fun x3 ex3 => ?_)
    have h := h x3 ex3
    refine r_iconst (pc := 97) C (v := (1 : Int32)) dX4_seenLine_97 (by decide) ?_
    refine r_iadd (pc := 98) C dX4_seenLine_98 ?_
    refine r_topi (fun x4 ex4 => ?_)
    have h := h x4 ex4
    refine r_puti (pc := 99) C pfL_X4_82 dX4_seenLine_99 o_a2 ?_
    refine r_iconst (pc := 102) C (v := (1 : Int32)) dX4_seenLine_102 (by decide) ?_
    exact r_zret (pc := 103) C E ht dX4_seenLine_103 (by decide) (by decide) (Or.inr rfl) h
  · have h := h.2 c1
    refine r_iload_n (pc := 35) C dX4_seenLine_35 1 rfl ?_
    refine r_if_le (pc := 36) C (tgt := 47) dX4_seenLine_36 (by decide) (fun c5 => ?_) (fun c5 => ?_)
    · have h := h.1 c5
      exact r_sub [0, 1] rfl (T_X4_seenLine_47 C E ht hn hX30 h)
    · have h := h.2 c5
      refine r_aload_n (pc := 39) C dX4_seenLine_39 0 rfl ?_
      refine r_iconst (pc := 40) C (v := (4 : Int32)) dX4_seenLine_40 (by decide) ?_
      obtain ⟨o_v0, h⟩ := h
      refine r_callVi0 (pc := 41) C (rest := []) (a := v0) o_v0 [.int (4 : Int32)] yV_X4_sign g_621 (c_X4_sign h) dX4_seenLine_41 rfl rfl (Nat.le_of_ble_eq_true rfl) ⟨by decide, by decide⟩ ⟨by decide, by decide⟩ ⟨rfl, rfl⟩ (fun x8 S6 h g7 => ?_)
      have bx8 := h.1
      have h := h.2 g7 bx8
      have o_v0 := gr_ob g7 o_v0
      refine r_if_eq (pc := 44) C (tgt := 58) dX4_seenLine_44 (by decide) (fun c9 => ?_) (fun c9 => ?_)
      · have h := h.1 c9
        refine r_iconst (pc := 58) C (v := (0 : Int32)) dX4_seenLine_58 (by decide) ?_
        exact r_zret (pc := 59) C E ht dX4_seenLine_59 (by decide) (by decide) (Or.inl rfl) h
      · have h := h.2 c9
        exact r_sub [0, 1] rfl (T_X4_seenLine_47 C E ht hn hX30 h)
theorem T_X4_seenLine_30 {X : CX} {Q : Int32 → HS → Prop} (C : Cx X cX4_seenLine RX4 2 rm_X4_seenLine) (E : ReI X rm_X4_seenLine (fun r S => bl r ∧ Q r S)) (ht : (xh X).sig.returnType = (some .boolean)) (hn : (xh X).name = yX4_seenLine.name) {v0 : Nat} {v1 : Int32} {S : HS} (h : P_X4_seenLine_30 Q v0 v1 S) : WS X 2 0 0 30 [(0, .ref v0), (1, .int v1)] [] S :=
  h (fun v0 v1 S => WS X 2 0 0 30 [(0, .ref v0), (1, .int v1)] [] S) (fun v0 v1 S hh => TB_X4_seenLine_30 C E ht hn (fun v0 v1 S z => z) hh)
def P_X4_seenLine_0 (Q : Int32 → HS → Prop) (v0 : Nat) (S : HS) : Prop := ob S v0 4 ∧ (P_X4_someWalker v0 (fun x3 S1 => Gr S S1 → bl x3 → (((¬ x3 = 0) → (∃ a5 : Nat, fR S1 v0 5 = some a5 ∧ (ob S1 a5 8 ∧ (∃ a6 : Nat, fR S1 a5 10 = some a6 ∧ (∃ a7 : Nat, fR S1 v0 5 = some a7 ∧ (ob S1 a7 8 ∧ (∀ x8 : Int32, x8 = fI S1 a7 5 → (∀ x9 : Int32, x9 = fI S1 v0 9 → (ob S1 a6 13 ∧ (vp_in x8 (hN S1 a6) ∧ (P_X4_seenLine_30 Q v0 (0 : Int32) (sI S1 a6 x8.toNatClampNeg x9)))))))))))) ∧ ((x3 = 0) → (Q (0 : Int32) S1)))) S)
set_option maxRecDepth 20000 in
set_option maxHeartbeats 4000000 in
theorem T_X4_seenLine_0 {X : CX} {Q : Int32 → HS → Prop} (C : Cx X cX4_seenLine RX4 2 rm_X4_seenLine) (E : ReI X rm_X4_seenLine (fun r S => bl r ∧ Q r S)) (ht : (xh X).sig.returnType = (some .boolean)) (hn : (xh X).name = yX4_seenLine.name) {v0 : Nat} {S : HS} (h : P_X4_seenLine_0 Q v0 S) : WS X 2 0 0 0 [(0, .ref v0)] [] S := by
  refine r_aload_n (pc := 0) C dX4_seenLine_0 0 rfl ?_
  obtain ⟨o_v0, h⟩ := h
  refine r_callVi0 (pc := 1) C (rest := []) (a := v0) o_v0 [] yV_X4_someWalker g_617 (c_X4_someWalker h) dX4_seenLine_1 rfl rfl (Nat.le_of_ble_eq_true rfl) ⟨by decide, by decide⟩ ⟨by decide, by decide⟩ ⟨rfl, rfl⟩ (fun x3 S1 h g2 => ?_)
  have bx3 := h.1
  have h := h.2 g2 bx3
  have o_v0 := gr_ob g2 o_v0
  refine r_if_ne (pc := 4) C (tgt := 9) dX4_seenLine_4 (by decide) (fun c4 => ?_) (fun c4 => ?_)
  · have h := h.1 c4
    refine r_aload_n (pc := 9) C dX4_seenLine_9 0 rfl ?_
    obtain ⟨a5, ea5, h⟩ := h
    refine r_getr (pc := 10) C fL_X4_18 dX4_seenLine_10 o_v0 ea5 ?_
    obtain ⟨o_a5, h⟩ := h
    obtain ⟨a6, ea6, h⟩ := h
    refine r_getr (pc := 13) C fL_X4_289 dX4_seenLine_13 o_a5 ea6 ?_
    refine r_aload_n (pc := 16) C dX4_seenLine_16 0 rfl ?_
    obtain ⟨a7, ea7, h⟩ := h
    refine r_getr (pc := 17) C fL_X4_18 dX4_seenLine_17 o_v0 ea7 ?_
    obtain ⟨o_a7, h⟩ := h
    refine r_geti (pc := 20) C fL_X4_82 dX4_seenLine_20 o_a7 ?_
    refine r_topi (fun x8 ex8 => ?_)
    have h := h x8 ex8
    refine r_aload_n (pc := 23) C dX4_seenLine_23 0 rfl ?_
    refine r_geti (pc := 24) C fL_X4_147 dX4_seenLine_24 o_v0 ?_
    refine r_topi (fun x9 ex9 => ?_)
    have h := h x9 ex9
    obtain ⟨o_a6, h⟩ := h
    obtain ⟨i10, h⟩ := h
    refine r_iast (pc := 27) C dX4_seenLine_27 o_a6 i10 ?_
    refine r_iconst (pc := 28) C (v := (0 : Int32)) dX4_seenLine_28 (by decide) ?_
    refine r_istore_n (pc := 29) C dX4_seenLine_29 rfl (by decide) (lv' := [(1, .int (0 : Int32)), (0, .ref v0)]) rfl ?_
    exact r_sub [1, 0] rfl (T_X4_seenLine_30 C E ht hn h)
  · have h := h.2 c4
    refine r_iconst (pc := 7) C (v := (0 : Int32)) dX4_seenLine_7 (by decide) ?_
    exact r_zret (pc := 8) C E ht dX4_seenLine_8 (by decide) (by decide) (Or.inl rfl) h
def P_X4_seenLine (v0 : Nat) (Q : Int32 → HS → Prop) (S : HS) : Prop := P_X4_seenLine_0 Q v0 S
theorem c_X4_seenLine {l : Launch} {Ee : EE} {S : HS} {v0 : Nat} {Q : Int32 → HS → Prop} (h : P_X4_seenLine v0 Q S) : MI l yX4_seenLine cX4_seenLine 2 (some .boolean) rm_X4_seenLine Ee S [.ref v0] (fun r S => bl r ∧ Q r S) :=
  openI (by decide) (Nat.le_of_ble_eq_true rfl) (fun X C E ht hn hE hl => by subst hE; exact r_sub [0] rfl (T_X4_seenLine_0 C E ht hn h))
def rm_X4_walkerLine : Room := { frames := 9, cells := 0, slots := 0, locals := 212 }
def P_X4_walkerLine_0 (Q : Int32 → HS → Prop) (v0 : Nat) (S : HS) : Prop := ob S v0 4 ∧ (∃ a1 : Nat, fR S v0 5 = some a1 ∧ (ob S a1 8 ∧ (∃ a2 : Nat, fR S a1 9 = some a2 ∧ (∃ a3 : Nat, fR S v0 5 = some a3 ∧ (ob S a3 8 ∧ (∀ x4 : Int32, x4 = fI S a3 4 → (ob S a2 19 ∧ (vp_in x4 (hN S a2) ∧ ∃ a6 : Nat, fR S a2 x4.toNatClampNeg = some a6 ∧ (∃ a7 : Nat, fR S v0 5 = some a7 ∧ (ob S a7 8 ∧ (∀ x8 : Int32, x8 = fI S a7 4 → (P_X4_newName v0 ((8 : Int32) + x8) (fun x11 S9 => Gr S S9 → bl x11 → (((x11 = 0) → (Q (0 : Int32) S9)) ∧ ((¬ x11 = 0) → (P_X4_kindOf v0 a6 (fun x15 S13 => Gr S9 S13 → bl x15 → (((x15 = 0) → (Q (0 : Int32) S13)) ∧ ((¬ x15 = 0) → (P_X4_bodyOf v0 a6 (fun x19 S17 => Gr S13 S17 → bl x19 → (((¬ x19 = 0) → (P_X4_wordAndWhole v0 25 (1 : Int32) (9 : Int32) (fun x23 S21 => Gr S17 S21 → bl x23 → (((¬ x23 = 0) → (∀ x25 : Int32, x25 = fI S21 v0 9 → (ob S21 a6 6 ∧ (∀ x26 : Int32, x26 = fI (sI S21 a6 5 x25) a6 5 → (P_X4_wordAndWhole v0 26 x26 (9 : Int32) (fun x29 S27 => Gr (sI S21 a6 5 x25) S27 → bl x29 → (((¬ x29 = 0) → (∀ x31 : Int32, x31 = fI S27 v0 9 → (∃ a32 : Nat, fR (sI S27 a6 6 x31) v0 5 = some a32 ∧ (ob (sI S27 a6 6 x31) a32 8 ∧ (∀ x33 : Int32, x33 = fI (sI S27 a6 6 x31) a32 4 → (∀ x34 : Int32, x34 = x33 + (1 : Int32) → (Q (1 : Int32) (sI (sI S27 a6 6 x31) a32 4 x34)))))))) ∧ ((x29 = 0) → (Q (0 : Int32) S27)))) (sI S21 a6 5 x25)))))) ∧ ((x23 = 0) → (Q (0 : Int32) S21)))) S17)) ∧ ((x19 = 0) → (Q (0 : Int32) S17)))) S13)))) S9)))) S))))))))))))
set_option maxRecDepth 20000 in
set_option maxHeartbeats 4000000 in
theorem T_X4_walkerLine_0 {X : CX} {Q : Int32 → HS → Prop} (C : Cx X cX4_walkerLine RX4 2 rm_X4_walkerLine) (E : ReI X rm_X4_walkerLine (fun r S => bl r ∧ Q r S)) (ht : (xh X).sig.returnType = (some .boolean)) (hn : (xh X).name = yX4_walkerLine.name) {v0 : Nat} {S : HS} (h : P_X4_walkerLine_0 Q v0 S) : WS X 2 0 0 0 [(0, .ref v0)] [] S := by
  refine r_aload_n (pc := 0) C dX4_walkerLine_0 0 rfl ?_
  obtain ⟨o_v0, h⟩ := h
  obtain ⟨a1, ea1, h⟩ := h
  refine r_getr (pc := 1) C fL_X4_18 dX4_walkerLine_1 o_v0 ea1 ?_
  obtain ⟨o_a1, h⟩ := h
  obtain ⟨a2, ea2, h⟩ := h
  refine r_getr (pc := 4) C fL_X4_240 dX4_walkerLine_4 o_a1 ea2 ?_
  refine r_aload_n (pc := 7) C dX4_walkerLine_7 0 rfl ?_
  obtain ⟨a3, ea3, h⟩ := h
  refine r_getr (pc := 8) C fL_X4_18 dX4_walkerLine_8 o_v0 ea3 ?_
  obtain ⟨o_a3, h⟩ := h
  refine r_geti (pc := 11) C fL_X4_74 dX4_walkerLine_11 o_a3 ?_
  refine r_topi (fun x4 ex4 => ?_)
  have h := h x4 ex4
  obtain ⟨o_a2, h⟩ := h
  obtain ⟨i5, a6, ea6, h⟩ := h
  refine r_aald19 (pc := 14) C dX4_walkerLine_14 o_a2 i5 ea6 ?_
  refine r_astore_n (pc := 15) C dX4_walkerLine_15 rfl (by decide) (lv' := [(1, .ref a6), (0, .ref v0)]) rfl ?_
  refine r_aload_n (pc := 16) C dX4_walkerLine_16 1 rfl ?_
  refine r_bipush (pc := 17) C (v := (8 : Int32)) dX4_walkerLine_17 (by decide) ?_
  refine r_aload_n (pc := 19) C dX4_walkerLine_19 1 rfl ?_
  obtain ⟨a7, ea7, h⟩ := h
  refine r_getr (pc := 20) C fL_X4_18 dX4_walkerLine_20 o_v0 ea7 ?_
  obtain ⟨o_a7, h⟩ := h
  refine r_geti (pc := 23) C fL_X4_74 dX4_walkerLine_23 o_a7 ?_
  refine r_topi (fun x8 ex8 => ?_)
  have h := h x8 ex8
  refine r_iadd (pc := 26) C dX4_walkerLine_26 ?_
  refine r_callVi0 (pc := 27) C (rest := []) (a := v0) o_v0 [.int ((8 : Int32) + x8)] yV_X4_newName g_562 (c_X4_newName h) dX4_walkerLine_27 rfl rfl (Nat.le_of_ble_eq_true rfl) ⟨by decide, by decide⟩ ⟨by decide, by decide⟩ ⟨rfl, rfl⟩ (fun x11 S9 h g10 => ?_)
  have bx11 := h.1
  have h := h.2 g10 bx11
  have o_a1 := gr_ob g10 o_a1
  have o_a2 := gr_ob g10 o_a2
  have o_a3 := gr_ob g10 o_a3
  have o_a7 := gr_ob g10 o_a7
  have o_v0 := gr_ob g10 o_v0
  refine r_if_eq (pc := 30) C (tgt := 49) dX4_walkerLine_30 (by decide) (fun c12 => ?_) (fun c12 => ?_)
  · have h := h.1 c12
    refine r_iconst (pc := 49) C (v := (0 : Int32)) dX4_walkerLine_49 (by decide) ?_
    exact r_zret (pc := 50) C E ht dX4_walkerLine_50 (by decide) (by decide) (Or.inl rfl) h
  · have h := h.2 c12
    refine r_aload_n (pc := 33) C dX4_walkerLine_33 1 rfl ?_
    refine r_aload_n (pc := 34) C dX4_walkerLine_34 0 rfl ?_
    refine r_callVi0 (pc := 35) C (rest := []) (a := v0) o_v0 [.ref a6] yV_X4_kindOf g_592 (c_X4_kindOf h) dX4_walkerLine_35 rfl rfl (Nat.le_of_ble_eq_true rfl) ⟨by decide, by decide⟩ ⟨by decide, by decide⟩ ⟨rfl, rfl⟩ (fun x15 S13 h g14 => ?_)
    have bx15 := h.1
    have h := h.2 g14 bx15
    have o_a1 := gr_ob g14 o_a1
    have o_a2 := gr_ob g14 o_a2
    have o_a3 := gr_ob g14 o_a3
    have o_a7 := gr_ob g14 o_a7
    have o_v0 := gr_ob g14 o_v0
    refine r_if_eq (pc := 38) C (tgt := 49) dX4_walkerLine_38 (by decide) (fun c16 => ?_) (fun c16 => ?_)
    · have h := h.1 c16
      refine r_iconst (pc := 49) C (v := (0 : Int32)) dX4_walkerLine_49 (by decide) ?_
      exact r_zret (pc := 50) C E ht dX4_walkerLine_50 (by decide) (by decide) (Or.inl rfl) h
    · have h := h.2 c16
      refine r_aload_n (pc := 41) C dX4_walkerLine_41 1 rfl ?_
      refine r_aload_n (pc := 42) C dX4_walkerLine_42 0 rfl ?_
      refine r_callVi0 (pc := 43) C (rest := []) (a := v0) o_v0 [.ref a6] yV_X4_bodyOf g_600 (c_X4_bodyOf h) dX4_walkerLine_43 rfl rfl (Nat.le_of_ble_eq_true rfl) ⟨by decide, by decide⟩ ⟨by decide, by decide⟩ ⟨rfl, rfl⟩ (fun x19 S17 h g18 => ?_)
      have bx19 := h.1
      have h := h.2 g18 bx19
      have o_a1 := gr_ob g18 o_a1
      have o_a2 := gr_ob g18 o_a2
      have o_a3 := gr_ob g18 o_a3
      have o_a7 := gr_ob g18 o_a7
      have o_v0 := gr_ob g18 o_v0
      refine r_if_ne (pc := 46) C (tgt := 51) dX4_walkerLine_46 (by decide) (fun c20 => ?_) (fun c20 => ?_)
      · have h := h.1 c20
        refine r_aload_n (pc := 51) C dX4_walkerLine_51 1 rfl ?_
        refine r_lds (pc := 52) C 25 rfl dX4_walkerLine_52 ?_
        refine r_iconst (pc := 54) C (v := (1 : Int32)) dX4_walkerLine_54 (by decide) ?_
        refine r_bipush (pc := 55) C (v := (9 : Int32)) dX4_walkerLine_55 (by decide) ?_
        refine r_callVi0 (pc := 57) C (rest := []) (a := v0) o_v0 [.ref (eK (xE X) 25), .int (1 : Int32), .int (9 : Int32)] yV_X4_wordAndWhole g_524 (c_X4_wordAndWhole h) dX4_walkerLine_57 rfl rfl (Nat.le_of_ble_eq_true rfl) ⟨by decide, by decide⟩ ⟨by decide, by decide⟩ ⟨rfl, rfl⟩ (fun x23 S21 h g22 => ?_)
        have bx23 := h.1
        have h := h.2 g22 bx23
        have o_a1 := gr_ob g22 o_a1
        have o_a2 := gr_ob g22 o_a2
        have o_a3 := gr_ob g22 o_a3
        have o_a7 := gr_ob g22 o_a7
        have o_v0 := gr_ob g22 o_v0
        refine r_if_ne (pc := 60) C (tgt := 65) dX4_walkerLine_60 (by decide) (fun c24 => ?_) (fun c24 => ?_)
        · have h := h.1 c24
          refine r_aload_n (pc := 65) C dX4_walkerLine_65 0 rfl ?_
          refine r_aload_n (pc := 66) C dX4_walkerLine_66 1 rfl ?_
          refine r_geti (pc := 67) C fL_X4_147 dX4_walkerLine_67 o_v0 ?_
          refine r_topi (fun x25 ex25 => ?_)
          have h := h x25 ex25
          obtain ⟨o_a6, h⟩ := h
          refine r_puti (pc := 70) C pfL_X4_252 dX4_walkerLine_70 o_a6 ?_
          refine r_aload_n (pc := 73) C dX4_walkerLine_73 1 rfl ?_
          refine r_ldsw (pc := 74) C 26 rfl dX4_walkerLine_74 ?_
          refine r_aload_n (pc := 77) C dX4_walkerLine_77 0 rfl ?_
          refine r_geti (pc := 78) C fL_X4_252 dX4_walkerLine_78 o_a6 ?_
          refine r_topi (fun x26 ex26 => ?_)
          have h := h x26 ex26
          refine r_bipush (pc := 81) C (v := (9 : Int32)) dX4_walkerLine_81 (by decide) ?_
          refine r_callVi0 (pc := 83) C (rest := []) (a := v0) o_v0 [.ref (eK (xE X) 26), .int x26, .int (9 : Int32)] yV_X4_wordAndWhole g_524 (c_X4_wordAndWhole h) dX4_walkerLine_83 rfl rfl (Nat.le_of_ble_eq_true rfl) ⟨by decide, by decide⟩ ⟨by decide, by decide⟩ ⟨rfl, rfl⟩ (fun x29 S27 h g28 => ?_)
          have bx29 := h.1
          have h := h.2 g28 bx29
          have o_a1 := gr_ob g28 o_a1
          have o_a2 := gr_ob g28 o_a2
          have o_a3 := gr_ob g28 o_a3
          have o_a6 := gr_ob g28 o_a6
          have o_a7 := gr_ob g28 o_a7
          have o_v0 := gr_ob g28 o_v0
          refine r_if_ne (pc := 86) C (tgt := 91) dX4_walkerLine_86 (by decide) (fun c30 => ?_) (fun c30 => ?_)
          · have h := h.1 c30
            refine r_aload_n (pc := 91) C dX4_walkerLine_91 0 rfl ?_
            refine r_aload_n (pc := 92) C dX4_walkerLine_92 1 rfl ?_
            refine r_geti (pc := 93) C fL_X4_147 dX4_walkerLine_93 o_v0 ?_
            refine r_topi (fun x31 ex31 => ?_)
            have h := h x31 ex31
            refine r_puti (pc := 96) C pfL_X4_259 dX4_walkerLine_96 o_a6 ?_
            refine r_aload_n (pc := 99) C dX4_walkerLine_99 1 rfl ?_
            obtain ⟨a32, ea32, h⟩ := h
            refine r_getr (pc := 100) C fL_X4_18 dX4_walkerLine_100 o_v0 ea32 ?_
            refine r_dup (pc := 103) C dX4_walkerLine_103 rfl ?_
            obtain ⟨o_a32, h⟩ := h
            refine r_geti (pc := 104) C fL_X4_74 dX4_walkerLine_104 o_a32 ?_
            refine r_topi (fun x33 ex33 => ?_)
            have h := h x33 ex33
            refine r_iconst (pc := 107) C (v := (1 : Int32)) dX4_walkerLine_107 (by decide) ?_
            refine r_iadd (pc := 108) C dX4_walkerLine_108 ?_
            refine r_topi (fun x34 ex34 => ?_)
            have h := h x34 ex34
            refine r_puti (pc := 109) C pfL_X4_74 dX4_walkerLine_109 o_a32 ?_
            refine r_iconst (pc := 112) C (v := (1 : Int32)) dX4_walkerLine_112 (by decide) ?_
            exact r_zret (pc := 113) C E ht dX4_walkerLine_113 (by decide) (by decide) (Or.inr rfl) h
          · have h := h.2 c30
            refine r_iconst (pc := 89) C (v := (0 : Int32)) dX4_walkerLine_89 (by decide) ?_
            exact r_zret (pc := 90) C E ht dX4_walkerLine_90 (by decide) (by decide) (Or.inl rfl) h
        · have h := h.2 c24
          refine r_iconst (pc := 63) C (v := (0 : Int32)) dX4_walkerLine_63 (by decide) ?_
          exact r_zret (pc := 64) C E ht dX4_walkerLine_64 (by decide) (by decide) (Or.inl rfl) h
      · have h := h.2 c20
        refine r_iconst (pc := 49) C (v := (0 : Int32)) dX4_walkerLine_49 (by decide) ?_
        exact r_zret (pc := 50) C E ht dX4_walkerLine_50 (by decide) (by decide) (Or.inl rfl) h
def P_X4_walkerLine (v0 : Nat) (Q : Int32 → HS → Prop) (S : HS) : Prop := P_X4_walkerLine_0 Q v0 S
theorem c_X4_walkerLine {l : Launch} {Ee : EE} {S : HS} {v0 : Nat} {Q : Int32 → HS → Prop} (h : P_X4_walkerLine v0 Q S) : MI l yX4_walkerLine cX4_walkerLine 2 (some .boolean) rm_X4_walkerLine Ee S [.ref v0] (fun r S => bl r ∧ Q r S) :=
  openI (by decide) (Nat.le_of_ble_eq_true rfl) (fun X C E ht hn hE hl => by subst hE; exact r_sub [0] rfl (T_X4_walkerLine_0 C E ht hn h))
def rm_X4_worldLine : Room := { frames := 8, cells := 0, slots := 0, locals := 188 }
def P_X4_worldLine_0 (Q : Int32 → HS → Prop) (v0 : Nat) (S : HS) : Prop := ob S v0 4 ∧ (∃ a1 : Nat, fR S v0 5 = some a1 ∧ (ob S a1 8 ∧ (P_X8_isTold a1 (fun x4 S2 => Gr S S2 → bl x4 → (((x4 = 0) → (P_X4_next v0 (fun S6 => Gr S2 S6 → (P_X4_wordAndWhole v0 1 (5 : Int32) (60 : Int32) (fun x11 S9 => Gr S6 S9 → bl x11 → (((¬ x11 = 0) → (∃ a13 : Nat, fR S9 v0 5 = some a13 ∧ (∀ x14 : Int32, x14 = fI S9 v0 9 → (ob S9 a13 8 ∧ (Q (1 : Int32) (sI S9 a13 0 x14)))))) ∧ ((x11 = 0) → (Q (0 : Int32) S9)))) S6)) S2)) ∧ ((¬ x4 = 0) → (P_X4_fail v0 (3 : Int32) (fun x17 S15 => Gr S2 S15 → bl x17 → (bl x17 ∧ Q x17 S15)) S2)))) S)))
set_option maxRecDepth 20000 in
set_option maxHeartbeats 4000000 in
theorem T_X4_worldLine_0 {X : CX} {Q : Int32 → HS → Prop} (C : Cx X cX4_worldLine RX4 1 rm_X4_worldLine) (E : ReI X rm_X4_worldLine (fun r S => bl r ∧ Q r S)) (ht : (xh X).sig.returnType = (some .boolean)) (hn : (xh X).name = yX4_worldLine.name) {v0 : Nat} {S : HS} (h : P_X4_worldLine_0 Q v0 S) : WS X 1 0 0 0 [(0, .ref v0)] [] S := by
  refine r_aload_n (pc := 0) C dX4_worldLine_0 0 rfl ?_
  obtain ⟨o_v0, h⟩ := h
  obtain ⟨a1, ea1, h⟩ := h
  refine r_getr (pc := 1) C fL_X4_18 dX4_worldLine_1 o_v0 ea1 ?_
  obtain ⟨o_a1, h⟩ := h
  refine r_callVi0 (pc := 4) C (rest := []) (a := a1) o_a1 [] yV_X8_isTold g_515 (c_X8_isTold h) dX4_worldLine_4 rfl rfl (Nat.le_of_ble_eq_true rfl) ⟨by decide, by decide⟩ ⟨by decide, by decide⟩ ⟨rfl, rfl⟩ (fun x4 S2 h g3 => ?_)
  have bx4 := h.1
  have h := h.2 g3 bx4
  have o_a1 := gr_ob g3 o_a1
  have o_v0 := gr_ob g3 o_v0
  refine r_if_eq (pc := 7) C (tgt := 16) dX4_worldLine_7 (by decide) (fun c5 => ?_) (fun c5 => ?_)
  · have h := h.1 c5
    refine r_aload_n (pc := 16) C dX4_worldLine_16 0 rfl ?_
    refine r_callVv0 (pc := 17) C (rest := []) (a := v0) o_v0 [] yV_X4_next g_449 (c_X4_next h) dX4_worldLine_17 rfl rfl (Nat.le_of_ble_eq_true rfl) ⟨by decide, by decide⟩ ⟨by decide, by decide⟩ ⟨rfl, rfl⟩ (fun S6 h g7 => ?_)
    have h := h g7
    have o_a1 := gr_ob g7 o_a1
    have o_v0 := gr_ob g7 o_v0
    refine r_aload_n (pc := 20) C dX4_worldLine_20 0 rfl ?_
    refine r_lds (pc := 21) C 1 rfl dX4_worldLine_21 ?_
    refine r_iconst (pc := 23) C (v := (5 : Int32)) dX4_worldLine_23 (by decide) ?_
    refine r_bipush (pc := 24) C (v := (60 : Int32)) dX4_worldLine_24 (by decide) ?_
    refine r_callVi0 (pc := 26) C (rest := []) (a := v0) o_v0 [.ref (eK (xE X) 1), .int (5 : Int32), .int (60 : Int32)] yV_X4_wordAndWhole g_524 (c_X4_wordAndWhole h) dX4_worldLine_26 rfl rfl (Nat.le_of_ble_eq_true rfl) ⟨by decide, by decide⟩ ⟨by decide, by decide⟩ ⟨rfl, rfl⟩ (fun x11 S9 h g10 => ?_)
    have bx11 := h.1
    have h := h.2 g10 bx11
    have o_a1 := gr_ob g10 o_a1
    have o_v0 := gr_ob g10 o_v0
    refine r_if_ne (pc := 29) C (tgt := 34) dX4_worldLine_29 (by decide) (fun c12 => ?_) (fun c12 => ?_)
    · have h := h.1 c12
      refine r_aload_n (pc := 34) C dX4_worldLine_34 0 rfl ?_
      obtain ⟨a13, ea13, h⟩ := h
      refine r_getr (pc := 35) C fL_X4_18 dX4_worldLine_35 o_v0 ea13 ?_
      refine r_aload_n (pc := 38) C dX4_worldLine_38 0 rfl ?_
      refine r_geti (pc := 39) C fL_X4_147 dX4_worldLine_39 o_v0 ?_
      refine r_topi (fun x14 ex14 => ?_)
      have h := h x14 ex14
      obtain ⟨o_a13, h⟩ := h
      refine r_puti (pc := 42) C pfL_X4_185 dX4_worldLine_42 o_a13 ?_
      refine r_iconst (pc := 45) C (v := (1 : Int32)) dX4_worldLine_45 (by decide) ?_
      exact r_zret (pc := 46) C E ht dX4_worldLine_46 (by decide) (by decide) (Or.inr rfl) h
    · have h := h.2 c12
      refine r_iconst (pc := 32) C (v := (0 : Int32)) dX4_worldLine_32 (by decide) ?_
      exact r_zret (pc := 33) C E ht dX4_worldLine_33 (by decide) (by decide) (Or.inl rfl) h
  · have h := h.2 c5
    refine r_aload_n (pc := 10) C dX4_worldLine_10 0 rfl ?_
    refine r_iconst (pc := 11) C (v := (3 : Int32)) dX4_worldLine_11 (by decide) ?_
    refine r_callVi0 (pc := 12) C (rest := []) (a := v0) o_v0 [.int (3 : Int32)] yV_X4_fail g_519 (c_X4_fail h) dX4_worldLine_12 rfl rfl (Nat.le_of_ble_eq_true rfl) ⟨by decide, by decide⟩ ⟨by decide, by decide⟩ ⟨rfl, rfl⟩ (fun x17 S15 h g16 => ?_)
    have bx17 := h.1
    have h := h.2 g16 bx17
    have o_a1 := gr_ob g16 o_a1
    have o_v0 := gr_ob g16 o_v0
    exact r_zret (pc := 15) C E ht dX4_worldLine_15 (by decide) (by decide) h.1 h.2
def P_X4_worldLine (v0 : Nat) (Q : Int32 → HS → Prop) (S : HS) : Prop := P_X4_worldLine_0 Q v0 S
theorem c_X4_worldLine {l : Launch} {Ee : EE} {S : HS} {v0 : Nat} {Q : Int32 → HS → Prop} (h : P_X4_worldLine v0 Q S) : MI l yX4_worldLine cX4_worldLine 1 (some .boolean) rm_X4_worldLine Ee S [.ref v0] (fun r S => bl r ∧ Q r S) :=
  openI (by decide) (Nat.le_of_ble_eq_true rfl) (fun X C E ht hn hE hl => by subst hE; exact r_sub [0] rfl (T_X4_worldLine_0 C E ht hn h))
def rm_X4_read : Room := { frames := 10, cells := 0, slots := 0, locals := 233 }
def P_X4_read_280 (Q : Int32 → HS → Prop) (v0 : Nat) (S : HS) : Prop := ob S v0 4 ∧ (P_X4_fail v0 (6 : Int32) (fun x3 S1 => Gr S S1 → bl x3 → (((x3 = 0) → (Q (0 : Int32) S1)) ∧ ((¬ x3 = 0) → (Q (1 : Int32) S1)))) S)
set_option maxRecDepth 20000 in
set_option maxHeartbeats 4000000 in
theorem T_X4_read_280 {X : CX} {Q : Int32 → HS → Prop} (C : Cx X cX4_read RX4 5 rm_X4_read) (E : ReI X rm_X4_read (fun r S => bl r ∧ Q r S)) (ht : (xh X).sig.returnType = (some .boolean)) (hn : (xh X).name = yX4_read.name) {v0 : Nat} {S : HS} (h : P_X4_read_280 Q v0 S) : WS X 5 0 0 280 [(0, .ref v0)] [] S := by
  refine r_aload_n (pc := 280) C dX4_read_280 0 rfl ?_
  refine r_bipush (pc := 281) C (v := (6 : Int32)) dX4_read_281 (by decide) ?_
  obtain ⟨o_v0, h⟩ := h
  refine r_callVi0 (pc := 283) C (rest := []) (a := v0) o_v0 [.int (6 : Int32)] yV_X4_fail g_519 (c_X4_fail h) dX4_read_283 rfl rfl (Nat.le_of_ble_eq_true rfl) ⟨by decide, by decide⟩ ⟨by decide, by decide⟩ ⟨rfl, rfl⟩ (fun x3 S1 h g2 => ?_)
  have bx3 := h.1
  have h := h.2 g2 bx3
  have o_v0 := gr_ob g2 o_v0
  refine r_if_eq (pc := 286) C (tgt := 293) dX4_read_286 (by decide) (fun c4 => ?_) (fun c4 => ?_)
  · have h := h.1 c4
    refine r_iconst (pc := 293) C (v := (0 : Int32)) dX4_read_293 (by decide) ?_
    exact r_zret (pc := 294) C E ht dX4_read_294 (by decide) (by decide) (Or.inl rfl) h
  · have h := h.2 c4
    refine r_iconst (pc := 289) C (v := (1 : Int32)) dX4_read_289 (by decide) ?_
    refine r_goto (pc := 290) C (tgt := 294) dX4_read_290 (by decide) ?_
    exact r_zret (pc := 294) C E ht dX4_read_294 (by decide) (by decide) (Or.inr rfl) h
def P_X4_read_295 (Q : Int32 → HS → Prop) (X8 : Nat → Int32 → HS → Prop) (v0 : Nat) (v3 : Int32) (v4 : Int32) (S : HS) : Prop := ((v4 = 0) → (Q (0 : Int32) S)) ∧ ((¬ v4 = 0) → (ob S v0 4 ∧ (P_X4_sign v0 (3 : Int32) (fun x4 S2 => Gr S S2 → bl x4 → (((¬ x4 = 0) → (∀ x6 : Int32, x6 = v3 + (1 : Int32) → (X8 v0 x6 S2))) ∧ ((x4 = 0) → (Q (0 : Int32) S2)))) S)))
set_option maxRecDepth 20000 in
set_option maxHeartbeats 4000000 in
theorem T_X4_read_295 {X : CX} {Q : Int32 → HS → Prop} (C : Cx X cX4_read RX4 5 rm_X4_read) (E : ReI X rm_X4_read (fun r S => bl r ∧ Q r S)) (ht : (xh X).sig.returnType = (some .boolean)) (hn : (xh X).name = yX4_read.name) {X8 : Nat → Int32 → HS → Prop} (hX8 : ∀ (v0 : Nat) (v3 : Int32) (S : HS), X8 v0 v3 S → WS X 5 0 0 8 [(0, .ref v0), (3, .int v3)] [] S) {v0 : Nat} {v3 : Int32} {v4 : Int32} {S : HS} (h : P_X4_read_295 Q X8 v0 v3 v4 S) : WS X 5 0 0 295 [(0, .ref v0), (3, .int v3), (4, .int v4)] [] S := by
  refine r_iload (pc := 295) C dX4_read_295 2 rfl ?_
  refine r_if_eq (pc := 297) C (tgt := 308) dX4_read_297 (by decide) (fun c1 => ?_) (fun c1 => ?_)
  · have h := h.1 c1
    refine r_iconst (pc := 308) C (v := (0 : Int32)) dX4_read_308 (by decide) ?_
    exact r_zret (pc := 309) C E ht dX4_read_309 (by decide) (by decide) (Or.inl rfl) h
  · have h := h.2 c1
    refine r_aload_n (pc := 300) C dX4_read_300 0 rfl ?_
    refine r_iconst (pc := 301) C (v := (3 : Int32)) dX4_read_301 (by decide) ?_
    obtain ⟨o_v0, h⟩ := h
    refine r_callVi0 (pc := 302) C (rest := []) (a := v0) o_v0 [.int (3 : Int32)] yV_X4_sign g_621 (c_X4_sign h) dX4_read_302 rfl rfl (Nat.le_of_ble_eq_true rfl) ⟨by decide, by decide⟩ ⟨by decide, by decide⟩ ⟨rfl, rfl⟩ (fun x4 S2 h g3 => ?_)
    have bx4 := h.1
    have h := h.2 g3 bx4
    have o_v0 := gr_ob g3 o_v0
    refine r_if_ne (pc := 305) C (tgt := 310) dX4_read_305 (by decide) (fun c5 => ?_) (fun c5 => ?_)
    · have h := h.1 c5
      obtain ⟨x6, ex6⟩ : ∃ z : Int32, z = v3 + (1 : Int32) := ⟨_, rfl⟩
      have h := h x6 ex6
      refine r_iinc (pc := 310) C (v := x6) (lv' := [(3, .int x6), (0, .ref v0), (4, .int v4)]) dX4_read_310 1 rfl ex6.symm (by decide) rfl ?_
      refine r_goto (pc := 313) C (tgt := 8) dX4_read_313 (by decide) ?_
      exact r_sub [1, 0] rfl (hX8 v0 x6 S2 h)
    · have h := h.2 c5
      refine r_iconst (pc := 308) C (v := (0 : Int32)) dX4_read_308 (by decide) ?_
      exact r_zret (pc := 309) C E ht dX4_read_309 (by decide) (by decide) (Or.inl rfl) h
def P_X4_read_248 (Q : Int32 → HS → Prop) (X8 : Nat → Int32 → HS → Prop) (v0 : Nat) (v3 : Int32) (v4 : Int32) (S : HS) : Prop := ((v4 = 0) → (P_X4_read_295 Q X8 v0 v3 v4 S)) ∧ ((¬ v4 = 0) → (ob S v0 4 ∧ (∀ x2 : Int32, x2 = fI S v0 6 → (((¬ x2 = 0) → (P_X4_read_295 Q X8 v0 v3 v4 S)) ∧ ((x2 = 0) → (∃ a4 : Nat, fR S v0 5 = some a4 ∧ (ob S a4 8 ∧ (∀ x5 : Int32, x5 = fI S a4 2 → (((x5 ≤ 0) → (P_X4_read_280 Q v0 S)) ∧ ((¬ x5 ≤ 0) → (∃ a7 : Nat, fR S v0 5 = some a7 ∧ (ob S a7 8 ∧ (∀ x8 : Int32, x8 = fI S a7 4 → (((0 < x8) → (Q (1 : Int32) S)) ∧ ((¬ 0 < x8) → (P_X4_read_280 Q v0 S))))))))))))))))
set_option maxRecDepth 20000 in
set_option maxHeartbeats 4000000 in
theorem T_X4_read_248 {X : CX} {Q : Int32 → HS → Prop} (C : Cx X cX4_read RX4 5 rm_X4_read) (E : ReI X rm_X4_read (fun r S => bl r ∧ Q r S)) (ht : (xh X).sig.returnType = (some .boolean)) (hn : (xh X).name = yX4_read.name) {X8 : Nat → Int32 → HS → Prop} (hX8 : ∀ (v0 : Nat) (v3 : Int32) (S : HS), X8 v0 v3 S → WS X 5 0 0 8 [(0, .ref v0), (3, .int v3)] [] S) {v0 : Nat} {v3 : Int32} {v4 : Int32} {S : HS} (h : P_X4_read_248 Q X8 v0 v3 v4 S) : WS X 5 0 0 248 [(0, .ref v0), (3, .int v3), (4, .int v4)] [] S := by
  refine r_iload (pc := 248) C dX4_read_248 2 rfl ?_
  refine r_if_eq (pc := 250) C (tgt := 295) dX4_read_250 (by decide) (fun c1 => ?_) (fun c1 => ?_)
  · have h := h.1 c1
    exact r_sub [0, 1, 2] rfl (T_X4_read_295 C E ht hn hX8 h)
  · have h := h.2 c1
    refine r_aload_n (pc := 253) C dX4_read_253 0 rfl ?_
    obtain ⟨o_v0, h⟩ := h
    refine r_geti (pc := 254) C fL_X4_92 dX4_read_254 o_v0 ?_
    refine r_topi (fun x2 ex2 => ?_)
    have h := h x2 ex2
    refine r_if_ne (pc := 257) C (tgt := 295) dX4_read_257 (by decide) (fun c3 => ?_) (fun c3 => ?_)
    · have h := h.1 c3
      exact r_sub [0, 1, 2] rfl (T_X4_read_295 C E ht hn hX8 h)
    · have h := h.2 c3
      refine r_aload_n (pc := 260) C dX4_read_260 0 rfl ?_
      obtain ⟨a4, ea4, h⟩ := h
      refine r_getr (pc := 261) C fL_X4_18 dX4_read_261 o_v0 ea4 ?_
      obtain ⟨o_a4, h⟩ := h
      refine r_geti (pc := 264) C fL_X4_58 dX4_read_264 o_a4 ?_
      refine r_topi (fun x5 ex5 => ?_)
      have h := h x5 ex5
      refine r_if_le (pc := 267) C (tgt := 280) dX4_read_267 (by decide) (fun c6 => ?_) (fun c6 => ?_)
      · have h := h.1 c6
        exact r_sub [0] rfl (T_X4_read_280 C E ht hn h)
      · have h := h.2 c6
        refine r_aload_n (pc := 270) C dX4_read_270 0 rfl ?_
        obtain ⟨a7, ea7, h⟩ := h
        refine r_getr (pc := 271) C fL_X4_18 dX4_read_271 o_v0 ea7 ?_
        obtain ⟨o_a7, h⟩ := h
        refine r_geti (pc := 274) C fL_X4_74 dX4_read_274 o_a7 ?_
        refine r_topi (fun x8 ex8 => ?_)
        have h := h x8 ex8
        refine r_if_gt (pc := 277) C (tgt := 289) dX4_read_277 (by decide) (fun c9 => ?_) (fun c9 => ?_)
        · have h := h.1 c9
          refine r_iconst (pc := 289) C (v := (1 : Int32)) dX4_read_289 (by decide) ?_
          refine r_goto (pc := 290) C (tgt := 294) dX4_read_290 (by decide) ?_
          exact r_zret (pc := 294) C E ht dX4_read_294 (by decide) (by decide) (Or.inr rfl) h
        · have h := h.2 c9
          exact r_sub [0] rfl (T_X4_read_280 C E ht hn h)
def P_X4_read_70 (Q : Int32 → HS → Prop) (X8 : Nat → Int32 → HS → Prop) (v0 : Nat) (v3 : Int32) (s0 : Int32) (S : HS) : Prop := P_X4_read_248 Q X8 v0 v3 s0 S
set_option maxRecDepth 20000 in
set_option maxHeartbeats 4000000 in
theorem T_X4_read_70 {X : CX} {Q : Int32 → HS → Prop} (C : Cx X cX4_read RX4 5 rm_X4_read) (E : ReI X rm_X4_read (fun r S => bl r ∧ Q r S)) (ht : (xh X).sig.returnType = (some .boolean)) (hn : (xh X).name = yX4_read.name) {X8 : Nat → Int32 → HS → Prop} (hX8 : ∀ (v0 : Nat) (v3 : Int32) (S : HS), X8 v0 v3 S → WS X 5 0 0 8 [(0, .ref v0), (3, .int v3)] [] S) {v0 : Nat} {v3 : Int32} {s0 : Int32} {S : HS} (h : P_X4_read_70 Q X8 v0 v3 s0 S) : WS X 5 0 0 70 [(0, .ref v0), (3, .int v3)] [.int s0] S := by
  refine r_istore (pc := 70) C dX4_read_70 (by decide) (lv' := [(4, .int s0), (0, .ref v0), (3, .int v3)]) rfl ?_
  refine r_goto (pc := 72) C (tgt := 248) dX4_read_72 (by decide) ?_
  exact r_sub [1, 2, 0] rfl (T_X4_read_248 C E ht hn hX8 h)
def P_X4_read_69 (Q : Int32 → HS → Prop) (X8 : Nat → Int32 → HS → Prop) (v0 : Nat) (v3 : Int32) (S : HS) : Prop := P_X4_read_70 Q X8 v0 v3 (0 : Int32) S
set_option maxRecDepth 20000 in
set_option maxHeartbeats 4000000 in
theorem T_X4_read_69 {X : CX} {Q : Int32 → HS → Prop} (C : Cx X cX4_read RX4 5 rm_X4_read) (E : ReI X rm_X4_read (fun r S => bl r ∧ Q r S)) (ht : (xh X).sig.returnType = (some .boolean)) (hn : (xh X).name = yX4_read.name) {X8 : Nat → Int32 → HS → Prop} (hX8 : ∀ (v0 : Nat) (v3 : Int32) (S : HS), X8 v0 v3 S → WS X 5 0 0 8 [(0, .ref v0), (3, .int v3)] [] S) {v0 : Nat} {v3 : Int32} {S : HS} (h : P_X4_read_69 Q X8 v0 v3 S) : WS X 5 0 0 69 [(0, .ref v0), (3, .int v3)] [] S := by
  refine r_iconst (pc := 69) C (v := (0 : Int32)) dX4_read_69 (by decide) ?_
  exact r_sub [0, 1] rfl (T_X4_read_70 C E ht hn hX8 h)
def P_X4_read_112 (Q : Int32 → HS → Prop) (X8 : Nat → Int32 → HS → Prop) (v0 : Nat) (v3 : Int32) (s0 : Int32) (S : HS) : Prop := P_X4_read_248 Q X8 v0 v3 s0 S
set_option maxRecDepth 20000 in
set_option maxHeartbeats 4000000 in
theorem T_X4_read_112 {X : CX} {Q : Int32 → HS → Prop} (C : Cx X cX4_read RX4 5 rm_X4_read) (E : ReI X rm_X4_read (fun r S => bl r ∧ Q r S)) (ht : (xh X).sig.returnType = (some .boolean)) (hn : (xh X).name = yX4_read.name) {X8 : Nat → Int32 → HS → Prop} (hX8 : ∀ (v0 : Nat) (v3 : Int32) (S : HS), X8 v0 v3 S → WS X 5 0 0 8 [(0, .ref v0), (3, .int v3)] [] S) {v0 : Nat} {v3 : Int32} {s0 : Int32} {S : HS} (h : P_X4_read_112 Q X8 v0 v3 s0 S) : WS X 5 0 0 112 [(0, .ref v0), (3, .int v3)] [.int s0] S := by
  refine r_istore (pc := 112) C dX4_read_112 (by decide) (lv' := [(4, .int s0), (0, .ref v0), (3, .int v3)]) rfl ?_
  refine r_goto (pc := 114) C (tgt := 248) dX4_read_114 (by decide) ?_
  exact r_sub [1, 2, 0] rfl (T_X4_read_248 C E ht hn hX8 h)
def P_X4_read_111 (Q : Int32 → HS → Prop) (X8 : Nat → Int32 → HS → Prop) (v0 : Nat) (v3 : Int32) (S : HS) : Prop := P_X4_read_112 Q X8 v0 v3 (0 : Int32) S
set_option maxRecDepth 20000 in
set_option maxHeartbeats 4000000 in
theorem T_X4_read_111 {X : CX} {Q : Int32 → HS → Prop} (C : Cx X cX4_read RX4 5 rm_X4_read) (E : ReI X rm_X4_read (fun r S => bl r ∧ Q r S)) (ht : (xh X).sig.returnType = (some .boolean)) (hn : (xh X).name = yX4_read.name) {X8 : Nat → Int32 → HS → Prop} (hX8 : ∀ (v0 : Nat) (v3 : Int32) (S : HS), X8 v0 v3 S → WS X 5 0 0 8 [(0, .ref v0), (3, .int v3)] [] S) {v0 : Nat} {v3 : Int32} {S : HS} (h : P_X4_read_111 Q X8 v0 v3 S) : WS X 5 0 0 111 [(0, .ref v0), (3, .int v3)] [] S := by
  refine r_iconst (pc := 111) C (v := (0 : Int32)) dX4_read_111 (by decide) ?_
  exact r_sub [0, 1] rfl (T_X4_read_112 C E ht hn hX8 h)
def P_X4_read_154 (Q : Int32 → HS → Prop) (X8 : Nat → Int32 → HS → Prop) (v0 : Nat) (v3 : Int32) (s0 : Int32) (S : HS) : Prop := P_X4_read_248 Q X8 v0 v3 s0 S
set_option maxRecDepth 20000 in
set_option maxHeartbeats 4000000 in
theorem T_X4_read_154 {X : CX} {Q : Int32 → HS → Prop} (C : Cx X cX4_read RX4 5 rm_X4_read) (E : ReI X rm_X4_read (fun r S => bl r ∧ Q r S)) (ht : (xh X).sig.returnType = (some .boolean)) (hn : (xh X).name = yX4_read.name) {X8 : Nat → Int32 → HS → Prop} (hX8 : ∀ (v0 : Nat) (v3 : Int32) (S : HS), X8 v0 v3 S → WS X 5 0 0 8 [(0, .ref v0), (3, .int v3)] [] S) {v0 : Nat} {v3 : Int32} {s0 : Int32} {S : HS} (h : P_X4_read_154 Q X8 v0 v3 s0 S) : WS X 5 0 0 154 [(0, .ref v0), (3, .int v3)] [.int s0] S := by
  refine r_istore (pc := 154) C dX4_read_154 (by decide) (lv' := [(4, .int s0), (0, .ref v0), (3, .int v3)]) rfl ?_
  refine r_goto (pc := 156) C (tgt := 248) dX4_read_156 (by decide) ?_
  exact r_sub [1, 2, 0] rfl (T_X4_read_248 C E ht hn hX8 h)
def P_X4_read_153 (Q : Int32 → HS → Prop) (X8 : Nat → Int32 → HS → Prop) (v0 : Nat) (v3 : Int32) (S : HS) : Prop := P_X4_read_154 Q X8 v0 v3 (0 : Int32) S
set_option maxRecDepth 20000 in
set_option maxHeartbeats 4000000 in
theorem T_X4_read_153 {X : CX} {Q : Int32 → HS → Prop} (C : Cx X cX4_read RX4 5 rm_X4_read) (E : ReI X rm_X4_read (fun r S => bl r ∧ Q r S)) (ht : (xh X).sig.returnType = (some .boolean)) (hn : (xh X).name = yX4_read.name) {X8 : Nat → Int32 → HS → Prop} (hX8 : ∀ (v0 : Nat) (v3 : Int32) (S : HS), X8 v0 v3 S → WS X 5 0 0 8 [(0, .ref v0), (3, .int v3)] [] S) {v0 : Nat} {v3 : Int32} {S : HS} (h : P_X4_read_153 Q X8 v0 v3 S) : WS X 5 0 0 153 [(0, .ref v0), (3, .int v3)] [] S := by
  refine r_iconst (pc := 153) C (v := (0 : Int32)) dX4_read_153 (by decide) ?_
  exact r_sub [0, 1] rfl (T_X4_read_154 C E ht hn hX8 h)
def P_X4_read_195 (Q : Int32 → HS → Prop) (X8 : Nat → Int32 → HS → Prop) (v0 : Nat) (v3 : Int32) (s0 : Int32) (S : HS) : Prop := P_X4_read_248 Q X8 v0 v3 s0 S
set_option maxRecDepth 20000 in
set_option maxHeartbeats 4000000 in
theorem T_X4_read_195 {X : CX} {Q : Int32 → HS → Prop} (C : Cx X cX4_read RX4 5 rm_X4_read) (E : ReI X rm_X4_read (fun r S => bl r ∧ Q r S)) (ht : (xh X).sig.returnType = (some .boolean)) (hn : (xh X).name = yX4_read.name) {X8 : Nat → Int32 → HS → Prop} (hX8 : ∀ (v0 : Nat) (v3 : Int32) (S : HS), X8 v0 v3 S → WS X 5 0 0 8 [(0, .ref v0), (3, .int v3)] [] S) {v0 : Nat} {v3 : Int32} {s0 : Int32} {S : HS} (h : P_X4_read_195 Q X8 v0 v3 s0 S) : WS X 5 0 0 195 [(0, .ref v0), (3, .int v3)] [.int s0] S := by
  refine r_istore (pc := 195) C dX4_read_195 (by decide) (lv' := [(4, .int s0), (0, .ref v0), (3, .int v3)]) rfl ?_
  refine r_goto (pc := 197) C (tgt := 248) dX4_read_197 (by decide) ?_
  exact r_sub [1, 2, 0] rfl (T_X4_read_248 C E ht hn hX8 h)
def P_X4_read_194 (Q : Int32 → HS → Prop) (X8 : Nat → Int32 → HS → Prop) (v0 : Nat) (v3 : Int32) (S : HS) : Prop := P_X4_read_195 Q X8 v0 v3 (0 : Int32) S
set_option maxRecDepth 20000 in
set_option maxHeartbeats 4000000 in
theorem T_X4_read_194 {X : CX} {Q : Int32 → HS → Prop} (C : Cx X cX4_read RX4 5 rm_X4_read) (E : ReI X rm_X4_read (fun r S => bl r ∧ Q r S)) (ht : (xh X).sig.returnType = (some .boolean)) (hn : (xh X).name = yX4_read.name) {X8 : Nat → Int32 → HS → Prop} (hX8 : ∀ (v0 : Nat) (v3 : Int32) (S : HS), X8 v0 v3 S → WS X 5 0 0 8 [(0, .ref v0), (3, .int v3)] [] S) {v0 : Nat} {v3 : Int32} {S : HS} (h : P_X4_read_194 Q X8 v0 v3 S) : WS X 5 0 0 194 [(0, .ref v0), (3, .int v3)] [] S := by
  refine r_iconst (pc := 194) C (v := (0 : Int32)) dX4_read_194 (by decide) ?_
  exact r_sub [0, 1] rfl (T_X4_read_195 C E ht hn hX8 h)
def P_X4_read_236 (Q : Int32 → HS → Prop) (X8 : Nat → Int32 → HS → Prop) (v0 : Nat) (v3 : Int32) (s0 : Int32) (S : HS) : Prop := P_X4_read_248 Q X8 v0 v3 s0 S
set_option maxRecDepth 20000 in
set_option maxHeartbeats 4000000 in
theorem T_X4_read_236 {X : CX} {Q : Int32 → HS → Prop} (C : Cx X cX4_read RX4 5 rm_X4_read) (E : ReI X rm_X4_read (fun r S => bl r ∧ Q r S)) (ht : (xh X).sig.returnType = (some .boolean)) (hn : (xh X).name = yX4_read.name) {X8 : Nat → Int32 → HS → Prop} (hX8 : ∀ (v0 : Nat) (v3 : Int32) (S : HS), X8 v0 v3 S → WS X 5 0 0 8 [(0, .ref v0), (3, .int v3)] [] S) {v0 : Nat} {v3 : Int32} {s0 : Int32} {S : HS} (h : P_X4_read_236 Q X8 v0 v3 s0 S) : WS X 5 0 0 236 [(0, .ref v0), (3, .int v3)] [.int s0] S := by
  refine r_istore (pc := 236) C dX4_read_236 (by decide) (lv' := [(4, .int s0), (0, .ref v0), (3, .int v3)]) rfl ?_
  refine r_goto (pc := 238) C (tgt := 248) dX4_read_238 (by decide) ?_
  exact r_sub [1, 2, 0] rfl (T_X4_read_248 C E ht hn hX8 h)
def P_X4_read_235 (Q : Int32 → HS → Prop) (X8 : Nat → Int32 → HS → Prop) (v0 : Nat) (v3 : Int32) (S : HS) : Prop := P_X4_read_236 Q X8 v0 v3 (0 : Int32) S
set_option maxRecDepth 20000 in
set_option maxHeartbeats 4000000 in
theorem T_X4_read_235 {X : CX} {Q : Int32 → HS → Prop} (C : Cx X cX4_read RX4 5 rm_X4_read) (E : ReI X rm_X4_read (fun r S => bl r ∧ Q r S)) (ht : (xh X).sig.returnType = (some .boolean)) (hn : (xh X).name = yX4_read.name) {X8 : Nat → Int32 → HS → Prop} (hX8 : ∀ (v0 : Nat) (v3 : Int32) (S : HS), X8 v0 v3 S → WS X 5 0 0 8 [(0, .ref v0), (3, .int v3)] [] S) {v0 : Nat} {v3 : Int32} {S : HS} (h : P_X4_read_235 Q X8 v0 v3 S) : WS X 5 0 0 235 [(0, .ref v0), (3, .int v3)] [] S := by
  refine r_iconst (pc := 235) C (v := (0 : Int32)) dX4_read_235 (by decide) ?_
  exact r_sub [0, 1] rfl (T_X4_read_236 C E ht hn hX8 h)
def B_X4_read_8 (Q : Int32 → HS → Prop) (X8 : Nat → Int32 → HS → Prop) (v0 : Nat) (v3 : Int32) (S : HS) : Prop := (((900 : Int32) < v3) → (ob S v0 4 ∧ (P_X4_fail v0 (1 : Int32) (fun x4 S2 => Gr S S2 → bl x4 → (bl x4 ∧ Q x4 S2)) S))) ∧ ((¬ (900 : Int32) < v3) → (ob S v0 4 ∧ (P_X4_is v0 0 (fun x7 S5 => Gr S S5 → bl x7 → (((x7 = 0) → (P_X4_is v0 2 (fun x11 S9 => Gr S5 S9 → bl x11 → (((x11 = 0) → (P_X4_is v0 11 (fun x15 S13 => Gr S9 S13 → bl x15 → (((x15 = 0) → (P_X4_is v0 12 (fun x19 S17 => Gr S13 S17 → bl x19 → (((x19 = 0) → (P_X4_is v0 13 (fun x23 S21 => Gr S17 S21 → bl x23 → (((x23 = 0) → (P_X4_is v0 14 (fun x27 S25 => Gr S21 S25 → bl x27 → (((x27 = 0) → (P_X4_fail v0 (1 : Int32) (fun x31 S29 => Gr S25 S29 → bl x31 → (P_X4_read_248 Q X8 v0 v3 x31 S29)) S25)) ∧ ((¬ x27 = 0) → (∃ a32 : Nat, fR S25 v0 5 = some a32 ∧ (ob S25 a32 8 ∧ (∀ x33 : Int32, x33 = fI S25 a32 5 → (P_X4_hasRoom v0 x33 (4 : Int32) (fun x36 S34 => Gr S25 S34 → bl x36 → (((x36 = 0) → (P_X4_read_235 Q X8 v0 v3 S34)) ∧ ((¬ x36 = 0) → (P_X4_seenLine v0 (fun x40 S38 => Gr S34 S38 → bl x40 → (((x40 = 0) → (P_X4_read_235 Q X8 v0 v3 S38)) ∧ ((¬ x40 = 0) → (P_X4_read_236 Q X8 v0 v3 (1 : Int32) S38)))) S34)))) S25))))))) S21)) ∧ ((¬ x23 = 0) → (∃ a42 : Nat, fR S21 v0 5 = some a42 ∧ (ob S21 a42 8 ∧ (∀ x43 : Int32, x43 = fI S21 a42 4 → (P_X4_hasRoom v0 x43 (4 : Int32) (fun x46 S44 => Gr S21 S44 → bl x46 → (((x46 = 0) → (P_X4_read_194 Q X8 v0 v3 S44)) ∧ ((¬ x46 = 0) → (P_X4_walkerLine v0 (fun x50 S48 => Gr S44 S48 → bl x50 → (((x50 = 0) → (P_X4_read_194 Q X8 v0 v3 S48)) ∧ ((¬ x50 = 0) → (P_X4_read_195 Q X8 v0 v3 (1 : Int32) S48)))) S44)))) S21))))))) S17)) ∧ ((¬ x19 = 0) → (∃ a52 : Nat, fR S17 v0 5 = some a52 ∧ (ob S17 a52 8 ∧ (∀ x53 : Int32, x53 = fI S17 a52 3 → (P_X4_hasRoom v0 x53 (12 : Int32) (fun x56 S54 => Gr S17 S54 → bl x56 → (((x56 = 0) → (P_X4_read_153 Q X8 v0 v3 S54)) ∧ ((¬ x56 = 0) → (P_X4_roadLine v0 (fun x60 S58 => Gr S54 S58 → bl x60 → (((x60 = 0) → (P_X4_read_153 Q X8 v0 v3 S58)) ∧ ((¬ x60 = 0) → (P_X4_read_154 Q X8 v0 v3 (1 : Int32) S58)))) S54)))) S17))))))) S13)) ∧ ((¬ x15 = 0) → (∃ a62 : Nat, fR S13 v0 5 = some a62 ∧ (ob S13 a62 8 ∧ (∀ x63 : Int32, x63 = fI S13 a62 2 → (P_X4_hasRoom v0 x63 (8 : Int32) (fun x66 S64 => Gr S13 S64 → bl x66 → (((x66 = 0) → (P_X4_read_111 Q X8 v0 v3 S64)) ∧ ((¬ x66 = 0) → (P_X4_placeLine v0 (fun x70 S68 => Gr S64 S68 → bl x70 → (((x70 = 0) → (P_X4_read_111 Q X8 v0 v3 S68)) ∧ ((¬ x70 = 0) → (P_X4_read_112 Q X8 v0 v3 (1 : Int32) S68)))) S64)))) S13))))))) S9)) ∧ ((¬ x11 = 0) → (∃ a72 : Nat, fR S9 v0 5 = some a72 ∧ (ob S9 a72 8 ∧ (∀ x73 : Int32, x73 = fI S9 a72 1 → (P_X4_hasRoom v0 x73 (6 : Int32) (fun x76 S74 => Gr S9 S74 → bl x76 → (((x76 = 0) → (P_X4_read_69 Q X8 v0 v3 S74)) ∧ ((¬ x76 = 0) → (P_X4_rainLine v0 (fun x80 S78 => Gr S74 S78 → bl x80 → (((x80 = 0) → (P_X4_read_69 Q X8 v0 v3 S78)) ∧ ((¬ x80 = 0) → (P_X4_read_70 Q X8 v0 v3 (1 : Int32) S78)))) S74)))) S9))))))) S5)) ∧ ((¬ x7 = 0) → (P_X4_worldLine v0 (fun x84 S82 => Gr S5 S82 → bl x84 → (P_X4_read_248 Q X8 v0 v3 x84 S82)) S5)))) S)))
def P_X4_read_8 (Q : Int32 → HS → Prop) (v0 : Nat) (v3 : Int32) (S : HS) : Prop := ∀ X8 : Nat → Int32 → HS → Prop, (∀ (v0 : Nat) (v3 : Int32) (S : HS), B_X4_read_8 Q X8 v0 v3 S → X8 v0 v3 S) → X8 v0 v3 S
set_option maxRecDepth 20000 in
set_option maxHeartbeats 4000000 in
theorem TB_X4_read_8 {X : CX} {Q : Int32 → HS → Prop} (C : Cx X cX4_read RX4 5 rm_X4_read) (E : ReI X rm_X4_read (fun r S => bl r ∧ Q r S)) (ht : (xh X).sig.returnType = (some .boolean)) (hn : (xh X).name = yX4_read.name) {X8 : Nat → Int32 → HS → Prop} (hX8 : ∀ (v0 : Nat) (v3 : Int32) (S : HS), X8 v0 v3 S → WS X 5 0 0 8 [(0, .ref v0), (3, .int v3)] [] S) {v0 : Nat} {v3 : Int32} {S : HS} (h : B_X4_read_8 Q X8 v0 v3 S) : WS X 5 0 0 8 [(0, .ref v0), (3, .int v3)] [] S := by
  refine r_iload_n (pc := 8) C dX4_read_8 1 rfl ?_
  refine r_sipush (pc := 9) C (v := (900 : Int32)) dX4_read_9 (by decide) ?_
  refine r_icmp_gt (pc := 12) C (tgt := 316) dX4_read_12 (by decide) (fun c1 => ?_) (fun c1 => ?_)
  · have h := h.1 c1
    refine r_aload_n (pc := 316) C dX4_read_316 0 rfl ?_
    refine r_iconst (pc := 317) C (v := (1 : Int32)) dX4_read_317 (by decide) ?_
    obtain ⟨o_v0, h⟩ := h
    refine r_callVi0 (pc := 318) C (rest := []) (a := v0) o_v0 [.int (1 : Int32)] yV_X4_fail g_519 (c_X4_fail h) dX4_read_318 rfl rfl (Nat.le_of_ble_eq_true rfl) ⟨by decide, by decide⟩ ⟨by decide, by decide⟩ ⟨rfl, rfl⟩ (fun x4 S2 h g3 => ?_)
    have bx4 := h.1
    have h := h.2 g3 bx4
    have o_v0 := gr_ob g3 o_v0
    exact r_zret (pc := 321) C E ht dX4_read_321 (by decide) (by decide) h.1 h.2
  · have h := h.2 c1
    refine r_aload_n (pc := 15) C dX4_read_15 0 rfl ?_
    refine r_lds (pc := 16) C 0 rfl dX4_read_16 ?_
    obtain ⟨o_v0, h⟩ := h
    refine r_callVi0 (pc := 18) C (rest := []) (a := v0) o_v0 [.ref (eK (xE X) 0)] yV_X4_is g_458 (c_X4_is h) dX4_read_18 rfl rfl (Nat.le_of_ble_eq_true rfl) ⟨by decide, by decide⟩ ⟨by decide, by decide⟩ ⟨rfl, rfl⟩ (fun x7 S5 h g6 => ?_)
    have bx7 := h.1
    have h := h.2 g6 bx7
    have o_v0 := gr_ob g6 o_v0
    refine r_if_eq (pc := 21) C (tgt := 33) dX4_read_21 (by decide) (fun c8 => ?_) (fun c8 => ?_)
    · have h := h.1 c8
      refine r_aload_n (pc := 33) C dX4_read_33 0 rfl ?_
      refine r_lds (pc := 34) C 2 rfl dX4_read_34 ?_
      refine r_callVi0 (pc := 36) C (rest := []) (a := v0) o_v0 [.ref (eK (xE X) 2)] yV_X4_is g_458 (c_X4_is h) dX4_read_36 rfl rfl (Nat.le_of_ble_eq_true rfl) ⟨by decide, by decide⟩ ⟨by decide, by decide⟩ ⟨rfl, rfl⟩ (fun x11 S9 h g10 => ?_)
      have bx11 := h.1
      have h := h.2 g10 bx11
      have o_v0 := gr_ob g10 o_v0
      refine r_if_eq (pc := 39) C (tgt := 75) dX4_read_39 (by decide) (fun c12 => ?_) (fun c12 => ?_)
      · have h := h.1 c12
        refine r_aload_n (pc := 75) C dX4_read_75 0 rfl ?_
        refine r_lds (pc := 76) C 11 rfl dX4_read_76 ?_
        refine r_callVi0 (pc := 78) C (rest := []) (a := v0) o_v0 [.ref (eK (xE X) 11)] yV_X4_is g_458 (c_X4_is h) dX4_read_78 rfl rfl (Nat.le_of_ble_eq_true rfl) ⟨by decide, by decide⟩ ⟨by decide, by decide⟩ ⟨rfl, rfl⟩ (fun x15 S13 h g14 => ?_)
        have bx15 := h.1
        have h := h.2 g14 bx15
        have o_v0 := gr_ob g14 o_v0
        refine r_if_eq (pc := 81) C (tgt := 117) dX4_read_81 (by decide) (fun c16 => ?_) (fun c16 => ?_)
        · have h := h.1 c16
          refine r_aload_n (pc := 117) C dX4_read_117 0 rfl ?_
          refine r_lds (pc := 118) C 12 rfl dX4_read_118 ?_
          refine r_callVi0 (pc := 120) C (rest := []) (a := v0) o_v0 [.ref (eK (xE X) 12)] yV_X4_is g_458 (c_X4_is h) dX4_read_120 rfl rfl (Nat.le_of_ble_eq_true rfl) ⟨by decide, by decide⟩ ⟨by decide, by decide⟩ ⟨rfl, rfl⟩ (fun x19 S17 h g18 => ?_)
          have bx19 := h.1
          have h := h.2 g18 bx19
          have o_v0 := gr_ob g18 o_v0
          refine r_if_eq (pc := 123) C (tgt := 159) dX4_read_123 (by decide) (fun c20 => ?_) (fun c20 => ?_)
          · have h := h.1 c20
            refine r_aload_n (pc := 159) C dX4_read_159 0 rfl ?_
            refine r_lds (pc := 160) C 13 rfl dX4_read_160 ?_
            refine r_callVi0 (pc := 162) C (rest := []) (a := v0) o_v0 [.ref (eK (xE X) 13)] yV_X4_is g_458 (c_X4_is h) dX4_read_162 rfl rfl (Nat.le_of_ble_eq_true rfl) ⟨by decide, by decide⟩ ⟨by decide, by decide⟩ ⟨rfl, rfl⟩ (fun x23 S21 h g22 => ?_)
            have bx23 := h.1
            have h := h.2 g22 bx23
            have o_v0 := gr_ob g22 o_v0
            refine r_if_eq (pc := 165) C (tgt := 200) dX4_read_165 (by decide) (fun c24 => ?_) (fun c24 => ?_)
            · have h := h.1 c24
              refine r_aload_n (pc := 200) C dX4_read_200 0 rfl ?_
              refine r_lds (pc := 201) C 14 rfl dX4_read_201 ?_
              refine r_callVi0 (pc := 203) C (rest := []) (a := v0) o_v0 [.ref (eK (xE X) 14)] yV_X4_is g_458 (c_X4_is h) dX4_read_203 rfl rfl (Nat.le_of_ble_eq_true rfl) ⟨by decide, by decide⟩ ⟨by decide, by decide⟩ ⟨rfl, rfl⟩ (fun x27 S25 h g26 => ?_)
              have bx27 := h.1
              have h := h.2 g26 bx27
              have o_v0 := gr_ob g26 o_v0
              refine r_if_eq (pc := 206) C (tgt := 241) dX4_read_206 (by decide) (fun c28 => ?_) (fun c28 => ?_)
              · have h := h.1 c28
                refine r_aload_n (pc := 241) C dX4_read_241 0 rfl ?_
                refine r_iconst (pc := 242) C (v := (1 : Int32)) dX4_read_242 (by decide) ?_
                refine r_callVi0 (pc := 243) C (rest := []) (a := v0) o_v0 [.int (1 : Int32)] yV_X4_fail g_519 (c_X4_fail h) dX4_read_243 rfl rfl (Nat.le_of_ble_eq_true rfl) ⟨by decide, by decide⟩ ⟨by decide, by decide⟩ ⟨rfl, rfl⟩ (fun x31 S29 h g30 => ?_)
                have bx31 := h.1
                have h := h.2 g30 bx31
                have o_v0 := gr_ob g30 o_v0
                refine r_istore (pc := 246) C dX4_read_246 (by decide) (lv' := [(4, .int x31), (0, .ref v0), (3, .int v3)]) rfl ?_
                exact r_sub [1, 2, 0] rfl (T_X4_read_248 C E ht hn hX8 h)
              · have h := h.2 c28
                refine r_aload_n (pc := 209) C dX4_read_209 0 rfl ?_
                refine r_aload_n (pc := 210) C dX4_read_210 0 rfl ?_
                obtain ⟨a32, ea32, h⟩ := h
                refine r_getr (pc := 211) C fL_X4_18 dX4_read_211 o_v0 ea32 ?_
                obtain ⟨o_a32, h⟩ := h
                refine r_geti (pc := 214) C fL_X4_82 dX4_read_214 o_a32 ?_
                refine r_topi (fun x33 ex33 => ?_)
                have h := h x33 ex33
                refine r_iconst (pc := 217) C (v := (4 : Int32)) dX4_read_217 (by decide) ?_
                refine r_callVi0 (pc := 218) C (rest := []) (a := v0) o_v0 [.int x33, .int (4 : Int32)] yV_X4_hasRoom g_537 (c_X4_hasRoom h) dX4_read_218 rfl rfl (Nat.le_of_ble_eq_true rfl) ⟨by decide, by decide⟩ ⟨by decide, by decide⟩ ⟨rfl, rfl⟩ (fun x36 S34 h g35 => ?_)
                have bx36 := h.1
                have h := h.2 g35 bx36
                have o_a32 := gr_ob g35 o_a32
                have o_v0 := gr_ob g35 o_v0
                refine r_if_eq (pc := 221) C (tgt := 235) dX4_read_221 (by decide) (fun c37 => ?_) (fun c37 => ?_)
                · have h := h.1 c37
                  exact r_sub [0, 1] rfl (T_X4_read_235 C E ht hn hX8 h)
                · have h := h.2 c37
                  refine r_aload_n (pc := 224) C dX4_read_224 0 rfl ?_
                  refine r_callVi0 (pc := 225) C (rest := []) (a := v0) o_v0 [] yV_X4_seenLine g_613 (c_X4_seenLine h) dX4_read_225 rfl rfl (Nat.le_of_ble_eq_true rfl) ⟨by decide, by decide⟩ ⟨by decide, by decide⟩ ⟨rfl, rfl⟩ (fun x40 S38 h g39 => ?_)
                  have bx40 := h.1
                  have h := h.2 g39 bx40
                  have o_a32 := gr_ob g39 o_a32
                  have o_v0 := gr_ob g39 o_v0
                  refine r_if_eq (pc := 228) C (tgt := 235) dX4_read_228 (by decide) (fun c41 => ?_) (fun c41 => ?_)
                  · have h := h.1 c41
                    exact r_sub [0, 1] rfl (T_X4_read_235 C E ht hn hX8 h)
                  · have h := h.2 c41
                    refine r_iconst (pc := 231) C (v := (1 : Int32)) dX4_read_231 (by decide) ?_
                    refine r_goto (pc := 232) C (tgt := 236) dX4_read_232 (by decide) ?_
                    exact r_sub [0, 1] rfl (T_X4_read_236 C E ht hn hX8 h)
            · have h := h.2 c24
              refine r_aload_n (pc := 168) C dX4_read_168 0 rfl ?_
              refine r_aload_n (pc := 169) C dX4_read_169 0 rfl ?_
              obtain ⟨a42, ea42, h⟩ := h
              refine r_getr (pc := 170) C fL_X4_18 dX4_read_170 o_v0 ea42 ?_
              obtain ⟨o_a42, h⟩ := h
              refine r_geti (pc := 173) C fL_X4_74 dX4_read_173 o_a42 ?_
              refine r_topi (fun x43 ex43 => ?_)
              have h := h x43 ex43
              refine r_iconst (pc := 176) C (v := (4 : Int32)) dX4_read_176 (by decide) ?_
              refine r_callVi0 (pc := 177) C (rest := []) (a := v0) o_v0 [.int x43, .int (4 : Int32)] yV_X4_hasRoom g_537 (c_X4_hasRoom h) dX4_read_177 rfl rfl (Nat.le_of_ble_eq_true rfl) ⟨by decide, by decide⟩ ⟨by decide, by decide⟩ ⟨rfl, rfl⟩ (fun x46 S44 h g45 => ?_)
              have bx46 := h.1
              have h := h.2 g45 bx46
              have o_a42 := gr_ob g45 o_a42
              have o_v0 := gr_ob g45 o_v0
              refine r_if_eq (pc := 180) C (tgt := 194) dX4_read_180 (by decide) (fun c47 => ?_) (fun c47 => ?_)
              · have h := h.1 c47
                exact r_sub [0, 1] rfl (T_X4_read_194 C E ht hn hX8 h)
              · have h := h.2 c47
                refine r_aload_n (pc := 183) C dX4_read_183 0 rfl ?_
                refine r_callVi0 (pc := 184) C (rest := []) (a := v0) o_v0 [] yV_X4_walkerLine g_588 (c_X4_walkerLine h) dX4_read_184 rfl rfl (Nat.le_of_ble_eq_true rfl) ⟨by decide, by decide⟩ ⟨by decide, by decide⟩ ⟨rfl, rfl⟩ (fun x50 S48 h g49 => ?_)
                have bx50 := h.1
                have h := h.2 g49 bx50
                have o_a42 := gr_ob g49 o_a42
                have o_v0 := gr_ob g49 o_v0
                refine r_if_eq (pc := 187) C (tgt := 194) dX4_read_187 (by decide) (fun c51 => ?_) (fun c51 => ?_)
                · have h := h.1 c51
                  exact r_sub [0, 1] rfl (T_X4_read_194 C E ht hn hX8 h)
                · have h := h.2 c51
                  refine r_iconst (pc := 190) C (v := (1 : Int32)) dX4_read_190 (by decide) ?_
                  refine r_goto (pc := 191) C (tgt := 195) dX4_read_191 (by decide) ?_
                  exact r_sub [0, 1] rfl (T_X4_read_195 C E ht hn hX8 h)
          · have h := h.2 c20
            refine r_aload_n (pc := 126) C dX4_read_126 0 rfl ?_
            refine r_aload_n (pc := 127) C dX4_read_127 0 rfl ?_
            obtain ⟨a52, ea52, h⟩ := h
            refine r_getr (pc := 128) C fL_X4_18 dX4_read_128 o_v0 ea52 ?_
            obtain ⟨o_a52, h⟩ := h
            refine r_geti (pc := 131) C fL_X4_66 dX4_read_131 o_a52 ?_
            refine r_topi (fun x53 ex53 => ?_)
            have h := h x53 ex53
            refine r_bipush (pc := 134) C (v := (12 : Int32)) dX4_read_134 (by decide) ?_
            refine r_callVi0 (pc := 136) C (rest := []) (a := v0) o_v0 [.int x53, .int (12 : Int32)] yV_X4_hasRoom g_537 (c_X4_hasRoom h) dX4_read_136 rfl rfl (Nat.le_of_ble_eq_true rfl) ⟨by decide, by decide⟩ ⟨by decide, by decide⟩ ⟨rfl, rfl⟩ (fun x56 S54 h g55 => ?_)
            have bx56 := h.1
            have h := h.2 g55 bx56
            have o_a52 := gr_ob g55 o_a52
            have o_v0 := gr_ob g55 o_v0
            refine r_if_eq (pc := 139) C (tgt := 153) dX4_read_139 (by decide) (fun c57 => ?_) (fun c57 => ?_)
            · have h := h.1 c57
              exact r_sub [0, 1] rfl (T_X4_read_153 C E ht hn hX8 h)
            · have h := h.2 c57
              refine r_aload_n (pc := 142) C dX4_read_142 0 rfl ?_
              refine r_callVi0 (pc := 143) C (rest := []) (a := v0) o_v0 [] yV_X4_roadLine g_580 (c_X4_roadLine h) dX4_read_143 rfl rfl (Nat.le_of_ble_eq_true rfl) ⟨by decide, by decide⟩ ⟨by decide, by decide⟩ ⟨rfl, rfl⟩ (fun x60 S58 h g59 => ?_)
              have bx60 := h.1
              have h := h.2 g59 bx60
              have o_a52 := gr_ob g59 o_a52
              have o_v0 := gr_ob g59 o_v0
              refine r_if_eq (pc := 146) C (tgt := 153) dX4_read_146 (by decide) (fun c61 => ?_) (fun c61 => ?_)
              · have h := h.1 c61
                exact r_sub [0, 1] rfl (T_X4_read_153 C E ht hn hX8 h)
              · have h := h.2 c61
                refine r_iconst (pc := 149) C (v := (1 : Int32)) dX4_read_149 (by decide) ?_
                refine r_goto (pc := 150) C (tgt := 154) dX4_read_150 (by decide) ?_
                exact r_sub [0, 1] rfl (T_X4_read_154 C E ht hn hX8 h)
        · have h := h.2 c16
          refine r_aload_n (pc := 84) C dX4_read_84 0 rfl ?_
          refine r_aload_n (pc := 85) C dX4_read_85 0 rfl ?_
          obtain ⟨a62, ea62, h⟩ := h
          refine r_getr (pc := 86) C fL_X4_18 dX4_read_86 o_v0 ea62 ?_
          obtain ⟨o_a62, h⟩ := h
          refine r_geti (pc := 89) C fL_X4_58 dX4_read_89 o_a62 ?_
          refine r_topi (fun x63 ex63 => ?_)
          have h := h x63 ex63
          refine r_bipush (pc := 92) C (v := (8 : Int32)) dX4_read_92 (by decide) ?_
          refine r_callVi0 (pc := 94) C (rest := []) (a := v0) o_v0 [.int x63, .int (8 : Int32)] yV_X4_hasRoom g_537 (c_X4_hasRoom h) dX4_read_94 rfl rfl (Nat.le_of_ble_eq_true rfl) ⟨by decide, by decide⟩ ⟨by decide, by decide⟩ ⟨rfl, rfl⟩ (fun x66 S64 h g65 => ?_)
          have bx66 := h.1
          have h := h.2 g65 bx66
          have o_a62 := gr_ob g65 o_a62
          have o_v0 := gr_ob g65 o_v0
          refine r_if_eq (pc := 97) C (tgt := 111) dX4_read_97 (by decide) (fun c67 => ?_) (fun c67 => ?_)
          · have h := h.1 c67
            exact r_sub [0, 1] rfl (T_X4_read_111 C E ht hn hX8 h)
          · have h := h.2 c67
            refine r_aload_n (pc := 100) C dX4_read_100 0 rfl ?_
            refine r_callVi0 (pc := 101) C (rest := []) (a := v0) o_v0 [] yV_X4_placeLine g_558 (c_X4_placeLine h) dX4_read_101 rfl rfl (Nat.le_of_ble_eq_true rfl) ⟨by decide, by decide⟩ ⟨by decide, by decide⟩ ⟨rfl, rfl⟩ (fun x70 S68 h g69 => ?_)
            have bx70 := h.1
            have h := h.2 g69 bx70
            have o_a62 := gr_ob g69 o_a62
            have o_v0 := gr_ob g69 o_v0
            refine r_if_eq (pc := 104) C (tgt := 111) dX4_read_104 (by decide) (fun c71 => ?_) (fun c71 => ?_)
            · have h := h.1 c71
              exact r_sub [0, 1] rfl (T_X4_read_111 C E ht hn hX8 h)
            · have h := h.2 c71
              refine r_iconst (pc := 107) C (v := (1 : Int32)) dX4_read_107 (by decide) ?_
              refine r_goto (pc := 108) C (tgt := 112) dX4_read_108 (by decide) ?_
              exact r_sub [0, 1] rfl (T_X4_read_112 C E ht hn hX8 h)
      · have h := h.2 c12
        refine r_aload_n (pc := 42) C dX4_read_42 0 rfl ?_
        refine r_aload_n (pc := 43) C dX4_read_43 0 rfl ?_
        obtain ⟨a72, ea72, h⟩ := h
        refine r_getr (pc := 44) C fL_X4_18 dX4_read_44 o_v0 ea72 ?_
        obtain ⟨o_a72, h⟩ := h
        refine r_geti (pc := 47) C fL_X4_45 dX4_read_47 o_a72 ?_
        refine r_topi (fun x73 ex73 => ?_)
        have h := h x73 ex73
        refine r_bipush (pc := 50) C (v := (6 : Int32)) dX4_read_50 (by decide) ?_
        refine r_callVi0 (pc := 52) C (rest := []) (a := v0) o_v0 [.int x73, .int (6 : Int32)] yV_X4_hasRoom g_537 (c_X4_hasRoom h) dX4_read_52 rfl rfl (Nat.le_of_ble_eq_true rfl) ⟨by decide, by decide⟩ ⟨by decide, by decide⟩ ⟨rfl, rfl⟩ (fun x76 S74 h g75 => ?_)
        have bx76 := h.1
        have h := h.2 g75 bx76
        have o_a72 := gr_ob g75 o_a72
        have o_v0 := gr_ob g75 o_v0
        refine r_if_eq (pc := 55) C (tgt := 69) dX4_read_55 (by decide) (fun c77 => ?_) (fun c77 => ?_)
        · have h := h.1 c77
          exact r_sub [0, 1] rfl (T_X4_read_69 C E ht hn hX8 h)
        · have h := h.2 c77
          refine r_aload_n (pc := 58) C dX4_read_58 0 rfl ?_
          refine r_callVi0 (pc := 59) C (rest := []) (a := v0) o_v0 [] yV_X4_rainLine g_541 (c_X4_rainLine h) dX4_read_59 rfl rfl (Nat.le_of_ble_eq_true rfl) ⟨by decide, by decide⟩ ⟨by decide, by decide⟩ ⟨rfl, rfl⟩ (fun x80 S78 h g79 => ?_)
          have bx80 := h.1
          have h := h.2 g79 bx80
          have o_a72 := gr_ob g79 o_a72
          have o_v0 := gr_ob g79 o_v0
          refine r_if_eq (pc := 62) C (tgt := 69) dX4_read_62 (by decide) (fun c81 => ?_) (fun c81 => ?_)
          · have h := h.1 c81
            exact r_sub [0, 1] rfl (T_X4_read_69 C E ht hn hX8 h)
          · have h := h.2 c81
            refine r_iconst (pc := 65) C (v := (1 : Int32)) dX4_read_65 (by decide) ?_
            refine r_goto (pc := 66) C (tgt := 70) dX4_read_66 (by decide) ?_
            exact r_sub [0, 1] rfl (T_X4_read_70 C E ht hn hX8 h)
    · have h := h.2 c8
      refine r_aload_n (pc := 24) C dX4_read_24 0 rfl ?_
      refine r_callVi0 (pc := 25) C (rest := []) (a := v0) o_v0 [] yV_X4_worldLine g_511 (c_X4_worldLine h) dX4_read_25 rfl rfl (Nat.le_of_ble_eq_true rfl) ⟨by decide, by decide⟩ ⟨by decide, by decide⟩ ⟨rfl, rfl⟩ (fun x84 S82 h g83 => ?_)
      have bx84 := h.1
      have h := h.2 g83 bx84
      have o_v0 := gr_ob g83 o_v0
      refine r_istore (pc := 28) C dX4_read_28 (by decide) (lv' := [(4, .int x84), (0, .ref v0), (3, .int v3)]) rfl ?_
      refine r_goto (pc := 30) C (tgt := 248) dX4_read_30 (by decide) ?_
      exact r_sub [1, 2, 0] rfl (T_X4_read_248 C E ht hn hX8 h)
theorem T_X4_read_8 {X : CX} {Q : Int32 → HS → Prop} (C : Cx X cX4_read RX4 5 rm_X4_read) (E : ReI X rm_X4_read (fun r S => bl r ∧ Q r S)) (ht : (xh X).sig.returnType = (some .boolean)) (hn : (xh X).name = yX4_read.name) {v0 : Nat} {v3 : Int32} {S : HS} (h : P_X4_read_8 Q v0 v3 S) : WS X 5 0 0 8 [(0, .ref v0), (3, .int v3)] [] S :=
  h (fun v0 v3 S => WS X 5 0 0 8 [(0, .ref v0), (3, .int v3)] [] S) (fun v0 v3 S hh => TB_X4_read_8 C E ht hn (fun v0 v3 S z => z) hh)
def P_X4_read_0 (Q : Int32 → HS → Prop) (v0 : Nat) (v1 : Nat) (v2 : Int32) (S : HS) : Prop := ob S v0 4 ∧ (P_X4_open v0 v1 v2 (fun S1 => Gr S S1 → (P_X4_read_8 Q v0 (0 : Int32) S1)) S)
set_option maxRecDepth 20000 in
set_option maxHeartbeats 4000000 in
theorem T_X4_read_0 {X : CX} {Q : Int32 → HS → Prop} (C : Cx X cX4_read RX4 5 rm_X4_read) (E : ReI X rm_X4_read (fun r S => bl r ∧ Q r S)) (ht : (xh X).sig.returnType = (some .boolean)) (hn : (xh X).name = yX4_read.name) {v0 : Nat} {v1 : Nat} {v2 : Int32} {S : HS} (h : P_X4_read_0 Q v0 v1 v2 S) : WS X 5 0 0 0 [(0, .ref v0), (1, .ref v1), (2, .int v2)] [] S := by
  refine r_aload_n (pc := 0) C dX4_read_0 0 rfl ?_
  refine r_aload_n (pc := 1) C dX4_read_1 1 rfl ?_
  refine r_iload_n (pc := 2) C dX4_read_2 2 rfl ?_
  obtain ⟨o_v0, h⟩ := h
  refine r_callVv0 (pc := 3) C (rest := []) (a := v0) o_v0 [.ref v1, .int v2] yV_X4_open g_438 (c_X4_open h) dX4_read_3 rfl rfl (Nat.le_of_ble_eq_true rfl) ⟨by decide, by decide⟩ ⟨by decide, by decide⟩ ⟨rfl, rfl⟩ (fun S1 h g2 => ?_)
  have h := h g2
  have o_v0 := gr_ob g2 o_v0
  refine r_iconst (pc := 6) C (v := (0 : Int32)) dX4_read_6 (by decide) ?_
  refine r_istore_n (pc := 7) C dX4_read_7 rfl (by decide) (lv' := [(3, .int (0 : Int32)), (0, .ref v0), (1, .ref v1), (2, .int v2)]) rfl ?_
  exact r_sub [1, 0] rfl (T_X4_read_8 C E ht hn h)
def P_X4_read (v0 : Nat) (v1 : Nat) (v2 : Int32) (Q : Int32 → HS → Prop) (S : HS) : Prop := P_X4_read_0 Q v0 v1 v2 S
theorem c_X4_read {l : Launch} {Ee : EE} {S : HS} {v0 : Nat} {v1 : Nat} {v2 : Int32} {Q : Int32 → HS → Prop} (h : P_X4_read v0 v1 v2 Q S) : MI l yX4_read cX4_read 5 (some .boolean) rm_X4_read Ee S [.ref v0, .ref v1, .int v2] (fun r S => bl r ∧ Q r S) :=
  openI (by decide) (Nat.le_of_ble_eq_true rfl) (fun X C E ht hn hE hl => by subst hE; exact r_sub [0, 1, 2] rfl (T_X4_read_0 C E ht hn h))
