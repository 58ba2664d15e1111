def rm_X4_init : Room := { frames := 3, cells := 32, slots := 208, locals := 61 }
def P_X4_init_0 (Q : HS → Prop) (v0 : Nat) (S : HS) : Prop := ∀ a1 : Nat, a1 ∉ hL S → ∀ S2 : HS, S2 = nW S a1 12 0 → (ob S2 v0 4 ∧ (∀ a3 : Nat, a3 ∉ hL (sR S2 v0 2 (some a1)) → ∀ S4 : HS, S4 = nW (sR S2 v0 2 (some a1)) a3 8 0 → (P_X8_init a3 (fun S5 => Gr S4 S5 → (∀ a8 : Nat, a8 ∉ hL (sR S5 v0 5 (some a3)) → ∀ S9 : HS, S9 = nW (sR S5 v0 5 (some a3)) a8 14 12 → (∀ a10 : Nat, a10 ∉ hL (sR S9 v0 11 (some a8)) → ∀ S11 : HS, S11 = nW (sR S9 v0 11 (some a8)) a10 13 12 → (Q (sR S11 v0 12 (some a10)))))) S4)))
set_option maxRecDepth 20000 in
set_option maxHeartbeats 4000000 in
theorem T_X4_init_0 {X : CX} {Q : HS → Prop} (C : Cx X cX4_init RX4 1 rm_X4_init) (E : ReV X rm_X4_init Q) (ht : (xh X).sig.returnType = none) (hn : (xh X).name = yX4_init.name) {v0 : Nat} {S : HS} (h : P_X4_init_0 Q v0 S) : WS X 1 0 0 0 [(0, .ref v0)] [] S := by
  refine r_aload_n (pc := 0) C dX4_init_0 0 rfl ?_
  refine r_objinit (pc := 1) C g_221 dX4_init_1 (by decide) (by decide) ?_
  refine r_aload_n (pc := 4) C dX4_init_4 0 rfl ?_
  refine r_iconst (pc := 5) C (v := (0 : Int32)) dX4_init_5 (by decide) ?_
  refine r_newa12 (pc := 6) C (N := 0) g_71 dX4_init_6 (by decide) (by decide) (by decide) (by decide) (by decide) (fun a1 q18 => ?_)
  refine r_heap (fun S2 eS2 => ?_)
  have h := h a1 q18 S2 eS2
  have g19 := gr_of_new eS2 q18
  have o_a1 := ob_of_new eS2
  obtain ⟨o_v0, h⟩ := h
  refine r_putr (pc := 8) C pfL_X4_9 dX4_init_8 o_v0 ?_
  refine r_aload_n (pc := 11) C dX4_init_11 0 rfl ?_
  refine r_new (pc := 12) C nc_X4_15 dX4_init_12 (by decide) (by decide) (fun a3 q16 => ?_)
  refine r_heap (fun S4 eS4 => ?_)
  have h := h a3 q16 S4 eS4
  have g17 := gr_of_new eS4 q16
  have o_a3 := ob_of_new eS4
  have o_a1 := gr_ob g17 o_a1
  have o_v0 := gr_ob g17 o_v0
  refine r_dup (pc := 15) C dX4_init_15 rfl ?_
  refine r_callIv (pc := 16) C (rest := [.ref a3, .ref v0]) (a := a3) [] yI_X8_init g_223 (c_X8_init h) dX4_init_16 rfl rfl (by decide) ⟨by decide, by decide⟩ ⟨by decide, by decide⟩ (fun S5 h g6 => ?_)
  have h := h g6
  have o_a1 := gr_ob g6 o_a1
  have o_a3 := gr_ob g6 o_a3
  have o_v0 := gr_ob g6 o_v0
  refine r_putr (pc := 19) C pfL_X4_18 dX4_init_19 o_v0 ?_
  refine r_aload_n (pc := 22) C dX4_init_22 0 rfl ?_
  refine r_bipush (pc := 23) C (v := (12 : Int32)) dX4_init_23 (by decide) ?_
  refine r_newa14 (pc := 25) C (N := 12) g_266 dX4_init_25 (by decide) (by decide) (by decide) (by decide) (by decide) (fun a8 q14 => ?_)
  refine r_heap (fun S9 eS9 => ?_)
  have h := h a8 q14 S9 eS9
  have g15 := gr_of_new eS9 q14
  have o_a8 := ob_of_new eS9
  have o_a1 := gr_ob g15 o_a1
  have o_a3 := gr_ob g15 o_a3
  have o_v0 := gr_ob g15 o_v0
  refine r_putFr (pc := 27) C pfL_X4_22 hn dX4_init_27 o_v0 ?_
  refine r_aload_n (pc := 30) C dX4_init_30 0 rfl ?_
  refine r_bipush (pc := 31) C (v := (12 : Int32)) dX4_init_31 (by decide) ?_
  refine r_newa13 (pc := 33) C (N := 12) g_72 dX4_init_33 (by decide) (by decide) (by decide) (by decide) (by decide) (fun a10 q12 => ?_)
  refine r_heap (fun S11 eS11 => ?_)
  have h := h a10 q12 S11 eS11
  have g13 := gr_of_new eS11 q12
  have o_a10 := ob_of_new eS11
  have o_a1 := gr_ob g13 o_a1
  have o_a3 := gr_ob g13 o_a3
  have o_a8 := gr_ob g13 o_a8
  have o_v0 := gr_ob g13 o_v0
  refine r_putFr (pc := 35) C pfL_X4_26 hn dX4_init_35 o_v0 ?_
  exact r_vret (pc := 38) C E ht dX4_init_38 (by decide) (by decide) h
def P_X4_init (v0 : Nat) (Q : HS → Prop) (S : HS) : Prop := P_X4_init_0 Q v0 S
theorem c_X4_init {l : Launch} {Ee : EE} {S : HS} {v0 : Nat} {Q : HS → Prop} (h : P_X4_init v0 Q S) : MV l yX4_init cX4_init 1 none rm_X4_init Ee S [.ref v0] Q :=
  openV (by decide) (by decide) (fun X C E ht hn hE hl => by subst hE; exact r_sub [0] rfl (T_X4_init_0 C E ht hn h))
def rm_X4_kindOf : Room := { frames := 8, cells := 0, slots := 0, locals := 188 }
def P_X4_kindOf_0 (Q : Int32 → HS → Prop) (v0 : Nat) (v1 : Nat) (S : HS) : Prop := ob S v0 4 ∧ (P_X4_is v0 18 (fun x3 S1 => Gr (sI S v0 9 (0 : Int32)) S1 → bl x3 → (((x3 = 0) → (P_X4_is v0 19 (fun x7 S5 => Gr S1 S5 → bl x7 → (((x7 = 0) → (P_X4_is v0 20 (fun x11 S9 => Gr S5 S9 → bl x11 → (((x11 = 0) → (ob S9 v1 6 ∧ (P_X4_word v0 21 (fun x15 S13 => Gr (sI S9 v1 0 (0 : Int32)) S13 → bl x15 → (∀ x16 : Int32, x16 = fI S13 v0 9 → (bl x15 ∧ Q x15 (sI S13 v1 1 x16)))) (sI S9 v1 0 (0 : Int32))))) ∧ ((¬ x11 = 0) → (ob S9 v1 6 ∧ (P_X4_wordAndWhole v0 20 (1 : Int32) (99 : Int32) (fun x19 S17 => Gr (sI S9 v1 0 (3 : Int32)) S17 → bl x19 → (∀ x20 : Int32, x20 = fI S17 v0 9 → (bl x19 ∧ Q x19 (sI S17 v1 1 x20)))) (sI S9 v1 0 (3 : Int32))))))) S5)) ∧ ((¬ x7 = 0) → (ob S5 v1 6 ∧ (P_X4_wordAndWhole v0 19 (0 : Int32) (999 : Int32) (fun x23 S21 => Gr (sI S5 v1 0 (2 : Int32)) S21 → bl x23 → (∀ x24 : Int32, x24 = fI S21 v0 9 → (bl x23 ∧ Q x23 (sI S21 v1 1 x24)))) (sI S5 v1 0 (2 : Int32))))))) S1)) ∧ ((¬ x3 = 0) → (ob S1 v1 6 ∧ (P_X4_wordAndWhole v0 18 (1 : Int32) (8 : Int32) (fun x27 S25 => Gr (sI S1 v1 0 (1 : Int32)) S25 → bl x27 → (∀ x28 : Int32, x28 = fI S25 v0 9 → (bl x27 ∧ Q x27 (sI S25 v1 1 x28)))) (sI S1 v1 0 (1 : Int32))))))) (sI S v0 9 (0 : Int32)))
set_option maxRecDepth 20000 in
set_option maxHeartbeats 4000000 in
theorem T_X4_kindOf_0 {X : CX} {Q : Int32 → HS → Prop} (C : Cx X cX4_kindOf RX4 3 rm_X4_kindOf) (E : ReI X rm_X4_kindOf (fun r S => bl r ∧ Q r S)) (ht : (xh X).sig.returnType = (some .boolean)) (hn : (xh X).name = yX4_kindOf.name) {v0 : Nat} {v1 : Nat} {S : HS} (h : P_X4_kindOf_0 Q v0 v1 S) : WS X 3 0 0 0 [(0, .ref v0), (1, .ref v1)] [] S := by
  refine r_aload_n (pc := 0) C dX4_kindOf_0 0 rfl ?_
  refine r_iconst (pc := 1) C (v := (0 : Int32)) dX4_kindOf_1 (by decide) ?_
  obtain ⟨o_v0, h⟩ := h
  refine r_puti (pc := 2) C pfL_X4_147 dX4_kindOf_2 o_v0 ?_
  refine r_aload_n (pc := 5) C dX4_kindOf_5 0 rfl ?_
  refine r_ldsw (pc := 6) C 18 rfl dX4_kindOf_6 ?_
  refine r_callVi0 (pc := 9) C (rest := []) (a := v0) o_v0 [.ref (eK (xE X) 18)] yV_X4_is g_458 (c_X4_is h) dX4_kindOf_9 rfl rfl (by decide) ⟨by decide, by decide⟩ ⟨by decide, by decide⟩ ⟨rfl, rfl⟩ (fun x3 S1 h g2 => ?_)
  have bx3 := h.1
  have h := h.2 g2 bx3
  have o_v0 := gr_ob g2 o_v0
  refine r_if_eq (pc := 12) C (tgt := 34) dX4_kindOf_12 (by decide) (fun c4 => ?_) (fun c4 => ?_)
  · have h := h.1 c4
    refine r_aload_n (pc := 34) C dX4_kindOf_34 0 rfl ?_
    refine r_ldsw (pc := 35) C 19 rfl dX4_kindOf_35 ?_
    refine r_callVi0 (pc := 38) C (rest := []) (a := v0) o_v0 [.ref (eK (xE X) 19)] yV_X4_is g_458 (c_X4_is h) dX4_kindOf_38 rfl rfl (by decide) ⟨by decide, by decide⟩ ⟨by decide, by decide⟩ ⟨rfl, rfl⟩ (fun x7 S5 h g6 => ?_)
    have bx7 := h.1
    have h := h.2 g6 bx7
    have o_v0 := gr_ob g6 o_v0
    refine r_if_eq (pc := 41) C (tgt := 64) dX4_kindOf_41 (by decide) (fun c8 => ?_) (fun c8 => ?_)
    · have h := h.1 c8
      refine r_aload_n (pc := 64) C dX4_kindOf_64 0 rfl ?_
      refine r_ldsw (pc := 65) C 20 rfl dX4_kindOf_65 ?_
      refine r_callVi0 (pc := 68) C (rest := []) (a := v0) o_v0 [.ref (eK (xE X) 20)] yV_X4_is g_458 (c_X4_is h) dX4_kindOf_68 rfl rfl (by decide) ⟨by decide, by decide⟩ ⟨by decide, by decide⟩ ⟨rfl, rfl⟩ (fun x11 S9 h g10 => ?_)
      have bx11 := h.1
      have h := h.2 g10 bx11
      have o_v0 := gr_ob g10 o_v0
      refine r_if_eq (pc := 71) C (tgt := 93) dX4_kindOf_71 (by decide) (fun c12 => ?_) (fun c12 => ?_)
      · have h := h.1 c12
        refine r_aload_n (pc := 93) C dX4_kindOf_93 1 rfl ?_
        refine r_iconst (pc := 94) C (v := (0 : Int32)) dX4_kindOf_94 (by decide) ?_
        obtain ⟨o_v1, h⟩ := h
        refine r_puti (pc := 95) C pfL_X4_264 dX4_kindOf_95 o_v1 ?_
        refine r_aload_n (pc := 98) C dX4_kindOf_98 0 rfl ?_
        refine r_ldsw (pc := 99) C 21 rfl dX4_kindOf_99 ?_
        refine r_callVi0 (pc := 102) C (rest := []) (a := v0) o_v0 [.ref (eK (xE X) 21)] yV_X4_word g_528 (c_X4_word h) dX4_kindOf_102 rfl rfl (by decide) ⟨by decide, by decide⟩ ⟨by decide, by decide⟩ ⟨rfl, rfl⟩ (fun x15 S13 h g14 => ?_)
        have bx15 := h.1
        have h := h.2 g14 bx15
        have o_v0 := gr_ob g14 o_v0
        have o_v1 := gr_ob g14 o_v1
        refine r_istore_n (pc := 105) C dX4_kindOf_105 rfl (by decide) (lv' := [(2, .int x15), (0, .ref v0), (1, .ref v1)]) rfl ?_
        refine r_aload_n (pc := 106) C dX4_kindOf_106 2 rfl ?_
        refine r_aload_n (pc := 107) C dX4_kindOf_107 1 rfl ?_
        refine r_geti (pc := 108) C fL_X4_147 dX4_kindOf_108 o_v0 ?_
        refine r_topi (fun x16 ex16 => ?_)
        have h := h x16 ex16
        refine r_puti (pc := 111) C pfL_X4_273 dX4_kindOf_111 o_v1 ?_
        refine r_iload_n (pc := 114) C dX4_kindOf_114 0 rfl ?_
        exact r_zret (pc := 115) C E ht dX4_kindOf_115 (by decide) (by decide) h.1 h.2
      · have h := h.2 c12
        refine r_aload_n (pc := 74) C dX4_kindOf_74 1 rfl ?_
        refine r_iconst (pc := 75) C (v := (3 : Int32)) dX4_kindOf_75 (by decide) ?_
        obtain ⟨o_v1, h⟩ := h
        refine r_puti (pc := 76) C pfL_X4_264 dX4_kindOf_76 o_v1 ?_
        refine r_aload_n (pc := 79) C dX4_kindOf_79 0 rfl ?_
        refine r_ldsw (pc := 80) C 20 rfl dX4_kindOf_80 ?_
        refine r_iconst (pc := 83) C (v := (1 : Int32)) dX4_kindOf_83 (by decide) ?_
        refine r_bipush (pc := 84) C (v := (99 : Int32)) dX4_kindOf_84 (by decide) ?_
        refine r_callVi0 (pc := 86) C (rest := []) (a := v0) o_v0 [.ref (eK (xE X) 20), .int (1 : Int32), .int (99 : Int32)] yV_X4_wordAndWhole g_524 (c_X4_wordAndWhole h) dX4_kindOf_86 rfl rfl (by decide) ⟨by decide, by decide⟩ ⟨by decide, by decide⟩ ⟨rfl, rfl⟩ (fun x19 S17 h g18 => ?_)
        have bx19 := h.1
        have h := h.2 g18 bx19
        have o_v0 := gr_ob g18 o_v0
        have o_v1 := gr_ob g18 o_v1
        refine r_istore_n (pc := 89) C dX4_kindOf_89 rfl (by decide) (lv' := [(2, .int x19), (0, .ref v0), (1, .ref v1)]) rfl ?_
        refine r_goto (pc := 90) C (tgt := 106) dX4_kindOf_90 (by decide) ?_
        refine r_aload_n (pc := 106) C dX4_kindOf_106 2 rfl ?_
        refine r_aload_n (pc := 107) C dX4_kindOf_107 1 rfl ?_
        refine r_geti (pc := 108) C fL_X4_147 dX4_kindOf_108 o_v0 ?_
        refine r_topi (fun x20 ex20 => ?_)
        have h := h x20 ex20
        refine r_puti (pc := 111) C pfL_X4_273 dX4_kindOf_111 o_v1 ?_
        refine r_iload_n (pc := 114) C dX4_kindOf_114 0 rfl ?_
        exact r_zret (pc := 115) C E ht dX4_kindOf_115 (by decide) (by decide) h.1 h.2
    · have h := h.2 c8
      refine r_aload_n (pc := 44) C dX4_kindOf_44 1 rfl ?_
      refine r_iconst (pc := 45) C (v := (2 : Int32)) dX4_kindOf_45 (by decide) ?_
      obtain ⟨o_v1, h⟩ := h
      refine r_puti (pc := 46) C pfL_X4_264 dX4_kindOf_46 o_v1 ?_
      refine r_aload_n (pc := 49) C dX4_kindOf_49 0 rfl ?_
      refine r_ldsw (pc := 50) C 19 rfl dX4_kindOf_50 ?_
      refine r_iconst (pc := 53) C (v := (0 : Int32)) dX4_kindOf_53 (by decide) ?_
      refine r_sipush (pc := 54) C (v := (999 : Int32)) dX4_kindOf_54 (by decide) ?_
      refine r_callVi0 (pc := 57) C (rest := []) (a := v0) o_v0 [.ref (eK (xE X) 19), .int (0 : Int32), .int (999 : Int32)] yV_X4_wordAndWhole g_524 (c_X4_wordAndWhole h) dX4_kindOf_57 rfl rfl (by decide) ⟨by decide, by decide⟩ ⟨by decide, by decide⟩ ⟨rfl, rfl⟩ (fun x23 S21 h g22 => ?_)
      have bx23 := h.1
      have h := h.2 g22 bx23
      have o_v0 := gr_ob g22 o_v0
      have o_v1 := gr_ob g22 o_v1
      refine r_istore_n (pc := 60) C dX4_kindOf_60 rfl (by decide) (lv' := [(2, .int x23), (0, .ref v0), (1, .ref v1)]) rfl ?_
      refine r_goto (pc := 61) C (tgt := 106) dX4_kindOf_61 (by decide) ?_
      refine r_aload_n (pc := 106) C dX4_kindOf_106 2 rfl ?_
      refine r_aload_n (pc := 107) C dX4_kindOf_107 1 rfl ?_
      refine r_geti (pc := 108) C fL_X4_147 dX4_kindOf_108 o_v0 ?_
      refine r_topi (fun x24 ex24 => ?_)
      have h := h x24 ex24
      refine r_puti (pc := 111) C pfL_X4_273 dX4_kindOf_111 o_v1 ?_
      refine r_iload_n (pc := 114) C dX4_kindOf_114 0 rfl ?_
      exact r_zret (pc := 115) C E ht dX4_kindOf_115 (by decide) (by decide) h.1 h.2
  · have h := h.2 c4
    refine r_aload_n (pc := 15) C dX4_kindOf_15 1 rfl ?_
    refine r_iconst (pc := 16) C (v := (1 : Int32)) dX4_kindOf_16 (by decide) ?_
    obtain ⟨o_v1, h⟩ := h
    refine r_puti (pc := 17) C pfL_X4_264 dX4_kindOf_17 o_v1 ?_
    refine r_aload_n (pc := 20) C dX4_kindOf_20 0 rfl ?_
    refine r_ldsw (pc := 21) C 18 rfl dX4_kindOf_21 ?_
    refine r_iconst (pc := 24) C (v := (1 : Int32)) dX4_kindOf_24 (by decide) ?_
    refine r_bipush (pc := 25) C (v := (8 : Int32)) dX4_kindOf_25 (by decide) ?_
    refine r_callVi0 (pc := 27) C (rest := []) (a := v0) o_v0 [.ref (eK (xE X) 18), .int (1 : Int32), .int (8 : Int32)] yV_X4_wordAndWhole g_524 (c_X4_wordAndWhole h) dX4_kindOf_27 rfl rfl (by decide) ⟨by decide, by decide⟩ ⟨by decide, by decide⟩ ⟨rfl, rfl⟩ (fun x27 S25 h g26 => ?_)
    have bx27 := h.1
    have h := h.2 g26 bx27
    have o_v0 := gr_ob g26 o_v0
    have o_v1 := gr_ob g26 o_v1
    refine r_istore_n (pc := 30) C dX4_kindOf_30 rfl (by decide) (lv' := [(2, .int x27), (0, .ref v0), (1, .ref v1)]) rfl ?_
    refine r_goto (pc := 31) C (tgt := 106) dX4_kindOf_31 (by decide) ?_
    refine r_aload_n (pc := 106) C dX4_kindOf_106 2 rfl ?_
    refine r_aload_n (pc := 107) C dX4_kindOf_107 1 rfl ?_
    refine r_geti (pc := 108) C fL_X4_147 dX4_kindOf_108 o_v0 ?_
    refine r_topi (fun x28 ex28 => ?_)
    have h := h x28 ex28
    refine r_puti (pc := 111) C pfL_X4_273 dX4_kindOf_111 o_v1 ?_
    refine r_iload_n (pc := 114) C dX4_kindOf_114 0 rfl ?_
    exact r_zret (pc := 115) C E ht dX4_kindOf_115 (by decide) (by decide) h.1 h.2
def P_X4_kindOf (v0 : Nat) (v1 : Nat) (Q : Int32 → HS → Prop) (S : HS) : Prop := P_X4_kindOf_0 Q v0 v1 S
theorem c_X4_kindOf {l : Launch} {Ee : EE} {S : HS} {v0 : Nat} {v1 : Nat} {Q : Int32 → HS → Prop} (h : P_X4_kindOf v0 v1 Q S) : MI l yX4_kindOf cX4_kindOf 3 (some .boolean) rm_X4_kindOf Ee S [.ref v0, .ref v1] (fun r S => bl r ∧ Q r S) :=
  openI (by decide) (by decide) (fun X C E ht hn hE hl => by subst hE; exact r_sub [0, 1] rfl (T_X4_kindOf_0 C E ht hn h))
def rm_X4_newName : Room := { frames := 7, cells := 0, slots := 0, locals := 165 }
def P_X4_newName_69 (Q : Int32 → HS → Prop) (v0 : Nat) (S : HS) : Prop := ob S v0 4 ∧ (P_X4_next v0 (fun S1 => Gr S S1 → (Q (1 : Int32) S1)) S)
set_option maxRecDepth 20000 in
set_option maxHeartbeats 4000000 in
theorem T_X4_newName_69 {X : CX} {Q : Int32 → HS → Prop} (C : Cx X cX4_newName RX4 2 rm_X4_newName) (E : ReI X rm_X4_newName (fun r S => bl r ∧ Q r S)) (ht : (xh X).sig.returnType = (some .boolean)) (hn : (xh X).name = yX4_newName.name) {v0 : Nat} {S : HS} (h : P_X4_newName_69 Q v0 S) : WS X 2 0 0 69 [(0, .ref v0)] [] S := by
  refine r_aload_n (pc := 69) C dX4_newName_69 0 rfl ?_
  obtain ⟨o_v0, h⟩ := h
  refine r_callVv0 (pc := 70) C (rest := []) (a := v0) o_v0 [] yV_X4_next g_449 (c_X4_next h) dX4_newName_70 rfl rfl (by decide) ⟨by decide, by decide⟩ ⟨by decide, by decide⟩ ⟨rfl, rfl⟩ (fun S1 h g2 => ?_)
  have h := h g2
  have o_v0 := gr_ob g2 o_v0
  refine r_iconst (pc := 73) C (v := (1 : Int32)) dX4_newName_73 (by decide) ?_
  exact r_zret (pc := 74) C E ht dX4_newName_74 (by decide) (by decide) (Or.inr rfl) h
def P_X4_newName_0 (Q : Int32 → HS → Prop) (v0 : Nat) (v1 : Int32) (S : HS) : Prop := ob S v0 4 ∧ (P_X4_canBeName v0 (fun x3 S1 => Gr S S1 → bl x3 → (((¬ x3 = 0) → (P_X4_findName v0 (fun x7 S5 => Gr S1 S5 → (((x7 = (-1 : Int32)) → (∀ x9 : Int32, x9 = fI S5 v0 10 → ((((12 : Int32) ≤ x9) → (P_X4_newName_69 Q v0 S5)) ∧ ((¬ (12 : Int32) ≤ x9) → (∃ a11 : Nat, fR S5 v0 11 = some a11 ∧ (∀ x12 : Int32, x12 = fI S5 v0 10 → (∀ x13 : Int64, x13 = fJ S5 v0 8 → (ob S5 a11 14 ∧ (vp_in x12 (hN S5 a11) ∧ (∃ a15 : Nat, fR (sJ S5 a11 x12.toNatClampNeg x13) v0 12 = some a15 ∧ (∀ x16 : Int32, x16 = fI (sJ S5 a11 x12.toNatClampNeg x13) v0 10 → (ob (sJ S5 a11 x12.toNatClampNeg x13) a15 13 ∧ (vp_in x16 (hN (sJ S5 a11 x12.toNatClampNeg x13) a15) ∧ (∀ x18 : Int32, x18 = fI (sI (sJ S5 a11 x12.toNatClampNeg x13) a15 x16.toNatClampNeg v1) v0 10 → (∀ x19 : Int32, x19 = x18 + (1 : Int32) → (P_X4_newName_69 Q v0 (sI (sI (sJ S5 a11 x12.toNatClampNeg x13) a15 x16.toNatClampNeg v1) v0 10 x19))))))))))))))))) ∧ ((¬ x7 = (-1 : Int32)) → (P_X4_fail v0 (3 : Int32) (fun x22 S20 => Gr S5 S20 → bl x22 → (bl x22 ∧ Q x22 S20)) S5)))) S1)) ∧ ((x3 = 0) → (P_X4_fail v0 (1 : Int32) (fun x25 S23 => Gr S1 S23 → bl x25 → (bl x25 ∧ Q x25 S23)) S1)))) S)
set_option maxRecDepth 20000 in
set_option maxHeartbeats 4000000 in
theorem T_X4_newName_0 {X : CX} {Q : Int32 → HS → Prop} (C : Cx X cX4_newName RX4 2 rm_X4_newName) (E : ReI X rm_X4_newName (fun r S => bl r ∧ Q r S)) (ht : (xh X).sig.returnType = (some .boolean)) (hn : (xh X).name = yX4_newName.name) {v0 : Nat} {v1 : Int32} {S : HS} (h : P_X4_newName_0 Q v0 v1 S) : WS X 2 0 0 0 [(0, .ref v0), (1, .int v1)] [] S := by
  refine r_aload_n (pc := 0) C dX4_newName_0 0 rfl ?_
  obtain ⟨o_v0, h⟩ := h
  refine r_callVi0 (pc := 1) C (rest := []) (a := v0) o_v0 [] yV_X4_canBeName g_566 (c_X4_canBeName h) dX4_newName_1 rfl rfl (by decide) ⟨by decide, by decide⟩ ⟨by decide, by decide⟩ ⟨rfl, rfl⟩ (fun x3 S1 h g2 => ?_)
  have bx3 := h.1
  have h := h.2 g2 bx3
  have o_v0 := gr_ob g2 o_v0
  refine r_if_ne (pc := 4) C (tgt := 13) dX4_newName_4 (by decide) (fun c4 => ?_) (fun c4 => ?_)
  · have h := h.1 c4
    refine r_aload_n (pc := 13) C dX4_newName_13 0 rfl ?_
    refine r_callVi0 (pc := 14) C (rest := []) (a := v0) o_v0 [] yV_X4_findName g_576 (c_X4_findName h) dX4_newName_14 rfl rfl (by decide) ⟨by decide, by decide⟩ ⟨by decide, by decide⟩ ⟨rfl, rfl⟩ (fun x7 S5 h g6 => ?_)
    have h := h g6
    have o_v0 := gr_ob g6 o_v0
    refine r_iconst (pc := 17) C (v := (-1 : Int32)) dX4_newName_17 (by decide) ?_
    refine r_icmp_eq (pc := 18) C (tgt := 27) dX4_newName_18 (by decide) (fun c8 => ?_) (fun c8 => ?_)
    · have h := h.1 c8
      refine r_aload_n (pc := 27) C dX4_newName_27 0 rfl ?_
      refine r_geti (pc := 28) C fL_X4_116 dX4_newName_28 o_v0 ?_
      refine r_topi (fun x9 ex9 => ?_)
      have h := h x9 ex9
      refine r_bipush (pc := 31) C (v := (12 : Int32)) dX4_newName_31 (by decide) ?_
      refine r_icmp_ge (pc := 33) C (tgt := 69) dX4_newName_33 (by decide) (fun c10 => ?_) (fun c10 => ?_)
      · have h := h.1 c10
        exact r_sub [0] rfl (T_X4_newName_69 C E ht hn h)
      · have h := h.2 c10
        refine r_aload_n (pc := 36) C dX4_newName_36 0 rfl ?_
        obtain ⟨a11, ea11, h⟩ := h
        refine r_getr (pc := 37) C fL_X4_22 dX4_newName_37 o_v0 ea11 ?_
        refine r_aload_n (pc := 40) C dX4_newName_40 0 rfl ?_
        refine r_geti (pc := 41) C fL_X4_116 dX4_newName_41 o_v0 ?_
        refine r_topi (fun x12 ex12 => ?_)
        have h := h x12 ex12
        refine r_aload_n (pc := 44) C dX4_newName_44 0 rfl ?_
        refine r_getl (pc := 45) C fL_X4_132 dX4_newName_45 o_v0 ?_
        refine r_topl (fun x13 ex13 => ?_)
        have h := h x13 ex13
        obtain ⟨o_a11, h⟩ := h
        obtain ⟨i14, h⟩ := h
        refine r_last (pc := 48) C dX4_newName_48 o_a11 i14 ?_
        refine r_aload_n (pc := 49) C dX4_newName_49 0 rfl ?_
        obtain ⟨a15, ea15, h⟩ := h
        refine r_getr (pc := 50) C fL_X4_26 dX4_newName_50 o_v0 ea15 ?_
        refine r_aload_n (pc := 53) C dX4_newName_53 0 rfl ?_
        refine r_geti (pc := 54) C fL_X4_116 dX4_newName_54 o_v0 ?_
        refine r_topi (fun x16 ex16 => ?_)
        have h := h x16 ex16
        refine r_iload_n (pc := 57) C dX4_newName_57 1 rfl ?_
        obtain ⟨o_a15, h⟩ := h
        obtain ⟨i17, h⟩ := h
        refine r_iast (pc := 58) C dX4_newName_58 o_a15 i17 ?_
        refine r_aload_n (pc := 59) C dX4_newName_59 0 rfl ?_
        refine r_dup (pc := 60) C dX4_newName_60 rfl ?_
        refine r_geti (pc := 61) C fL_X4_116 dX4_newName_61 o_v0 ?_
        refine r_topi (fun x18 ex18 => ?_)
        have h := h x18 ex18
        refine r_iconst (pc := 64) C (v := (1 : Int32)) dX4_newName_64 (by decide) ?_
        refine r_iadd (pc := 65) C dX4_newName_65 ?_
        refine r_topi (fun x19 ex19 => ?_)
        have h := h x19 ex19
        refine r_puti (pc := 66) C pfL_X4_116 dX4_newName_66 o_v0 ?_
        exact r_sub [0] rfl (T_X4_newName_69 C E ht hn h)
    · have h := h.2 c8
      refine r_aload_n (pc := 21) C dX4_newName_21 0 rfl ?_
      refine r_iconst (pc := 22) C (v := (3 : Int32)) dX4_newName_22 (by decide) ?_
      refine r_callVi0 (pc := 23) C (rest := []) (a := v0) o_v0 [.int (3 : Int32)] yV_X4_fail g_519 (c_X4_fail h) dX4_newName_23 rfl rfl (by decide) ⟨by decide, by decide⟩ ⟨by decide, by decide⟩ ⟨rfl, rfl⟩ (fun x22 S20 h g21 => ?_)
      have bx22 := h.1
      have h := h.2 g21 bx22
      have o_v0 := gr_ob g21 o_v0
      exact r_zret (pc := 26) C E ht dX4_newName_26 (by decide) (by decide) h.1 h.2
  · have h := h.2 c4
    refine r_aload_n (pc := 7) C dX4_newName_7 0 rfl ?_
    refine r_iconst (pc := 8) C (v := (1 : Int32)) dX4_newName_8 (by decide) ?_
    refine r_callVi0 (pc := 9) C (rest := []) (a := v0) o_v0 [.int (1 : Int32)] yV_X4_fail g_519 (c_X4_fail h) dX4_newName_9 rfl rfl (by decide) ⟨by decide, by decide⟩ ⟨by decide, by decide⟩ ⟨rfl, rfl⟩ (fun x25 S23 h g24 => ?_)
    have bx25 := h.1
    have h := h.2 g24 bx25
    have o_v0 := gr_ob g24 o_v0
    exact r_zret (pc := 12) C E ht dX4_newName_12 (by decide) (by decide) h.1 h.2
def P_X4_newName (v0 : Nat) (v1 : Int32) (Q : Int32 → HS → Prop) (S : HS) : Prop := P_X4_newName_0 Q v0 v1 S
theorem c_X4_newName {l : Launch} {Ee : EE} {S : HS} {v0 : Nat} {v1 : Int32} {Q : Int32 → HS → Prop} (h : P_X4_newName v0 v1 Q S) : MI l yX4_newName cX4_newName 2 (some .boolean) rm_X4_newName Ee S [.ref v0, .int v1] (fun r S => bl r ∧ Q r S) :=
  openI (by decide) (by decide) (fun X C E ht hn hE hl => by subst hE; exact r_sub [0, 1] rfl (T_X4_newName_0 C E ht hn h))
def rm_X8_clear : Room := { frames := 0, cells := 0, slots := 0, locals := 0 }
def P_X8_clear_0 (Q : HS → Prop) (v0 : Nat) (S : HS) : Prop := ob S v0 8 ∧ (Q (sI (sI (sI (sI (sI (sI S v0 0 (0 : Int32)) v0 1 (0 : Int32)) v0 2 (0 : Int32)) v0 3 (0 : Int32)) v0 4 (0 : Int32)) v0 5 (0 : Int32)))
set_option maxRecDepth 20000 in
set_option maxHeartbeats 4000000 in
theorem T_X8_clear_0 {X : CX} {Q : HS → Prop} (C : Cx X cX8_clear RX8 1 rm_X8_clear) (E : ReV X rm_X8_clear Q) (ht : (xh X).sig.returnType = none) (hn : (xh X).name = yX8_clear.name) {v0 : Nat} {S : HS} (h : P_X8_clear_0 Q v0 S) : WS X 1 0 0 0 [(0, .ref v0)] [] S := by
  refine r_aload_n (pc := 0) C dX8_clear_0 0 rfl ?_
  refine r_iconst (pc := 1) C (v := (0 : Int32)) dX8_clear_1 (by decide) ?_
  obtain ⟨o_v0, h⟩ := h
  refine r_puti (pc := 2) C pfL_X8_42 dX8_clear_2 o_v0 ?_
  refine r_aload_n (pc := 5) C dX8_clear_5 0 rfl ?_
  refine r_iconst (pc := 6) C (v := (0 : Int32)) dX8_clear_6 (by decide) ?_
  refine r_puti (pc := 7) C pfL_X8_46 dX8_clear_7 o_v0 ?_
  refine r_aload_n (pc := 10) C dX8_clear_10 0 rfl ?_
  refine r_iconst (pc := 11) C (v := (0 : Int32)) dX8_clear_11 (by decide) ?_
  refine r_puti (pc := 12) C pfL_X8_49 dX8_clear_12 o_v0 ?_
  refine r_aload_n (pc := 15) C dX8_clear_15 0 rfl ?_
  refine r_iconst (pc := 16) C (v := (0 : Int32)) dX8_clear_16 (by decide) ?_
  refine r_puti (pc := 17) C pfL_X8_52 dX8_clear_17 o_v0 ?_
  refine r_aload_n (pc := 20) C dX8_clear_20 0 rfl ?_
  refine r_iconst (pc := 21) C (v := (0 : Int32)) dX8_clear_21 (by decide) ?_
  refine r_puti (pc := 22) C pfL_X8_55 dX8_clear_22 o_v0 ?_
  refine r_aload_n (pc := 25) C dX8_clear_25 0 rfl ?_
  refine r_iconst (pc := 26) C (v := (0 : Int32)) dX8_clear_26 (by decide) ?_
  refine r_puti (pc := 27) C pfL_X8_58 dX8_clear_27 o_v0 ?_
  exact r_vret (pc := 30) C E ht dX8_clear_30 (by decide) (by decide) h
def P_X8_clear (v0 : Nat) (Q : HS → Prop) (S : HS) : Prop := P_X8_clear_0 Q v0 S
theorem c_X8_clear {l : Launch} {Ee : EE} {S : HS} {v0 : Nat} {Q : HS → Prop} (h : P_X8_clear v0 Q S) : MV l yX8_clear cX8_clear 1 none rm_X8_clear Ee S [.ref v0] Q :=
  openV (by decide) (by decide) (fun X C E ht hn hE hl => by subst hE; exact r_sub [0] rfl (T_X8_clear_0 C E ht hn h))
def rm_X4_open : Room := { frames := 2, cells := 0, slots := 0, locals := 46 }
def P_X4_open_0 (Q : HS → Prop) (v0 : Nat) (v1 : Nat) (v2 : Int32) (S : HS) : Prop := ob S v0 4 ∧ (ob (sR S v0 2 (some v1)) v1 12 ∧ (∀ x1 : Int32, x1 = (if nI (hN (sR S v0 2 (some v1)) v1) < v2 then nI (hN (sR S v0 2 (some v1)) v1) else v2) → (∃ a2 : Nat, fR (sI (sI (sI (sI (sI (sR S v0 2 (some v1)) v0 3 x1) v0 4 (0 : Int32)) v0 0 (0 : Int32)) v0 1 (0 : Int32)) v0 10 (0 : Int32)) v0 5 = some a2 ∧ (ob (sI (sI (sI (sI (sI (sR S v0 2 (some v1)) v0 3 x1) v0 4 (0 : Int32)) v0 0 (0 : Int32)) v0 1 (0 : Int32)) v0 10 (0 : Int32)) a2 8 ∧ (P_X8_clear a2 (fun S3 => Gr (sI (sI (sI (sI (sI (sR S v0 2 (some v1)) v0 3 x1) v0 4 (0 : Int32)) v0 0 (0 : Int32)) v0 1 (0 : Int32)) v0 10 (0 : Int32)) S3 → (P_X4_next v0 (fun S6 => Gr S3 S6 → (Q S6)) S3)) (sI (sI (sI (sI (sI (sR S v0 2 (some v1)) v0 3 x1) v0 4 (0 : Int32)) v0 0 (0 : Int32)) v0 1 (0 : Int32)) v0 10 (0 : Int32)))))))
set_option maxRecDepth 20000 in
set_option maxHeartbeats 4000000 in
theorem T_X4_open_0 {X : CX} {Q : HS → Prop} (C : Cx X cX4_open RX4 3 rm_X4_open) (E : ReV X rm_X4_open Q) (ht : (xh X).sig.returnType = none) (hn : (xh X).name = yX4_open.name) {v0 : Nat} {v1 : Nat} {v2 : Int32} {S : HS} (h : P_X4_open_0 Q v0 v1 v2 S) : WS X 3 0 0 0 [(0, .ref v0), (1, .ref v1), (2, .int v2)] [] S := by
  refine r_aload_n (pc := 0) C dX4_open_0 0 rfl ?_
  refine r_aload_n (pc := 1) C dX4_open_1 1 rfl ?_
  obtain ⟨o_v0, h⟩ := h
  refine r_putr (pc := 2) C pfL_X4_9 dX4_open_2 o_v0 ?_
  refine r_aload_n (pc := 5) C dX4_open_5 0 rfl ?_
  refine r_iload_n (pc := 6) C dX4_open_6 2 rfl ?_
  refine r_aload_n (pc := 7) C dX4_open_7 1 rfl ?_
  obtain ⟨o_v1, h⟩ := h
  refine r_alen12 (pc := 8) C dX4_open_8 o_v1 ?_
  refine r_min (pc := 9) C g_442 dX4_open_9 (by decide) (by decide) (by decide) (by decide) ?_
  refine r_topi (fun x1 ex1 => ?_)
  have h := h x1 ex1
  refine r_puti (pc := 12) C pfL_X4_104 dX4_open_12 o_v0 ?_
  refine r_aload_n (pc := 15) C dX4_open_15 0 rfl ?_
  refine r_iconst (pc := 16) C (v := (0 : Int32)) dX4_open_16 (by decide) ?_
  refine r_puti (pc := 17) C pfL_X4_107 dX4_open_17 o_v0 ?_
  refine r_aload_n (pc := 20) C dX4_open_20 0 rfl ?_
  refine r_iconst (pc := 21) C (v := (0 : Int32)) dX4_open_21 (by decide) ?_
  refine r_puti (pc := 22) C pfL_X4_110 dX4_open_22 o_v0 ?_
  refine r_aload_n (pc := 25) C dX4_open_25 0 rfl ?_
  refine r_iconst (pc := 26) C (v := (0 : Int32)) dX4_open_26 (by decide) ?_
  refine r_puti (pc := 27) C pfL_X4_113 dX4_open_27 o_v0 ?_
  refine r_aload_n (pc := 30) C dX4_open_30 0 rfl ?_
  refine r_iconst (pc := 31) C (v := (0 : Int32)) dX4_open_31 (by decide) ?_
  refine r_puti (pc := 32) C pfL_X4_116 dX4_open_32 o_v0 ?_
  refine r_aload_n (pc := 35) C dX4_open_35 0 rfl ?_
  obtain ⟨a2, ea2, h⟩ := h
  refine r_getr (pc := 36) C fL_X4_18 dX4_open_36 o_v0 ea2 ?_
  obtain ⟨o_a2, h⟩ := h
  refine r_callVv0 (pc := 39) C (rest := []) (a := a2) o_a2 [] yV_X8_clear g_445 (c_X8_clear h) dX4_open_39 rfl rfl (by decide) ⟨by decide, by decide⟩ ⟨by decide, by decide⟩ ⟨rfl, rfl⟩ (fun S3 h g4 => ?_)
  have h := h g4
  have o_a2 := gr_ob g4 o_a2
  have o_v0 := gr_ob g4 o_v0
  have o_v1 := gr_ob g4 o_v1
  refine r_aload_n (pc := 42) C dX4_open_42 0 rfl ?_
  refine r_callVv0 (pc := 43) C (rest := []) (a := v0) o_v0 [] yV_X4_next g_449 (c_X4_next h) dX4_open_43 rfl rfl (by decide) ⟨by decide, by decide⟩ ⟨by decide, by decide⟩ ⟨rfl, rfl⟩ (fun S6 h g7 => ?_)
  have h := h g7
  have o_a2 := gr_ob g7 o_a2
  have o_v0 := gr_ob g7 o_v0
  have o_v1 := gr_ob g7 o_v1
  exact r_vret (pc := 46) C E ht dX4_open_46 (by decide) (by decide) h
def P_X4_open (v0 : Nat) (v1 : Nat) (v2 : Int32) (Q : HS → Prop) (S : HS) : Prop := P_X4_open_0 Q v0 v1 v2 S
theorem c_X4_open {l : Launch} {Ee : EE} {S : HS} {v0 : Nat} {v1 : Nat} {v2 : Int32} {Q : HS → Prop} (h : P_X4_open v0 v1 v2 Q S) : MV l yX4_open cX4_open 3 none rm_X4_open Ee S [.ref v0, .ref v1, .int v2] Q :=
  openV (by decide) (by decide) (fun X C E ht hn hE hl => by subst hE; exact r_sub [0, 1, 2] rfl (T_X4_open_0 C E ht hn h))
def rm_X4_placeBut : Room := { frames := 7, cells := 0, slots := 0, locals := 165 }
def P_X4_placeBut_29 (Q : Int32 → HS → Prop) (v0 : Nat) (S : HS) : Prop := ob S v0 4 ∧ (P_X4_fail v0 (2 : Int32) (fun x3 S1 => Gr S S1 → bl x3 → (bl x3 ∧ Q x3 S1)) S)
set_option maxRecDepth 20000 in
set_option maxHeartbeats 4000000 in
theorem T_X4_placeBut_29 {X : CX} {Q : Int32 → HS → Prop} (C : Cx X cX4_placeBut RX4 3 rm_X4_placeBut) (E : ReI X rm_X4_placeBut (fun r S => bl r ∧ Q r S)) (ht : (xh X).sig.returnType = (some .boolean)) (hn : (xh X).name = yX4_placeBut.name) {v0 : Nat} {S : HS} (h : P_X4_placeBut_29 Q v0 S) : WS X 3 0 0 29 [(0, .ref v0)] [] S := by
  refine r_aload_n (pc := 29) C dX4_placeBut_29 0 rfl ?_
  refine r_iconst (pc := 30) C (v := (2 : Int32)) dX4_placeBut_30 (by decide) ?_
  obtain ⟨o_v0, h⟩ := h
  refine r_callVi0 (pc := 31) C (rest := []) (a := v0) o_v0 [.int (2 : Int32)] yV_X4_fail g_519 (c_X4_fail h) dX4_placeBut_31 rfl rfl (by decide) ⟨by decide, by decide⟩ ⟨by decide, by decide⟩ ⟨rfl, rfl⟩ (fun x3 S1 h g2 => ?_)
  have bx3 := h.1
  have h := h.2 g2 bx3
  have o_v0 := gr_ob g2 o_v0
  exact r_zret (pc := 34) C E ht dX4_placeBut_34 (by decide) (by decide) h.1 h.2
def P_X4_placeBut_0 (Q : Int32 → HS → Prop) (v0 : Nat) (v1 : Int32) (S : HS) : Prop := ob S v0 4 ∧ (P_X4_canBeName v0 (fun x3 S1 => Gr S S1 → bl x3 → (((¬ x3 = 0) → (P_X4_findName v0 (fun x7 S5 => Gr S1 S5 → (((x7 = (-1 : Int32)) → (P_X4_placeBut_29 Q v0 S5)) ∧ ((¬ x7 = (-1 : Int32)) → (((x7 < (8 : Int32)) → (((¬ x7 = v1) → (P_X4_next v0 (fun S11 => Gr (sI S5 v0 9 x7) S11 → (Q (1 : Int32) S11)) (sI S5 v0 9 x7))) ∧ ((x7 = v1) → (P_X4_fail v0 (3 : Int32) (fun x16 S14 => Gr S5 S14 → bl x16 → (bl x16 ∧ Q x16 S14)) S5)))) ∧ ((¬ x7 < (8 : Int32)) → (P_X4_placeBut_29 Q v0 S5)))))) S1)) ∧ ((x3 = 0) → (P_X4_fail v0 (1 : Int32) (fun x19 S17 => Gr S1 S17 → bl x19 → (bl x19 ∧ Q x19 S17)) S1)))) S)
set_option maxRecDepth 20000 in
set_option maxHeartbeats 4000000 in
theorem T_X4_placeBut_0 {X : CX} {Q : Int32 → HS → Prop} (C : Cx X cX4_placeBut RX4 3 rm_X4_placeBut) (E : ReI X rm_X4_placeBut (fun r S => bl r ∧ Q r S)) (ht : (xh X).sig.returnType = (some .boolean)) (hn : (xh X).name = yX4_placeBut.name) {v0 : Nat} {v1 : Int32} {S : HS} (h : P_X4_placeBut_0 Q v0 v1 S) : WS X 3 0 0 0 [(0, .ref v0), (1, .int v1)] [] S := by
  refine r_aload_n (pc := 0) C dX4_placeBut_0 0 rfl ?_
  obtain ⟨o_v0, h⟩ := h
  refine r_callVi0 (pc := 1) C (rest := []) (a := v0) o_v0 [] yV_X4_canBeName g_566 (c_X4_canBeName h) dX4_placeBut_1 rfl rfl (by decide) ⟨by decide, by decide⟩ ⟨by decide, by decide⟩ ⟨rfl, rfl⟩ (fun x3 S1 h g2 => ?_)
  have bx3 := h.1
  have h := h.2 g2 bx3
  have o_v0 := gr_ob g2 o_v0
  refine r_if_ne (pc := 4) C (tgt := 13) dX4_placeBut_4 (by decide) (fun c4 => ?_) (fun c4 => ?_)
  · have h := h.1 c4
    refine r_aload_n (pc := 13) C dX4_placeBut_13 0 rfl ?_
    refine r_callVi0 (pc := 14) C (rest := []) (a := v0) o_v0 [] yV_X4_findName g_576 (c_X4_findName h) dX4_placeBut_14 rfl rfl (by decide) ⟨by decide, by decide⟩ ⟨by decide, by decide⟩ ⟨rfl, rfl⟩ (fun x7 S5 h g6 => ?_)
    have h := h g6
    have o_v0 := gr_ob g6 o_v0
    refine r_istore_n (pc := 17) C dX4_placeBut_17 rfl (by decide) (lv' := [(2, .int x7), (0, .ref v0), (1, .int v1)]) rfl ?_
    refine r_iload_n (pc := 18) C dX4_placeBut_18 0 rfl ?_
    refine r_iconst (pc := 19) C (v := (-1 : Int32)) dX4_placeBut_19 (by decide) ?_
    refine r_icmp_eq (pc := 20) C (tgt := 29) dX4_placeBut_20 (by decide) (fun c8 => ?_) (fun c8 => ?_)
    · have h := h.1 c8
      exact r_sub [1] rfl (T_X4_placeBut_29 C E ht hn h)
    · have h := h.2 c8
      refine r_iload_n (pc := 23) C dX4_placeBut_23 0 rfl ?_
      refine r_bipush (pc := 24) C (v := (8 : Int32)) dX4_placeBut_24 (by decide) ?_
      refine r_icmp_lt (pc := 26) C (tgt := 35) dX4_placeBut_26 (by decide) (fun c9 => ?_) (fun c9 => ?_)
      · have h := h.1 c9
        refine r_iload_n (pc := 35) C dX4_placeBut_35 0 rfl ?_
        refine r_iload_n (pc := 36) C dX4_placeBut_36 2 rfl ?_
        refine r_icmp_ne (pc := 37) C (tgt := 46) dX4_placeBut_37 (by decide) (fun c10 => ?_) (fun c10 => ?_)
        · have h := h.1 c10
          refine r_aload_n (pc := 46) C dX4_placeBut_46 1 rfl ?_
          refine r_iload_n (pc := 47) C dX4_placeBut_47 0 rfl ?_
          refine r_puti (pc := 48) C pfL_X4_147 dX4_placeBut_48 o_v0 ?_
          refine r_aload_n (pc := 51) C dX4_placeBut_51 1 rfl ?_
          refine r_callVv0 (pc := 52) C (rest := []) (a := v0) o_v0 [] yV_X4_next g_449 (c_X4_next h) dX4_placeBut_52 rfl rfl (by decide) ⟨by decide, by decide⟩ ⟨by decide, by decide⟩ ⟨rfl, rfl⟩ (fun S11 h g12 => ?_)
          have h := h g12
          have o_v0 := gr_ob g12 o_v0
          refine r_iconst (pc := 55) C (v := (1 : Int32)) dX4_placeBut_55 (by decide) ?_
          exact r_zret (pc := 56) C E ht dX4_placeBut_56 (by decide) (by decide) (Or.inr rfl) h
        · have h := h.2 c10
          refine r_aload_n (pc := 40) C dX4_placeBut_40 1 rfl ?_
          refine r_iconst (pc := 41) C (v := (3 : Int32)) dX4_placeBut_41 (by decide) ?_
          refine r_callVi0 (pc := 42) C (rest := []) (a := v0) o_v0 [.int (3 : Int32)] yV_X4_fail g_519 (c_X4_fail h) dX4_placeBut_42 rfl rfl (by decide) ⟨by decide, by decide⟩ ⟨by decide, by decide⟩ ⟨rfl, rfl⟩ (fun x16 S14 h g15 => ?_)
          have bx16 := h.1
          have h := h.2 g15 bx16
          have o_v0 := gr_ob g15 o_v0
          exact r_zret (pc := 45) C E ht dX4_placeBut_45 (by decide) (by decide) h.1 h.2
      · have h := h.2 c9
        exact r_sub [1] rfl (T_X4_placeBut_29 C E ht hn h)
  · have h := h.2 c4
    refine r_aload_n (pc := 7) C dX4_placeBut_7 0 rfl ?_
    refine r_iconst (pc := 8) C (v := (1 : Int32)) dX4_placeBut_8 (by decide) ?_
    refine r_callVi0 (pc := 9) C (rest := []) (a := v0) o_v0 [.int (1 : Int32)] yV_X4_fail g_519 (c_X4_fail h) dX4_placeBut_9 rfl rfl (by decide) ⟨by decide, by decide⟩ ⟨by decide, by decide⟩ ⟨rfl, rfl⟩ (fun x19 S17 h g18 => ?_)
    have bx19 := h.1
    have h := h.2 g18 bx19
    have o_v0 := gr_ob g18 o_v0
    exact r_zret (pc := 12) C E ht dX4_placeBut_12 (by decide) (by decide) h.1 h.2
def P_X4_placeBut (v0 : Nat) (v1 : Int32) (Q : Int32 → HS → Prop) (S : HS) : Prop := P_X4_placeBut_0 Q v0 v1 S
theorem c_X4_placeBut {l : Launch} {Ee : EE} {S : HS} {v0 : Nat} {v1 : Int32} {Q : Int32 → HS → Prop} (h : P_X4_placeBut v0 v1 Q S) : MI l yX4_placeBut cX4_placeBut 3 (some .boolean) rm_X4_placeBut Ee S [.ref v0, .int v1] (fun r S => bl r ∧ Q r S) :=
  openI (by decide) (by decide) (fun X C E ht hn hE hl => by subst hE; exact r_sub [0, 1] rfl (T_X4_placeBut_0 C E ht hn h))
def rm_X4_placeLine : Room := { frames := 8, cells := 0, slots := 0, locals := 188 }
def P_X4_placeLine_64 (Q : Int32 → HS → Prop) (v0 : Nat) (v1 : Int32) (S : HS) : Prop := ob S v0 4 ∧ (∃ a1 : Nat, fR S v0 5 = some a1 ∧ (ob S a1 8 ∧ (∃ a2 : Nat, fR S a1 7 = some a2 ∧ (∃ a3 : Nat, fR S v0 5 = some a3 ∧ (ob S a3 8 ∧ (∀ x4 : Int32, x4 = fI S a3 2 → (ob S a2 13 ∧ (vp_in x4 (hN S a2) ∧ (∃ a6 : Nat, fR (sI S a2 x4.toNatClampNeg v1) v0 5 = some a6 ∧ (ob (sI S a2 x4.toNatClampNeg v1) a6 8 ∧ (∀ x7 : Int32, x7 = fI (sI S a2 x4.toNatClampNeg v1) a6 2 → (∀ x8 : Int32, x8 = x7 + (1 : Int32) → (Q (1 : Int32) (sI (sI S a2 x4.toNatClampNeg v1) a6 2 x8))))))))))))))
set_option maxRecDepth 20000 in
set_option maxHeartbeats 4000000 in
theorem T_X4_placeLine_64 {X : CX} {Q : Int32 → HS → Prop} (C : Cx X cX4_placeLine RX4 2 rm_X4_placeLine) (E : ReI X rm_X4_placeLine (fun r S => bl r ∧ Q r S)) (ht : (xh X).sig.returnType = (some .boolean)) (hn : (xh X).name = yX4_placeLine.name) {v0 : Nat} {v1 : Int32} {S : HS} (h : P_X4_placeLine_64 Q v0 v1 S) : WS X 2 0 0 64 [(0, .ref v0), (1, .int v1)] [] S := by
  refine r_aload_n (pc := 64) C dX4_placeLine_64 0 rfl ?_
  obtain ⟨o_v0, h⟩ := h
  obtain ⟨a1, ea1, h⟩ := h
  refine r_getr (pc := 65) C fL_X4_18 dX4_placeLine_65 o_v0 ea1 ?_
  obtain ⟨o_a1, h⟩ := h
  obtain ⟨a2, ea2, h⟩ := h
  refine r_getr (pc := 68) C fL_X4_218 dX4_placeLine_68 o_a1 ea2 ?_
  refine r_aload_n (pc := 71) C dX4_placeLine_71 0 rfl ?_
  obtain ⟨a3, ea3, h⟩ := h
  refine r_getr (pc := 72) C fL_X4_18 dX4_placeLine_72 o_v0 ea3 ?_
  obtain ⟨o_a3, h⟩ := h
  refine r_geti (pc := 75) C fL_X4_58 dX4_placeLine_75 o_a3 ?_
  refine r_topi (fun x4 ex4 => ?_)
  have h := h x4 ex4
  refine r_iload_n (pc := 78) C dX4_placeLine_78 1 rfl ?_
  obtain ⟨o_a2, h⟩ := h
  obtain ⟨i5, h⟩ := h
  refine r_iast (pc := 79) C dX4_placeLine_79 o_a2 i5 ?_
  refine r_aload_n (pc := 80) C dX4_placeLine_80 0 rfl ?_
  obtain ⟨a6, ea6, h⟩ := h
  refine r_getr (pc := 81) C fL_X4_18 dX4_placeLine_81 o_v0 ea6 ?_
  refine r_dup (pc := 84) C dX4_placeLine_84 rfl ?_
  obtain ⟨o_a6, h⟩ := h
  refine r_geti (pc := 85) C fL_X4_58 dX4_placeLine_85 o_a6 ?_
  refine r_topi (fun x7 ex7 => ?_)
  have h := h x7 ex7
  refine r_iconst (pc := 88) C (v := (1 : Int32)) dX4_placeLine_88 (by decide) ?_
  refine r_iadd (pc := 89) C dX4_placeLine_89 ?_
  refine r_topi (fun x8 ex8 => ?_)
  have h := h x8 ex8
  refine r_puti (pc := 90) C pfL_X4_58 dX4_placeLine_90 o_a6 ?_
  refine r_iconst (pc := 93) C (v := (1 : Int32)) dX4_placeLine_93 (by decide) ?_
  exact r_zret (pc := 94) C E ht dX4_placeLine_94 (by decide) (by decide) (Or.inr rfl) h
def P_X4_placeLine_0 (Q : Int32 → HS → Prop) (v0 : Nat) (S : HS) : Prop := ob S v0 4 ∧ (∃ a1 : Nat, fR S v0 5 = some a1 ∧ (ob S a1 8 ∧ (∀ x2 : Int32, x2 = fI S a1 2 → (P_X4_newName v0 x2 (fun x5 S3 => Gr S S3 → bl x5 → (((¬ x5 = 0) → (P_X4_is v0 15 (fun x9 S7 => Gr S3 S7 → bl x9 → (((x9 = 0) → (P_X4_is v0 16 (fun x13 S11 => Gr S7 S11 → bl x13 → (((x13 = 0) → (P_X4_placeLine_64 Q v0 (-1 : Int32) S11)) ∧ ((¬ x13 = 0) → (P_X4_wordAndWhole v0 16 (0 : Int32) (9 : Int32) (fun x17 S15 => Gr S11 S15 → bl x17 → (((¬ x17 = 0) → (∀ x19 : Int32, x19 = fI S15 v0 9 → (P_X4_placeLine_64 Q v0 x19 S15))) ∧ ((x17 = 0) → (Q (0 : Int32) S15)))) S11)))) S7)) ∧ ((¬ x9 = 0) → (P_X4_next v0 (fun S20 => Gr S7 S20 → (P_X4_placeLine_64 Q v0 (0 : Int32) S20)) S7)))) S3)) ∧ ((x5 = 0) → (Q (0 : Int32) S3)))) S))))
set_option maxRecDepth 20000 in
set_option maxHeartbeats 4000000 in
theorem T_X4_placeLine_0 {X : CX} {Q : Int32 → HS → Prop} (C : Cx X cX4_placeLine RX4 2 rm_X4_placeLine) (E : ReI X rm_X4_placeLine (fun r S => bl r ∧ Q r S)) (ht : (xh X).sig.returnType = (some .boolean)) (hn : (xh X).name = yX4_placeLine.name) {v0 : Nat} {S : HS} (h : P_X4_placeLine_0 Q v0 S) : WS X 2 0 0 0 [(0, .ref v0)] [] S := by
  refine r_aload_n (pc := 0) C dX4_placeLine_0 0 rfl ?_
  refine r_aload_n (pc := 1) C dX4_placeLine_1 0 rfl ?_
  obtain ⟨o_v0, h⟩ := h
  obtain ⟨a1, ea1, h⟩ := h
  refine r_getr (pc := 2) C fL_X4_18 dX4_placeLine_2 o_v0 ea1 ?_
  obtain ⟨o_a1, h⟩ := h
  refine r_geti (pc := 5) C fL_X4_58 dX4_placeLine_5 o_a1 ?_
  refine r_topi (fun x2 ex2 => ?_)
  have h := h x2 ex2
  refine r_callVi0 (pc := 8) C (rest := []) (a := v0) o_v0 [.int x2] yV_X4_newName g_562 (c_X4_newName h) dX4_placeLine_8 rfl rfl (by decide) ⟨by decide, by decide⟩ ⟨by decide, by decide⟩ ⟨rfl, rfl⟩ (fun x5 S3 h g4 => ?_)
  have bx5 := h.1
  have h := h.2 g4 bx5
  have o_a1 := gr_ob g4 o_a1
  have o_v0 := gr_ob g4 o_v0
  refine r_if_ne (pc := 11) C (tgt := 16) dX4_placeLine_11 (by decide) (fun c6 => ?_) (fun c6 => ?_)
  · have h := h.1 c6
    refine r_iconst (pc := 16) C (v := (-1 : Int32)) dX4_placeLine_16 (by decide) ?_
    refine r_istore_n (pc := 17) C dX4_placeLine_17 rfl (by decide) (lv' := [(1, .int (-1 : Int32)), (0, .ref v0)]) rfl ?_
    refine r_aload_n (pc := 18) C dX4_placeLine_18 1 rfl ?_
    refine r_lds (pc := 19) C 15 rfl dX4_placeLine_19 ?_
    refine r_callVi0 (pc := 21) C (rest := []) (a := v0) o_v0 [.ref (eK (xE X) 15)] yV_X4_is g_458 (c_X4_is h) dX4_placeLine_21 rfl rfl (by decide) ⟨by decide, by decide⟩ ⟨by decide, by decide⟩ ⟨rfl, rfl⟩ (fun x9 S7 h g8 => ?_)
    have bx9 := h.1
    have h := h.2 g8 bx9
    have o_a1 := gr_ob g8 o_a1
    have o_v0 := gr_ob g8 o_v0
    refine r_if_eq (pc := 24) C (tgt := 36) dX4_placeLine_24 (by decide) (fun c10 => ?_) (fun c10 => ?_)
    · have h := h.1 c10
      refine r_aload_n (pc := 36) C dX4_placeLine_36 1 rfl ?_
      refine r_lds (pc := 37) C 16 rfl dX4_placeLine_37 ?_
      refine r_callVi0 (pc := 39) C (rest := []) (a := v0) o_v0 [.ref (eK (xE X) 16)] yV_X4_is g_458 (c_X4_is h) dX4_placeLine_39 rfl rfl (by decide) ⟨by decide, by decide⟩ ⟨by decide, by decide⟩ ⟨rfl, rfl⟩ (fun x13 S11 h g12 => ?_)
      have bx13 := h.1
      have h := h.2 g12 bx13
      have o_a1 := gr_ob g12 o_a1
      have o_v0 := gr_ob g12 o_v0
      refine r_if_eq (pc := 42) C (tgt := 64) dX4_placeLine_42 (by decide) (fun c14 => ?_) (fun c14 => ?_)
      · have h := h.1 c14
        exact r_sub [1, 0] rfl (T_X4_placeLine_64 C E ht hn h)
      · have h := h.2 c14
        refine r_aload_n (pc := 45) C dX4_placeLine_45 1 rfl ?_
        refine r_lds (pc := 46) C 16 rfl dX4_placeLine_46 ?_
        refine r_iconst (pc := 48) C (v := (0 : Int32)) dX4_placeLine_48 (by decide) ?_
        refine r_bipush (pc := 49) C (v := (9 : Int32)) dX4_placeLine_49 (by decide) ?_
        refine r_callVi0 (pc := 51) C (rest := []) (a := v0) o_v0 [.ref (eK (xE X) 16), .int (0 : Int32), .int (9 : Int32)] yV_X4_wordAndWhole g_524 (c_X4_wordAndWhole h) dX4_placeLine_51 rfl rfl (by decide) ⟨by decide, by decide⟩ ⟨by decide, by decide⟩ ⟨rfl, rfl⟩ (fun x17 S15 h g16 => ?_)
        have bx17 := h.1
        have h := h.2 g16 bx17
        have o_a1 := gr_ob g16 o_a1
        have o_v0 := gr_ob g16 o_v0
        refine r_if_ne (pc := 54) C (tgt := 59) dX4_placeLine_54 (by decide) (fun c18 => ?_) (fun c18 => ?_)
        · have h := h.1 c18
          refine r_aload_n (pc := 59) C dX4_placeLine_59 1 rfl ?_
          refine r_geti (pc := 60) C fL_X4_147 dX4_placeLine_60 o_v0 ?_
          refine r_topi (fun x19 ex19 => ?_)
          have h := h x19 ex19
          refine r_istore_n (pc := 63) C dX4_placeLine_63 rfl (by decide) (lv' := [(1, .int x19), (0, .ref v0)]) rfl ?_
          exact r_sub [1, 0] rfl (T_X4_placeLine_64 C E ht hn h)
        · have h := h.2 c18
          refine r_iconst (pc := 57) C (v := (0 : Int32)) dX4_placeLine_57 (by decide) ?_
          exact r_zret (pc := 58) C E ht dX4_placeLine_58 (by decide) (by decide) (Or.inl rfl) h
    · have h := h.2 c10
      refine r_iconst (pc := 27) C (v := (0 : Int32)) dX4_placeLine_27 (by decide) ?_
      refine r_istore_n (pc := 28) C dX4_placeLine_28 rfl (by decide) (lv' := [(1, .int (0 : Int32)), (0, .ref v0)]) rfl ?_
      refine r_aload_n (pc := 29) C dX4_placeLine_29 1 rfl ?_
      refine r_callVv0 (pc := 30) C (rest := []) (a := v0) o_v0 [] yV_X4_next g_449 (c_X4_next h) dX4_placeLine_30 rfl rfl (by decide) ⟨by decide, by decide⟩ ⟨by decide, by decide⟩ ⟨rfl, rfl⟩ (fun S20 h g21 => ?_)
      have h := h g21
      have o_a1 := gr_ob g21 o_a1
      have o_v0 := gr_ob g21 o_v0
      refine r_goto (pc := 33) C (tgt := 64) dX4_placeLine_33 (by decide) ?_
      exact r_sub [1, 0] rfl (T_X4_placeLine_64 C E ht hn h)
  · have h := h.2 c6
    refine r_iconst (pc := 14) C (v := (0 : Int32)) dX4_placeLine_14 (by decide) ?_
    exact r_zret (pc := 15) C E ht dX4_placeLine_15 (by decide) (by decide) (Or.inl rfl) h
def P_X4_placeLine (v0 : Nat) (Q : Int32 → HS → Prop) (S : HS) : Prop := P_X4_placeLine_0 Q v0 S
theorem c_X4_placeLine {l : Launch} {Ee : EE} {S : HS} {v0 : Nat} {Q : Int32 → HS → Prop} (h : P_X4_placeLine v0 Q S) : MI l yX4_placeLine cX4_placeLine 2 (some .boolean) rm_X4_placeLine Ee S [.ref v0] (fun r S => bl r ∧ Q r S) :=
  openI (by decide) (by decide) (fun X C E ht hn hE hl => by subst hE; exact r_sub [0] rfl (T_X4_placeLine_0 C E ht hn h))
def rm_X4_side : Room := { frames := 6, cells := 0, slots := 0, locals := 144 }
def P_X4_side_74 (Q : Int32 → HS → Prop) (v0 : Nat) (S : HS) : Prop := ob S v0 4 ∧ (P_X4_next v0 (fun S1 => Gr S S1 → (Q (1 : Int32) S1)) S)
set_option maxRecDepth 20000 in
set_option maxHeartbeats 4000000 in
theorem T_X4_side_74 {X : CX} {Q : Int32 → HS → Prop} (C : Cx X cX4_side RX4 1 rm_X4_side) (E : ReI X rm_X4_side (fun r S => bl r ∧ Q r S)) (ht : (xh X).sig.returnType = (some .boolean)) (hn : (xh X).name = yX4_side.name) {v0 : Nat} {S : HS} (h : P_X4_side_74 Q v0 S) : WS X 1 0 0 74 [(0, .ref v0)] [] S := by
  refine r_aload_n (pc := 74) C dX4_side_74 0 rfl ?_
  obtain ⟨o_v0, h⟩ := h
  refine r_callVv0 (pc := 75) C (rest := []) (a := v0) o_v0 [] yV_X4_next g_449 (c_X4_next h) dX4_side_75 rfl rfl (by decide) ⟨by decide, by decide⟩ ⟨by decide, by decide⟩ ⟨rfl, rfl⟩ (fun S1 h g2 => ?_)
  have h := h g2
  have o_v0 := gr_ob g2 o_v0
  refine r_iconst (pc := 78) C (v := (1 : Int32)) dX4_side_78 (by decide) ?_
  exact r_zret (pc := 79) C E ht dX4_side_79 (by decide) (by decide) (Or.inr rfl) h
def P_X4_side_0 (Q : Int32 → HS → Prop) (v0 : Nat) (S : HS) : Prop := ob S v0 4 ∧ (P_X4_is v0 6 (fun x3 S1 => Gr S S1 → bl x3 → (((x3 = 0) → (P_X4_is v0 7 (fun x7 S5 => Gr S1 S5 → bl x7 → (((x7 = 0) → (P_X4_is v0 8 (fun x11 S9 => Gr S5 S9 → bl x11 → (((x11 = 0) → (P_X4_is v0 9 (fun x15 S13 => Gr S9 S13 → bl x15 → (((x15 = 0) → (P_X4_fail v0 (1 : Int32) (fun x19 S17 => Gr S13 S17 → bl x19 → (bl x19 ∧ Q x19 S17)) S13)) ∧ ((¬ x15 = 0) → (P_X4_side_74 Q v0 (sI S13 v0 9 (3 : Int32)))))) S9)) ∧ ((¬ x11 = 0) → (P_X4_side_74 Q v0 (sI S9 v0 9 (2 : Int32)))))) S5)) ∧ ((¬ x7 = 0) → (P_X4_side_74 Q v0 (sI S5 v0 9 (1 : Int32)))))) S1)) ∧ ((¬ x3 = 0) → (P_X4_side_74 Q v0 (sI S1 v0 9 (0 : Int32)))))) S)
set_option maxRecDepth 20000 in
set_option maxHeartbeats 4000000 in
theorem T_X4_side_0 {X : CX} {Q : Int32 → HS → Prop} (C : Cx X cX4_side RX4 1 rm_X4_side) (E : ReI X rm_X4_side (fun r S => bl r ∧ Q r S)) (ht : (xh X).sig.returnType = (some .boolean)) (hn : (xh X).name = yX4_side.name) {v0 : Nat} {S : HS} (h : P_X4_side_0 Q v0 S) : WS X 1 0 0 0 [(0, .ref v0)] [] S := by
  refine r_aload_n (pc := 0) C dX4_side_0 0 rfl ?_
  refine r_lds (pc := 1) C 6 rfl dX4_side_1 ?_
  obtain ⟨o_v0, h⟩ := h
  refine r_callVi0 (pc := 3) C (rest := []) (a := v0) o_v0 [.ref (eK (xE X) 6)] yV_X4_is g_458 (c_X4_is h) dX4_side_3 rfl rfl (by decide) ⟨by decide, by decide⟩ ⟨by decide, by decide⟩ ⟨rfl, rfl⟩ (fun x3 S1 h g2 => ?_)
  have bx3 := h.1
  have h := h.2 g2 bx3
  have o_v0 := gr_ob g2 o_v0
  refine r_if_eq (pc := 6) C (tgt := 17) dX4_side_6 (by decide) (fun c4 => ?_) (fun c4 => ?_)
  · have h := h.1 c4
    refine r_aload_n (pc := 17) C dX4_side_17 0 rfl ?_
    refine r_lds (pc := 18) C 7 rfl dX4_side_18 ?_
    refine r_callVi0 (pc := 20) C (rest := []) (a := v0) o_v0 [.ref (eK (xE X) 7)] yV_X4_is g_458 (c_X4_is h) dX4_side_20 rfl rfl (by decide) ⟨by decide, by decide⟩ ⟨by decide, by decide⟩ ⟨rfl, rfl⟩ (fun x7 S5 h g6 => ?_)
    have bx7 := h.1
    have h := h.2 g6 bx7
    have o_v0 := gr_ob g6 o_v0
    refine r_if_eq (pc := 23) C (tgt := 34) dX4_side_23 (by decide) (fun c8 => ?_) (fun c8 => ?_)
    · have h := h.1 c8
      refine r_aload_n (pc := 34) C dX4_side_34 0 rfl ?_
      refine r_lds (pc := 35) C 8 rfl dX4_side_35 ?_
      refine r_callVi0 (pc := 37) C (rest := []) (a := v0) o_v0 [.ref (eK (xE X) 8)] yV_X4_is g_458 (c_X4_is h) dX4_side_37 rfl rfl (by decide) ⟨by decide, by decide⟩ ⟨by decide, by decide⟩ ⟨rfl, rfl⟩ (fun x11 S9 h g10 => ?_)
      have bx11 := h.1
      have h := h.2 g10 bx11
      have o_v0 := gr_ob g10 o_v0
      refine r_if_eq (pc := 40) C (tgt := 51) dX4_side_40 (by decide) (fun c12 => ?_) (fun c12 => ?_)
      · have h := h.1 c12
        refine r_aload_n (pc := 51) C dX4_side_51 0 rfl ?_
        refine r_lds (pc := 52) C 9 rfl dX4_side_52 ?_
        refine r_callVi0 (pc := 54) C (rest := []) (a := v0) o_v0 [.ref (eK (xE X) 9)] yV_X4_is g_458 (c_X4_is h) dX4_side_54 rfl rfl (by decide) ⟨by decide, by decide⟩ ⟨by decide, by decide⟩ ⟨rfl, rfl⟩ (fun x15 S13 h g14 => ?_)
        have bx15 := h.1
        have h := h.2 g14 bx15
        have o_v0 := gr_ob g14 o_v0
        refine r_if_eq (pc := 57) C (tgt := 68) dX4_side_57 (by decide) (fun c16 => ?_) (fun c16 => ?_)
        · have h := h.1 c16
          refine r_aload_n (pc := 68) C dX4_side_68 0 rfl ?_
          refine r_iconst (pc := 69) C (v := (1 : Int32)) dX4_side_69 (by decide) ?_
          refine r_callVi0 (pc := 70) C (rest := []) (a := v0) o_v0 [.int (1 : Int32)] yV_X4_fail g_519 (c_X4_fail h) dX4_side_70 rfl rfl (by decide) ⟨by decide, by decide⟩ ⟨by decide, by decide⟩ ⟨rfl, rfl⟩ (fun x19 S17 h g18 => ?_)
          have bx19 := h.1
          have h := h.2 g18 bx19
          have o_v0 := gr_ob g18 o_v0
          exact r_zret (pc := 73) C E ht dX4_side_73 (by decide) (by decide) h.1 h.2
        · have h := h.2 c16
          refine r_aload_n (pc := 60) C dX4_side_60 0 rfl ?_
          refine r_iconst (pc := 61) C (v := (3 : Int32)) dX4_side_61 (by decide) ?_
          refine r_puti (pc := 62) C pfL_X4_147 dX4_side_62 o_v0 ?_
          refine r_goto (pc := 65) C (tgt := 74) dX4_side_65 (by decide) ?_
          exact r_sub [0] rfl (T_X4_side_74 C E ht hn h)
      · have h := h.2 c12
        refine r_aload_n (pc := 43) C dX4_side_43 0 rfl ?_
        refine r_iconst (pc := 44) C (v := (2 : Int32)) dX4_side_44 (by decide) ?_
        refine r_puti (pc := 45) C pfL_X4_147 dX4_side_45 o_v0 ?_
        refine r_goto (pc := 48) C (tgt := 74) dX4_side_48 (by decide) ?_
        exact r_sub [0] rfl (T_X4_side_74 C E ht hn h)
    · have h := h.2 c8
      refine r_aload_n (pc := 26) C dX4_side_26 0 rfl ?_
      refine r_iconst (pc := 27) C (v := (1 : Int32)) dX4_side_27 (by decide) ?_
      refine r_puti (pc := 28) C pfL_X4_147 dX4_side_28 o_v0 ?_
      refine r_goto (pc := 31) C (tgt := 74) dX4_side_31 (by decide) ?_
      exact r_sub [0] rfl (T_X4_side_74 C E ht hn h)
  · have h := h.2 c4
    refine r_aload_n (pc := 9) C dX4_side_9 0 rfl ?_
    refine r_iconst (pc := 10) C (v := (0 : Int32)) dX4_side_10 (by decide) ?_
    refine r_puti (pc := 11) C pfL_X4_147 dX4_side_11 o_v0 ?_
    refine r_goto (pc := 14) C (tgt := 74) dX4_side_14 (by decide) ?_
    exact r_sub [0] rfl (T_X4_side_74 C E ht hn h)
def P_X4_side (v0 : Nat) (Q : Int32 → HS → Prop) (S : HS) : Prop := P_X4_side_0 Q v0 S
theorem c_X4_side {l : Launch} {Ee : EE} {S : HS} {v0 : Nat} {Q : Int32 → HS → Prop} (h : P_X4_side v0 Q S) : MI l yX4_side cX4_side 1 (some .boolean) rm_X4_side Ee S [.ref v0] (fun r S => bl r ∧ Q r S) :=
  openI (by decide) (by decide) (fun X C E ht hn hE hl => by subst hE; exact r_sub [0] rfl (T_X4_side_0 C E ht hn h))
def rm_X4_rainLine : Room := { frames := 8, cells := 0, slots := 0, locals := 188 }
def P_X4_rainLine_0 (Q : Int32 → HS → Prop) (v0 : Nat) (S : HS) : Prop := ob S v0 4 ∧ (∃ a1 : Nat, fR S v0 5 = some a1 ∧ (ob S a1 8 ∧ (∃ a2 : Nat, fR S a1 6 = some a2 ∧ (∃ a3 : Nat, fR S v0 5 = some a3 ∧ (ob S a3 8 ∧ (∀ x4 : Int32, x4 = fI S a3 1 → (ob S a2 17 ∧ (vp_in x4 (hN S a2) ∧ ∃ a6 : Nat, fR S a2 x4.toNatClampNeg = some a6 ∧ (P_X4_wordAndWhole v0 3 (0 : Int32) (9 : Int32) (fun x9 S7 => Gr S S7 → bl x9 → (((¬ x9 = 0) → (∀ x11 : Int32, x11 = fI S7 v0 9 → (ob S7 a6 3 ∧ (P_X4_wordAndWhole v0 4 (1 : Int32) (9 : Int32) (fun x14 S12 => Gr (sI S7 a6 0 x11) S12 → bl x14 → (((¬ x14 = 0) → (∀ x16 : Int32, x16 = fI S12 v0 9 → (P_X4_word v0 5 (fun x19 S17 => Gr (sI S12 a6 1 x16) S17 → bl x19 → (((x19 = 0) → (Q (0 : Int32) S17)) ∧ ((¬ x19 = 0) → (P_X4_side v0 (fun x23 S21 => Gr S17 S21 → bl x23 → (((¬ x23 = 0) → (∀ x25 : Int32, x25 = fI S21 v0 9 → (P_X4_whole v0 (0 : Int32) (9 : Int32) (fun x28 S26 => Gr (sI S21 a6 2 x25) S26 → bl x28 → (((¬ x28 = 0) → (∀ x30 : Int32, x30 = fI S26 v0 9 → (P_X4_wordAndWhole v0 10 (0 : Int32) (100 : Int32) (fun x33 S31 => Gr (sI S26 a6 3 x30) S31 → bl x33 → (((¬ x33 = 0) → (∀ x35 : Int32, x35 = fI S31 v0 9 → (∃ a36 : Nat, fR (sI S31 a6 4 x35) v0 5 = some a36 ∧ (ob (sI S31 a6 4 x35) a36 8 ∧ (∀ x37 : Int32, x37 = fI (sI S31 a6 4 x35) a36 1 → (∀ x38 : Int32, x38 = x37 + (1 : Int32) → (Q (1 : Int32) (sI (sI S31 a6 4 x35) a36 1 x38)))))))) ∧ ((x33 = 0) → (Q (0 : Int32) S31)))) (sI S26 a6 3 x30)))) ∧ ((x28 = 0) → (Q (0 : Int32) S26)))) (sI S21 a6 2 x25)))) ∧ ((x23 = 0) → (Q (0 : Int32) S21)))) S17)))) (sI S12 a6 1 x16)))) ∧ ((x14 = 0) → (Q (0 : Int32) S12)))) (sI S7 a6 0 x11))))) ∧ ((x9 = 0) → (Q (0 : Int32) S7)))) S)))))))))
set_option maxRecDepth 20000 in
set_option maxHeartbeats 4000000 in
theorem T_X4_rainLine_0 {X : CX} {Q : Int32 → HS → Prop} (C : Cx X cX4_rainLine RX4 2 rm_X4_rainLine) (E : ReI X rm_X4_rainLine (fun r S => bl r ∧ Q r S)) (ht : (xh X).sig.returnType = (some .boolean)) (hn : (xh X).name = yX4_rainLine.name) {v0 : Nat} {S : HS} (h : P_X4_rainLine_0 Q v0 S) : WS X 2 0 0 0 [(0, .ref v0)] [] S := by
  refine r_aload_n (pc := 0) C dX4_rainLine_0 0 rfl ?_
  obtain ⟨o_v0, h⟩ := h
  obtain ⟨a1, ea1, h⟩ := h
  refine r_getr (pc := 1) C fL_X4_18 dX4_rainLine_1 o_v0 ea1 ?_
  obtain ⟨o_a1, h⟩ := h
  obtain ⟨a2, ea2, h⟩ := h
  refine r_getr (pc := 4) C fL_X4_188 dX4_rainLine_4 o_a1 ea2 ?_
  refine r_aload_n (pc := 7) C dX4_rainLine_7 0 rfl ?_
  obtain ⟨a3, ea3, h⟩ := h
  refine r_getr (pc := 8) C fL_X4_18 dX4_rainLine_8 o_v0 ea3 ?_
  obtain ⟨o_a3, h⟩ := h
  refine r_geti (pc := 11) C fL_X4_45 dX4_rainLine_11 o_a3 ?_
  refine r_topi (fun x4 ex4 => ?_)
  have h := h x4 ex4
  obtain ⟨o_a2, h⟩ := h
  obtain ⟨i5, a6, ea6, h⟩ := h
  refine r_aald17 (pc := 14) C dX4_rainLine_14 o_a2 i5 ea6 ?_
  refine r_astore_n (pc := 15) C dX4_rainLine_15 rfl (by decide) (lv' := [(1, .ref a6), (0, .ref v0)]) rfl ?_
  refine r_aload_n (pc := 16) C dX4_rainLine_16 1 rfl ?_
  refine r_lds (pc := 17) C 3 rfl dX4_rainLine_17 ?_
  refine r_iconst (pc := 19) C (v := (0 : Int32)) dX4_rainLine_19 (by decide) ?_
  refine r_bipush (pc := 20) C (v := (9 : Int32)) dX4_rainLine_20 (by decide) ?_
  refine r_callVi0 (pc := 22) C (rest := []) (a := v0) o_v0 [.ref (eK (xE X) 3), .int (0 : Int32), .int (9 : Int32)] yV_X4_wordAndWhole g_524 (c_X4_wordAndWhole h) dX4_rainLine_22 rfl rfl (by decide) ⟨by decide, by decide⟩ ⟨by decide, by decide⟩ ⟨rfl, rfl⟩ (fun x9 S7 h g8 => ?_)
  have bx9 := h.1
  have h := h.2 g8 bx9
  have o_a1 := gr_ob g8 o_a1
  have o_a2 := gr_ob g8 o_a2
  have o_a3 := gr_ob g8 o_a3
  have o_v0 := gr_ob g8 o_v0
  refine r_if_ne (pc := 25) C (tgt := 30) dX4_rainLine_25 (by decide) (fun c10 => ?_) (fun c10 => ?_)
  · have h := h.1 c10
    refine r_aload_n (pc := 30) C dX4_rainLine_30 0 rfl ?_
    refine r_aload_n (pc := 31) C dX4_rainLine_31 1 rfl ?_
    refine r_geti (pc := 32) C fL_X4_147 dX4_rainLine_32 o_v0 ?_
    refine r_topi (fun x11 ex11 => ?_)
    have h := h x11 ex11
    obtain ⟨o_a6, h⟩ := h
    refine r_puti (pc := 35) C pfL_X4_193 dX4_rainLine_35 o_a6 ?_
    refine r_aload_n (pc := 38) C dX4_rainLine_38 1 rfl ?_
    refine r_lds (pc := 39) C 4 rfl dX4_rainLine_39 ?_
    refine r_iconst (pc := 41) C (v := (1 : Int32)) dX4_rainLine_41 (by decide) ?_
    refine r_bipush (pc := 42) C (v := (9 : Int32)) dX4_rainLine_42 (by decide) ?_
    refine r_callVi0 (pc := 44) C (rest := []) (a := v0) o_v0 [.ref (eK (xE X) 4), .int (1 : Int32), .int (9 : Int32)] yV_X4_wordAndWhole g_524 (c_X4_wordAndWhole h) dX4_rainLine_44 rfl rfl (by decide) ⟨by decide, by decide⟩ ⟨by decide, by decide⟩ ⟨rfl, rfl⟩ (fun x14 S12 h g13 => ?_)
    have bx14 := h.1
    have h := h.2 g13 bx14
    have o_a1 := gr_ob g13 o_a1
    have o_a2 := gr_ob g13 o_a2
    have o_a3 := gr_ob g13 o_a3
    have o_a6 := gr_ob g13 o_a6
    have o_v0 := gr_ob g13 o_v0
    refine r_if_ne (pc := 47) C (tgt := 52) dX4_rainLine_47 (by decide) (fun c15 => ?_) (fun c15 => ?_)
    · have h := h.1 c15
      refine r_aload_n (pc := 52) C dX4_rainLine_52 0 rfl ?_
      refine r_aload_n (pc := 53) C dX4_rainLine_53 1 rfl ?_
      refine r_geti (pc := 54) C fL_X4_147 dX4_rainLine_54 o_v0 ?_
      refine r_topi (fun x16 ex16 => ?_)
      have h := h x16 ex16
      refine r_puti (pc := 57) C pfL_X4_199 dX4_rainLine_57 o_a6 ?_
      refine r_aload_n (pc := 60) C dX4_rainLine_60 1 rfl ?_
      refine r_lds (pc := 61) C 5 rfl dX4_rainLine_61 ?_
      refine r_callVi0 (pc := 63) C (rest := []) (a := v0) o_v0 [.ref (eK (xE X) 5)] yV_X4_word g_528 (c_X4_word h) dX4_rainLine_63 rfl rfl (by decide) ⟨by decide, by decide⟩ ⟨by decide, by decide⟩ ⟨rfl, rfl⟩ (fun x19 S17 h g18 => ?_)
      have bx19 := h.1
      have h := h.2 g18 bx19
      have o_a1 := gr_ob g18 o_a1
      have o_a2 := gr_ob g18 o_a2
      have o_a3 := gr_ob g18 o_a3
      have o_a6 := gr_ob g18 o_a6
      have o_v0 := gr_ob g18 o_v0
      refine r_if_eq (pc := 66) C (tgt := 76) dX4_rainLine_66 (by decide) (fun c20 => ?_) (fun c20 => ?_)
      · have h := h.1 c20
        refine r_iconst (pc := 76) C (v := (0 : Int32)) dX4_rainLine_76 (by decide) ?_
        exact r_zret (pc := 77) C E ht dX4_rainLine_77 (by decide) (by decide) (Or.inl rfl) h
      · have h := h.2 c20
        refine r_aload_n (pc := 69) C dX4_rainLine_69 1 rfl ?_
        refine r_callVi0 (pc := 70) C (rest := []) (a := v0) o_v0 [] yV_X4_side g_548 (c_X4_side h) dX4_rainLine_70 rfl rfl (by decide) ⟨by decide, by decide⟩ ⟨by decide, by decide⟩ ⟨rfl, rfl⟩ (fun x23 S21 h g22 => ?_)
        have bx23 := h.1
        have h := h.2 g22 bx23
        have o_a1 := gr_ob g22 o_a1
        have o_a2 := gr_ob g22 o_a2
        have o_a3 := gr_ob g22 o_a3
        have o_a6 := gr_ob g22 o_a6
        have o_v0 := gr_ob g22 o_v0
        refine r_if_ne (pc := 73) C (tgt := 78) dX4_rainLine_73 (by decide) (fun c24 => ?_) (fun c24 => ?_)
        · have h := h.1 c24
          refine r_aload_n (pc := 78) C dX4_rainLine_78 0 rfl ?_
          refine r_aload_n (pc := 79) C dX4_rainLine_79 1 rfl ?_
          refine r_geti (pc := 80) C fL_X4_147 dX4_rainLine_80 o_v0 ?_
          refine r_topi (fun x25 ex25 => ?_)
          have h := h x25 ex25
          refine r_puti (pc := 83) C pfL_X4_206 dX4_rainLine_83 o_a6 ?_
          refine r_aload_n (pc := 86) C dX4_rainLine_86 1 rfl ?_
          refine r_iconst (pc := 87) C (v := (0 : Int32)) dX4_rainLine_87 (by decide) ?_
          refine r_bipush (pc := 88) C (v := (9 : Int32)) dX4_rainLine_88 (by decide) ?_
          refine r_callVi0 (pc := 90) C (rest := []) (a := v0) o_v0 [.int (0 : Int32), .int (9 : Int32)] yV_X4_whole g_532 (c_X4_whole h) dX4_rainLine_90 rfl rfl (by decide) ⟨by decide, by decide⟩ ⟨by decide, by decide⟩ ⟨rfl, rfl⟩ (fun x28 S26 h g27 => ?_)
          have bx28 := h.1
          have h := h.2 g27 bx28
          have o_a1 := gr_ob g27 o_a1
          have o_a2 := gr_ob g27 o_a2
          have o_a3 := gr_ob g27 o_a3
          have o_a6 := gr_ob g27 o_a6
          have o_v0 := gr_ob g27 o_v0
          refine r_if_ne (pc := 93) C (tgt := 98) dX4_rainLine_93 (by decide) (fun c29 => ?_) (fun c29 => ?_)
          · have h := h.1 c29
            refine r_aload_n (pc := 98) C dX4_rainLine_98 0 rfl ?_
            refine r_aload_n (pc := 99) C dX4_rainLine_99 1 rfl ?_
            refine r_geti (pc := 100) C fL_X4_147 dX4_rainLine_100 o_v0 ?_
            refine r_topi (fun x30 ex30 => ?_)
            have h := h x30 ex30
            refine r_puti (pc := 103) C pfL_X4_209 dX4_rainLine_103 o_a6 ?_
            refine r_aload_n (pc := 106) C dX4_rainLine_106 1 rfl ?_
            refine r_lds (pc := 107) C 10 rfl dX4_rainLine_107 ?_
            refine r_iconst (pc := 109) C (v := (0 : Int32)) dX4_rainLine_109 (by decide) ?_
            refine r_bipush (pc := 110) C (v := (100 : Int32)) dX4_rainLine_110 (by decide) ?_
            refine r_callVi0 (pc := 112) C (rest := []) (a := v0) o_v0 [.ref (eK (xE X) 10), .int (0 : Int32), .int (100 : Int32)] yV_X4_wordAndWhole g_524 (c_X4_wordAndWhole h) dX4_rainLine_112 rfl rfl (by decide) ⟨by decide, by decide⟩ ⟨by decide, by decide⟩ ⟨rfl, rfl⟩ (fun x33 S31 h g32 => ?_)
            have bx33 := h.1
            have h := h.2 g32 bx33
            have o_a1 := gr_ob g32 o_a1
            have o_a2 := gr_ob g32 o_a2
            have o_a3 := gr_ob g32 o_a3
            have o_a6 := gr_ob g32 o_a6
            have o_v0 := gr_ob g32 o_v0
            refine r_if_ne (pc := 115) C (tgt := 120) dX4_rainLine_115 (by decide) (fun c34 => ?_) (fun c34 => ?_)
            · have h := h.1 c34
              refine r_aload_n (pc := 120) C dX4_rainLine_120 0 rfl ?_
              refine r_aload_n (pc := 121) C dX4_rainLine_121 1 rfl ?_
              refine r_geti (pc := 122) C fL_X4_147 dX4_rainLine_122 o_v0 ?_
              refine r_topi (fun x35 ex35 => ?_)
              have h := h x35 ex35
              refine r_puti (pc := 125) C pfL_X4_213 dX4_rainLine_125 o_a6 ?_
              refine r_aload_n (pc := 128) C dX4_rainLine_128 1 rfl ?_
              obtain ⟨a36, ea36, h⟩ := h
              refine r_getr (pc := 129) C fL_X4_18 dX4_rainLine_129 o_v0 ea36 ?_
              refine r_dup (pc := 132) C dX4_rainLine_132 rfl ?_
              obtain ⟨o_a36, h⟩ := h
              refine r_geti (pc := 133) C fL_X4_45 dX4_rainLine_133 o_a36 ?_
              refine r_topi (fun x37 ex37 => ?_)
              have h := h x37 ex37
              refine r_iconst (pc := 136) C (v := (1 : Int32)) dX4_rainLine_136 (by decide) ?_
              refine r_iadd (pc := 137) C dX4_rainLine_137 ?_
              refine r_topi (fun x38 ex38 => ?_)
              have h := h x38 ex38
              refine r_puti (pc := 138) C pfL_X4_45 dX4_rainLine_138 o_a36 ?_
              refine r_iconst (pc := 141) C (v := (1 : Int32)) dX4_rainLine_141 (by decide) ?_
              exact r_zret (pc := 142) C E ht dX4_rainLine_142 (by decide) (by decide) (Or.inr rfl) h
            · have h := h.2 c34
              refine r_iconst (pc := 118) C (v := (0 : Int32)) dX4_rainLine_118 (by decide) ?_
              exact r_zret (pc := 119) C E ht dX4_rainLine_119 (by decide) (by decide) (Or.inl rfl) h
          · have h := h.2 c29
            refine r_iconst (pc := 96) C (v := (0 : Int32)) dX4_rainLine_96 (by decide) ?_
            exact r_zret (pc := 97) C E ht dX4_rainLine_97 (by decide) (by decide) (Or.inl rfl) h
        · have h := h.2 c24
          refine r_iconst (pc := 76) C (v := (0 : Int32)) dX4_rainLine_76 (by decide) ?_
          exact r_zret (pc := 77) C E ht dX4_rainLine_77 (by decide) (by decide) (Or.inl rfl) h
    · have h := h.2 c15
      refine r_iconst (pc := 50) C (v := (0 : Int32)) dX4_rainLine_50 (by decide) ?_
      exact r_zret (pc := 51) C E ht dX4_rainLine_51 (by decide) (by decide) (Or.inl rfl) h
  · have h := h.2 c10
    refine r_iconst (pc := 28) C (v := (0 : Int32)) dX4_rainLine_28 (by decide) ?_
    exact r_zret (pc := 29) C E ht dX4_rainLine_29 (by decide) (by decide) (Or.inl rfl) h
def P_X4_rainLine (v0 : Nat) (Q : Int32 → HS → Prop) (S : HS) : Prop := P_X4_rainLine_0 Q v0 S
theorem c_X4_rainLine {l : Launch} {Ee : EE} {S : HS} {v0 : Nat} {Q : Int32 → HS → Prop} (h : P_X4_rainLine v0 Q S) : MI l yX4_rainLine cX4_rainLine 2 (some .boolean) rm_X4_rainLine Ee S [.ref v0] (fun r S => bl r ∧ Q r S) :=
  openI (by decide) (by decide) (fun X C E ht hn hE hl => by subst hE; exact r_sub [0] rfl (T_X4_rainLine_0 C E ht hn h))
