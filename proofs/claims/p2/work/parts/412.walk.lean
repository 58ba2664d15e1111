def rm_X11_readWorld : Room := { frames := 9, cells := 0, slots := 0, locals := 208 }
def P_X11_readWorld_15 (Q : HS → Prop) (v0 : Nat) (S : HS) : Prop := ob S v0 11 ∧ (P_X11_goesOn v0 (fun S1 => Gr S S1 → (P_X11_readPart v0 28 (5 : Int32) (60 : Int32) (fun x6 S4 => Gr S1 S4 → (∀ x7 : Int32, x7 = fI S4 v0 9 → (((x7 = (5 : Int32)) → (Q S4)) ∧ ((¬ x7 = (5 : Int32)) → (∃ a9 : Nat, fR S4 v0 4 = some a9 ∧ (ob S4 a9 10 ∧ (Q (sI S4 a9 0 x6)))))))) S1)) S)
set_option maxRecDepth 20000 in
set_option maxHeartbeats 4000000 in
theorem T_X11_readWorld_15 {X : CX} {Q : HS → Prop} (C : Cx X cX11_readWorld RX11 2 rm_X11_readWorld) (E : ReV X rm_X11_readWorld Q) (ht : (xh X).sig.returnType = none) (hn : (xh X).name = yX11_readWorld.name) {v0 : Nat} {S : HS} (h : P_X11_readWorld_15 Q v0 S) : WS X 2 0 0 15 [(0, .ref v0)] [] S := by
  refine r_aload_n (pc := 15) C dX11_readWorld_15 0 rfl ?_
  obtain ⟨o_v0, h⟩ := h
  refine r_callVv0 (pc := 16) C (rest := []) (a := v0) o_v0 [] yV_X11_goesOn g_1380 (c_X11_goesOn h) dX11_readWorld_16 rfl rfl (by decide) ⟨by decide, by decide⟩ ⟨by decide, by decide⟩ ⟨rfl, rfl⟩ (fun S1 h g2 => ?_)
  have h := h g2
  have o_v0 := gr_ob g2 o_v0
  refine r_aload_n (pc := 19) C dX11_readWorld_19 0 rfl ?_
  refine r_lds (pc := 20) C 28 rfl dX11_readWorld_20 ?_
  refine r_iconst (pc := 22) C (v := (5 : Int32)) dX11_readWorld_22 (by decide) ?_
  refine r_bipush (pc := 23) C (v := (60 : Int32)) dX11_readWorld_23 (by decide) ?_
  refine r_callVi0 (pc := 25) C (rest := []) (a := v0) o_v0 [.ref (eK (xE X) 28), .int (5 : Int32), .int (60 : Int32)] yV_X11_readPart g_1422 (c_X11_readPart h) dX11_readWorld_25 rfl rfl (by decide) ⟨by decide, by decide⟩ ⟨by decide, by decide⟩ ⟨rfl, rfl⟩ (fun x6 S4 h g5 => ?_)
  have h := h g5
  have o_v0 := gr_ob g5 o_v0
  refine r_istore_n (pc := 28) C dX11_readWorld_28 rfl (by decide) (lv' := [(1, .int x6), (0, .ref v0)]) rfl ?_
  refine r_aload_n (pc := 29) C dX11_readWorld_29 1 rfl ?_
  refine r_geti (pc := 30) C fL_X11_68 dX11_readWorld_30 o_v0 ?_
  refine r_topi (fun x7 ex7 => ?_)
  have h := h x7 ex7
  refine r_iconst (pc := 33) C (v := (5 : Int32)) dX11_readWorld_33 (by decide) ?_
  refine r_icmp_eq (pc := 34) C (tgt := 45) dX11_readWorld_34 (by decide) (fun c8 => ?_) (fun c8 => ?_)
  · have h := h.1 c8
    exact r_vret (pc := 45) C E ht dX11_readWorld_45 (by decide) (by decide) h
  · have h := h.2 c8
    refine r_aload_n (pc := 37) C dX11_readWorld_37 1 rfl ?_
    obtain ⟨a9, ea9, h⟩ := h
    refine r_getr (pc := 38) C fL_X11_147 dX11_readWorld_38 o_v0 ea9 ?_
    refine r_iload_n (pc := 41) C dX11_readWorld_41 0 rfl ?_
    obtain ⟨o_a9, h⟩ := h
    refine r_putNi (pc := 42) C pfN_X11_151 dX11_readWorld_42 o_a9 ?_
    exact r_vret (pc := 45) C E ht dX11_readWorld_45 (by decide) (by decide) h
def P_X11_readWorld_0 (Q : HS → Prop) (v0 : Nat) (S : HS) : Prop := ob S v0 11 ∧ (∃ a1 : Nat, fR S v0 4 = some a1 ∧ (ob S a1 10 ∧ (∀ x2 : Int32, x2 = fI S a1 0 → (((x2 ≤ 0) → (P_X11_readWorld_15 Q v0 S)) ∧ ((¬ x2 ≤ 0) → (P_X11_flaw v0 (3 : Int32) (fun S4 => Gr S S4 → (P_X11_readWorld_15 Q v0 S4)) S))))))
set_option maxRecDepth 20000 in
set_option maxHeartbeats 4000000 in
theorem T_X11_readWorld_0 {X : CX} {Q : HS → Prop} (C : Cx X cX11_readWorld RX11 2 rm_X11_readWorld) (E : ReV X rm_X11_readWorld Q) (ht : (xh X).sig.returnType = none) (hn : (xh X).name = yX11_readWorld.name) {v0 : Nat} {S : HS} (h : P_X11_readWorld_0 Q v0 S) : WS X 2 0 0 0 [(0, .ref v0)] [] S := by
  refine r_aload_n (pc := 0) C dX11_readWorld_0 0 rfl ?_
  obtain ⟨o_v0, h⟩ := h
  obtain ⟨a1, ea1, h⟩ := h
  refine r_getr (pc := 1) C fL_X11_147 dX11_readWorld_1 o_v0 ea1 ?_
  obtain ⟨o_a1, h⟩ := h
  refine r_getNi (pc := 4) C fN_X11_151 dX11_readWorld_4 o_a1 ?_
  refine r_topi (fun x2 ex2 => ?_)
  have h := h x2 ex2
  refine r_if_le (pc := 7) C (tgt := 15) dX11_readWorld_7 (by decide) (fun c3 => ?_) (fun c3 => ?_)
  · have h := h.1 c3
    exact r_sub [0] rfl (T_X11_readWorld_15 C E ht hn h)
  · have h := h.2 c3
    refine r_aload_n (pc := 10) C dX11_readWorld_10 0 rfl ?_
    refine r_iconst (pc := 11) C (v := (3 : Int32)) dX11_readWorld_11 (by decide) ?_
    refine r_callVv0 (pc := 12) C (rest := []) (a := v0) o_v0 [.int (3 : Int32)] yV_X11_flaw g_1417 (c_X11_flaw h) dX11_readWorld_12 rfl rfl (by decide) ⟨by decide, by decide⟩ ⟨by decide, by decide⟩ ⟨rfl, rfl⟩ (fun S4 h g5 => ?_)
    have h := h g5
    have o_a1 := gr_ob g5 o_a1
    have o_v0 := gr_ob g5 o_v0
    exact r_sub [0] rfl (T_X11_readWorld_15 C E ht hn h)
def P_X11_readWorld (v0 : Nat) (Q : HS → Prop) (S : HS) : Prop := P_X11_readWorld_0 Q v0 S
theorem c_X11_readWorld {l : Launch} {Ee : EE} {S : HS} {v0 : Nat} {Q : HS → Prop} (h : P_X11_readWorld v0 Q S) : MV l yX11_readWorld cX11_readWorld 2 none rm_X11_readWorld Ee S [.ref v0] Q :=
  openV (by decide) (by decide) (fun X C E ht hn hE hl => by subst hE; exact r_sub [0] rfl (T_X11_readWorld_0 C E ht hn h))
def rm_X11_readLine : Room := { frames := 10, cells := 0, slots := 0, locals := 239 }
def P_X11_readLine_0 (Q : HS → Prop) (v0 : Nat) (S : HS) : Prop := ob S v0 11 ∧ (P_X11_isWord v0 27 (fun x3 S1 => Gr S S1 → bl x3 → (((x3 = 0) → (P_X11_isWord v0 29 (fun x7 S5 => Gr S1 S5 → bl x7 → (((x7 = 0) → (P_X11_isWord v0 38 (fun x11 S9 => Gr S5 S9 → bl x11 → (((x11 = 0) → (P_X11_isWord v0 39 (fun x15 S13 => Gr S9 S13 → bl x15 → (((x15 = 0) → (P_X11_isWord v0 40 (fun x19 S17 => Gr S13 S17 → bl x19 → (((x19 = 0) → (P_X11_isWord v0 41 (fun x23 S21 => Gr S17 S21 → bl x23 → (((x23 = 0) → (P_X11_flaw v0 (1 : Int32) (fun S25 => Gr S21 S25 → (Q S25)) S21)) ∧ ((¬ x23 = 0) → (P_X11_readSeen v0 (fun S28 => Gr S21 S28 → (Q S28)) S21)))) S17)) ∧ ((¬ x19 = 0) → (P_X11_readWalker v0 (fun S31 => Gr S17 S31 → (Q S31)) S17)))) S13)) ∧ ((¬ x15 = 0) → (P_X11_readRoad v0 (fun S34 => Gr S13 S34 → (Q S34)) S13)))) S9)) ∧ ((¬ x11 = 0) → (P_X11_readPlace v0 (fun S37 => Gr S9 S37 → (Q S37)) S9)))) S5)) ∧ ((¬ x7 = 0) → (P_X11_readRain v0 (fun S40 => Gr S5 S40 → (Q S40)) S5)))) S1)) ∧ ((¬ x3 = 0) → (P_X11_readWorld v0 (fun S43 => Gr S1 S43 → (Q S43)) S1)))) S)
set_option maxRecDepth 20000 in
set_option maxHeartbeats 4000000 in
theorem T_X11_readLine_0 {X : CX} {Q : HS → Prop} (C : Cx X cX11_readLine RX11 1 rm_X11_readLine) (E : ReV X rm_X11_readLine Q) (ht : (xh X).sig.returnType = none) (hn : (xh X).name = yX11_readLine.name) {v0 : Nat} {S : HS} (h : P_X11_readLine_0 Q v0 S) : WS X 1 0 0 0 [(0, .ref v0)] [] S := by
  refine r_aload_n (pc := 0) C dX11_readLine_0 0 rfl ?_
  refine r_lds (pc := 1) C 27 rfl dX11_readLine_1 ?_
  obtain ⟨o_v0, h⟩ := h
  refine r_callVi0 (pc := 3) C (rest := []) (a := v0) o_v0 [.ref (eK (xE X) 27)] yV_X11_isWord g_1404 (c_X11_isWord h) dX11_readLine_3 rfl rfl (by decide) ⟨by decide, by decide⟩ ⟨by decide, by decide⟩ ⟨rfl, rfl⟩ (fun x3 S1 h g2 => ?_)
  have bx3 := h.1
  have h := h.2 g2 bx3
  have o_v0 := gr_ob g2 o_v0
  refine r_if_eq (pc := 6) C (tgt := 16) dX11_readLine_6 (by decide) (fun c4 => ?_) (fun c4 => ?_)
  · have h := h.1 c4
    refine r_aload_n (pc := 16) C dX11_readLine_16 0 rfl ?_
    refine r_lds (pc := 17) C 29 rfl dX11_readLine_17 ?_
    refine r_callVi0 (pc := 19) C (rest := []) (a := v0) o_v0 [.ref (eK (xE X) 29)] yV_X11_isWord g_1404 (c_X11_isWord h) dX11_readLine_19 rfl rfl (by decide) ⟨by decide, by decide⟩ ⟨by decide, by decide⟩ ⟨rfl, rfl⟩ (fun x7 S5 h g6 => ?_)
    have bx7 := h.1
    have h := h.2 g6 bx7
    have o_v0 := gr_ob g6 o_v0
    refine r_if_eq (pc := 22) C (tgt := 32) dX11_readLine_22 (by decide) (fun c8 => ?_) (fun c8 => ?_)
    · have h := h.1 c8
      refine r_aload_n (pc := 32) C dX11_readLine_32 0 rfl ?_
      refine r_lds (pc := 33) C 38 rfl dX11_readLine_33 ?_
      refine r_callVi0 (pc := 35) C (rest := []) (a := v0) o_v0 [.ref (eK (xE X) 38)] yV_X11_isWord g_1404 (c_X11_isWord h) dX11_readLine_35 rfl rfl (by decide) ⟨by decide, by decide⟩ ⟨by decide, by decide⟩ ⟨rfl, rfl⟩ (fun x11 S9 h g10 => ?_)
      have bx11 := h.1
      have h := h.2 g10 bx11
      have o_v0 := gr_ob g10 o_v0
      refine r_if_eq (pc := 38) C (tgt := 48) dX11_readLine_38 (by decide) (fun c12 => ?_) (fun c12 => ?_)
      · have h := h.1 c12
        refine r_aload_n (pc := 48) C dX11_readLine_48 0 rfl ?_
        refine r_lds (pc := 49) C 39 rfl dX11_readLine_49 ?_
        refine r_callVi0 (pc := 51) C (rest := []) (a := v0) o_v0 [.ref (eK (xE X) 39)] yV_X11_isWord g_1404 (c_X11_isWord h) dX11_readLine_51 rfl rfl (by decide) ⟨by decide, by decide⟩ ⟨by decide, by decide⟩ ⟨rfl, rfl⟩ (fun x15 S13 h g14 => ?_)
        have bx15 := h.1
        have h := h.2 g14 bx15
        have o_v0 := gr_ob g14 o_v0
        refine r_if_eq (pc := 54) C (tgt := 64) dX11_readLine_54 (by decide) (fun c16 => ?_) (fun c16 => ?_)
        · have h := h.1 c16
          refine r_aload_n (pc := 64) C dX11_readLine_64 0 rfl ?_
          refine r_lds (pc := 65) C 40 rfl dX11_readLine_65 ?_
          refine r_callVi0 (pc := 67) C (rest := []) (a := v0) o_v0 [.ref (eK (xE X) 40)] yV_X11_isWord g_1404 (c_X11_isWord h) dX11_readLine_67 rfl rfl (by decide) ⟨by decide, by decide⟩ ⟨by decide, by decide⟩ ⟨rfl, rfl⟩ (fun x19 S17 h g18 => ?_)
          have bx19 := h.1
          have h := h.2 g18 bx19
          have o_v0 := gr_ob g18 o_v0
          refine r_if_eq (pc := 70) C (tgt := 80) dX11_readLine_70 (by decide) (fun c20 => ?_) (fun c20 => ?_)
          · have h := h.1 c20
            refine r_aload_n (pc := 80) C dX11_readLine_80 0 rfl ?_
            refine r_lds (pc := 81) C 41 rfl dX11_readLine_81 ?_
            refine r_callVi0 (pc := 83) C (rest := []) (a := v0) o_v0 [.ref (eK (xE X) 41)] yV_X11_isWord g_1404 (c_X11_isWord h) dX11_readLine_83 rfl rfl (by decide) ⟨by decide, by decide⟩ ⟨by decide, by decide⟩ ⟨rfl, rfl⟩ (fun x23 S21 h g22 => ?_)
            have bx23 := h.1
            have h := h.2 g22 bx23
            have o_v0 := gr_ob g22 o_v0
            refine r_if_eq (pc := 86) C (tgt := 96) dX11_readLine_86 (by decide) (fun c24 => ?_) (fun c24 => ?_)
            · have h := h.1 c24
              refine r_aload_n (pc := 96) C dX11_readLine_96 0 rfl ?_
              refine r_iconst (pc := 97) C (v := (1 : Int32)) dX11_readLine_97 (by decide) ?_
              refine r_callVv0 (pc := 98) C (rest := []) (a := v0) o_v0 [.int (1 : Int32)] yV_X11_flaw g_1417 (c_X11_flaw h) dX11_readLine_98 rfl rfl (by decide) ⟨by decide, by decide⟩ ⟨by decide, by decide⟩ ⟨rfl, rfl⟩ (fun S25 h g26 => ?_)
              have h := h g26
              have o_v0 := gr_ob g26 o_v0
              exact r_vret (pc := 101) C E ht dX11_readLine_101 (by decide) (by decide) h
            · have h := h.2 c24
              refine r_aload_n (pc := 89) C dX11_readLine_89 0 rfl ?_
              refine r_callVv0 (pc := 90) C (rest := []) (a := v0) o_v0 [] yV_X11_readSeen g_1510 (c_X11_readSeen h) dX11_readLine_90 rfl rfl (by decide) ⟨by decide, by decide⟩ ⟨by decide, by decide⟩ ⟨rfl, rfl⟩ (fun S28 h g29 => ?_)
              have h := h g29
              have o_v0 := gr_ob g29 o_v0
              refine r_goto (pc := 93) C (tgt := 101) dX11_readLine_93 (by decide) ?_
              exact r_vret (pc := 101) C E ht dX11_readLine_101 (by decide) (by decide) h
          · have h := h.2 c20
            refine r_aload_n (pc := 73) C dX11_readLine_73 0 rfl ?_
            refine r_callVv0 (pc := 74) C (rest := []) (a := v0) o_v0 [] yV_X11_readWalker g_1497 (c_X11_readWalker h) dX11_readLine_74 rfl rfl (by decide) ⟨by decide, by decide⟩ ⟨by decide, by decide⟩ ⟨rfl, rfl⟩ (fun S31 h g32 => ?_)
            have h := h g32
            have o_v0 := gr_ob g32 o_v0
            refine r_goto (pc := 77) C (tgt := 101) dX11_readLine_77 (by decide) ?_
            exact r_vret (pc := 101) C E ht dX11_readLine_101 (by decide) (by decide) h
        · have h := h.2 c16
          refine r_aload_n (pc := 57) C dX11_readLine_57 0 rfl ?_
          refine r_callVv0 (pc := 58) C (rest := []) (a := v0) o_v0 [] yV_X11_readRoad g_1489 (c_X11_readRoad h) dX11_readLine_58 rfl rfl (by decide) ⟨by decide, by decide⟩ ⟨by decide, by decide⟩ ⟨rfl, rfl⟩ (fun S34 h g35 => ?_)
          have h := h g35
          have o_v0 := gr_ob g35 o_v0
          refine r_goto (pc := 61) C (tgt := 101) dX11_readLine_61 (by decide) ?_
          exact r_vret (pc := 101) C E ht dX11_readLine_101 (by decide) (by decide) h
      · have h := h.2 c12
        refine r_aload_n (pc := 41) C dX11_readLine_41 0 rfl ?_
        refine r_callVv0 (pc := 42) C (rest := []) (a := v0) o_v0 [] yV_X11_readPlace g_1459 (c_X11_readPlace h) dX11_readLine_42 rfl rfl (by decide) ⟨by decide, by decide⟩ ⟨by decide, by decide⟩ ⟨rfl, rfl⟩ (fun S37 h g38 => ?_)
        have h := h g38
        have o_v0 := gr_ob g38 o_v0
        refine r_goto (pc := 45) C (tgt := 101) dX11_readLine_45 (by decide) ?_
        exact r_vret (pc := 101) C E ht dX11_readLine_101 (by decide) (by decide) h
    · have h := h.2 c8
      refine r_aload_n (pc := 25) C dX11_readLine_25 0 rfl ?_
      refine r_callVv0 (pc := 26) C (rest := []) (a := v0) o_v0 [] yV_X11_readRain g_1438 (c_X11_readRain h) dX11_readLine_26 rfl rfl (by decide) ⟨by decide, by decide⟩ ⟨by decide, by decide⟩ ⟨rfl, rfl⟩ (fun S40 h g41 => ?_)
      have h := h g41
      have o_v0 := gr_ob g41 o_v0
      refine r_goto (pc := 29) C (tgt := 101) dX11_readLine_29 (by decide) ?_
      exact r_vret (pc := 101) C E ht dX11_readLine_101 (by decide) (by decide) h
  · have h := h.2 c4
    refine r_aload_n (pc := 9) C dX11_readLine_9 0 rfl ?_
    refine r_callVv0 (pc := 10) C (rest := []) (a := v0) o_v0 [] yV_X11_readWorld g_1413 (c_X11_readWorld h) dX11_readLine_10 rfl rfl (by decide) ⟨by decide, by decide⟩ ⟨by decide, by decide⟩ ⟨rfl, rfl⟩ (fun S43 h g44 => ?_)
    have h := h g44
    have o_v0 := gr_ob g44 o_v0
    refine r_goto (pc := 13) C (tgt := 101) dX11_readLine_13 (by decide) ?_
    exact r_vret (pc := 101) C E ht dX11_readLine_101 (by decide) (by decide) h
def P_X11_readLine (v0 : Nat) (Q : HS → Prop) (S : HS) : Prop := P_X11_readLine_0 Q v0 S
theorem c_X11_readLine {l : Launch} {Ee : EE} {S : HS} {v0 : Nat} {Q : HS → Prop} (h : P_X11_readLine v0 Q S) : MV l yX11_readLine cX11_readLine 1 none rm_X11_readLine Ee S [.ref v0] Q :=
  openV (by decide) (by decide) (fun X C E ht hn hE hl => by subst hE; exact r_sub [0] rfl (T_X11_readLine_0 C E ht hn h))
def rm_X11_readAll : Room := { frames := 11, cells := 0, slots := 0, locals := 259 }
def P_X11_readAll_63 (Q : HS → Prop) (v0 : Nat) (S : HS) : Prop := ob S v0 11 ∧ (P_X11_flaw v0 (6 : Int32) (fun S1 => Gr S S1 → (Q S1)) S)
set_option maxRecDepth 20000 in
set_option maxHeartbeats 4000000 in
theorem T_X11_readAll_63 {X : CX} {Q : HS → Prop} (C : Cx X cX11_readAll RX11 2 rm_X11_readAll) (E : ReV X rm_X11_readAll Q) (ht : (xh X).sig.returnType = none) (hn : (xh X).name = yX11_readAll.name) {v0 : Nat} {S : HS} (h : P_X11_readAll_63 Q v0 S) : WS X 2 0 0 63 [(0, .ref v0)] [] S := by
  refine r_aload_n (pc := 63) C dX11_readAll_63 0 rfl ?_
  refine r_bipush (pc := 64) C (v := (6 : Int32)) dX11_readAll_64 (by decide) ?_
  obtain ⟨o_v0, h⟩ := h
  refine r_callVv0 (pc := 66) C (rest := []) (a := v0) o_v0 [.int (6 : Int32)] yV_X11_flaw g_1417 (c_X11_flaw h) dX11_readAll_66 rfl rfl (by decide) ⟨by decide, by decide⟩ ⟨by decide, by decide⟩ ⟨rfl, rfl⟩ (fun S1 h g2 => ?_)
  have h := h g2
  have o_v0 := gr_ob g2 o_v0
  exact r_vret (pc := 69) C E ht dX11_readAll_69 (by decide) (by decide) h
def P_X11_readAll_33 (Q : HS → Prop) (v0 : Nat) (S : HS) : Prop := ob S v0 11 ∧ (∃ a1 : Nat, fR S v0 4 = some a1 ∧ (ob S a1 10 ∧ (∀ x2 : Int32, x2 = fI S a1 0 → (((x2 = 0) → (P_X11_readAll_63 Q v0 S)) ∧ ((¬ x2 = 0) → (∃ a4 : Nat, fR S v0 4 = some a4 ∧ (ob S a4 10 ∧ (∀ x5 : Int32, x5 = fI S a4 2 → (((x5 = 0) → (P_X11_readAll_63 Q v0 S)) ∧ ((¬ x5 = 0) → (∃ a7 : Nat, fR S v0 4 = some a7 ∧ (ob S a7 10 ∧ (∀ x8 : Int32, x8 = fI S a7 4 → (((¬ x8 = 0) → (Q S)) ∧ ((x8 = 0) → (P_X11_readAll_63 Q v0 S))))))))))))))))
set_option maxRecDepth 20000 in
set_option maxHeartbeats 4000000 in
theorem T_X11_readAll_33 {X : CX} {Q : HS → Prop} (C : Cx X cX11_readAll RX11 2 rm_X11_readAll) (E : ReV X rm_X11_readAll Q) (ht : (xh X).sig.returnType = none) (hn : (xh X).name = yX11_readAll.name) {v0 : Nat} {S : HS} (h : P_X11_readAll_33 Q v0 S) : WS X 2 0 0 33 [(0, .ref v0)] [] S := by
  refine r_aload_n (pc := 33) C dX11_readAll_33 0 rfl ?_
  obtain ⟨o_v0, h⟩ := h
  obtain ⟨a1, ea1, h⟩ := h
  refine r_getr (pc := 34) C fL_X11_147 dX11_readAll_34 o_v0 ea1 ?_
  obtain ⟨o_a1, h⟩ := h
  refine r_getNi (pc := 37) C fN_X11_151 dX11_readAll_37 o_a1 ?_
  refine r_topi (fun x2 ex2 => ?_)
  have h := h x2 ex2
  refine r_if_eq (pc := 40) C (tgt := 63) dX11_readAll_40 (by decide) (fun c3 => ?_) (fun c3 => ?_)
  · have h := h.1 c3
    exact r_sub [0] rfl (T_X11_readAll_63 C E ht hn h)
  · have h := h.2 c3
    refine r_aload_n (pc := 43) C dX11_readAll_43 0 rfl ?_
    obtain ⟨a4, ea4, h⟩ := h
    refine r_getr (pc := 44) C fL_X11_147 dX11_readAll_44 o_v0 ea4 ?_
    obtain ⟨o_a4, h⟩ := h
    refine r_getNi (pc := 47) C fN_X11_190 dX11_readAll_47 o_a4 ?_
    refine r_topi (fun x5 ex5 => ?_)
    have h := h x5 ex5
    refine r_if_eq (pc := 50) C (tgt := 63) dX11_readAll_50 (by decide) (fun c6 => ?_) (fun c6 => ?_)
    · have h := h.1 c6
      exact r_sub [0] rfl (T_X11_readAll_63 C E ht hn h)
    · have h := h.2 c6
      refine r_aload_n (pc := 53) C dX11_readAll_53 0 rfl ?_
      obtain ⟨a7, ea7, h⟩ := h
      refine r_getr (pc := 54) C fL_X11_147 dX11_readAll_54 o_v0 ea7 ?_
      obtain ⟨o_a7, h⟩ := h
      refine r_getNi (pc := 57) C fN_X11_193 dX11_readAll_57 o_a7 ?_
      refine r_topi (fun x8 ex8 => ?_)
      have h := h x8 ex8
      refine r_if_ne (pc := 60) C (tgt := 69) dX11_readAll_60 (by decide) (fun c9 => ?_) (fun c9 => ?_)
      · have h := h.1 c9
        exact r_vret (pc := 69) C E ht dX11_readAll_69 (by decide) (by decide) h
      · have h := h.2 c9
        exact r_sub [0] rfl (T_X11_readAll_63 C E ht hn h)
def B_X11_readAll_2 (Q : HS → Prop) (X2 : Nat → Int32 → HS → Prop) (v0 : Nat) (v1 : Int32) (S : HS) : Prop := ((v1 = 0) → (ob S v0 11 ∧ (∀ x2 : Int32, x2 = fI S v0 9 → (((x2 = (1 : Int32)) → (P_X11_readAll_33 Q v0 S)) ∧ ((¬ x2 = (1 : Int32)) → (P_X11_flaw v0 (1 : Int32) (fun S4 => Gr S S4 → (P_X11_readAll_33 Q v0 S4)) S)))))) ∧ ((¬ v1 = 0) → (ob S v0 11 ∧ (P_X11_readLine v0 (fun S7 => Gr S S7 → (P_X11_eatsSign v0 (59 : Int32) (fun x12 S10 => Gr S7 S10 → bl x12 → (X2 v0 x12 S10)) S7)) S)))
def P_X11_readAll_2 (Q : HS → Prop) (v0 : Nat) (v1 : Int32) (S : HS) : Prop := ∀ X2 : Nat → Int32 → HS → Prop, (∀ (v0 : Nat) (v1 : Int32) (S : HS), B_X11_readAll_2 Q X2 v0 v1 S → X2 v0 v1 S) → X2 v0 v1 S
set_option maxRecDepth 20000 in
set_option maxHeartbeats 4000000 in
theorem TB_X11_readAll_2 {X : CX} {Q : HS → Prop} (C : Cx X cX11_readAll RX11 2 rm_X11_readAll) (E : ReV X rm_X11_readAll Q) (ht : (xh X).sig.returnType = none) (hn : (xh X).name = yX11_readAll.name) {X2 : Nat → Int32 → HS → Prop} (hX2 : ∀ (v0 : Nat) (v1 : Int32) (S : HS), X2 v0 v1 S → WS X 2 0 0 2 [(0, .ref v0), (1, .int v1)] [] S) {v0 : Nat} {v1 : Int32} {S : HS} (h : B_X11_readAll_2 Q X2 v0 v1 S) : WS X 2 0 0 2 [(0, .ref v0), (1, .int v1)] [] S := by
  refine r_iload_n (pc := 2) C dX11_readAll_2 1 rfl ?_
  refine r_if_eq (pc := 3) C (tgt := 20) dX11_readAll_3 (by decide) (fun c1 => ?_) (fun c1 => ?_)
  · have h := h.1 c1
    refine r_aload_n (pc := 20) C dX11_readAll_20 0 rfl ?_
    obtain ⟨o_v0, h⟩ := h
    refine r_geti (pc := 21) C fL_X11_68 dX11_readAll_21 o_v0 ?_
    refine r_topi (fun x2 ex2 => ?_)
    have h := h x2 ex2
    refine r_iconst (pc := 24) C (v := (1 : Int32)) dX11_readAll_24 (by decide) ?_
    refine r_icmp_eq (pc := 25) C (tgt := 33) dX11_readAll_25 (by decide) (fun c3 => ?_) (fun c3 => ?_)
    · have h := h.1 c3
      exact r_sub [0] rfl (T_X11_readAll_33 C E ht hn h)
    · have h := h.2 c3
      refine r_aload_n (pc := 28) C dX11_readAll_28 0 rfl ?_
      refine r_iconst (pc := 29) C (v := (1 : Int32)) dX11_readAll_29 (by decide) ?_
      refine r_callVv0 (pc := 30) C (rest := []) (a := v0) o_v0 [.int (1 : Int32)] yV_X11_flaw g_1417 (c_X11_flaw h) dX11_readAll_30 rfl rfl (by decide) ⟨by decide, by decide⟩ ⟨by decide, by decide⟩ ⟨rfl, rfl⟩ (fun S4 h g5 => ?_)
      have h := h g5
      have o_v0 := gr_ob g5 o_v0
      exact r_sub [0] rfl (T_X11_readAll_33 C E ht hn h)
  · have h := h.2 c1
    refine r_aload_n (pc := 6) C dX11_readAll_6 0 rfl ?_
    obtain ⟨o_v0, h⟩ := h
    refine r_callVv0 (pc := 7) C (rest := []) (a := v0) o_v0 [] yV_X11_readLine g_1399 (c_X11_readLine h) dX11_readAll_7 rfl rfl (by decide) ⟨by decide, by decide⟩ ⟨by decide, by decide⟩ ⟨rfl, rfl⟩ (fun S7 h g8 => ?_)
    have h := h g8
    have o_v0 := gr_ob g8 o_v0
    refine r_aload_n (pc := 10) C dX11_readAll_10 0 rfl ?_
    refine r_bipush (pc := 11) C (v := (59 : Int32)) dX11_readAll_11 (by decide) ?_
    refine r_callVi0 (pc := 13) C (rest := []) (a := v0) o_v0 [.int (59 : Int32)] yV_X11_eatsSign g_1514 (c_X11_eatsSign h) dX11_readAll_13 rfl rfl (by decide) ⟨by decide, by decide⟩ ⟨by decide, by decide⟩ ⟨rfl, rfl⟩ (fun x12 S10 h g11 => ?_)
    have bx12 := h.1
    have h := h.2 g11 bx12
    have o_v0 := gr_ob g11 o_v0
    refine r_istore_n (pc := 16) C dX11_readAll_16 rfl (by decide) (lv' := [(1, .int x12), (0, .ref v0)]) rfl ?_
    refine r_goto (pc := 17) C (tgt := 2) dX11_readAll_17 (by decide) ?_
    exact r_sub [1, 0] rfl (hX2 v0 x12 S10 h)
theorem T_X11_readAll_2 {X : CX} {Q : HS → Prop} (C : Cx X cX11_readAll RX11 2 rm_X11_readAll) (E : ReV X rm_X11_readAll Q) (ht : (xh X).sig.returnType = none) (hn : (xh X).name = yX11_readAll.name) {v0 : Nat} {v1 : Int32} {S : HS} (h : P_X11_readAll_2 Q v0 v1 S) : WS X 2 0 0 2 [(0, .ref v0), (1, .int v1)] [] S :=
  h (fun v0 v1 S => WS X 2 0 0 2 [(0, .ref v0), (1, .int v1)] [] S) (fun v0 v1 S hh => TB_X11_readAll_2 C E ht hn (fun v0 v1 S z => z) hh)
def P_X11_readAll_0 (Q : HS → Prop) (v0 : Nat) (S : HS) : Prop := P_X11_readAll_2 Q v0 (1 : Int32) S
set_option maxRecDepth 20000 in
set_option maxHeartbeats 4000000 in
theorem T_X11_readAll_0 {X : CX} {Q : HS → Prop} (C : Cx X cX11_readAll RX11 2 rm_X11_readAll) (E : ReV X rm_X11_readAll Q) (ht : (xh X).sig.returnType = none) (hn : (xh X).name = yX11_readAll.name) {v0 : Nat} {S : HS} (h : P_X11_readAll_0 Q v0 S) : WS X 2 0 0 0 [(0, .ref v0)] [] S := by
  refine r_iconst (pc := 0) C (v := (1 : Int32)) dX11_readAll_0 (by decide) ?_
  refine r_istore_n (pc := 1) C dX11_readAll_1 rfl (by decide) (lv' := [(1, .int (1 : Int32)), (0, .ref v0)]) rfl ?_
  exact r_sub [1, 0] rfl (T_X11_readAll_2 C E ht hn h)
def P_X11_readAll (v0 : Nat) (Q : HS → Prop) (S : HS) : Prop := P_X11_readAll_0 Q v0 S
theorem c_X11_readAll {l : Launch} {Ee : EE} {S : HS} {v0 : Nat} {Q : HS → Prop} (h : P_X11_readAll v0 Q S) : MV l yX11_readAll cX11_readAll 2 none rm_X11_readAll Ee S [.ref v0] Q :=
  openV (by decide) (by decide) (fun X C E ht hn hE hl => by subst hE; exact r_sub [0] rfl (T_X11_readAll_0 C E ht hn h))
def rm_X11_road : Room := { frames := 1, cells := 0, slots := 0, locals := 22 }
def P_X11_road_22 (Q : Int32 → HS → Prop) (v0 : Nat) (S : HS) : Prop := ob S v0 11 ∧ (P_X11_refused v0 (1 : Int32) (fun x3 S1 => Gr S S1 → (Q x3 S1)) S)
set_option maxRecDepth 20000 in
set_option maxHeartbeats 4000000 in
theorem T_X11_road_22 {X : CX} {Q : Int32 → HS → Prop} (C : Cx X cX11_road RX11 3 rm_X11_road) (E : ReI X rm_X11_road Q) (ht : (xh X).sig.returnType = (some .int)) (hn : (xh X).name = yX11_road.name) {v0 : Nat} {S : HS} (h : P_X11_road_22 Q v0 S) : WS X 3 0 0 22 [(0, .ref v0)] [] S := by
  refine r_aload_n (pc := 22) C dX11_road_22 0 rfl ?_
  refine r_iconst (pc := 23) C (v := (1 : Int32)) dX11_road_23 (by decide) ?_
  obtain ⟨o_v0, h⟩ := h
  refine r_callVi0 (pc := 24) C (rest := []) (a := v0) o_v0 [.int (1 : Int32)] yV_X11_refused g_1250 (c_X11_refused h) dX11_road_24 rfl rfl (by decide) ⟨by decide, by decide⟩ ⟨by decide, by decide⟩ ⟨rfl, rfl⟩ (fun x3 S1 h g2 => ?_)
  have h := h g2
  have o_v0 := gr_ob g2 o_v0
  exact r_iret (pc := 27) C E ht dX11_road_27 (by decide) (by decide) h
def P_X11_road_0 (Q : Int32 → HS → Prop) (v0 : Nat) (v1 : Int32) (v2 : Int32) (S : HS) : Prop := ob S v0 11 ∧ (P_X11_isRoad v0 v1 (fun x3 S1 => Gr (sI S v0 0 (0 : Int32)) S1 → bl x3 → (((x3 = 0) → (P_X11_road_22 Q v0 S1)) ∧ ((¬ x3 = 0) → (P_X11_in v2 (0 : Int32) (4 : Int32) (fun x7 S5 => Gr S1 S5 → bl x7 → (((¬ x7 = 0) → ((v2.toInt < 0 ∨ 3 < v2.toInt → (∃ a10 : Nat, fR S5 v0 3 = some a10 ∧ (ob S5 a10 10 ∧ (∃ a11 : Nat, fR S5 a10 17 = some a11 ∧ (ob S5 a11 13 ∧ (vp_in v1 (hN S5 a11) ∧ ∀ x13 : Int32, x13 = fI S5 a11 v1.toNatClampNeg → (P_X11_good v0 x13 (fun x16 S14 => Gr S5 S14 → (Q x16 S14)) S5))))))) ∧ (v2.toInt = 0 → (∃ a17 : Nat, fR S5 v0 3 = some a17 ∧ (ob S5 a17 10 ∧ (∃ a18 : Nat, fR S5 a17 13 = some a18 ∧ (ob S5 a18 13 ∧ (vp_in v1 (hN S5 a18) ∧ ∀ x20 : Int32, x20 = fI S5 a18 v1.toNatClampNeg → (P_X11_good v0 x20 (fun x23 S21 => Gr S5 S21 → (Q x23 S21)) S5))))))) ∧ (v2.toInt = 1 → (∃ a24 : Nat, fR S5 v0 3 = some a24 ∧ (ob S5 a24 10 ∧ (∃ a25 : Nat, fR S5 a24 14 = some a25 ∧ (ob S5 a25 13 ∧ (vp_in v1 (hN S5 a25) ∧ ∀ x27 : Int32, x27 = fI S5 a25 v1.toNatClampNeg → (P_X11_good v0 x27 (fun x30 S28 => Gr S5 S28 → (Q x30 S28)) S5))))))) ∧ (v2.toInt = 2 → (∃ a31 : Nat, fR S5 v0 3 = some a31 ∧ (ob S5 a31 10 ∧ (∃ a32 : Nat, fR S5 a31 15 = some a32 ∧ (ob S5 a32 13 ∧ (vp_in v1 (hN S5 a32) ∧ ∀ x34 : Int32, x34 = fI S5 a32 v1.toNatClampNeg → (P_X11_good v0 x34 (fun x37 S35 => Gr S5 S35 → (Q x37 S35)) S5))))))) ∧ (v2.toInt = 3 → (∃ a38 : Nat, fR S5 v0 3 = some a38 ∧ (ob S5 a38 10 ∧ (∃ a39 : Nat, fR S5 a38 16 = some a39 ∧ (ob S5 a39 13 ∧ (vp_in v1 (hN S5 a39) ∧ ∀ x41 : Int32, x41 = fI S5 a39 v1.toNatClampNeg → (P_X11_good v0 x41 (fun x44 S42 => Gr S5 S42 → (Q x44 S42)) S5))))))))) ∧ ((x7 = 0) → (P_X11_road_22 Q v0 S5)))) S1)))) (sI S v0 0 (0 : Int32)))
set_option maxRecDepth 20000 in
set_option maxHeartbeats 4000000 in
theorem T_X11_road_0 {X : CX} {Q : Int32 → HS → Prop} (C : Cx X cX11_road RX11 3 rm_X11_road) (E : ReI X rm_X11_road Q) (ht : (xh X).sig.returnType = (some .int)) (hn : (xh X).name = yX11_road.name) {v0 : Nat} {v1 : Int32} {v2 : Int32} {S : HS} (h : P_X11_road_0 Q v0 v1 v2 S) : WS X 3 0 0 0 [(0, .ref v0), (1, .int v1), (2, .int v2)] [] S := by
  refine r_aload_n (pc := 0) C dX11_road_0 0 rfl ?_
  refine r_iconst (pc := 1) C (v := (0 : Int32)) dX11_road_1 (by decide) ?_
  obtain ⟨o_v0, h⟩ := h
  refine r_puti (pc := 2) C pfL_X11_40 dX11_road_2 o_v0 ?_
  refine r_aload_n (pc := 5) C dX11_road_5 0 rfl ?_
  refine r_iload_n (pc := 6) C dX11_road_6 1 rfl ?_
  refine r_callVi0 (pc := 7) C (rest := []) (a := v0) o_v0 [.int v1] yV_X11_isRoad g_1542 (c_X11_isRoad h) dX11_road_7 rfl rfl (by decide) ⟨by decide, by decide⟩ ⟨by decide, by decide⟩ ⟨rfl, rfl⟩ (fun x3 S1 h g2 => ?_)
  have bx3 := h.1
  have h := h.2 g2 bx3
  have o_v0 := gr_ob g2 o_v0
  refine r_if_eq (pc := 10) C (tgt := 22) dX11_road_10 (by decide) (fun c4 => ?_) (fun c4 => ?_)
  · have h := h.1 c4
    exact r_sub [0] rfl (T_X11_road_22 C E ht hn h)
  · have h := h.2 c4
    refine r_iload_n (pc := 13) C dX11_road_13 2 rfl ?_
    refine r_iconst (pc := 14) C (v := (0 : Int32)) dX11_road_14 (by decide) ?_
    refine r_iconst (pc := 15) C (v := (4 : Int32)) dX11_road_15 (by decide) ?_
    refine r_callSi0 (pc := 16) C (rest := []) rfl [.int v2, .int (0 : Int32), .int (4 : Int32)] yS_X11_in g_1434 (c_X11_in h) dX11_road_16 rfl rfl (by decide) ⟨by decide, by decide⟩ ⟨by decide, by decide⟩ ⟨rfl, rfl⟩ (fun x7 S5 h g6 => ?_)
    have bx7 := h.1
    have h := h.2 g6 bx7
    have o_v0 := gr_ob g6 o_v0
    refine r_if_ne (pc := 19) C (tgt := 28) dX11_road_19 (by decide) (fun c8 => ?_) (fun c8 => ?_)
    · have h := h.1 c8
      refine r_iload_n (pc := 28) C dX11_road_28 2 rfl ?_
      refine r_table (pc := 29) C (tgt := 116) dX11_road_29 (by decide) (fun c9 => ?_) (fun j hj hx => ?_)
      · have h := h.1 c9
        refine r_aload_n (pc := 116) C dX11_road_116 0 rfl ?_
        refine r_aload_n (pc := 117) C dX11_road_117 0 rfl ?_
        obtain ⟨a10, ea10, h⟩ := h
        refine r_getr (pc := 118) C fL_X11_338 dX11_road_118 o_v0 ea10 ?_
        obtain ⟨o_a10, h⟩ := h
        obtain ⟨a11, ea11, h⟩ := h
        refine r_getNr (pc := 121) C fN_X11_282 dX11_road_121 o_a10 ea11 ?_
        refine r_iload_n (pc := 124) C dX11_road_124 1 rfl ?_
        obtain ⟨o_a11, h⟩ := h
        obtain ⟨i12, h⟩ := h
        refine r_iald (pc := 125) C dX11_road_125 o_a11 i12 ?_
        refine r_topi (fun x13 ex13 => ?_)
        have h := h x13 ex13
        refine r_callVi0 (pc := 126) C (rest := []) (a := v0) o_v0 [.int x13] yV_X11_good g_1518 (c_X11_good h) dX11_road_126 rfl rfl (by decide) ⟨by decide, by decide⟩ ⟨by decide, by decide⟩ ⟨rfl, rfl⟩ (fun x16 S14 h g15 => ?_)
        have h := h g15
        have o_a10 := gr_ob g15 o_a10
        have o_a11 := gr_ob g15 o_a11
        have o_v0 := gr_ob g15 o_v0
        exact r_iret (pc := 129) C E ht dX11_road_129 (by decide) (by decide) h
      · match j, hj, hx with
        | 0, _, hx =>
          refine ⟨31, 60, rfl, by decide, ?_⟩
          have h := h.2.1 (by simpa using hx)
          refine r_aload_n (pc := 60) C dX11_road_60 0 rfl ?_
          refine r_aload_n (pc := 61) C dX11_road_61 0 rfl ?_
          obtain ⟨a17, ea17, h⟩ := h
          refine r_getr (pc := 62) C fL_X11_338 dX11_road_62 o_v0 ea17 ?_
          obtain ⟨o_a17, h⟩ := h
          obtain ⟨a18, ea18, h⟩ := h
          refine r_getNr (pc := 65) C fN_X11_270 dX11_road_65 o_a17 ea18 ?_
          refine r_iload_n (pc := 68) C dX11_road_68 1 rfl ?_
          obtain ⟨o_a18, h⟩ := h
          obtain ⟨i19, h⟩ := h
          refine r_iald (pc := 69) C dX11_road_69 o_a18 i19 ?_
          refine r_topi (fun x20 ex20 => ?_)
          have h := h x20 ex20
          refine r_callVi0 (pc := 70) C (rest := []) (a := v0) o_v0 [.int x20] yV_X11_good g_1518 (c_X11_good h) dX11_road_70 rfl rfl (by decide) ⟨by decide, by decide⟩ ⟨by decide, by decide⟩ ⟨rfl, rfl⟩ (fun x23 S21 h g22 => ?_)
          have h := h g22
          have o_a17 := gr_ob g22 o_a17
          have o_a18 := gr_ob g22 o_a18
          have o_v0 := gr_ob g22 o_v0
          exact r_iret (pc := 73) C E ht dX11_road_73 (by decide) (by decide) h
        | 1, _, hx =>
          refine ⟨45, 74, rfl, by decide, ?_⟩
          have h := h.2.2.1 (by simpa using hx)
          refine r_aload_n (pc := 74) C dX11_road_74 0 rfl ?_
          refine r_aload_n (pc := 75) C dX11_road_75 0 rfl ?_
          obtain ⟨a24, ea24, h⟩ := h
          refine r_getr (pc := 76) C fL_X11_338 dX11_road_76 o_v0 ea24 ?_
          obtain ⟨o_a24, h⟩ := h
          obtain ⟨a25, ea25, h⟩ := h
          refine r_getNr (pc := 79) C fN_X11_273 dX11_road_79 o_a24 ea25 ?_
          refine r_iload_n (pc := 82) C dX11_road_82 1 rfl ?_
          obtain ⟨o_a25, h⟩ := h
          obtain ⟨i26, h⟩ := h
          refine r_iald (pc := 83) C dX11_road_83 o_a25 i26 ?_
          refine r_topi (fun x27 ex27 => ?_)
          have h := h x27 ex27
          refine r_callVi0 (pc := 84) C (rest := []) (a := v0) o_v0 [.int x27] yV_X11_good g_1518 (c_X11_good h) dX11_road_84 rfl rfl (by decide) ⟨by decide, by decide⟩ ⟨by decide, by decide⟩ ⟨rfl, rfl⟩ (fun x30 S28 h g29 => ?_)
          have h := h g29
          have o_a24 := gr_ob g29 o_a24
          have o_a25 := gr_ob g29 o_a25
          have o_v0 := gr_ob g29 o_v0
          exact r_iret (pc := 87) C E ht dX11_road_87 (by decide) (by decide) h
        | 2, _, hx =>
          refine ⟨59, 88, rfl, by decide, ?_⟩
          have h := h.2.2.2.1 (by simpa using hx)
          refine r_aload_n (pc := 88) C dX11_road_88 0 rfl ?_
          refine r_aload_n (pc := 89) C dX11_road_89 0 rfl ?_
          obtain ⟨a31, ea31, h⟩ := h
          refine r_getr (pc := 90) C fL_X11_338 dX11_road_90 o_v0 ea31 ?_
          obtain ⟨o_a31, h⟩ := h
          obtain ⟨a32, ea32, h⟩ := h
          refine r_getNr (pc := 93) C fN_X11_276 dX11_road_93 o_a31 ea32 ?_
          refine r_iload_n (pc := 96) C dX11_road_96 1 rfl ?_
          obtain ⟨o_a32, h⟩ := h
          obtain ⟨i33, h⟩ := h
          refine r_iald (pc := 97) C dX11_road_97 o_a32 i33 ?_
          refine r_topi (fun x34 ex34 => ?_)
          have h := h x34 ex34
          refine r_callVi0 (pc := 98) C (rest := []) (a := v0) o_v0 [.int x34] yV_X11_good g_1518 (c_X11_good h) dX11_road_98 rfl rfl (by decide) ⟨by decide, by decide⟩ ⟨by decide, by decide⟩ ⟨rfl, rfl⟩ (fun x37 S35 h g36 => ?_)
          have h := h g36
          have o_a31 := gr_ob g36 o_a31
          have o_a32 := gr_ob g36 o_a32
          have o_v0 := gr_ob g36 o_v0
          exact r_iret (pc := 101) C E ht dX11_road_101 (by decide) (by decide) h
        | 3, _, hx =>
          refine ⟨73, 102, rfl, by decide, ?_⟩
          have h := h.2.2.2.2 (by simpa using hx)
          refine r_aload_n (pc := 102) C dX11_road_102 0 rfl ?_
          refine r_aload_n (pc := 103) C dX11_road_103 0 rfl ?_
          obtain ⟨a38, ea38, h⟩ := h
          refine r_getr (pc := 104) C fL_X11_338 dX11_road_104 o_v0 ea38 ?_
          obtain ⟨o_a38, h⟩ := h
          obtain ⟨a39, ea39, h⟩ := h
          refine r_getNr (pc := 107) C fN_X11_279 dX11_road_107 o_a38 ea39 ?_
          refine r_iload_n (pc := 110) C dX11_road_110 1 rfl ?_
          obtain ⟨o_a39, h⟩ := h
          obtain ⟨i40, h⟩ := h
          refine r_iald (pc := 111) C dX11_road_111 o_a39 i40 ?_
          refine r_topi (fun x41 ex41 => ?_)
          have h := h x41 ex41
          refine r_callVi0 (pc := 112) C (rest := []) (a := v0) o_v0 [.int x41] yV_X11_good g_1518 (c_X11_good h) dX11_road_112 rfl rfl (by decide) ⟨by decide, by decide⟩ ⟨by decide, by decide⟩ ⟨rfl, rfl⟩ (fun x44 S42 h g43 => ?_)
          have h := h g43
          have o_a38 := gr_ob g43 o_a38
          have o_a39 := gr_ob g43 o_a39
          have o_v0 := gr_ob g43 o_v0
          exact r_iret (pc := 115) C E ht dX11_road_115 (by decide) (by decide) h
        | j + 4, hj, _ => exact absurd hj (by omega)
    · have h := h.2 c8
      exact r_sub [0] rfl (T_X11_road_22 C E ht hn h)
def P_X11_road (v0 : Nat) (v1 : Int32) (v2 : Int32) (Q : Int32 → HS → Prop) (S : HS) : Prop := P_X11_road_0 Q v0 v1 v2 S
theorem c_X11_road {l : Launch} {Ee : EE} {S : HS} {v0 : Nat} {v1 : Int32} {v2 : Int32} {Q : Int32 → HS → Prop} (h : P_X11_road v0 v1 v2 Q S) : MI l yX11_road cX11_road 3 (some .int) rm_X11_road Ee S [.ref v0, .int v1, .int v2] Q :=
  openI (by decide) (by decide) (fun X C E ht hn hE hl => by subst hE; exact r_sub [0, 1, 2] rfl (T_X11_road_0 C E ht hn h))
def rm_X11_round : Room := { frames := 8, cells := 0, slots := 0, locals := 213 }
def P_X11_round_29 (Q : Int64 → HS → Prop) (v0 : Nat) (S : HS) : Prop := ob S v0 11 ∧ (P_X11_refused v0 (1 : Int32) (fun x3 S1 => Gr S S1 → (Q x3.toInt64 S1)) S)
set_option maxRecDepth 20000 in
set_option maxHeartbeats 4000000 in
theorem T_X11_round_29 {X : CX} {Q : Int64 → HS → Prop} (C : Cx X cX11_round RX11 5 rm_X11_round) (E : ReJ X rm_X11_round Q) (ht : (xh X).sig.returnType = (some .long)) (hn : (xh X).name = yX11_round.name) {v0 : Nat} {S : HS} (h : P_X11_round_29 Q v0 S) : WS X 5 0 0 29 [(0, .ref v0)] [] S := by
  refine r_aload_n (pc := 29) C dX11_round_29 0 rfl ?_
  refine r_iconst (pc := 30) C (v := (1 : Int32)) dX11_round_30 (by decide) ?_
  obtain ⟨o_v0, h⟩ := h
  refine r_callVi0 (pc := 31) C (rest := []) (a := v0) o_v0 [.int (1 : Int32)] yV_X11_refused g_1250 (c_X11_refused h) dX11_round_31 rfl rfl (by decide) ⟨by decide, by decide⟩ ⟨by decide, by decide⟩ ⟨rfl, rfl⟩ (fun x3 S1 h g2 => ?_)
  have h := h g2
  have o_v0 := gr_ob g2 o_v0
  refine r_i2l (pc := 34) C dX11_round_34 ?_
  exact r_lret (pc := 35) C E ht dX11_round_35 (by decide) (by decide) h
def P_X11_round_0 (Q : Int64 → HS → Prop) (v0 : Nat) (v1 : Int32) (v2 : Int32) (v3 : Int32) (v4 : Int32) (S : HS) : Prop := ob S v0 11 ∧ (P_X11_isWalker v0 v1 (fun x3 S1 => Gr (sI S v0 0 (0 : Int32)) S1 → bl x3 → (((x3 = 0) → (P_X11_round_29 Q v0 S1)) ∧ ((¬ x3 = 0) → (P_X11_isRoad v0 v2 (fun x7 S5 => Gr S1 S5 → bl x7 → (((x7 = 0) → (P_X11_round_29 Q v0 S5)) ∧ ((¬ x7 = 0) → (P_X11_isHour v0 v3 (fun x11 S9 => Gr S5 S9 → bl x11 → (((¬ x11 = 0) → (P_X11_wetAtBest v0 v1 v2 (0 : Int32) v3 (fun x15 S13 => Gr S9 S13 → (P_X11_wetAtBest v0 v1 v2 (1 : Int32) v3 (fun x18 S16 => Gr S13 S16 → (P_X11_told v0 (x15 + x18) (2520 : Int64) v4 (fun x21 S19 => Gr S16 S19 → (Q x21 S19)) S16)) S13)) S9)) ∧ ((x11 = 0) → (P_X11_round_29 Q v0 S9)))) S5)))) S1)))) (sI S v0 0 (0 : Int32)))
set_option maxRecDepth 20000 in
set_option maxHeartbeats 4000000 in
theorem T_X11_round_0 {X : CX} {Q : Int64 → HS → Prop} (C : Cx X cX11_round RX11 5 rm_X11_round) (E : ReJ X rm_X11_round Q) (ht : (xh X).sig.returnType = (some .long)) (hn : (xh X).name = yX11_round.name) {v0 : Nat} {v1 : Int32} {v2 : Int32} {v3 : Int32} {v4 : Int32} {S : HS} (h : P_X11_round_0 Q v0 v1 v2 v3 v4 S) : WS X 5 0 0 0 [(0, .ref v0), (1, .int v1), (2, .int v2), (3, .int v3), (4, .int v4)] [] S := by
  refine r_aload_n (pc := 0) C dX11_round_0 0 rfl ?_
  refine r_iconst (pc := 1) C (v := (0 : Int32)) dX11_round_1 (by decide) ?_
  obtain ⟨o_v0, h⟩ := h
  refine r_puti (pc := 2) C pfL_X11_40 dX11_round_2 o_v0 ?_
  refine r_aload_n (pc := 5) C dX11_round_5 0 rfl ?_
  refine r_iload_n (pc := 6) C dX11_round_6 1 rfl ?_
  refine r_callVi0 (pc := 7) C (rest := []) (a := v0) o_v0 [.int v1] yV_X11_isWalker g_1538 (c_X11_isWalker h) dX11_round_7 rfl rfl (by decide) ⟨by decide, by decide⟩ ⟨by decide, by decide⟩ ⟨rfl, rfl⟩ (fun x3 S1 h g2 => ?_)
  have bx3 := h.1
  have h := h.2 g2 bx3
  have o_v0 := gr_ob g2 o_v0
  refine r_if_eq (pc := 10) C (tgt := 29) dX11_round_10 (by decide) (fun c4 => ?_) (fun c4 => ?_)
  · have h := h.1 c4
    exact r_sub [0] rfl (T_X11_round_29 C E ht hn h)
  · have h := h.2 c4
    refine r_aload_n (pc := 13) C dX11_round_13 0 rfl ?_
    refine r_iload_n (pc := 14) C dX11_round_14 2 rfl ?_
    refine r_callVi0 (pc := 15) C (rest := []) (a := v0) o_v0 [.int v2] yV_X11_isRoad g_1542 (c_X11_isRoad h) dX11_round_15 rfl rfl (by decide) ⟨by decide, by decide⟩ ⟨by decide, by decide⟩ ⟨rfl, rfl⟩ (fun x7 S5 h g6 => ?_)
    have bx7 := h.1
    have h := h.2 g6 bx7
    have o_v0 := gr_ob g6 o_v0
    refine r_if_eq (pc := 18) C (tgt := 29) dX11_round_18 (by decide) (fun c8 => ?_) (fun c8 => ?_)
    · have h := h.1 c8
      exact r_sub [0] rfl (T_X11_round_29 C E ht hn h)
    · have h := h.2 c8
      refine r_aload_n (pc := 21) C dX11_round_21 0 rfl ?_
      refine r_iload_n (pc := 22) C dX11_round_22 3 rfl ?_
      refine r_callVi0 (pc := 23) C (rest := []) (a := v0) o_v0 [.int v3] yV_X11_isHour g_1546 (c_X11_isHour h) dX11_round_23 rfl rfl (by decide) ⟨by decide, by decide⟩ ⟨by decide, by decide⟩ ⟨rfl, rfl⟩ (fun x11 S9 h g10 => ?_)
      have bx11 := h.1
      have h := h.2 g10 bx11
      have o_v0 := gr_ob g10 o_v0
      refine r_if_ne (pc := 26) C (tgt := 36) dX11_round_26 (by decide) (fun c12 => ?_) (fun c12 => ?_)
      · have h := h.1 c12
        refine r_aload_n (pc := 36) C dX11_round_36 0 rfl ?_
        refine r_aload_n (pc := 37) C dX11_round_37 0 rfl ?_
        refine r_iload_n (pc := 38) C dX11_round_38 1 rfl ?_
        refine r_iload_n (pc := 39) C dX11_round_39 2 rfl ?_
        refine r_iconst (pc := 40) C (v := (0 : Int32)) dX11_round_40 (by decide) ?_
        refine r_iload_n (pc := 41) C dX11_round_41 3 rfl ?_
        refine r_callVl0 (pc := 42) C (rest := [.ref v0]) (a := v0) o_v0 [.int v1, .int v2, .int (0 : Int32), .int v3] yV_X11_wetAtBest g_1647 (c_X11_wetAtBest h) dX11_round_42 rfl rfl (by decide) ⟨by decide, by decide⟩ ⟨by decide, by decide⟩ ⟨rfl, rfl⟩ (fun x15 S13 h g14 => ?_)
        have h := h g14
        have o_v0 := gr_ob g14 o_v0
        refine r_aload_n (pc := 45) C dX11_round_45 0 rfl ?_
        refine r_iload_n (pc := 46) C dX11_round_46 1 rfl ?_
        refine r_iload_n (pc := 47) C dX11_round_47 2 rfl ?_
        refine r_iconst (pc := 48) C (v := (1 : Int32)) dX11_round_48 (by decide) ?_
        refine r_iload_n (pc := 49) C dX11_round_49 3 rfl ?_
        refine r_callVl0 (pc := 50) C (rest := [.long x15, .ref v0]) (a := v0) o_v0 [.int v1, .int v2, .int (1 : Int32), .int v3] yV_X11_wetAtBest g_1647 (c_X11_wetAtBest h) dX11_round_50 rfl rfl (by decide) ⟨by decide, by decide⟩ ⟨by decide, by decide⟩ ⟨rfl, rfl⟩ (fun x18 S16 h g17 => ?_)
        have h := h g17
        have o_v0 := gr_ob g17 o_v0
        refine r_ladd (pc := 53) C dX11_round_53 ?_
        refine r_ldc2 (pc := 54) C (v := (2520 : Int64)) dX11_round_54 g_1585 ?_
        refine r_iload (pc := 57) C dX11_round_57 4 rfl ?_
        refine r_callVl0 (pc := 59) C (rest := []) (a := v0) o_v0 [.long (x15 + x18), .long (2520 : Int64), .int v4] yV_X11_told g_1586 (c_X11_told h) dX11_round_59 rfl rfl (by decide) ⟨by decide, by decide⟩ ⟨by decide, by decide⟩ ⟨rfl, rfl⟩ (fun x21 S19 h g20 => ?_)
        have h := h g20
        have o_v0 := gr_ob g20 o_v0
        exact r_lret (pc := 62) C E ht dX11_round_62 (by decide) (by decide) h
      · have h := h.2 c12
        exact r_sub [0] rfl (T_X11_round_29 C E ht hn h)
def P_X11_round (v0 : Nat) (v1 : Int32) (v2 : Int32) (v3 : Int32) (v4 : Int32) (Q : Int64 → HS → Prop) (S : HS) : Prop := P_X11_round_0 Q v0 v1 v2 v3 v4 S
theorem c_X11_round {l : Launch} {Ee : EE} {S : HS} {v0 : Nat} {v1 : Int32} {v2 : Int32} {v3 : Int32} {v4 : Int32} {Q : Int64 → HS → Prop} (h : P_X11_round v0 v1 v2 v3 v4 Q S) : MJ l yX11_round cX11_round 5 (some .long) rm_X11_round Ee S [.ref v0, .int v1, .int v2, .int v3, .int v4] Q :=
  openJ (by decide) (by decide) (fun X C E ht hn hE hl => by subst hE; exact r_sub [0, 1, 2, 3, 4] rfl (T_X11_round_0 C E ht hn h))
def rm_X11_saves : Room := { frames := 7, cells := 0, slots := 0, locals := 189 }
def P_X11_saves_39 (Q : Int64 → HS → Prop) (v0 : Nat) (S : HS) : Prop := ob S v0 11 ∧ (P_X11_refused v0 (1 : Int32) (fun x3 S1 => Gr S S1 → (Q x3.toInt64 S1)) S)
set_option maxRecDepth 20000 in
set_option maxHeartbeats 4000000 in
theorem T_X11_saves_39 {X : CX} {Q : Int64 → HS → Prop} (C : Cx X cX11_saves RX11 6 rm_X11_saves) (E : ReJ X rm_X11_saves Q) (ht : (xh X).sig.returnType = (some .long)) (hn : (xh X).name = yX11_saves.name) {v0 : Nat} {S : HS} (h : P_X11_saves_39 Q v0 S) : WS X 6 0 0 39 [(0, .ref v0)] [] S := by
  refine r_aload_n (pc := 39) C dX11_saves_39 0 rfl ?_
  refine r_iconst (pc := 40) C (v := (1 : Int32)) dX11_saves_40 (by decide) ?_
  obtain ⟨o_v0, h⟩ := h
  refine r_callVi0 (pc := 41) C (rest := []) (a := v0) o_v0 [.int (1 : Int32)] yV_X11_refused g_1250 (c_X11_refused h) dX11_saves_41 rfl rfl (by decide) ⟨by decide, by decide⟩ ⟨by decide, by decide⟩ ⟨rfl, rfl⟩ (fun x3 S1 h g2 => ?_)
  have h := h g2
  have o_v0 := gr_ob g2 o_v0
  refine r_i2l (pc := 44) C dX11_saves_44 ?_
  exact r_lret (pc := 45) C E ht dX11_saves_45 (by decide) (by decide) h
def P_X11_saves_0 (Q : Int64 → HS → Prop) (v0 : Nat) (v1 : Int32) (v2 : Int32) (v3 : Int32) (v4 : Int32) (v5 : Int32) (S : HS) : Prop := ob S v0 11 ∧ (P_X11_isWalker v0 v1 (fun x3 S1 => Gr (sI S v0 0 (0 : Int32)) S1 → bl x3 → (((x3 = 0) → (P_X11_saves_39 Q v0 S1)) ∧ ((¬ x3 = 0) → (P_X11_isRoad v0 v2 (fun x7 S5 => Gr S1 S5 → bl x7 → (((x7 = 0) → (P_X11_saves_39 Q v0 S5)) ∧ ((¬ x7 = 0) → (P_X11_in v3 (0 : Int32) (1 : Int32) (fun x11 S9 => Gr S5 S9 → bl x11 → (((x11 = 0) → (P_X11_saves_39 Q v0 S9)) ∧ ((¬ x11 = 0) → (P_X11_isHour v0 v4 (fun x15 S13 => Gr S9 S13 → bl x15 → (((¬ x15 = 0) → (∃ a17 : Nat, fR S13 v0 3 = some a17 ∧ (ob S13 a17 10 ∧ (∃ a18 : Nat, fR S13 a17 24 = some a18 ∧ (ob S13 a18 13 ∧ (vp_in v1 (hN S13 a18) ∧ ∀ x20 : Int32, x20 = fI S13 a18 v1.toNatClampNeg → (P_X11_wetOf v0 v1 v2 v3 v4 x20 (fun x23 S21 => Gr S13 S21 → (P_X11_bestOf v0 v1 v2 v3 v4 (fun x26 S24 => Gr S21 S24 → (P_X11_wetOf v0 v1 v2 v3 v4 x26 (fun x29 S27 => Gr S24 S27 → (P_X11_told v0 (x23 - x29) (2520 : Int64) v5 (fun x32 S30 => Gr S27 S30 → (Q x32 S30)) S27)) S24)) S21)) S13))))))) ∧ ((x15 = 0) → (P_X11_saves_39 Q v0 S13)))) S9)))) S5)))) S1)))) (sI S v0 0 (0 : Int32)))
set_option maxRecDepth 20000 in
set_option maxHeartbeats 4000000 in
theorem T_X11_saves_0 {X : CX} {Q : Int64 → HS → Prop} (C : Cx X cX11_saves RX11 6 rm_X11_saves) (E : ReJ X rm_X11_saves Q) (ht : (xh X).sig.returnType = (some .long)) (hn : (xh X).name = yX11_saves.name) {v0 : Nat} {v1 : Int32} {v2 : Int32} {v3 : Int32} {v4 : Int32} {v5 : Int32} {S : HS} (h : P_X11_saves_0 Q v0 v1 v2 v3 v4 v5 S) : WS X 6 0 0 0 [(0, .ref v0), (1, .int v1), (2, .int v2), (3, .int v3), (4, .int v4), (5, .int v5)] [] S := by
  refine r_aload_n (pc := 0) C dX11_saves_0 0 rfl ?_
  refine r_iconst (pc := 1) C (v := (0 : Int32)) dX11_saves_1 (by decide) ?_
  obtain ⟨o_v0, h⟩ := h
  refine r_puti (pc := 2) C pfL_X11_40 dX11_saves_2 o_v0 ?_
  refine r_aload_n (pc := 5) C dX11_saves_5 0 rfl ?_
  refine r_iload_n (pc := 6) C dX11_saves_6 1 rfl ?_
  refine r_callVi0 (pc := 7) C (rest := []) (a := v0) o_v0 [.int v1] yV_X11_isWalker g_1538 (c_X11_isWalker h) dX11_saves_7 rfl rfl (by decide) ⟨by decide, by decide⟩ ⟨by decide, by decide⟩ ⟨rfl, rfl⟩ (fun x3 S1 h g2 => ?_)
  have bx3 := h.1
  have h := h.2 g2 bx3
  have o_v0 := gr_ob g2 o_v0
  refine r_if_eq (pc := 10) C (tgt := 39) dX11_saves_10 (by decide) (fun c4 => ?_) (fun c4 => ?_)
  · have h := h.1 c4
    exact r_sub [0] rfl (T_X11_saves_39 C E ht hn h)
  · have h := h.2 c4
    refine r_aload_n (pc := 13) C dX11_saves_13 0 rfl ?_
    refine r_iload_n (pc := 14) C dX11_saves_14 2 rfl ?_
    refine r_callVi0 (pc := 15) C (rest := []) (a := v0) o_v0 [.int v2] yV_X11_isRoad g_1542 (c_X11_isRoad h) dX11_saves_15 rfl rfl (by decide) ⟨by decide, by decide⟩ ⟨by decide, by decide⟩ ⟨rfl, rfl⟩ (fun x7 S5 h g6 => ?_)
    have bx7 := h.1
    have h := h.2 g6 bx7
    have o_v0 := gr_ob g6 o_v0
    refine r_if_eq (pc := 18) C (tgt := 39) dX11_saves_18 (by decide) (fun c8 => ?_) (fun c8 => ?_)
    · have h := h.1 c8
      exact r_sub [0] rfl (T_X11_saves_39 C E ht hn h)
    · have h := h.2 c8
      refine r_iload_n (pc := 21) C dX11_saves_21 3 rfl ?_
      refine r_iconst (pc := 22) C (v := (0 : Int32)) dX11_saves_22 (by decide) ?_
      refine r_iconst (pc := 23) C (v := (1 : Int32)) dX11_saves_23 (by decide) ?_
      refine r_callSi0 (pc := 24) C (rest := []) rfl [.int v3, .int (0 : Int32), .int (1 : Int32)] yS_X11_in g_1434 (c_X11_in h) dX11_saves_24 rfl rfl (by decide) ⟨by decide, by decide⟩ ⟨by decide, by decide⟩ ⟨rfl, rfl⟩ (fun x11 S9 h g10 => ?_)
      have bx11 := h.1
      have h := h.2 g10 bx11
      have o_v0 := gr_ob g10 o_v0
      refine r_if_eq (pc := 27) C (tgt := 39) dX11_saves_27 (by decide) (fun c12 => ?_) (fun c12 => ?_)
      · have h := h.1 c12
        exact r_sub [0] rfl (T_X11_saves_39 C E ht hn h)
      · have h := h.2 c12
        refine r_aload_n (pc := 30) C dX11_saves_30 0 rfl ?_
        refine r_iload (pc := 31) C dX11_saves_31 4 rfl ?_
        refine r_callVi0 (pc := 33) C (rest := []) (a := v0) o_v0 [.int v4] yV_X11_isHour g_1546 (c_X11_isHour h) dX11_saves_33 rfl rfl (by decide) ⟨by decide, by decide⟩ ⟨by decide, by decide⟩ ⟨rfl, rfl⟩ (fun x15 S13 h g14 => ?_)
        have bx15 := h.1
        have h := h.2 g14 bx15
        have o_v0 := gr_ob g14 o_v0
        refine r_if_ne (pc := 36) C (tgt := 46) dX11_saves_36 (by decide) (fun c16 => ?_) (fun c16 => ?_)
        · have h := h.1 c16
          refine r_aload_n (pc := 46) C dX11_saves_46 0 rfl ?_
          refine r_aload_n (pc := 47) C dX11_saves_47 0 rfl ?_
          refine r_iload_n (pc := 48) C dX11_saves_48 1 rfl ?_
          refine r_iload_n (pc := 49) C dX11_saves_49 2 rfl ?_
          refine r_iload_n (pc := 50) C dX11_saves_50 3 rfl ?_
          refine r_iload (pc := 51) C dX11_saves_51 4 rfl ?_
          refine r_aload_n (pc := 53) C dX11_saves_53 0 rfl ?_
          obtain ⟨a17, ea17, h⟩ := h
          refine r_getr (pc := 54) C fL_X11_338 dX11_saves_54 o_v0 ea17 ?_
          obtain ⟨o_a17, h⟩ := h
          obtain ⟨a18, ea18, h⟩ := h
          refine r_getNr (pc := 57) C fN_X11_317 dX11_saves_57 o_a17 ea18 ?_
          refine r_iload_n (pc := 60) C dX11_saves_60 1 rfl ?_
          obtain ⟨o_a18, h⟩ := h
          obtain ⟨i19, h⟩ := h
          refine r_iald (pc := 61) C dX11_saves_61 o_a18 i19 ?_
          refine r_topi (fun x20 ex20 => ?_)
          have h := h x20 ex20
          refine r_callVl0 (pc := 62) C (rest := [.ref v0]) (a := v0) o_v0 [.int v1, .int v2, .int v3, .int v4, .int x20] yV_X11_wetOf g_1594 (c_X11_wetOf h) dX11_saves_62 rfl rfl (by decide) ⟨by decide, by decide⟩ ⟨by decide, by decide⟩ ⟨rfl, rfl⟩ (fun x23 S21 h g22 => ?_)
          have h := h g22
          have o_a17 := gr_ob g22 o_a17
          have o_a18 := gr_ob g22 o_a18
          have o_v0 := gr_ob g22 o_v0
          refine r_aload_n (pc := 65) C dX11_saves_65 0 rfl ?_
          refine r_iload_n (pc := 66) C dX11_saves_66 1 rfl ?_
          refine r_iload_n (pc := 67) C dX11_saves_67 2 rfl ?_
          refine r_iload_n (pc := 68) C dX11_saves_68 3 rfl ?_
          refine r_iload (pc := 69) C dX11_saves_69 4 rfl ?_
          refine r_aload_n (pc := 71) C dX11_saves_71 0 rfl ?_
          refine r_iload_n (pc := 72) C dX11_saves_72 1 rfl ?_
          refine r_iload_n (pc := 73) C dX11_saves_73 2 rfl ?_
          refine r_iload_n (pc := 74) C dX11_saves_74 3 rfl ?_
          refine r_iload (pc := 75) C dX11_saves_75 4 rfl ?_
          refine r_callVi0 (pc := 77) C (rest := [.int v4, .int v3, .int v2, .int v1, .ref v0, .long x23, .ref v0]) (a := v0) o_v0 [.int v1, .int v2, .int v3, .int v4] yV_X11_bestOf g_1627 (c_X11_bestOf h) dX11_saves_77 rfl rfl (by decide) ⟨by decide, by decide⟩ ⟨by decide, by decide⟩ ⟨rfl, rfl⟩ (fun x26 S24 h g25 => ?_)
          have h := h g25
          have o_a17 := gr_ob g25 o_a17
          have o_a18 := gr_ob g25 o_a18
          have o_v0 := gr_ob g25 o_v0
          refine r_callVl0 (pc := 80) C (rest := [.long x23, .ref v0]) (a := v0) o_v0 [.int v1, .int v2, .int v3, .int v4, .int x26] yV_X11_wetOf g_1594 (c_X11_wetOf h) dX11_saves_80 rfl rfl (by decide) ⟨by decide, by decide⟩ ⟨by decide, by decide⟩ ⟨rfl, rfl⟩ (fun x29 S27 h g28 => ?_)
          have h := h g28
          have o_a17 := gr_ob g28 o_a17
          have o_a18 := gr_ob g28 o_a18
          have o_v0 := gr_ob g28 o_v0
          refine r_lsub (pc := 83) C dX11_saves_83 ?_
          refine r_ldc2 (pc := 84) C (v := (2520 : Int64)) dX11_saves_84 g_1585 ?_
          refine r_iload (pc := 87) C dX11_saves_87 5 rfl ?_
          refine r_callVl0 (pc := 89) C (rest := []) (a := v0) o_v0 [.long (x23 - x29), .long (2520 : Int64), .int v5] yV_X11_told g_1586 (c_X11_told h) dX11_saves_89 rfl rfl (by decide) ⟨by decide, by decide⟩ ⟨by decide, by decide⟩ ⟨rfl, rfl⟩ (fun x32 S30 h g31 => ?_)
          have h := h g31
          have o_a17 := gr_ob g31 o_a17
          have o_a18 := gr_ob g31 o_a18
          have o_v0 := gr_ob g31 o_v0
          exact r_lret (pc := 92) C E ht dX11_saves_92 (by decide) (by decide) h
        · have h := h.2 c16
          exact r_sub [0] rfl (T_X11_saves_39 C E ht hn h)
def P_X11_saves (v0 : Nat) (v1 : Int32) (v2 : Int32) (v3 : Int32) (v4 : Int32) (v5 : Int32) (Q : Int64 → HS → Prop) (S : HS) : Prop := P_X11_saves_0 Q v0 v1 v2 v3 v4 v5 S
theorem c_X11_saves {l : Launch} {Ee : EE} {S : HS} {v0 : Nat} {v1 : Int32} {v2 : Int32} {v3 : Int32} {v4 : Int32} {v5 : Int32} {Q : Int64 → HS → Prop} (h : P_X11_saves v0 v1 v2 v3 v4 v5 Q S) : MJ l yX11_saves cX11_saves 6 (some .long) rm_X11_saves Ee S [.ref v0, .int v1, .int v2, .int v3, .int v4, .int v5] Q :=
  openJ (by decide) (by decide) (fun X C E ht hn hE hl => by subst hE; exact r_sub [0, 1, 2, 3, 4, 5] rfl (T_X11_saves_0 C E ht hn h))
def rm_X11_size : Room := { frames := 1, cells := 0, slots := 0, locals := 22 }
def P_X11_size_0 (Q : Int32 → HS → Prop) (v0 : Nat) (v1 : Int32) (S : HS) : Prop := ob S v0 11 ∧ (((¬ v1 = (11 : Int32)) → (P_X11_in v1 (0 : Int32) (10 : Int32) (fun x4 S2 => Gr (sI S v0 0 (0 : Int32)) S2 → bl x4 → (((¬ x4 = 0) → ((fR S2 v0 3 = none → (Q (0 : Int32) S2)) ∧ (∀ a6 : Nat, fR S2 v0 3 = some a6 → ((v1.toInt < 0 ∨ 9 < v1.toInt → (∀ x9 : Int32, x9 = fI S2 v0 25 → (Q x9 S2))) ∧ (v1.toInt = 0 → (∃ a10 : Nat, fR S2 v0 3 = some a10 ∧ (ob S2 a10 10 ∧ (∀ x11 : Int32, x11 = fI S2 a10 0 → (Q x11 S2))))) ∧ (v1.toInt = 1 → (∃ a12 : Nat, fR S2 v0 3 = some a12 ∧ (ob S2 a12 10 ∧ (∀ x13 : Int32, x13 = fI S2 a12 1 → (Q x13 S2))))) ∧ (v1.toInt = 2 → (∃ a14 : Nat, fR S2 v0 3 = some a14 ∧ (ob S2 a14 10 ∧ (∀ x15 : Int32, x15 = fI S2 a14 2 → (Q x15 S2))))) ∧ (v1.toInt = 3 → (∃ a16 : Nat, fR S2 v0 3 = some a16 ∧ (ob S2 a16 10 ∧ (∀ x17 : Int32, x17 = fI S2 a16 3 → (Q x17 S2))))) ∧ (v1.toInt = 4 → (∃ a18 : Nat, fR S2 v0 3 = some a18 ∧ (ob S2 a18 10 ∧ (∀ x19 : Int32, x19 = fI S2 a18 4 → (Q x19 S2))))) ∧ (v1.toInt = 5 → (∃ a20 : Nat, fR S2 v0 3 = some a20 ∧ (ob S2 a20 10 ∧ (∀ x21 : Int32, x21 = fI S2 a20 5 → (Q x21 S2))))) ∧ (v1.toInt = 6 → (∀ x22 : Int32, x22 = fI S2 v0 19 → (Q x22 S2))) ∧ (v1.toInt = 7 → (P_X11_isDay v0 (fun x25 S23 => Gr S2 S23 → bl x25 → (((x25 = 0) → (Q (-2 : Int32) S23)) ∧ ((¬ x25 = 0) → (∃ a27 : Nat, fR S23 v0 21 = some a27 ∧ (ob S23 a27 14 ∧ (vp_in (0 : Int32) (hN S23 a27) ∧ ∀ x29 : Int64, x29 = fJ S23 a27 (0 : Int32).toNatClampNeg → (Q x29.toInt32 S23))))))) S2)) ∧ (v1.toInt = 8 → (P_X11_isDay v0 (fun x32 S30 => Gr S2 S30 → bl x32 → (((x32 = 0) → (Q (0 : Int32) S30)) ∧ ((¬ x32 = 0) → (∃ a34 : Nat, fR S30 v0 21 = some a34 ∧ (ob S30 a34 14 ∧ (vp_in (1 : Int32) (hN S30 a34) ∧ ∀ x36 : Int64, x36 = fJ S30 a34 (1 : Int32).toNatClampNeg → (Q x36.toInt32 S30))))))) S2)) ∧ (v1.toInt = 9 → (∀ x37 : Int32, x37 = fI S2 v0 24 → (Q x37 S2))))))) ∧ ((x4 = 0) → (Q (-1 : Int32) S2)))) (sI S v0 0 (0 : Int32)))) ∧ ((v1 = (11 : Int32)) → (∀ x38 : Int32, x38 = fI (sI S v0 0 (0 : Int32)) v0 6 → (Q x38 (sI S v0 0 (0 : Int32))))))
set_option maxRecDepth 20000 in
set_option maxHeartbeats 4000000 in
theorem T_X11_size_0 {X : CX} {Q : Int32 → HS → Prop} (C : Cx X cX11_size RX11 2 rm_X11_size) (E : ReI X rm_X11_size Q) (ht : (xh X).sig.returnType = (some .int)) (hn : (xh X).name = yX11_size.name) {v0 : Nat} {v1 : Int32} {S : HS} (h : P_X11_size_0 Q v0 v1 S) : WS X 2 0 0 0 [(0, .ref v0), (1, .int v1)] [] S := by
  refine r_aload_n (pc := 0) C dX11_size_0 0 rfl ?_
  refine r_iconst (pc := 1) C (v := (0 : Int32)) dX11_size_1 (by decide) ?_
  obtain ⟨o_v0, h⟩ := h
  refine r_puti (pc := 2) C pfL_X11_40 dX11_size_2 o_v0 ?_
  refine r_iload_n (pc := 5) C dX11_size_5 1 rfl ?_
  refine r_bipush (pc := 6) C (v := (11 : Int32)) dX11_size_6 (by decide) ?_
  refine r_icmp_ne (pc := 8) C (tgt := 16) dX11_size_8 (by decide) (fun c1 => ?_) (fun c1 => ?_)
  · have h := h.1 c1
    refine r_iload_n (pc := 16) C dX11_size_16 1 rfl ?_
    refine r_iconst (pc := 17) C (v := (0 : Int32)) dX11_size_17 (by decide) ?_
    refine r_bipush (pc := 18) C (v := (10 : Int32)) dX11_size_18 (by decide) ?_
    refine r_callSi0 (pc := 20) C (rest := []) rfl [.int v1, .int (0 : Int32), .int (10 : Int32)] yS_X11_in g_1434 (c_X11_in h) dX11_size_20 rfl rfl (by decide) ⟨by decide, by decide⟩ ⟨by decide, by decide⟩ ⟨rfl, rfl⟩ (fun x4 S2 h g3 => ?_)
    have bx4 := h.1
    have h := h.2 g3 bx4
    have o_v0 := gr_ob g3 o_v0
    refine r_if_ne (pc := 23) C (tgt := 28) dX11_size_23 (by decide) (fun c5 => ?_) (fun c5 => ?_)
    · have h := h.1 c5
      refine r_aload_n (pc := 28) C dX11_size_28 0 rfl ?_
      rcases e7 : fR S2 v0 3 with _ | a6
      · refine r_get0 (pc := 29) C fL_X11_338 dX11_size_29 o_v0 e7 ?_
        refine r_ifnonnull0 (pc := 32) C dX11_size_32 ?_
        have h := h.1 e7
        refine r_iconst (pc := 35) C (v := (0 : Int32)) dX11_size_35 (by decide) ?_
        exact r_iret (pc := 36) C E ht dX11_size_36 (by decide) (by decide) h
      · refine r_getr (pc := 29) C fL_X11_338 dX11_size_29 o_v0 e7 ?_
        refine r_ifnonnull (pc := 32) C (tgt := 37) dX11_size_32 (by decide) ?_
        have h := h.2 a6 e7
        refine r_iload_n (pc := 37) C dX11_size_37 1 rfl ?_
        refine r_table (pc := 38) C (tgt := 189) dX11_size_38 (by decide) (fun c8 => ?_) (fun j hj hx => ?_)
        · have h := h.1 c8
          refine r_aload_n (pc := 189) C dX11_size_189 0 rfl ?_
          refine r_geti (pc := 190) C fL_X11_343 dX11_size_190 o_v0 ?_
          refine r_topi (fun x9 ex9 => ?_)
          have h := h x9 ex9
          exact r_iret (pc := 193) C E ht dX11_size_193 (by decide) (by decide) h
        · match j, hj, hx with
          | 0, _, hx =>
            refine ⟨54, 92, rfl, by decide, ?_⟩
            have h := h.2.1 (by simpa using hx)
            refine r_aload_n (pc := 92) C dX11_size_92 0 rfl ?_
            obtain ⟨a10, ea10, h⟩ := h
            refine r_getr (pc := 93) C fL_X11_338 dX11_size_93 o_v0 ea10 ?_
            obtain ⟨o_a10, h⟩ := h
            refine r_getNi (pc := 96) C fN_X11_151 dX11_size_96 o_a10 ?_
            refine r_topi (fun x11 ex11 => ?_)
            have h := h x11 ex11
            exact r_iret (pc := 99) C E ht dX11_size_99 (by decide) (by decide) h
          | 1, _, hx =>
            refine ⟨62, 100, rfl, by decide, ?_⟩
            have h := h.2.2.1 (by simpa using hx)
            refine r_aload_n (pc := 100) C dX11_size_100 0 rfl ?_
            obtain ⟨a12, ea12, h⟩ := h
            refine r_getr (pc := 101) C fL_X11_338 dX11_size_101 o_v0 ea12 ?_
            obtain ⟨o_a12, h⟩ := h
            refine r_getNi (pc := 104) C fN_X11_219 dX11_size_104 o_a12 ?_
            refine r_topi (fun x13 ex13 => ?_)
            have h := h x13 ex13
            exact r_iret (pc := 107) C E ht dX11_size_107 (by decide) (by decide) h
          | 2, _, hx =>
            refine ⟨70, 108, rfl, by decide, ?_⟩
            have h := h.2.2.2.1 (by simpa using hx)
            refine r_aload_n (pc := 108) C dX11_size_108 0 rfl ?_
            obtain ⟨a14, ea14, h⟩ := h
            refine r_getr (pc := 109) C fL_X11_338 dX11_size_109 o_v0 ea14 ?_
            obtain ⟨o_a14, h⟩ := h
            refine r_getNi (pc := 112) C fN_X11_190 dX11_size_112 o_a14 ?_
            refine r_topi (fun x15 ex15 => ?_)
            have h := h x15 ex15
            exact r_iret (pc := 115) C E ht dX11_size_115 (by decide) (by decide) h
          | 3, _, hx =>
            refine ⟨78, 116, rfl, by decide, ?_⟩
            have h := h.2.2.2.2.1 (by simpa using hx)
            refine r_aload_n (pc := 116) C dX11_size_116 0 rfl ?_
            obtain ⟨a16, ea16, h⟩ := h
            refine r_getr (pc := 117) C fL_X11_338 dX11_size_117 o_v0 ea16 ?_
            obtain ⟨o_a16, h⟩ := h
            refine r_getNi (pc := 120) C fN_X11_264 dX11_size_120 o_a16 ?_
            refine r_topi (fun x17 ex17 => ?_)
            have h := h x17 ex17
            exact r_iret (pc := 123) C E ht dX11_size_123 (by decide) (by decide) h
          | 4, _, hx =>
            refine ⟨86, 124, rfl, by decide, ?_⟩
            have h := h.2.2.2.2.2.1 (by simpa using hx)
            refine r_aload_n (pc := 124) C dX11_size_124 0 rfl ?_
            obtain ⟨a18, ea18, h⟩ := h
            refine r_getr (pc := 125) C fL_X11_338 dX11_size_125 o_v0 ea18 ?_
            obtain ⟨o_a18, h⟩ := h
            refine r_getNi (pc := 128) C fN_X11_193 dX11_size_128 o_a18 ?_
            refine r_topi (fun x19 ex19 => ?_)
            have h := h x19 ex19
            exact r_iret (pc := 131) C E ht dX11_size_131 (by decide) (by decide) h
          | 5, _, hx =>
            refine ⟨94, 132, rfl, by decide, ?_⟩
            have h := h.2.2.2.2.2.2.1 (by simpa using hx)
            refine r_aload_n (pc := 132) C dX11_size_132 0 rfl ?_
            obtain ⟨a20, ea20, h⟩ := h
            refine r_getr (pc := 133) C fL_X11_338 dX11_size_133 o_v0 ea20 ?_
            obtain ⟨o_a20, h⟩ := h
            refine r_getNi (pc := 136) C fN_X11_323 dX11_size_136 o_a20 ?_
            refine r_topi (fun x21 ex21 => ?_)
            have h := h x21 ex21
            exact r_iret (pc := 139) C E ht dX11_size_139 (by decide) (by decide) h
          | 6, _, hx =>
            refine ⟨102, 140, rfl, by decide, ?_⟩
            have h := h.2.2.2.2.2.2.2.1 (by simpa using hx)
            refine r_aload_n (pc := 140) C dX11_size_140 0 rfl ?_
            refine r_geti (pc := 141) C fL_X11_28 dX11_size_141 o_v0 ?_
            refine r_topi (fun x22 ex22 => ?_)
            have h := h x22 ex22
            exact r_iret (pc := 144) C E ht dX11_size_144 (by decide) (by decide) h
          | 7, _, hx =>
            refine ⟨107, 145, rfl, by decide, ?_⟩
            have h := h.2.2.2.2.2.2.2.2.1 (by simpa using hx)
            refine r_aload_n (pc := 145) C dX11_size_145 0 rfl ?_
            refine r_callVi0 (pc := 146) C (rest := []) (a := v0) o_v0 [] yV_X11_isDay g_1779 (c_X11_isDay h) dX11_size_146 rfl rfl (by decide) ⟨by decide, by decide⟩ ⟨by decide, by decide⟩ ⟨rfl, rfl⟩ (fun x25 S23 h g24 => ?_)
            have bx25 := h.1
            have h := h.2 g24 bx25
            have o_v0 := gr_ob g24 o_v0
            refine r_if_eq (pc := 149) C (tgt := 162) dX11_size_149 (by decide) (fun c26 => ?_) (fun c26 => ?_)
            · have h := h.1 c26
              refine r_bipush (pc := 162) C (v := (-2 : Int32)) dX11_size_162 (by decide) ?_
              exact r_iret (pc := 164) C E ht dX11_size_164 (by decide) (by decide) h
            · have h := h.2 c26
              refine r_aload_n (pc := 152) C dX11_size_152 0 rfl ?_
              obtain ⟨a27, ea27, h⟩ := h
              refine r_getr (pc := 153) C fL_X11_31 dX11_size_153 o_v0 ea27 ?_
              refine r_iconst (pc := 156) C (v := (0 : Int32)) dX11_size_156 (by decide) ?_
              obtain ⟨o_a27, h⟩ := h
              obtain ⟨i28, h⟩ := h
              refine r_lald (pc := 157) C dX11_size_157 o_a27 i28 ?_
              refine r_topl (fun x29 ex29 => ?_)
              have h := h x29 ex29
              refine r_l2i (pc := 158) C dX11_size_158 ?_
              refine r_goto (pc := 159) C (tgt := 164) dX11_size_159 (by decide) ?_
              exact r_iret (pc := 164) C E ht dX11_size_164 (by decide) (by decide) h
          | 8, _, hx =>
            refine ⟨127, 165, rfl, by decide, ?_⟩
            have h := h.2.2.2.2.2.2.2.2.2.1 (by simpa using hx)
            refine r_aload_n (pc := 165) C dX11_size_165 0 rfl ?_
            refine r_callVi0 (pc := 166) C (rest := []) (a := v0) o_v0 [] yV_X11_isDay g_1779 (c_X11_isDay h) dX11_size_166 rfl rfl (by decide) ⟨by decide, by decide⟩ ⟨by decide, by decide⟩ ⟨rfl, rfl⟩ (fun x32 S30 h g31 => ?_)
            have bx32 := h.1
            have h := h.2 g31 bx32
            have o_v0 := gr_ob g31 o_v0
            refine r_if_eq (pc := 169) C (tgt := 182) dX11_size_169 (by decide) (fun c33 => ?_) (fun c33 => ?_)
            · have h := h.1 c33
              refine r_iconst (pc := 182) C (v := (0 : Int32)) dX11_size_182 (by decide) ?_
              exact r_iret (pc := 183) C E ht dX11_size_183 (by decide) (by decide) h
            · have h := h.2 c33
              refine r_aload_n (pc := 172) C dX11_size_172 0 rfl ?_
              obtain ⟨a34, ea34, h⟩ := h
              refine r_getr (pc := 173) C fL_X11_31 dX11_size_173 o_v0 ea34 ?_
              refine r_iconst (pc := 176) C (v := (1 : Int32)) dX11_size_176 (by decide) ?_
              obtain ⟨o_a34, h⟩ := h
              obtain ⟨i35, h⟩ := h
              refine r_lald (pc := 177) C dX11_size_177 o_a34 i35 ?_
              refine r_topl (fun x36 ex36 => ?_)
              have h := h x36 ex36
              refine r_l2i (pc := 178) C dX11_size_178 ?_
              refine r_goto (pc := 179) C (tgt := 183) dX11_size_179 (by decide) ?_
              exact r_iret (pc := 183) C E ht dX11_size_183 (by decide) (by decide) h
          | 9, _, hx =>
            refine ⟨146, 184, rfl, by decide, ?_⟩
            have h := h.2.2.2.2.2.2.2.2.2.2 (by simpa using hx)
            refine r_aload_n (pc := 184) C dX11_size_184 0 rfl ?_
            refine r_geti (pc := 185) C fL_X11_340 dX11_size_185 o_v0 ?_
            refine r_topi (fun x37 ex37 => ?_)
            have h := h x37 ex37
            exact r_iret (pc := 188) C E ht dX11_size_188 (by decide) (by decide) h
          | j + 10, hj, _ => exact absurd hj (by omega)
    · have h := h.2 c5
      refine r_iconst (pc := 26) C (v := (-1 : Int32)) dX11_size_26 (by decide) ?_
      exact r_iret (pc := 27) C E ht dX11_size_27 (by decide) (by decide) h
  · have h := h.2 c1
    refine r_aload_n (pc := 11) C dX11_size_11 0 rfl ?_
    refine r_geti (pc := 12) C fL_X11_331 dX11_size_12 o_v0 ?_
    refine r_topi (fun x38 ex38 => ?_)
    have h := h x38 ex38
    exact r_iret (pc := 15) C E ht dX11_size_15 (by decide) (by decide) h
def P_X11_size (v0 : Nat) (v1 : Int32) (Q : Int32 → HS → Prop) (S : HS) : Prop := P_X11_size_0 Q v0 v1 S
theorem c_X11_size {l : Launch} {Ee : EE} {S : HS} {v0 : Nat} {v1 : Int32} {Q : Int32 → HS → Prop} (h : P_X11_size v0 v1 Q S) : MI l yX11_size cX11_size 2 (some .int) rm_X11_size Ee S [.ref v0, .int v1] Q :=
  openI (by decide) (by decide) (fun X C E ht hn hE hl => by subst hE; exact r_sub [0, 1] rfl (T_X11_size_0 C E ht hn h))
