def rm_X11_readPart : Room := { frames := 8, cells := 0, slots := 0, locals := 185 }
def P_X11_readPart_0 (Q : Int32 → HS → Prop) (v0 : Nat) (v1 : Nat) (v2 : Int32) (v3 : Int32) (S : HS) : Prop := ob S v0 11 ∧ (P_X11_needs v0 v1 (fun S1 => Gr S S1 → (P_X11_readWhole v0 v2 v3 (fun x6 S4 => Gr S1 S4 → (Q x6 S4)) S1)) S)
set_option maxRecDepth 20000 in
set_option maxHeartbeats 4000000 in
theorem T_X11_readPart_0 {X : CX} {Q : Int32 → HS → Prop} (C : Cx X cX11_readPart RX11 4 rm_X11_readPart) (E : ReI X rm_X11_readPart Q) (ht : (xh X).sig.returnType = (some .int)) (hn : (xh X).name = yX11_readPart.name) {v0 : Nat} {v1 : Nat} {v2 : Int32} {v3 : Int32} {S : HS} (h : P_X11_readPart_0 Q v0 v1 v2 v3 S) : WS X 4 0 0 0 [(0, .ref v0), (1, .ref (eK (xE X) v1)), (2, .int v2), (3, .int v3)] [] S := by
  refine r_aload_n (pc := 0) C dX11_readPart_0 0 rfl ?_
  refine r_aload_n (pc := 1) C dX11_readPart_1 1 rfl ?_
  obtain ⟨o_v0, h⟩ := h
  refine r_callVv0 (pc := 2) C (rest := []) (a := v0) o_v0 [.ref (eK (xE X) v1)] yV_X11_needs g_1426 (c_X11_needs h) dX11_readPart_2 rfl rfl (Nat.le_of_ble_eq_true rfl) ⟨by decide, by decide⟩ ⟨by decide, by decide⟩ ⟨rfl, rfl⟩ (fun S1 h g2 => ?_)
  have h := h g2
  have o_v0 := gr_ob g2 o_v0
  refine r_aload_n (pc := 5) C dX11_readPart_5 0 rfl ?_
  refine r_iload_n (pc := 6) C dX11_readPart_6 2 rfl ?_
  refine r_iload_n (pc := 7) C dX11_readPart_7 3 rfl ?_
  refine r_callVi0 (pc := 8) C (rest := []) (a := v0) o_v0 [.int v2, .int v3] yV_X11_readWhole g_1430 (c_X11_readWhole h) dX11_readPart_8 rfl rfl (Nat.le_of_ble_eq_true rfl) ⟨by decide, by decide⟩ ⟨by decide, by decide⟩ ⟨rfl, rfl⟩ (fun x6 S4 h g5 => ?_)
  have h := h g5
  have o_v0 := gr_ob g5 o_v0
  exact r_iret (pc := 11) C E ht dX11_readPart_11 (by decide) (by decide) h
def P_X11_readPart (v0 : Nat) (v1 : Nat) (v2 : Int32) (v3 : Int32) (Q : Int32 → HS → Prop) (S : HS) : Prop := P_X11_readPart_0 Q v0 v1 v2 v3 S
theorem c_X11_readPart {l : Launch} {Ee : EE} {S : HS} {v0 : Nat} {v1 : Nat} {v2 : Int32} {v3 : Int32} {Q : Int32 → HS → Prop} (h : P_X11_readPart v0 v1 v2 v3 Q S) : MI l yX11_readPart cX11_readPart 4 (some .int) rm_X11_readPart Ee S [.ref v0, .ref (eK Ee v1), .int v2, .int v3] Q :=
  openI (by decide) (Nat.le_of_ble_eq_true rfl) (fun X C E ht hn hE hl => by subst hE; exact r_sub [0, 1, 2, 3] rfl (T_X11_readPart_0 C E ht hn h))
def rm_X11_readSide : Room := { frames := 7, cells := 0, slots := 0, locals := 164 }
def P_X11_readSide_64 (Q : Int32 → HS → Prop) (v0 : Nat) (v1 : Int32) (S : HS) : Prop := ob S v0 11 ∧ (P_X11_goesOn v0 (fun S1 => Gr S S1 → (Q v1 S1)) S)
set_option maxRecDepth 20000 in
set_option maxHeartbeats 4000000 in
theorem T_X11_readSide_64 {X : CX} {Q : Int32 → HS → Prop} (C : Cx X cX11_readSide RX11 2 rm_X11_readSide) (E : ReI X rm_X11_readSide Q) (ht : (xh X).sig.returnType = (some .int)) (hn : (xh X).name = yX11_readSide.name) {v0 : Nat} {v1 : Int32} {S : HS} (h : P_X11_readSide_64 Q v0 v1 S) : WS X 2 0 0 64 [(0, .ref v0), (1, .int v1)] [] S := by
  refine r_aload_n (pc := 64) C dX11_readSide_64 0 rfl ?_
  obtain ⟨o_v0, h⟩ := h
  refine r_callVv0 (pc := 65) C (rest := []) (a := v0) o_v0 [] yV_X11_goesOn g_1380 (c_X11_goesOn h) dX11_readSide_65 rfl rfl (Nat.le_of_ble_eq_true rfl) ⟨by decide, by decide⟩ ⟨by decide, by decide⟩ ⟨rfl, rfl⟩ (fun S1 h g2 => ?_)
  have h := h g2
  have o_v0 := gr_ob g2 o_v0
  refine r_iload_n (pc := 68) C dX11_readSide_68 1 rfl ?_
  exact r_iret (pc := 69) C E ht dX11_readSide_69 (by decide) (by decide) h
def P_X11_readSide_53 (Q : Int32 → HS → Prop) (v0 : Nat) (s0 : Int32) (S : HS) : Prop := ((¬ s0 = (-1 : Int32)) → (P_X11_readSide_64 Q v0 s0 S)) ∧ ((s0 = (-1 : Int32)) → (ob S v0 11 ∧ (P_X11_flaw v0 (1 : Int32) (fun S2 => Gr S S2 → (P_X11_readSide_64 Q v0 s0 S2)) S)))
set_option maxRecDepth 20000 in
set_option maxHeartbeats 4000000 in
theorem T_X11_readSide_53 {X : CX} {Q : Int32 → HS → Prop} (C : Cx X cX11_readSide RX11 2 rm_X11_readSide) (E : ReI X rm_X11_readSide Q) (ht : (xh X).sig.returnType = (some .int)) (hn : (xh X).name = yX11_readSide.name) {v0 : Nat} {s0 : Int32} {S : HS} (h : P_X11_readSide_53 Q v0 s0 S) : WS X 2 0 0 53 [(0, .ref v0)] [.int s0] S := by
  refine r_istore_n (pc := 53) C dX11_readSide_53 rfl (by decide) (lv' := [(1, .int s0), (0, .ref v0)]) rfl ?_
  refine r_iload_n (pc := 54) C dX11_readSide_54 0 rfl ?_
  refine r_iconst (pc := 55) C (v := (-1 : Int32)) dX11_readSide_55 (by decide) ?_
  refine r_icmp_ne (pc := 56) C (tgt := 64) dX11_readSide_56 (by decide) (fun c1 => ?_) (fun c1 => ?_)
  · have h := h.1 c1
    exact r_sub [1, 0] rfl (T_X11_readSide_64 C E ht hn h)
  · have h := h.2 c1
    refine r_aload_n (pc := 59) C dX11_readSide_59 1 rfl ?_
    refine r_iconst (pc := 60) C (v := (1 : Int32)) dX11_readSide_60 (by decide) ?_
    obtain ⟨o_v0, h⟩ := h
    refine r_callVv0 (pc := 61) C (rest := []) (a := v0) o_v0 [.int (1 : Int32)] yV_X11_flaw g_1417 (c_X11_flaw h) dX11_readSide_61 rfl rfl (Nat.le_of_ble_eq_true rfl) ⟨by decide, by decide⟩ ⟨by decide, by decide⟩ ⟨rfl, rfl⟩ (fun S2 h g3 => ?_)
    have h := h g3
    have o_v0 := gr_ob g3 o_v0
    exact r_sub [1, 0] rfl (T_X11_readSide_64 C E ht hn h)
def P_X11_readSide_0 (Q : Int32 → HS → Prop) (v0 : Nat) (S : HS) : Prop := ob S v0 11 ∧ (P_X11_isWord v0 33 (fun x3 S1 => Gr S S1 → bl x3 → (((x3 = 0) → (P_X11_isWord v0 34 (fun x7 S5 => Gr S1 S5 → bl x7 → (((x7 = 0) → (P_X11_isWord v0 35 (fun x11 S9 => Gr S5 S9 → bl x11 → (((x11 = 0) → (P_X11_isWord v0 36 (fun x15 S13 => Gr S9 S13 → bl x15 → (((x15 = 0) → (P_X11_readSide_53 Q v0 (-1 : Int32) S13)) ∧ ((¬ x15 = 0) → (P_X11_readSide_53 Q v0 (3 : Int32) S13)))) S9)) ∧ ((¬ x11 = 0) → (P_X11_readSide_53 Q v0 (2 : Int32) S9)))) S5)) ∧ ((¬ x7 = 0) → (P_X11_readSide_53 Q v0 (1 : Int32) S5)))) S1)) ∧ ((¬ x3 = 0) → (P_X11_readSide_53 Q v0 (0 : Int32) S1)))) S)
set_option maxRecDepth 20000 in
set_option maxHeartbeats 4000000 in
theorem T_X11_readSide_0 {X : CX} {Q : Int32 → HS → Prop} (C : Cx X cX11_readSide RX11 2 rm_X11_readSide) (E : ReI X rm_X11_readSide Q) (ht : (xh X).sig.returnType = (some .int)) (hn : (xh X).name = yX11_readSide.name) {v0 : Nat} {S : HS} (h : P_X11_readSide_0 Q v0 S) : WS X 2 0 0 0 [(0, .ref v0)] [] S := by
  refine r_aload_n (pc := 0) C dX11_readSide_0 0 rfl ?_
  refine r_lds (pc := 1) C 33 rfl dX11_readSide_1 ?_
  obtain ⟨o_v0, h⟩ := h
  refine r_callVi0 (pc := 3) C (rest := []) (a := v0) o_v0 [.ref (eK (xE X) 33)] yV_X11_isWord g_1404 (c_X11_isWord h) dX11_readSide_3 rfl rfl (Nat.le_of_ble_eq_true rfl) ⟨by decide, by decide⟩ ⟨by decide, by decide⟩ ⟨rfl, rfl⟩ (fun x3 S1 h g2 => ?_)
  have bx3 := h.1
  have h := h.2 g2 bx3
  have o_v0 := gr_ob g2 o_v0
  refine r_if_eq (pc := 6) C (tgt := 13) dX11_readSide_6 (by decide) (fun c4 => ?_) (fun c4 => ?_)
  · have h := h.1 c4
    refine r_aload_n (pc := 13) C dX11_readSide_13 0 rfl ?_
    refine r_lds (pc := 14) C 34 rfl dX11_readSide_14 ?_
    refine r_callVi0 (pc := 16) C (rest := []) (a := v0) o_v0 [.ref (eK (xE X) 34)] yV_X11_isWord g_1404 (c_X11_isWord h) dX11_readSide_16 rfl rfl (Nat.le_of_ble_eq_true rfl) ⟨by decide, by decide⟩ ⟨by decide, by decide⟩ ⟨rfl, rfl⟩ (fun x7 S5 h g6 => ?_)
    have bx7 := h.1
    have h := h.2 g6 bx7
    have o_v0 := gr_ob g6 o_v0
    refine r_if_eq (pc := 19) C (tgt := 26) dX11_readSide_19 (by decide) (fun c8 => ?_) (fun c8 => ?_)
    · have h := h.1 c8
      refine r_aload_n (pc := 26) C dX11_readSide_26 0 rfl ?_
      refine r_lds (pc := 27) C 35 rfl dX11_readSide_27 ?_
      refine r_callVi0 (pc := 29) C (rest := []) (a := v0) o_v0 [.ref (eK (xE X) 35)] yV_X11_isWord g_1404 (c_X11_isWord h) dX11_readSide_29 rfl rfl (Nat.le_of_ble_eq_true rfl) ⟨by decide, by decide⟩ ⟨by decide, by decide⟩ ⟨rfl, rfl⟩ (fun x11 S9 h g10 => ?_)
      have bx11 := h.1
      have h := h.2 g10 bx11
      have o_v0 := gr_ob g10 o_v0
      refine r_if_eq (pc := 32) C (tgt := 39) dX11_readSide_32 (by decide) (fun c12 => ?_) (fun c12 => ?_)
      · have h := h.1 c12
        refine r_aload_n (pc := 39) C dX11_readSide_39 0 rfl ?_
        refine r_lds (pc := 40) C 36 rfl dX11_readSide_40 ?_
        refine r_callVi0 (pc := 42) C (rest := []) (a := v0) o_v0 [.ref (eK (xE X) 36)] yV_X11_isWord g_1404 (c_X11_isWord h) dX11_readSide_42 rfl rfl (Nat.le_of_ble_eq_true rfl) ⟨by decide, by decide⟩ ⟨by decide, by decide⟩ ⟨rfl, rfl⟩ (fun x15 S13 h g14 => ?_)
        have bx15 := h.1
        have h := h.2 g14 bx15
        have o_v0 := gr_ob g14 o_v0
        refine r_if_eq (pc := 45) C (tgt := 52) dX11_readSide_45 (by decide) (fun c16 => ?_) (fun c16 => ?_)
        · have h := h.1 c16
          refine r_iconst (pc := 52) C (v := (-1 : Int32)) dX11_readSide_52 (by decide) ?_
          exact r_sub [0] rfl (T_X11_readSide_53 C E ht hn h)
        · have h := h.2 c16
          refine r_iconst (pc := 48) C (v := (3 : Int32)) dX11_readSide_48 (by decide) ?_
          refine r_goto (pc := 49) C (tgt := 53) dX11_readSide_49 (by decide) ?_
          exact r_sub [0] rfl (T_X11_readSide_53 C E ht hn h)
      · have h := h.2 c12
        refine r_iconst (pc := 35) C (v := (2 : Int32)) dX11_readSide_35 (by decide) ?_
        refine r_goto (pc := 36) C (tgt := 53) dX11_readSide_36 (by decide) ?_
        exact r_sub [0] rfl (T_X11_readSide_53 C E ht hn h)
    · have h := h.2 c8
      refine r_iconst (pc := 22) C (v := (1 : Int32)) dX11_readSide_22 (by decide) ?_
      refine r_goto (pc := 23) C (tgt := 53) dX11_readSide_23 (by decide) ?_
      exact r_sub [0] rfl (T_X11_readSide_53 C E ht hn h)
  · have h := h.2 c4
    refine r_iconst (pc := 9) C (v := (0 : Int32)) dX11_readSide_9 (by decide) ?_
    refine r_goto (pc := 10) C (tgt := 53) dX11_readSide_10 (by decide) ?_
    exact r_sub [0] rfl (T_X11_readSide_53 C E ht hn h)
def P_X11_readSide (v0 : Nat) (Q : Int32 → HS → Prop) (S : HS) : Prop := P_X11_readSide_0 Q v0 S
theorem c_X11_readSide {l : Launch} {Ee : EE} {S : HS} {v0 : Nat} {Q : Int32 → HS → Prop} (h : P_X11_readSide v0 Q S) : MI l yX11_readSide cX11_readSide 2 (some .int) rm_X11_readSide Ee S [.ref v0] Q :=
  openI (by decide) (Nat.le_of_ble_eq_true rfl) (fun X C E ht hn hE hl => by subst hE; exact r_sub [0] rfl (T_X11_readSide_0 C E ht hn h))
def rm_X11_readRain : Room := { frames := 9, cells := 0, slots := 0, locals := 208 }
def P_X11_readRain_0 (Q : HS → Prop) (v0 : Nat) (S : HS) : Prop := ob S v0 11 ∧ (∃ a1 : Nat, fR S v0 4 = some a1 ∧ (ob S a1 10 ∧ (∀ x2 : Int32, x2 = fI S a1 1 → (P_X11_begins v0 x2 (6 : Int32) (fun S3 => Gr S S3 → (P_X11_readPart v0 30 (0 : Int32) (9 : Int32) (fun x8 S6 => Gr S3 S6 → (P_X11_readPart v0 31 (1 : Int32) (9 : Int32) (fun x11 S9 => Gr S6 S9 → (P_X11_needs v0 32 (fun S12 => Gr S9 S12 → (P_X11_readSide v0 (fun x17 S15 => Gr S12 S15 → (P_X11_readWhole v0 (0 : Int32) (9 : Int32) (fun x20 S18 => Gr S15 S18 → (P_X11_readPart v0 37 (0 : Int32) (100 : Int32) (fun x23 S21 => Gr S18 S21 → (∀ x24 : Int32, x24 = fI S21 v0 9 → (((¬ x24 = (5 : Int32)) → (∃ a26 : Nat, fR S21 v0 4 = some a26 ∧ (ob S21 a26 10 ∧ (∃ a27 : Nat, fR S21 a26 7 = some a27 ∧ (∃ a28 : Nat, fR S21 v0 4 = some a28 ∧ (ob S21 a28 10 ∧ (∀ x29 : Int32, x29 = fI S21 a28 1 → (ob S21 a27 13 ∧ (vp_in x29 (hN S21 a27) ∧ (∀ S31 : HS, S31 = sI S21 a27 x29.toNatClampNeg x8 → (∃ a32 : Nat, fR S31 v0 4 = some a32 ∧ (ob S31 a32 10 ∧ (∃ a33 : Nat, fR S31 a32 8 = some a33 ∧ (∃ a34 : Nat, fR S31 v0 4 = some a34 ∧ (ob S31 a34 10 ∧ (∀ x35 : Int32, x35 = fI S31 a34 1 → (ob S31 a33 13 ∧ (vp_in x35 (hN S31 a33) ∧ (∀ S37 : HS, S37 = sI S31 a33 x35.toNatClampNeg x11 → (∃ a38 : Nat, fR S37 v0 4 = some a38 ∧ (ob S37 a38 10 ∧ (∃ a39 : Nat, fR S37 a38 9 = some a39 ∧ (∃ a40 : Nat, fR S37 v0 4 = some a40 ∧ (ob S37 a40 10 ∧ (∀ x41 : Int32, x41 = fI S37 a40 1 → (ob S37 a39 13 ∧ (vp_in x41 (hN S37 a39) ∧ (∀ S43 : HS, S43 = sI S37 a39 x41.toNatClampNeg x17 → (∃ a44 : Nat, fR S43 v0 4 = some a44 ∧ (ob S43 a44 10 ∧ (∃ a45 : Nat, fR S43 a44 10 = some a45 ∧ (∃ a46 : Nat, fR S43 v0 4 = some a46 ∧ (ob S43 a46 10 ∧ (∀ x47 : Int32, x47 = fI S43 a46 1 → (ob S43 a45 13 ∧ (vp_in x47 (hN S43 a45) ∧ (∀ S49 : HS, S49 = sI S43 a45 x47.toNatClampNeg x20 → (∃ a50 : Nat, fR S49 v0 4 = some a50 ∧ (ob S49 a50 10 ∧ (∃ a51 : Nat, fR S49 a50 11 = some a51 ∧ (∃ a52 : Nat, fR S49 v0 4 = some a52 ∧ (ob S49 a52 10 ∧ (∀ x53 : Int32, x53 = fI S49 a52 1 → (ob S49 a51 13 ∧ (vp_in x53 (hN S49 a51) ∧ (∀ S55 : HS, S55 = sI S49 a51 x53.toNatClampNeg x23 → (∃ a56 : Nat, fR S55 v0 4 = some a56 ∧ (ob S55 a56 10 ∧ (∀ x57 : Int32, x57 = fI S55 a56 1 → (∀ x58 : Int32, x58 = x57 + (1 : Int32) → (∀ S59 : HS, S59 = sI S55 a56 1 x58 → (Q S59)))))))))))))))))))))))))))))))))))))))))))))))))))) ∧ ((x24 = (5 : Int32)) → (Q S21))))) S18)) S15)) S12)) S9)) S6)) S3)) S))))
set_option maxRecDepth 20000 in
set_option maxHeartbeats 4000000 in
theorem T_X11_readRain_0 {X : CX} {Q : HS → Prop} (C : Cx X cX11_readRain RX11 6 rm_X11_readRain) (E : ReV X rm_X11_readRain Q) (ht : (xh X).sig.returnType = none) (hn : (xh X).name = yX11_readRain.name) {v0 : Nat} {S : HS} (h : P_X11_readRain_0 Q v0 S) : WS X 6 0 0 0 [(0, .ref v0)] [] S := by
  refine r_aload_n (pc := 0) C dX11_readRain_0 0 rfl ?_
  refine r_aload_n (pc := 1) C dX11_readRain_1 0 rfl ?_
  obtain ⟨o_v0, h⟩ := h
  obtain ⟨a1, ea1, h⟩ := h
  refine r_getr (pc := 2) C fL_X11_147 dX11_readRain_2 o_v0 ea1 ?_
  obtain ⟨o_a1, h⟩ := h
  refine r_getNi (pc := 5) C fN_X11_219 dX11_readRain_5 o_a1 ?_
  refine r_topi (fun x2 ex2 => ?_)
  have h := h x2 ex2
  refine r_bipush (pc := 8) C (v := (6 : Int32)) dX11_readRain_8 (by decide) ?_
  refine r_callVv0 (pc := 10) C (rest := []) (a := v0) o_v0 [.int x2, .int (6 : Int32)] yV_X11_begins g_1442 (c_X11_begins h) dX11_readRain_10 rfl rfl (Nat.le_of_ble_eq_true rfl) ⟨by decide, by decide⟩ ⟨by decide, by decide⟩ ⟨rfl, rfl⟩ (fun S3 h g4 => ?_)
  have h := h g4
  have o_a1 := gr_ob g4 o_a1
  have o_v0 := gr_ob g4 o_v0
  refine r_aload_n (pc := 13) C dX11_readRain_13 0 rfl ?_
  refine r_lds (pc := 14) C 30 rfl dX11_readRain_14 ?_
  refine r_iconst (pc := 16) C (v := (0 : Int32)) dX11_readRain_16 (by decide) ?_
  refine r_bipush (pc := 17) C (v := (9 : Int32)) dX11_readRain_17 (by decide) ?_
  refine r_callVi0 (pc := 19) C (rest := []) (a := v0) o_v0 [.ref (eK (xE X) 30), .int (0 : Int32), .int (9 : Int32)] yV_X11_readPart g_1422 (c_X11_readPart h) dX11_readRain_19 rfl rfl (Nat.le_of_ble_eq_true rfl) ⟨by decide, by decide⟩ ⟨by decide, by decide⟩ ⟨rfl, rfl⟩ (fun x8 S6 h g7 => ?_)
  have h := h g7
  have o_a1 := gr_ob g7 o_a1
  have o_v0 := gr_ob g7 o_v0
  refine r_istore_n (pc := 22) C dX11_readRain_22 rfl (by decide) (lv' := [(1, .int x8), (0, .ref v0)]) rfl ?_
  refine r_aload_n (pc := 23) C dX11_readRain_23 1 rfl ?_
  refine r_lds (pc := 24) C 31 rfl dX11_readRain_24 ?_
  refine r_iconst (pc := 26) C (v := (1 : Int32)) dX11_readRain_26 (by decide) ?_
  refine r_bipush (pc := 27) C (v := (9 : Int32)) dX11_readRain_27 (by decide) ?_
  refine r_callVi0 (pc := 29) C (rest := []) (a := v0) o_v0 [.ref (eK (xE X) 31), .int (1 : Int32), .int (9 : Int32)] yV_X11_readPart g_1422 (c_X11_readPart h) dX11_readRain_29 rfl rfl (Nat.le_of_ble_eq_true rfl) ⟨by decide, by decide⟩ ⟨by decide, by decide⟩ ⟨rfl, rfl⟩ (fun x11 S9 h g10 => ?_)
  have h := h g10
  have o_a1 := gr_ob g10 o_a1
  have o_v0 := gr_ob g10 o_v0
  refine r_istore_n (pc := 32) C dX11_readRain_32 rfl (by decide) (lv' := [(2, .int x11), (1, .int x8), (0, .ref v0)]) rfl ?_
  refine r_aload_n (pc := 33) C dX11_readRain_33 2 rfl ?_
  refine r_lds (pc := 34) C 32 rfl dX11_readRain_34 ?_
  refine r_callVv0 (pc := 36) C (rest := []) (a := v0) o_v0 [.ref (eK (xE X) 32)] yV_X11_needs g_1426 (c_X11_needs h) dX11_readRain_36 rfl rfl (Nat.le_of_ble_eq_true rfl) ⟨by decide, by decide⟩ ⟨by decide, by decide⟩ ⟨rfl, rfl⟩ (fun S12 h g13 => ?_)
  have h := h g13
  have o_a1 := gr_ob g13 o_a1
  have o_v0 := gr_ob g13 o_v0
  refine r_aload_n (pc := 39) C dX11_readRain_39 2 rfl ?_
  refine r_callVi0 (pc := 40) C (rest := []) (a := v0) o_v0 [] yV_X11_readSide g_1449 (c_X11_readSide h) dX11_readRain_40 rfl rfl (Nat.le_of_ble_eq_true rfl) ⟨by decide, by decide⟩ ⟨by decide, by decide⟩ ⟨rfl, rfl⟩ (fun x17 S15 h g16 => ?_)
  have h := h g16
  have o_a1 := gr_ob g16 o_a1
  have o_v0 := gr_ob g16 o_v0
  refine r_istore_n (pc := 43) C dX11_readRain_43 rfl (by decide) (lv' := [(3, .int x17), (2, .int x11), (1, .int x8), (0, .ref v0)]) rfl ?_
  refine r_aload_n (pc := 44) C dX11_readRain_44 3 rfl ?_
  refine r_iconst (pc := 45) C (v := (0 : Int32)) dX11_readRain_45 (by decide) ?_
  refine r_bipush (pc := 46) C (v := (9 : Int32)) dX11_readRain_46 (by decide) ?_
  refine r_callVi0 (pc := 48) C (rest := []) (a := v0) o_v0 [.int (0 : Int32), .int (9 : Int32)] yV_X11_readWhole g_1430 (c_X11_readWhole h) dX11_readRain_48 rfl rfl (Nat.le_of_ble_eq_true rfl) ⟨by decide, by decide⟩ ⟨by decide, by decide⟩ ⟨rfl, rfl⟩ (fun x20 S18 h g19 => ?_)
  have h := h g19
  have o_a1 := gr_ob g19 o_a1
  have o_v0 := gr_ob g19 o_v0
  refine r_istore (pc := 51) C dX11_readRain_51 (by decide) (lv' := [(4, .int x20), (3, .int x17), (2, .int x11), (1, .int x8), (0, .ref v0)]) rfl ?_
  refine r_aload_n (pc := 53) C dX11_readRain_53 4 rfl ?_
  refine r_lds (pc := 54) C 37 rfl dX11_readRain_54 ?_
  refine r_iconst (pc := 56) C (v := (0 : Int32)) dX11_readRain_56 (by decide) ?_
  refine r_bipush (pc := 57) C (v := (100 : Int32)) dX11_readRain_57 (by decide) ?_
  refine r_callVi0 (pc := 59) C (rest := []) (a := v0) o_v0 [.ref (eK (xE X) 37), .int (0 : Int32), .int (100 : Int32)] yV_X11_readPart g_1422 (c_X11_readPart h) dX11_readRain_59 rfl rfl (Nat.le_of_ble_eq_true rfl) ⟨by decide, by decide⟩ ⟨by decide, by decide⟩ ⟨rfl, rfl⟩ (fun x23 S21 h g22 => ?_)
  have h := h g22
  have o_a1 := gr_ob g22 o_a1
  have o_v0 := gr_ob g22 o_v0
  refine r_istore (pc := 62) C dX11_readRain_62 (by decide) (lv' := [(5, .int x23), (4, .int x20), (3, .int x17), (2, .int x11), (1, .int x8), (0, .ref v0)]) rfl ?_
  refine r_aload_n (pc := 64) C dX11_readRain_64 5 rfl ?_
  refine r_geti (pc := 65) C fL_X11_68 dX11_readRain_65 o_v0 ?_
  refine r_topi (fun x24 ex24 => ?_)
  have h := h x24 ex24
  refine r_iconst (pc := 68) C (v := (5 : Int32)) dX11_readRain_68 (by decide) ?_
  refine r_icmp_ne (pc := 69) C (tgt := 73) dX11_readRain_69 (by decide) (fun c25 => ?_) (fun c25 => ?_)
  · have h := h.1 c25
    refine r_aload_n (pc := 73) C dX11_readRain_73 5 rfl ?_
    obtain ⟨a26, ea26, h⟩ := h
    refine r_getr (pc := 74) C fL_X11_147 dX11_readRain_74 o_v0 ea26 ?_
    obtain ⟨o_a26, h⟩ := h
    obtain ⟨a27, ea27, h⟩ := h
    refine r_getNr (pc := 77) C fN_X11_237 dX11_readRain_77 o_a26 ea27 ?_
    refine r_aload_n (pc := 80) C dX11_readRain_80 5 rfl ?_
    obtain ⟨a28, ea28, h⟩ := h
    refine r_getr (pc := 81) C fL_X11_147 dX11_readRain_81 o_v0 ea28 ?_
    obtain ⟨o_a28, h⟩ := h
    refine r_getNi (pc := 84) C fN_X11_219 dX11_readRain_84 o_a28 ?_
    refine r_topi (fun x29 ex29 => ?_)
    have h := h x29 ex29
    refine r_iload_n (pc := 87) C dX11_readRain_87 4 rfl ?_
    obtain ⟨o_a27, h⟩ := h
    obtain ⟨i30, h⟩ := h
    refine r_iast (pc := 88) C dX11_readRain_88 o_a27 i30 ?_
    refine r_heap (fun S31 eS31 => ?_)
    have h := h S31 eS31
    have o_a1 := ob_I eS31 o_a1
    have o_a26 := ob_I eS31 o_a26
    have o_a27 := ob_I eS31 o_a27
    have o_a28 := ob_I eS31 o_a28
    have o_v0 := ob_I eS31 o_v0
    refine r_aload_n (pc := 89) C dX11_readRain_89 5 rfl ?_
    obtain ⟨a32, ea32, h⟩ := h
    refine r_getr (pc := 90) C fL_X11_147 dX11_readRain_90 o_v0 ea32 ?_
    obtain ⟨o_a32, h⟩ := h
    obtain ⟨a33, ea33, h⟩ := h
    refine r_getNr (pc := 93) C fN_X11_239 dX11_readRain_93 o_a32 ea33 ?_
    refine r_aload_n (pc := 96) C dX11_readRain_96 5 rfl ?_
    obtain ⟨a34, ea34, h⟩ := h
    refine r_getr (pc := 97) C fL_X11_147 dX11_readRain_97 o_v0 ea34 ?_
    obtain ⟨o_a34, h⟩ := h
    refine r_getNi (pc := 100) C fN_X11_219 dX11_readRain_100 o_a34 ?_
    refine r_topi (fun x35 ex35 => ?_)
    have h := h x35 ex35
    refine r_iload_n (pc := 103) C dX11_readRain_103 3 rfl ?_
    obtain ⟨o_a33, h⟩ := h
    obtain ⟨i36, h⟩ := h
    refine r_iast (pc := 104) C dX11_readRain_104 o_a33 i36 ?_
    refine r_heap (fun S37 eS37 => ?_)
    have h := h S37 eS37
    have o_a1 := ob_I eS37 o_a1
    have o_a26 := ob_I eS37 o_a26
    have o_a27 := ob_I eS37 o_a27
    have o_a28 := ob_I eS37 o_a28
    have o_a32 := ob_I eS37 o_a32
    have o_a33 := ob_I eS37 o_a33
    have o_a34 := ob_I eS37 o_a34
    have o_v0 := ob_I eS37 o_v0
    refine r_aload_n (pc := 105) C dX11_readRain_105 5 rfl ?_
    obtain ⟨a38, ea38, h⟩ := h
    refine r_getr (pc := 106) C fL_X11_147 dX11_readRain_106 o_v0 ea38 ?_
    obtain ⟨o_a38, h⟩ := h
    obtain ⟨a39, ea39, h⟩ := h
    refine r_getNr (pc := 109) C fN_X11_241 dX11_readRain_109 o_a38 ea39 ?_
    refine r_aload_n (pc := 112) C dX11_readRain_112 5 rfl ?_
    obtain ⟨a40, ea40, h⟩ := h
    refine r_getr (pc := 113) C fL_X11_147 dX11_readRain_113 o_v0 ea40 ?_
    obtain ⟨o_a40, h⟩ := h
    refine r_getNi (pc := 116) C fN_X11_219 dX11_readRain_116 o_a40 ?_
    refine r_topi (fun x41 ex41 => ?_)
    have h := h x41 ex41
    refine r_iload_n (pc := 119) C dX11_readRain_119 2 rfl ?_
    obtain ⟨o_a39, h⟩ := h
    obtain ⟨i42, h⟩ := h
    refine r_iast (pc := 120) C dX11_readRain_120 o_a39 i42 ?_
    refine r_heap (fun S43 eS43 => ?_)
    have h := h S43 eS43
    have o_a1 := ob_I eS43 o_a1
    have o_a26 := ob_I eS43 o_a26
    have o_a27 := ob_I eS43 o_a27
    have o_a28 := ob_I eS43 o_a28
    have o_a32 := ob_I eS43 o_a32
    have o_a33 := ob_I eS43 o_a33
    have o_a34 := ob_I eS43 o_a34
    have o_a38 := ob_I eS43 o_a38
    have o_a39 := ob_I eS43 o_a39
    have o_a40 := ob_I eS43 o_a40
    have o_v0 := ob_I eS43 o_v0
    refine r_aload_n (pc := 121) C dX11_readRain_121 5 rfl ?_
    obtain ⟨a44, ea44, h⟩ := h
    refine r_getr (pc := 122) C fL_X11_147 dX11_readRain_122 o_v0 ea44 ?_
    obtain ⟨o_a44, h⟩ := h
    obtain ⟨a45, ea45, h⟩ := h
    refine r_getNr (pc := 125) C fN_X11_244 dX11_readRain_125 o_a44 ea45 ?_
    refine r_aload_n (pc := 128) C dX11_readRain_128 5 rfl ?_
    obtain ⟨a46, ea46, h⟩ := h
    refine r_getr (pc := 129) C fL_X11_147 dX11_readRain_129 o_v0 ea46 ?_
    obtain ⟨o_a46, h⟩ := h
    refine r_getNi (pc := 132) C fN_X11_219 dX11_readRain_132 o_a46 ?_
    refine r_topi (fun x47 ex47 => ?_)
    have h := h x47 ex47
    refine r_iload (pc := 135) C dX11_readRain_135 1 rfl ?_
    obtain ⟨o_a45, h⟩ := h
    obtain ⟨i48, h⟩ := h
    refine r_iast (pc := 137) C dX11_readRain_137 o_a45 i48 ?_
    refine r_heap (fun S49 eS49 => ?_)
    have h := h S49 eS49
    have o_a1 := ob_I eS49 o_a1
    have o_a26 := ob_I eS49 o_a26
    have o_a27 := ob_I eS49 o_a27
    have o_a28 := ob_I eS49 o_a28
    have o_a32 := ob_I eS49 o_a32
    have o_a33 := ob_I eS49 o_a33
    have o_a34 := ob_I eS49 o_a34
    have o_a38 := ob_I eS49 o_a38
    have o_a39 := ob_I eS49 o_a39
    have o_a40 := ob_I eS49 o_a40
    have o_a44 := ob_I eS49 o_a44
    have o_a45 := ob_I eS49 o_a45
    have o_a46 := ob_I eS49 o_a46
    have o_v0 := ob_I eS49 o_v0
    refine r_aload_n (pc := 138) C dX11_readRain_138 5 rfl ?_
    obtain ⟨a50, ea50, h⟩ := h
    refine r_getr (pc := 139) C fL_X11_147 dX11_readRain_139 o_v0 ea50 ?_
    obtain ⟨o_a50, h⟩ := h
    obtain ⟨a51, ea51, h⟩ := h
    refine r_getNr (pc := 142) C fN_X11_246 dX11_readRain_142 o_a50 ea51 ?_
    refine r_aload_n (pc := 145) C dX11_readRain_145 5 rfl ?_
    obtain ⟨a52, ea52, h⟩ := h
    refine r_getr (pc := 146) C fL_X11_147 dX11_readRain_146 o_v0 ea52 ?_
    obtain ⟨o_a52, h⟩ := h
    refine r_getNi (pc := 149) C fN_X11_219 dX11_readRain_149 o_a52 ?_
    refine r_topi (fun x53 ex53 => ?_)
    have h := h x53 ex53
    refine r_iload (pc := 152) C dX11_readRain_152 0 rfl ?_
    obtain ⟨o_a51, h⟩ := h
    obtain ⟨i54, h⟩ := h
    refine r_iast (pc := 154) C dX11_readRain_154 o_a51 i54 ?_
    refine r_heap (fun S55 eS55 => ?_)
    have h := h S55 eS55
    have o_a1 := ob_I eS55 o_a1
    have o_a26 := ob_I eS55 o_a26
    have o_a27 := ob_I eS55 o_a27
    have o_a28 := ob_I eS55 o_a28
    have o_a32 := ob_I eS55 o_a32
    have o_a33 := ob_I eS55 o_a33
    have o_a34 := ob_I eS55 o_a34
    have o_a38 := ob_I eS55 o_a38
    have o_a39 := ob_I eS55 o_a39
    have o_a40 := ob_I eS55 o_a40
    have o_a44 := ob_I eS55 o_a44
    have o_a45 := ob_I eS55 o_a45
    have o_a46 := ob_I eS55 o_a46
    have o_a50 := ob_I eS55 o_a50
    have o_a51 := ob_I eS55 o_a51
    have o_a52 := ob_I eS55 o_a52
    have o_v0 := ob_I eS55 o_v0
    refine r_aload_n (pc := 155) C dX11_readRain_155 5 rfl ?_
    obtain ⟨a56, ea56, h⟩ := h
    refine r_getr (pc := 156) C fL_X11_147 dX11_readRain_156 o_v0 ea56 ?_
    refine r_dup (pc := 159) C dX11_readRain_159 rfl ?_
    obtain ⟨o_a56, h⟩ := h
    refine r_getNi (pc := 160) C fN_X11_219 dX11_readRain_160 o_a56 ?_
    refine r_topi (fun x57 ex57 => ?_)
    have h := h x57 ex57
    refine r_iconst (pc := 163) C (v := (1 : Int32)) dX11_readRain_163 (by decide) ?_
    refine r_iadd (pc := 164) C dX11_readRain_164 ?_
    refine r_topi (fun x58 ex58 => ?_)
    have h := h x58 ex58
    refine r_putNi (pc := 165) C pfN_X11_219 dX11_readRain_165 o_a56 ?_
    refine r_heap (fun S59 eS59 => ?_)
    have h := h S59 eS59
    have o_a1 := ob_I eS59 o_a1
    have o_a26 := ob_I eS59 o_a26
    have o_a27 := ob_I eS59 o_a27
    have o_a28 := ob_I eS59 o_a28
    have o_a32 := ob_I eS59 o_a32
    have o_a33 := ob_I eS59 o_a33
    have o_a34 := ob_I eS59 o_a34
    have o_a38 := ob_I eS59 o_a38
    have o_a39 := ob_I eS59 o_a39
    have o_a40 := ob_I eS59 o_a40
    have o_a44 := ob_I eS59 o_a44
    have o_a45 := ob_I eS59 o_a45
    have o_a46 := ob_I eS59 o_a46
    have o_a50 := ob_I eS59 o_a50
    have o_a51 := ob_I eS59 o_a51
    have o_a52 := ob_I eS59 o_a52
    have o_a56 := ob_I eS59 o_a56
    have o_v0 := ob_I eS59 o_v0
    exact r_vret (pc := 168) C E ht dX11_readRain_168 (by decide) (by decide) h
  · have h := h.2 c25
    exact r_vret (pc := 72) C E ht dX11_readRain_72 (by decide) (by decide) h
def P_X11_readRain (v0 : Nat) (Q : HS → Prop) (S : HS) : Prop := P_X11_readRain_0 Q v0 S
theorem c_X11_readRain {l : Launch} {Ee : EE} {S : HS} {v0 : Nat} {Q : HS → Prop} (h : P_X11_readRain v0 Q S) : MV l yX11_readRain cX11_readRain 6 none rm_X11_readRain Ee S [.ref v0] Q :=
  openV (by decide) (Nat.le_of_ble_eq_true rfl) (fun X C E ht hn hE hl => by subst hE; exact r_sub [0] rfl (T_X11_readRain_0 C E ht hn h))
def rm_X11_readRoad : Room := { frames := 9, cells := 0, slots := 0, locals := 206 }
def P_X11_readRoad_85 (Q : HS → Prop) (v0 : Nat) (v1 : Int32) (v2 : Int32) (v3 : Int32) (v4 : Int32) (s0 : Int32) (S : HS) : Prop := ob S v0 11 ∧ (∀ x1 : Int32, x1 = fI S v0 9 → (((¬ x1 = (5 : Int32)) → (∃ a3 : Nat, fR S v0 4 = some a3 ∧ (ob S a3 10 ∧ (∀ x4 : Int32, x4 = fI S a3 3 → (∃ a5 : Nat, fR S v0 4 = some a5 ∧ (ob S a5 10 ∧ (∃ a6 : Nat, fR S a5 13 = some a6 ∧ (ob S a6 13 ∧ (vp_in x4 (hN S a6) ∧ (∀ S8 : HS, S8 = sI S a6 x4.toNatClampNeg v1 → (∃ a9 : Nat, fR S8 v0 4 = some a9 ∧ (ob S8 a9 10 ∧ (∃ a10 : Nat, fR S8 a9 14 = some a10 ∧ (ob S8 a10 13 ∧ (vp_in x4 (hN S8 a10) ∧ (∀ S12 : HS, S12 = sI S8 a10 x4.toNatClampNeg v4 → (∃ a13 : Nat, fR S12 v0 4 = some a13 ∧ (ob S12 a13 10 ∧ (∃ a14 : Nat, fR S12 a13 15 = some a14 ∧ (ob S12 a14 13 ∧ (vp_in x4 (hN S12 a14) ∧ (∀ S16 : HS, S16 = sI S12 a14 x4.toNatClampNeg v2 → (∃ a17 : Nat, fR S16 v0 4 = some a17 ∧ (ob S16 a17 10 ∧ (∃ a18 : Nat, fR S16 a17 16 = some a18 ∧ (ob S16 a18 13 ∧ (vp_in x4 (hN S16 a18) ∧ (∀ S20 : HS, S20 = sI S16 a18 x4.toNatClampNeg v3 → (∃ a21 : Nat, fR S20 v0 4 = some a21 ∧ (ob S20 a21 10 ∧ (∃ a22 : Nat, fR S20 a21 17 = some a22 ∧ (ob S20 a22 13 ∧ (vp_in x4 (hN S20 a22) ∧ (∀ S24 : HS, S24 = sI S20 a22 x4.toNatClampNeg s0 → (∃ a25 : Nat, fR S24 v0 4 = some a25 ∧ (ob S24 a25 10 ∧ (∀ x26 : Int32, x26 = fI S24 a25 3 → (∀ x27 : Int32, x27 = x26 + (1 : Int32) → (∀ S28 : HS, S28 = sI S24 a25 3 x27 → (Q S28)))))))))))))))))))))))))))))))))))))))) ∧ ((x1 = (5 : Int32)) → (Q S))))
set_option maxRecDepth 20000 in
set_option maxHeartbeats 4000000 in
theorem T_X11_readRoad_85 {X : CX} {Q : HS → Prop} (C : Cx X cX11_readRoad RX11 7 rm_X11_readRoad) (E : ReV X rm_X11_readRoad Q) (ht : (xh X).sig.returnType = none) (hn : (xh X).name = yX11_readRoad.name) {v0 : Nat} {v1 : Int32} {v2 : Int32} {v3 : Int32} {v4 : Int32} {s0 : Int32} {S : HS} (h : P_X11_readRoad_85 Q v0 v1 v2 v3 v4 s0 S) : WS X 7 0 0 85 [(0, .ref v0), (1, .int v1), (2, .int v2), (3, .int v3), (4, .int v4)] [.int s0] S := by
  refine r_istore (pc := 85) C dX11_readRoad_85 (by decide) (lv' := [(5, .int s0), (0, .ref v0), (1, .int v1), (2, .int v2), (3, .int v3), (4, .int v4)]) rfl ?_
  refine r_aload_n (pc := 87) C dX11_readRoad_87 1 rfl ?_
  obtain ⟨o_v0, h⟩ := h
  refine r_geti (pc := 88) C fL_X11_68 dX11_readRoad_88 o_v0 ?_
  refine r_topi (fun x1 ex1 => ?_)
  have h := h x1 ex1
  refine r_iconst (pc := 91) C (v := (5 : Int32)) dX11_readRoad_91 (by decide) ?_
  refine r_icmp_ne (pc := 92) C (tgt := 96) dX11_readRoad_92 (by decide) (fun c2 => ?_) (fun c2 => ?_)
  · have h := h.1 c2
    refine r_aload_n (pc := 96) C dX11_readRoad_96 1 rfl ?_
    obtain ⟨a3, ea3, h⟩ := h
    refine r_getr (pc := 97) C fL_X11_147 dX11_readRoad_97 o_v0 ea3 ?_
    obtain ⟨o_a3, h⟩ := h
    refine r_getNi (pc := 100) C fN_X11_264 dX11_readRoad_100 o_a3 ?_
    refine r_topi (fun x4 ex4 => ?_)
    have h := h x4 ex4
    refine r_istore (pc := 103) C dX11_readRoad_103 (by decide) (lv' := [(6, .int x4), (5, .int s0), (0, .ref v0), (1, .int v1), (2, .int v2), (3, .int v3), (4, .int v4)]) rfl ?_
    refine r_aload_n (pc := 105) C dX11_readRoad_105 2 rfl ?_
    obtain ⟨a5, ea5, h⟩ := h
    refine r_getr (pc := 106) C fL_X11_147 dX11_readRoad_106 o_v0 ea5 ?_
    obtain ⟨o_a5, h⟩ := h
    obtain ⟨a6, ea6, h⟩ := h
    refine r_getNr (pc := 109) C fN_X11_270 dX11_readRoad_109 o_a5 ea6 ?_
    refine r_iload (pc := 112) C dX11_readRoad_112 0 rfl ?_
    refine r_iload_n (pc := 114) C dX11_readRoad_114 3 rfl ?_
    obtain ⟨o_a6, h⟩ := h
    obtain ⟨i7, h⟩ := h
    refine r_iast (pc := 115) C dX11_readRoad_115 o_a6 i7 ?_
    refine r_heap (fun S8 eS8 => ?_)
    have h := h S8 eS8
    have o_a3 := ob_I eS8 o_a3
    have o_a5 := ob_I eS8 o_a5
    have o_a6 := ob_I eS8 o_a6
    have o_v0 := ob_I eS8 o_v0
    refine r_aload_n (pc := 116) C dX11_readRoad_116 2 rfl ?_
    obtain ⟨a9, ea9, h⟩ := h
    refine r_getr (pc := 117) C fL_X11_147 dX11_readRoad_117 o_v0 ea9 ?_
    obtain ⟨o_a9, h⟩ := h
    obtain ⟨a10, ea10, h⟩ := h
    refine r_getNr (pc := 120) C fN_X11_273 dX11_readRoad_120 o_a9 ea10 ?_
    refine r_iload (pc := 123) C dX11_readRoad_123 0 rfl ?_
    refine r_iload (pc := 125) C dX11_readRoad_125 6 rfl ?_
    obtain ⟨o_a10, h⟩ := h
    obtain ⟨i11, h⟩ := h
    refine r_iast (pc := 127) C dX11_readRoad_127 o_a10 i11 ?_
    refine r_heap (fun S12 eS12 => ?_)
    have h := h S12 eS12
    have o_a10 := ob_I eS12 o_a10
    have o_a3 := ob_I eS12 o_a3
    have o_a5 := ob_I eS12 o_a5
    have o_a6 := ob_I eS12 o_a6
    have o_a9 := ob_I eS12 o_a9
    have o_v0 := ob_I eS12 o_v0
    refine r_aload_n (pc := 128) C dX11_readRoad_128 2 rfl ?_
    obtain ⟨a13, ea13, h⟩ := h
    refine r_getr (pc := 129) C fL_X11_147 dX11_readRoad_129 o_v0 ea13 ?_
    obtain ⟨o_a13, h⟩ := h
    obtain ⟨a14, ea14, h⟩ := h
    refine r_getNr (pc := 132) C fN_X11_276 dX11_readRoad_132 o_a13 ea14 ?_
    refine r_iload (pc := 135) C dX11_readRoad_135 0 rfl ?_
    refine r_iload_n (pc := 137) C dX11_readRoad_137 4 rfl ?_
    obtain ⟨o_a14, h⟩ := h
    obtain ⟨i15, h⟩ := h
    refine r_iast (pc := 138) C dX11_readRoad_138 o_a14 i15 ?_
    refine r_heap (fun S16 eS16 => ?_)
    have h := h S16 eS16
    have o_a10 := ob_I eS16 o_a10
    have o_a13 := ob_I eS16 o_a13
    have o_a14 := ob_I eS16 o_a14
    have o_a3 := ob_I eS16 o_a3
    have o_a5 := ob_I eS16 o_a5
    have o_a6 := ob_I eS16 o_a6
    have o_a9 := ob_I eS16 o_a9
    have o_v0 := ob_I eS16 o_v0
    refine r_aload_n (pc := 139) C dX11_readRoad_139 2 rfl ?_
    obtain ⟨a17, ea17, h⟩ := h
    refine r_getr (pc := 140) C fL_X11_147 dX11_readRoad_140 o_v0 ea17 ?_
    obtain ⟨o_a17, h⟩ := h
    obtain ⟨a18, ea18, h⟩ := h
    refine r_getNr (pc := 143) C fN_X11_279 dX11_readRoad_143 o_a17 ea18 ?_
    refine r_iload (pc := 146) C dX11_readRoad_146 0 rfl ?_
    refine r_iload_n (pc := 148) C dX11_readRoad_148 5 rfl ?_
    obtain ⟨o_a18, h⟩ := h
    obtain ⟨i19, h⟩ := h
    refine r_iast (pc := 149) C dX11_readRoad_149 o_a18 i19 ?_
    refine r_heap (fun S20 eS20 => ?_)
    have h := h S20 eS20
    have o_a10 := ob_I eS20 o_a10
    have o_a13 := ob_I eS20 o_a13
    have o_a14 := ob_I eS20 o_a14
    have o_a17 := ob_I eS20 o_a17
    have o_a18 := ob_I eS20 o_a18
    have o_a3 := ob_I eS20 o_a3
    have o_a5 := ob_I eS20 o_a5
    have o_a6 := ob_I eS20 o_a6
    have o_a9 := ob_I eS20 o_a9
    have o_v0 := ob_I eS20 o_v0
    refine r_aload_n (pc := 150) C dX11_readRoad_150 2 rfl ?_
    obtain ⟨a21, ea21, h⟩ := h
    refine r_getr (pc := 151) C fL_X11_147 dX11_readRoad_151 o_v0 ea21 ?_
    obtain ⟨o_a21, h⟩ := h
    obtain ⟨a22, ea22, h⟩ := h
    refine r_getNr (pc := 154) C fN_X11_282 dX11_readRoad_154 o_a21 ea22 ?_
    refine r_iload (pc := 157) C dX11_readRoad_157 0 rfl ?_
    refine r_iload (pc := 159) C dX11_readRoad_159 1 rfl ?_
    obtain ⟨o_a22, h⟩ := h
    obtain ⟨i23, h⟩ := h
    refine r_iast (pc := 161) C dX11_readRoad_161 o_a22 i23 ?_
    refine r_heap (fun S24 eS24 => ?_)
    have h := h S24 eS24
    have o_a10 := ob_I eS24 o_a10
    have o_a13 := ob_I eS24 o_a13
    have o_a14 := ob_I eS24 o_a14
    have o_a17 := ob_I eS24 o_a17
    have o_a18 := ob_I eS24 o_a18
    have o_a21 := ob_I eS24 o_a21
    have o_a22 := ob_I eS24 o_a22
    have o_a3 := ob_I eS24 o_a3
    have o_a5 := ob_I eS24 o_a5
    have o_a6 := ob_I eS24 o_a6
    have o_a9 := ob_I eS24 o_a9
    have o_v0 := ob_I eS24 o_v0
    refine r_aload_n (pc := 162) C dX11_readRoad_162 2 rfl ?_
    obtain ⟨a25, ea25, h⟩ := h
    refine r_getr (pc := 163) C fL_X11_147 dX11_readRoad_163 o_v0 ea25 ?_
    refine r_dup (pc := 166) C dX11_readRoad_166 rfl ?_
    obtain ⟨o_a25, h⟩ := h
    refine r_getNi (pc := 167) C fN_X11_264 dX11_readRoad_167 o_a25 ?_
    refine r_topi (fun x26 ex26 => ?_)
    have h := h x26 ex26
    refine r_iconst (pc := 170) C (v := (1 : Int32)) dX11_readRoad_170 (by decide) ?_
    refine r_iadd (pc := 171) C dX11_readRoad_171 ?_
    refine r_topi (fun x27 ex27 => ?_)
    have h := h x27 ex27
    refine r_putNi (pc := 172) C pfN_X11_264 dX11_readRoad_172 o_a25 ?_
    refine r_heap (fun S28 eS28 => ?_)
    have h := h S28 eS28
    have o_a10 := ob_I eS28 o_a10
    have o_a13 := ob_I eS28 o_a13
    have o_a14 := ob_I eS28 o_a14
    have o_a17 := ob_I eS28 o_a17
    have o_a18 := ob_I eS28 o_a18
    have o_a21 := ob_I eS28 o_a21
    have o_a22 := ob_I eS28 o_a22
    have o_a25 := ob_I eS28 o_a25
    have o_a3 := ob_I eS28 o_a3
    have o_a5 := ob_I eS28 o_a5
    have o_a6 := ob_I eS28 o_a6
    have o_a9 := ob_I eS28 o_a9
    have o_v0 := ob_I eS28 o_v0
    exact r_vret (pc := 175) C E ht dX11_readRoad_175 (by decide) (by decide) h
  · have h := h.2 c2
    exact r_vret (pc := 95) C E ht dX11_readRoad_95 (by decide) (by decide) h
def P_X11_readRoad_62 (Q : HS → Prop) (v0 : Nat) (v1 : Int32) (v2 : Int32) (v3 : Int32) (v4 : Int32) (S : HS) : Prop := ob S v0 11 ∧ (P_X11_goesOn v0 (fun S1 => Gr S S1 → (P_X11_eatsWord v0 44 (fun x6 S4 => Gr S1 S4 → bl x6 → (((x6 = 0) → (P_X11_readRoad_85 Q v0 v1 v2 v3 v4 (0 : Int32) S4)) ∧ ((¬ x6 = 0) → (P_X11_readWhole v0 (0 : Int32) v3 (fun x10 S8 => Gr S4 S8 → (P_X11_readRoad_85 Q v0 v1 v2 v3 v4 x10 S8)) S4)))) S1)) S)
set_option maxRecDepth 20000 in
set_option maxHeartbeats 4000000 in
theorem T_X11_readRoad_62 {X : CX} {Q : HS → Prop} (C : Cx X cX11_readRoad RX11 7 rm_X11_readRoad) (E : ReV X rm_X11_readRoad Q) (ht : (xh X).sig.returnType = none) (hn : (xh X).name = yX11_readRoad.name) {v0 : Nat} {v1 : Int32} {v2 : Int32} {v3 : Int32} {v4 : Int32} {S : HS} (h : P_X11_readRoad_62 Q v0 v1 v2 v3 v4 S) : WS X 7 0 0 62 [(0, .ref v0), (1, .int v1), (2, .int v2), (3, .int v3), (4, .int v4)] [] S := by
  refine r_aload_n (pc := 62) C dX11_readRoad_62 0 rfl ?_
  obtain ⟨o_v0, h⟩ := h
  refine r_callVv0 (pc := 63) C (rest := []) (a := v0) o_v0 [] yV_X11_goesOn g_1380 (c_X11_goesOn h) dX11_readRoad_63 rfl rfl (Nat.le_of_ble_eq_true rfl) ⟨by decide, by decide⟩ ⟨by decide, by decide⟩ ⟨rfl, rfl⟩ (fun S1 h g2 => ?_)
  have h := h g2
  have o_v0 := gr_ob g2 o_v0
  refine r_aload_n (pc := 66) C dX11_readRoad_66 0 rfl ?_
  refine r_lds (pc := 67) C 44 rfl dX11_readRoad_67 ?_
  refine r_callVi0 (pc := 69) C (rest := []) (a := v0) o_v0 [.ref (eK (xE X) 44)] yV_X11_eatsWord g_1481 (c_X11_eatsWord h) dX11_readRoad_69 rfl rfl (Nat.le_of_ble_eq_true rfl) ⟨by decide, by decide⟩ ⟨by decide, by decide⟩ ⟨rfl, rfl⟩ (fun x6 S4 h g5 => ?_)
  have bx6 := h.1
  have h := h.2 g5 bx6
  have o_v0 := gr_ob g5 o_v0
  refine r_if_eq (pc := 72) C (tgt := 84) dX11_readRoad_72 (by decide) (fun c7 => ?_) (fun c7 => ?_)
  · have h := h.1 c7
    refine r_iconst (pc := 84) C (v := (0 : Int32)) dX11_readRoad_84 (by decide) ?_
    exact r_sub [0, 1, 2, 3, 4] rfl (T_X11_readRoad_85 C E ht hn h)
  · have h := h.2 c7
    refine r_aload_n (pc := 75) C dX11_readRoad_75 0 rfl ?_
    refine r_iconst (pc := 76) C (v := (0 : Int32)) dX11_readRoad_76 (by decide) ?_
    refine r_iload_n (pc := 77) C dX11_readRoad_77 3 rfl ?_
    refine r_callVi0 (pc := 78) C (rest := []) (a := v0) o_v0 [.int (0 : Int32), .int v3] yV_X11_readWhole g_1430 (c_X11_readWhole h) dX11_readRoad_78 rfl rfl (Nat.le_of_ble_eq_true rfl) ⟨by decide, by decide⟩ ⟨by decide, by decide⟩ ⟨rfl, rfl⟩ (fun x10 S8 h g9 => ?_)
    have h := h g9
    have o_v0 := gr_ob g9 o_v0
    refine r_goto (pc := 81) C (tgt := 85) dX11_readRoad_81 (by decide) ?_
    exact r_sub [0, 1, 2, 3, 4] rfl (T_X11_readRoad_85 C E ht hn h)
def P_X11_readRoad_0 (Q : HS → Prop) (v0 : Nat) (S : HS) : Prop := ob S v0 11 ∧ (∃ a1 : Nat, fR S v0 4 = some a1 ∧ (ob S a1 10 ∧ (∀ x2 : Int32, x2 = fI S a1 3 → (P_X11_begins v0 x2 (12 : Int32) (fun S3 => Gr S S3 → (P_X11_known v0 (0 : Int32) (fun x8 S6 => Gr S3 S6 → (P_X11_goesOn v0 (fun S9 => Gr S6 S9 → (P_X11_readSide v0 (fun x14 S12 => Gr S9 S12 → (P_X11_readWhole v0 (1 : Int32) (60 : Int32) (fun x17 S15 => Gr S12 S15 → (P_X11_known v0 (0 : Int32) (fun x20 S18 => Gr S15 S18 → (∀ x21 : Int32, x21 = fI S18 v0 9 → (((x21 = (5 : Int32)) → (P_X11_readRoad_62 Q v0 x8 x14 x17 x20 S18)) ∧ ((¬ x21 = (5 : Int32)) → (((¬ x20 = x8) → (P_X11_readRoad_62 Q v0 x8 x14 x17 x20 S18)) ∧ ((x20 = x8) → (P_X11_flaw v0 (3 : Int32) (fun S24 => Gr S18 S24 → (P_X11_readRoad_62 Q v0 x8 x14 x17 x20 S24)) S18))))))) S15)) S12)) S9)) S6)) S3)) S))))
set_option maxRecDepth 20000 in
set_option maxHeartbeats 4000000 in
theorem T_X11_readRoad_0 {X : CX} {Q : HS → Prop} (C : Cx X cX11_readRoad RX11 7 rm_X11_readRoad) (E : ReV X rm_X11_readRoad Q) (ht : (xh X).sig.returnType = none) (hn : (xh X).name = yX11_readRoad.name) {v0 : Nat} {S : HS} (h : P_X11_readRoad_0 Q v0 S) : WS X 7 0 0 0 [(0, .ref v0)] [] S := by
  refine r_aload_n (pc := 0) C dX11_readRoad_0 0 rfl ?_
  refine r_aload_n (pc := 1) C dX11_readRoad_1 0 rfl ?_
  obtain ⟨o_v0, h⟩ := h
  obtain ⟨a1, ea1, h⟩ := h
  refine r_getr (pc := 2) C fL_X11_147 dX11_readRoad_2 o_v0 ea1 ?_
  obtain ⟨o_a1, h⟩ := h
  refine r_getNi (pc := 5) C fN_X11_264 dX11_readRoad_5 o_a1 ?_
  refine r_topi (fun x2 ex2 => ?_)
  have h := h x2 ex2
  refine r_bipush (pc := 8) C (v := (12 : Int32)) dX11_readRoad_8 (by decide) ?_
  refine r_callVv0 (pc := 10) C (rest := []) (a := v0) o_v0 [.int x2, .int (12 : Int32)] yV_X11_begins g_1442 (c_X11_begins h) dX11_readRoad_10 rfl rfl (Nat.le_of_ble_eq_true rfl) ⟨by decide, by decide⟩ ⟨by decide, by decide⟩ ⟨rfl, rfl⟩ (fun S3 h g4 => ?_)
  have h := h g4
  have o_a1 := gr_ob g4 o_a1
  have o_v0 := gr_ob g4 o_v0
  refine r_aload_n (pc := 13) C dX11_readRoad_13 0 rfl ?_
  refine r_iconst (pc := 14) C (v := (0 : Int32)) dX11_readRoad_14 (by decide) ?_
  refine r_callVi0 (pc := 15) C (rest := []) (a := v0) o_v0 [.int (0 : Int32)] yV_X11_known g_1493 (c_X11_known h) dX11_readRoad_15 rfl rfl (Nat.le_of_ble_eq_true rfl) ⟨by decide, by decide⟩ ⟨by decide, by decide⟩ ⟨rfl, rfl⟩ (fun x8 S6 h g7 => ?_)
  have h := h g7
  have o_a1 := gr_ob g7 o_a1
  have o_v0 := gr_ob g7 o_v0
  refine r_istore_n (pc := 18) C dX11_readRoad_18 rfl (by decide) (lv' := [(1, .int x8), (0, .ref v0)]) rfl ?_
  refine r_aload_n (pc := 19) C dX11_readRoad_19 1 rfl ?_
  refine r_callVv0 (pc := 20) C (rest := []) (a := v0) o_v0 [] yV_X11_goesOn g_1380 (c_X11_goesOn h) dX11_readRoad_20 rfl rfl (Nat.le_of_ble_eq_true rfl) ⟨by decide, by decide⟩ ⟨by decide, by decide⟩ ⟨rfl, rfl⟩ (fun S9 h g10 => ?_)
  have h := h g10
  have o_a1 := gr_ob g10 o_a1
  have o_v0 := gr_ob g10 o_v0
  refine r_aload_n (pc := 23) C dX11_readRoad_23 1 rfl ?_
  refine r_callVi0 (pc := 24) C (rest := []) (a := v0) o_v0 [] yV_X11_readSide g_1449 (c_X11_readSide h) dX11_readRoad_24 rfl rfl (Nat.le_of_ble_eq_true rfl) ⟨by decide, by decide⟩ ⟨by decide, by decide⟩ ⟨rfl, rfl⟩ (fun x14 S12 h g13 => ?_)
  have h := h g13
  have o_a1 := gr_ob g13 o_a1
  have o_v0 := gr_ob g13 o_v0
  refine r_istore_n (pc := 27) C dX11_readRoad_27 rfl (by decide) (lv' := [(2, .int x14), (1, .int x8), (0, .ref v0)]) rfl ?_
  refine r_aload_n (pc := 28) C dX11_readRoad_28 2 rfl ?_
  refine r_iconst (pc := 29) C (v := (1 : Int32)) dX11_readRoad_29 (by decide) ?_
  refine r_bipush (pc := 30) C (v := (60 : Int32)) dX11_readRoad_30 (by decide) ?_
  refine r_callVi0 (pc := 32) C (rest := []) (a := v0) o_v0 [.int (1 : Int32), .int (60 : Int32)] yV_X11_readWhole g_1430 (c_X11_readWhole h) dX11_readRoad_32 rfl rfl (Nat.le_of_ble_eq_true rfl) ⟨by decide, by decide⟩ ⟨by decide, by decide⟩ ⟨rfl, rfl⟩ (fun x17 S15 h g16 => ?_)
  have h := h g16
  have o_a1 := gr_ob g16 o_a1
  have o_v0 := gr_ob g16 o_v0
  refine r_istore_n (pc := 35) C dX11_readRoad_35 rfl (by decide) (lv' := [(3, .int x17), (2, .int x14), (1, .int x8), (0, .ref v0)]) rfl ?_
  refine r_aload_n (pc := 36) C dX11_readRoad_36 3 rfl ?_
  refine r_iconst (pc := 37) C (v := (0 : Int32)) dX11_readRoad_37 (by decide) ?_
  refine r_callVi0 (pc := 38) C (rest := []) (a := v0) o_v0 [.int (0 : Int32)] yV_X11_known g_1493 (c_X11_known h) dX11_readRoad_38 rfl rfl (Nat.le_of_ble_eq_true rfl) ⟨by decide, by decide⟩ ⟨by decide, by decide⟩ ⟨rfl, rfl⟩ (fun x20 S18 h g19 => ?_)
  have h := h g19
  have o_a1 := gr_ob g19 o_a1
  have o_v0 := gr_ob g19 o_v0
  refine r_istore (pc := 41) C dX11_readRoad_41 (by decide) (lv' := [(4, .int x20), (3, .int x17), (2, .int x14), (1, .int x8), (0, .ref v0)]) rfl ?_
  refine r_aload_n (pc := 43) C dX11_readRoad_43 4 rfl ?_
  refine r_geti (pc := 44) C fL_X11_68 dX11_readRoad_44 o_v0 ?_
  refine r_topi (fun x21 ex21 => ?_)
  have h := h x21 ex21
  refine r_iconst (pc := 47) C (v := (5 : Int32)) dX11_readRoad_47 (by decide) ?_
  refine r_icmp_eq (pc := 48) C (tgt := 62) dX11_readRoad_48 (by decide) (fun c22 => ?_) (fun c22 => ?_)
  · have h := h.1 c22
    exact r_sub [4, 3, 2, 1, 0] rfl (T_X11_readRoad_62 C E ht hn h)
  · have h := h.2 c22
    refine r_iload (pc := 51) C dX11_readRoad_51 0 rfl ?_
    refine r_iload_n (pc := 53) C dX11_readRoad_53 3 rfl ?_
    refine r_icmp_ne (pc := 54) C (tgt := 62) dX11_readRoad_54 (by decide) (fun c23 => ?_) (fun c23 => ?_)
    · have h := h.1 c23
      exact r_sub [4, 3, 2, 1, 0] rfl (T_X11_readRoad_62 C E ht hn h)
    · have h := h.2 c23
      refine r_aload_n (pc := 57) C dX11_readRoad_57 4 rfl ?_
      refine r_iconst (pc := 58) C (v := (3 : Int32)) dX11_readRoad_58 (by decide) ?_
      refine r_callVv0 (pc := 59) C (rest := []) (a := v0) o_v0 [.int (3 : Int32)] yV_X11_flaw g_1417 (c_X11_flaw h) dX11_readRoad_59 rfl rfl (Nat.le_of_ble_eq_true rfl) ⟨by decide, by decide⟩ ⟨by decide, by decide⟩ ⟨rfl, rfl⟩ (fun S24 h g25 => ?_)
      have h := h g25
      have o_a1 := gr_ob g25 o_a1
      have o_v0 := gr_ob g25 o_v0
      exact r_sub [4, 3, 2, 1, 0] rfl (T_X11_readRoad_62 C E ht hn h)
def P_X11_readRoad (v0 : Nat) (Q : HS → Prop) (S : HS) : Prop := P_X11_readRoad_0 Q v0 S
theorem c_X11_readRoad {l : Launch} {Ee : EE} {S : HS} {v0 : Nat} {Q : HS → Prop} (h : P_X11_readRoad v0 Q S) : MV l yX11_readRoad cX11_readRoad 7 none rm_X11_readRoad Ee S [.ref v0] Q :=
  openV (by decide) (Nat.le_of_ble_eq_true rfl) (fun X C E ht hn hE hl => by subst hE; exact r_sub [0] rfl (T_X11_readRoad_0 C E ht hn h))
def rm_X11_readSeen : Room := { frames := 9, cells := 0, slots := 0, locals := 206 }
def P_X11_readSeen_47 (Q : HS → Prop) (X24 : Nat → Int32 → Int32 → HS → Prop) (v0 : Nat) (v1 : Int32) (v2 : Int32) (S : HS) : Prop := ob S v0 11 ∧ (P_X11_readWhole v0 (0 : Int32) (999 : Int32) (fun x3 S1 => Gr S S1 → (∀ x4 : Int32, x4 = fI S1 v0 9 → (((¬ x4 = (5 : Int32)) → (∃ a6 : Nat, fR S1 v0 4 = some a6 ∧ (ob S1 a6 10 ∧ (∃ a7 : Nat, fR S1 a6 27 = some a7 ∧ (∃ a8 : Nat, fR S1 v0 4 = some a8 ∧ (ob S1 a8 10 ∧ (∀ x9 : Int32, x9 = fI S1 a8 5 → (ob S1 a7 13 ∧ (vp_in (((5 : Int32) * x9) + v2) (hN S1 a7) ∧ (∀ S11 : HS, S11 = sI S1 a7 (((5 : Int32) * x9) + v2).toNatClampNeg x3 → (∀ x12 : Int32, x12 = v2 + (1 : Int32) → (X24 v0 v1 x12 S11)))))))))))) ∧ ((x4 = (5 : Int32)) → (Q S1))))) S)
set_option maxRecDepth 20000 in
set_option maxHeartbeats 4000000 in
theorem T_X11_readSeen_47 {X : CX} {Q : HS → Prop} (C : Cx X cX11_readSeen RX11 4 rm_X11_readSeen) (E : ReV X rm_X11_readSeen Q) (ht : (xh X).sig.returnType = none) (hn : (xh X).name = yX11_readSeen.name) {X24 : Nat → Int32 → Int32 → HS → Prop} (hX24 : ∀ (v0 : Nat) (v1 : Int32) (v2 : Int32) (S : HS), X24 v0 v1 v2 S → WS X 4 0 0 24 [(0, .ref v0), (1, .int v1), (2, .int v2)] [] S) {v0 : Nat} {v1 : Int32} {v2 : Int32} {S : HS} (h : P_X11_readSeen_47 Q X24 v0 v1 v2 S) : WS X 4 0 0 47 [(0, .ref v0), (1, .int v1), (2, .int v2)] [] S := by
  refine r_aload_n (pc := 47) C dX11_readSeen_47 0 rfl ?_
  refine r_iconst (pc := 48) C (v := (0 : Int32)) dX11_readSeen_48 (by decide) ?_
  refine r_sipush (pc := 49) C (v := (999 : Int32)) dX11_readSeen_49 (by decide) ?_
  obtain ⟨o_v0, h⟩ := h
  refine r_callVi0 (pc := 52) C (rest := []) (a := v0) o_v0 [.int (0 : Int32), .int (999 : Int32)] yV_X11_readWhole g_1430 (c_X11_readWhole h) dX11_readSeen_52 rfl rfl (Nat.le_of_ble_eq_true rfl) ⟨by decide, by decide⟩ ⟨by decide, by decide⟩ ⟨rfl, rfl⟩ (fun x3 S1 h g2 => ?_)
  have h := h g2
  have o_v0 := gr_ob g2 o_v0
  refine r_istore_n (pc := 55) C dX11_readSeen_55 rfl (by decide) (lv' := [(3, .int x3), (0, .ref v0), (1, .int v1), (2, .int v2)]) rfl ?_
  refine r_aload_n (pc := 56) C dX11_readSeen_56 1 rfl ?_
  refine r_geti (pc := 57) C fL_X11_68 dX11_readSeen_57 o_v0 ?_
  refine r_topi (fun x4 ex4 => ?_)
  have h := h x4 ex4
  refine r_iconst (pc := 60) C (v := (5 : Int32)) dX11_readSeen_60 (by decide) ?_
  refine r_icmp_ne (pc := 61) C (tgt := 65) dX11_readSeen_61 (by decide) (fun c5 => ?_) (fun c5 => ?_)
  · have h := h.1 c5
    refine r_aload_n (pc := 65) C dX11_readSeen_65 1 rfl ?_
    obtain ⟨a6, ea6, h⟩ := h
    refine r_getr (pc := 66) C fL_X11_147 dX11_readSeen_66 o_v0 ea6 ?_
    obtain ⟨o_a6, h⟩ := h
    obtain ⟨a7, ea7, h⟩ := h
    refine r_getNr (pc := 69) C fN_X11_326 dX11_readSeen_69 o_a6 ea7 ?_
    refine r_iconst (pc := 72) C (v := (5 : Int32)) dX11_readSeen_72 (by decide) ?_
    refine r_aload_n (pc := 73) C dX11_readSeen_73 1 rfl ?_
    obtain ⟨a8, ea8, h⟩ := h
    refine r_getr (pc := 74) C fL_X11_147 dX11_readSeen_74 o_v0 ea8 ?_
    obtain ⟨o_a8, h⟩ := h
    refine r_getNi (pc := 77) C fN_X11_323 dX11_readSeen_77 o_a8 ?_
    refine r_topi (fun x9 ex9 => ?_)
    have h := h x9 ex9
    refine r_imul (pc := 80) C dX11_readSeen_80 ?_
    refine r_iload_n (pc := 81) C dX11_readSeen_81 3 rfl ?_
    refine r_iadd (pc := 82) C dX11_readSeen_82 ?_
    refine r_iload_n (pc := 83) C dX11_readSeen_83 0 rfl ?_
    obtain ⟨o_a7, h⟩ := h
    obtain ⟨i10, h⟩ := h
    refine r_iast (pc := 84) C dX11_readSeen_84 o_a7 i10 ?_
    refine r_heap (fun S11 eS11 => ?_)
    have h := h S11 eS11
    have o_a6 := ob_I eS11 o_a6
    have o_a7 := ob_I eS11 o_a7
    have o_a8 := ob_I eS11 o_a8
    have o_v0 := ob_I eS11 o_v0
    obtain ⟨x12, ex12⟩ : ∃ z : Int32, z = v2 + (1 : Int32) := ⟨_, rfl⟩
    have h := h x12 ex12
    refine r_iinc (pc := 85) C (v := x12) (lv' := [(2, .int x12), (3, .int x3), (0, .ref v0), (1, .int v1)]) dX11_readSeen_85 3 rfl ex12.symm (by decide) rfl ?_
    refine r_goto (pc := 88) C (tgt := 24) dX11_readSeen_88 (by decide) ?_
    exact r_sub [2, 3, 0] rfl (hX24 v0 v1 x12 S11 h)
  · have h := h.2 c5
    exact r_vret (pc := 64) C E ht dX11_readSeen_64 (by decide) (by decide) h
def B_X11_readSeen_24 (Q : HS → Prop) (X24 : Nat → Int32 → Int32 → HS → Prop) (v0 : Nat) (v1 : Int32) (v2 : Int32) (S : HS) : Prop := (((5 : Int32) ≤ v2) → (ob S v0 11 ∧ (∃ a2 : Nat, fR S v0 4 = some a2 ∧ (ob S a2 10 ∧ (∃ a3 : Nat, fR S a2 26 = some a3 ∧ (∃ a4 : Nat, fR S v0 4 = some a4 ∧ (ob S a4 10 ∧ (∀ x5 : Int32, x5 = fI S a4 5 → (ob S a3 13 ∧ (vp_in x5 (hN S a3) ∧ (∀ S7 : HS, S7 = sI S a3 x5.toNatClampNeg v1 → (∃ a8 : Nat, fR S7 v0 4 = some a8 ∧ (ob S7 a8 10 ∧ (∀ x9 : Int32, x9 = fI S7 a8 5 → (∀ x10 : Int32, x10 = x9 + (1 : Int32) → (∀ S11 : HS, S11 = sI S7 a8 5 x10 → (Q S11))))))))))))))))) ∧ ((¬ (5 : Int32) ≤ v2) → (((v2 ≤ 0) → (P_X11_readSeen_47 Q X24 v0 v1 v2 S)) ∧ ((¬ v2 ≤ 0) → (ob S v0 11 ∧ (P_X11_eatsSign v0 (44 : Int32) (fun x15 S13 => Gr S S13 → bl x15 → (((¬ x15 = 0) → (P_X11_readSeen_47 Q X24 v0 v1 v2 S13)) ∧ ((x15 = 0) → (P_X11_flaw v0 (1 : Int32) (fun S17 => Gr S13 S17 → (P_X11_readSeen_47 Q X24 v0 v1 v2 S17)) S13)))) S)))))
def P_X11_readSeen_24 (Q : HS → Prop) (v0 : Nat) (v1 : Int32) (v2 : Int32) (S : HS) : Prop := ∀ X24 : Nat → Int32 → Int32 → HS → Prop, (∀ (v0 : Nat) (v1 : Int32) (v2 : Int32) (S : HS), B_X11_readSeen_24 Q X24 v0 v1 v2 S → X24 v0 v1 v2 S) → X24 v0 v1 v2 S
set_option maxRecDepth 20000 in
set_option maxHeartbeats 4000000 in
theorem TB_X11_readSeen_24 {X : CX} {Q : HS → Prop} (C : Cx X cX11_readSeen RX11 4 rm_X11_readSeen) (E : ReV X rm_X11_readSeen Q) (ht : (xh X).sig.returnType = none) (hn : (xh X).name = yX11_readSeen.name) {X24 : Nat → Int32 → Int32 → HS → Prop} (hX24 : ∀ (v0 : Nat) (v1 : Int32) (v2 : Int32) (S : HS), X24 v0 v1 v2 S → WS X 4 0 0 24 [(0, .ref v0), (1, .int v1), (2, .int v2)] [] S) {v0 : Nat} {v1 : Int32} {v2 : Int32} {S : HS} (h : B_X11_readSeen_24 Q X24 v0 v1 v2 S) : WS X 4 0 0 24 [(0, .ref v0), (1, .int v1), (2, .int v2)] [] S := by
  refine r_iload_n (pc := 24) C dX11_readSeen_24 2 rfl ?_
  refine r_iconst (pc := 25) C (v := (5 : Int32)) dX11_readSeen_25 (by decide) ?_
  refine r_icmp_ge (pc := 26) C (tgt := 91) dX11_readSeen_26 (by decide) (fun c1 => ?_) (fun c1 => ?_)
  · have h := h.1 c1
    refine r_aload_n (pc := 91) C dX11_readSeen_91 0 rfl ?_
    obtain ⟨o_v0, h⟩ := h
    obtain ⟨a2, ea2, h⟩ := h
    refine r_getr (pc := 92) C fL_X11_147 dX11_readSeen_92 o_v0 ea2 ?_
    obtain ⟨o_a2, h⟩ := h
    obtain ⟨a3, ea3, h⟩ := h
    refine r_getNr (pc := 95) C fN_X11_328 dX11_readSeen_95 o_a2 ea3 ?_
    refine r_aload_n (pc := 98) C dX11_readSeen_98 0 rfl ?_
    obtain ⟨a4, ea4, h⟩ := h
    refine r_getr (pc := 99) C fL_X11_147 dX11_readSeen_99 o_v0 ea4 ?_
    obtain ⟨o_a4, h⟩ := h
    refine r_getNi (pc := 102) C fN_X11_323 dX11_readSeen_102 o_a4 ?_
    refine r_topi (fun x5 ex5 => ?_)
    have h := h x5 ex5
    refine r_iload_n (pc := 105) C dX11_readSeen_105 1 rfl ?_
    obtain ⟨o_a3, h⟩ := h
    obtain ⟨i6, h⟩ := h
    refine r_iast (pc := 106) C dX11_readSeen_106 o_a3 i6 ?_
    refine r_heap (fun S7 eS7 => ?_)
    have h := h S7 eS7
    have o_a2 := ob_I eS7 o_a2
    have o_a3 := ob_I eS7 o_a3
    have o_a4 := ob_I eS7 o_a4
    have o_v0 := ob_I eS7 o_v0
    refine r_aload_n (pc := 107) C dX11_readSeen_107 0 rfl ?_
    obtain ⟨a8, ea8, h⟩ := h
    refine r_getr (pc := 108) C fL_X11_147 dX11_readSeen_108 o_v0 ea8 ?_
    refine r_dup (pc := 111) C dX11_readSeen_111 rfl ?_
    obtain ⟨o_a8, h⟩ := h
    refine r_getNi (pc := 112) C fN_X11_323 dX11_readSeen_112 o_a8 ?_
    refine r_topi (fun x9 ex9 => ?_)
    have h := h x9 ex9
    refine r_iconst (pc := 115) C (v := (1 : Int32)) dX11_readSeen_115 (by decide) ?_
    refine r_iadd (pc := 116) C dX11_readSeen_116 ?_
    refine r_topi (fun x10 ex10 => ?_)
    have h := h x10 ex10
    refine r_putNi (pc := 117) C pfN_X11_323 dX11_readSeen_117 o_a8 ?_
    refine r_heap (fun S11 eS11 => ?_)
    have h := h S11 eS11
    have o_a2 := ob_I eS11 o_a2
    have o_a3 := ob_I eS11 o_a3
    have o_a4 := ob_I eS11 o_a4
    have o_a8 := ob_I eS11 o_a8
    have o_v0 := ob_I eS11 o_v0
    exact r_vret (pc := 120) C E ht dX11_readSeen_120 (by decide) (by decide) h
  · have h := h.2 c1
    refine r_iload_n (pc := 29) C dX11_readSeen_29 2 rfl ?_
    refine r_if_le (pc := 30) C (tgt := 47) dX11_readSeen_30 (by decide) (fun c12 => ?_) (fun c12 => ?_)
    · have h := h.1 c12
      exact r_sub [0, 1, 2] rfl (T_X11_readSeen_47 C E ht hn hX24 h)
    · have h := h.2 c12
      refine r_aload_n (pc := 33) C dX11_readSeen_33 0 rfl ?_
      refine r_bipush (pc := 34) C (v := (44 : Int32)) dX11_readSeen_34 (by decide) ?_
      obtain ⟨o_v0, h⟩ := h
      refine r_callVi0 (pc := 36) C (rest := []) (a := v0) o_v0 [.int (44 : Int32)] yV_X11_eatsSign g_1514 (c_X11_eatsSign h) dX11_readSeen_36 rfl rfl (Nat.le_of_ble_eq_true rfl) ⟨by decide, by decide⟩ ⟨by decide, by decide⟩ ⟨rfl, rfl⟩ (fun x15 S13 h g14 => ?_)
      have bx15 := h.1
      have h := h.2 g14 bx15
      have o_v0 := gr_ob g14 o_v0
      refine r_if_ne (pc := 39) C (tgt := 47) dX11_readSeen_39 (by decide) (fun c16 => ?_) (fun c16 => ?_)
      · have h := h.1 c16
        exact r_sub [0, 1, 2] rfl (T_X11_readSeen_47 C E ht hn hX24 h)
      · have h := h.2 c16
        refine r_aload_n (pc := 42) C dX11_readSeen_42 0 rfl ?_
        refine r_iconst (pc := 43) C (v := (1 : Int32)) dX11_readSeen_43 (by decide) ?_
        refine r_callVv0 (pc := 44) C (rest := []) (a := v0) o_v0 [.int (1 : Int32)] yV_X11_flaw g_1417 (c_X11_flaw h) dX11_readSeen_44 rfl rfl (Nat.le_of_ble_eq_true rfl) ⟨by decide, by decide⟩ ⟨by decide, by decide⟩ ⟨rfl, rfl⟩ (fun S17 h g18 => ?_)
        have h := h g18
        have o_v0 := gr_ob g18 o_v0
        exact r_sub [0, 1, 2] rfl (T_X11_readSeen_47 C E ht hn hX24 h)
theorem T_X11_readSeen_24 {X : CX} {Q : HS → Prop} (C : Cx X cX11_readSeen RX11 4 rm_X11_readSeen) (E : ReV X rm_X11_readSeen Q) (ht : (xh X).sig.returnType = none) (hn : (xh X).name = yX11_readSeen.name) {v0 : Nat} {v1 : Int32} {v2 : Int32} {S : HS} (h : P_X11_readSeen_24 Q v0 v1 v2 S) : WS X 4 0 0 24 [(0, .ref v0), (1, .int v1), (2, .int v2)] [] S :=
  h (fun v0 v1 v2 S => WS X 4 0 0 24 [(0, .ref v0), (1, .int v1), (2, .int v2)] [] S) (fun v0 v1 v2 S hh => TB_X11_readSeen_24 C E ht hn (fun v0 v1 v2 S z => z) hh)
def P_X11_readSeen_0 (Q : HS → Prop) (v0 : Nat) (S : HS) : Prop := ob S v0 11 ∧ (∃ a1 : Nat, fR S v0 4 = some a1 ∧ (ob S a1 10 ∧ (∀ x2 : Int32, x2 = fI S a1 5 → (P_X11_begins v0 x2 (4 : Int32) (fun S3 => Gr S S3 → (P_X11_known v0 (1 : Int32) (fun x8 S6 => Gr S3 S6 → (P_X11_goesOn v0 (fun S9 => Gr S6 S9 → (P_X11_readSeen_24 Q v0 x8 (0 : Int32) S9)) S6)) S3)) S))))
set_option maxRecDepth 20000 in
set_option maxHeartbeats 4000000 in
theorem T_X11_readSeen_0 {X : CX} {Q : HS → Prop} (C : Cx X cX11_readSeen RX11 4 rm_X11_readSeen) (E : ReV X rm_X11_readSeen Q) (ht : (xh X).sig.returnType = none) (hn : (xh X).name = yX11_readSeen.name) {v0 : Nat} {S : HS} (h : P_X11_readSeen_0 Q v0 S) : WS X 4 0 0 0 [(0, .ref v0)] [] S := by
  refine r_aload_n (pc := 0) C dX11_readSeen_0 0 rfl ?_
  refine r_aload_n (pc := 1) C dX11_readSeen_1 0 rfl ?_
  obtain ⟨o_v0, h⟩ := h
  obtain ⟨a1, ea1, h⟩ := h
  refine r_getr (pc := 2) C fL_X11_147 dX11_readSeen_2 o_v0 ea1 ?_
  obtain ⟨o_a1, h⟩ := h
  refine r_getNi (pc := 5) C fN_X11_323 dX11_readSeen_5 o_a1 ?_
  refine r_topi (fun x2 ex2 => ?_)
  have h := h x2 ex2
  refine r_iconst (pc := 8) C (v := (4 : Int32)) dX11_readSeen_8 (by decide) ?_
  refine r_callVv0 (pc := 9) C (rest := []) (a := v0) o_v0 [.int x2, .int (4 : Int32)] yV_X11_begins g_1442 (c_X11_begins h) dX11_readSeen_9 rfl rfl (Nat.le_of_ble_eq_true rfl) ⟨by decide, by decide⟩ ⟨by decide, by decide⟩ ⟨rfl, rfl⟩ (fun S3 h g4 => ?_)
  have h := h g4
  have o_a1 := gr_ob g4 o_a1
  have o_v0 := gr_ob g4 o_v0
  refine r_aload_n (pc := 12) C dX11_readSeen_12 0 rfl ?_
  refine r_iconst (pc := 13) C (v := (1 : Int32)) dX11_readSeen_13 (by decide) ?_
  refine r_callVi0 (pc := 14) C (rest := []) (a := v0) o_v0 [.int (1 : Int32)] yV_X11_known g_1493 (c_X11_known h) dX11_readSeen_14 rfl rfl (Nat.le_of_ble_eq_true rfl) ⟨by decide, by decide⟩ ⟨by decide, by decide⟩ ⟨rfl, rfl⟩ (fun x8 S6 h g7 => ?_)
  have h := h g7
  have o_a1 := gr_ob g7 o_a1
  have o_v0 := gr_ob g7 o_v0
  refine r_istore_n (pc := 17) C dX11_readSeen_17 rfl (by decide) (lv' := [(1, .int x8), (0, .ref v0)]) rfl ?_
  refine r_aload_n (pc := 18) C dX11_readSeen_18 1 rfl ?_
  refine r_callVv0 (pc := 19) C (rest := []) (a := v0) o_v0 [] yV_X11_goesOn g_1380 (c_X11_goesOn h) dX11_readSeen_19 rfl rfl (Nat.le_of_ble_eq_true rfl) ⟨by decide, by decide⟩ ⟨by decide, by decide⟩ ⟨rfl, rfl⟩ (fun S9 h g10 => ?_)
  have h := h g10
  have o_a1 := gr_ob g10 o_a1
  have o_v0 := gr_ob g10 o_v0
  refine r_iconst (pc := 22) C (v := (0 : Int32)) dX11_readSeen_22 (by decide) ?_
  refine r_istore_n (pc := 23) C dX11_readSeen_23 rfl (by decide) (lv' := [(2, .int (0 : Int32)), (1, .int x8), (0, .ref v0)]) rfl ?_
  exact r_sub [2, 1, 0] rfl (T_X11_readSeen_24 C E ht hn h)
def P_X11_readSeen (v0 : Nat) (Q : HS → Prop) (S : HS) : Prop := P_X11_readSeen_0 Q v0 S
theorem c_X11_readSeen {l : Launch} {Ee : EE} {S : HS} {v0 : Nat} {Q : HS → Prop} (h : P_X11_readSeen v0 Q S) : MV l yX11_readSeen cX11_readSeen 4 none rm_X11_readSeen Ee S [.ref v0] Q :=
  openV (by decide) (Nat.le_of_ble_eq_true rfl) (fun X C E ht hn hE hl => by subst hE; exact r_sub [0] rfl (T_X11_readSeen_0 C E ht hn h))
def rm_X11_readWalker : Room := { frames := 9, cells := 0, slots := 0, locals := 208 }
def P_X11_readWalker_149 (Q : HS → Prop) (v0 : Nat) (v1 : Int64) (v3 : Int32) (v4 : Int32) (s0 : Int32) (S : HS) : Prop := ob S v0 11 ∧ (P_X11_readPart v0 49 (1 : Int32) (9 : Int32) (fun x3 S1 => Gr S S1 → (P_X11_readPart v0 50 (1 : Int32) (9 : Int32) (fun x6 S4 => Gr S1 S4 → (P_X11_readPart v0 51 (s0 + (1 : Int32)) (9 : Int32) (fun x9 S7 => Gr S4 S7 → (P_X11_readPart v0 52 (1 : Int32) (9 : Int32) (fun x12 S10 => Gr S7 S10 → (P_X11_readPart v0 53 x12 (9 : Int32) (fun x15 S13 => Gr S10 S13 → (∀ x16 : Int32, x16 = fI S13 v0 9 → (((¬ x16 = (5 : Int32)) → (∃ a18 : Nat, fR S13 v0 4 = some a18 ∧ (ob S13 a18 10 ∧ (∀ x19 : Int32, x19 = fI S13 a18 4 → (P_X11_names v0 v1 (1 : Int32) x19 (fun S20 => Gr S13 S20 → (∃ a23 : Nat, fR S20 v0 4 = some a23 ∧ (ob S20 a23 10 ∧ (∃ a24 : Nat, fR S20 a23 19 = some a24 ∧ (ob S20 a24 13 ∧ (vp_in x19 (hN S20 a24) ∧ (∀ S26 : HS, S26 = sI S20 a24 x19.toNatClampNeg v3 → (∃ a27 : Nat, fR S26 v0 4 = some a27 ∧ (ob S26 a27 10 ∧ (∃ a28 : Nat, fR S26 a27 20 = some a28 ∧ (ob S26 a28 13 ∧ (vp_in x19 (hN S26 a28) ∧ (∀ S30 : HS, S30 = sI S26 a28 x19.toNatClampNeg v4 → (∃ a31 : Nat, fR S30 v0 4 = some a31 ∧ (ob S30 a31 10 ∧ (∃ a32 : Nat, fR S30 a31 21 = some a32 ∧ (ob S30 a32 13 ∧ (∀ x34 : Int32, x34 = x3 * (x6 + s0) → (vp_in x19 (hN S30 a32) ∧ (∀ S35 : HS, S35 = sI S30 a32 x19.toNatClampNeg x34 → (∃ a36 : Nat, fR S35 v0 4 = some a36 ∧ (ob S35 a36 10 ∧ (∃ a37 : Nat, fR S35 a36 22 = some a37 ∧ (ob S35 a37 13 ∧ (∀ x39 : Int32, x39 = x3 * (x9 - s0) → (vp_in x19 (hN S35 a37) ∧ (∀ S40 : HS, S40 = sI S35 a37 x19.toNatClampNeg x39 → (∃ a41 : Nat, fR S40 v0 4 = some a41 ∧ (ob S40 a41 10 ∧ (∃ a42 : Nat, fR S40 a41 23 = some a42 ∧ (ob S40 a42 13 ∧ (∀ x44 : Int32, x44 = (x6 + s0) * (x9 - s0) → (vp_in x19 (hN S40 a42) ∧ (∀ S45 : HS, S45 = sI S40 a42 x19.toNatClampNeg x44 → (∃ a46 : Nat, fR S45 v0 4 = some a46 ∧ (ob S45 a46 10 ∧ (∃ a47 : Nat, fR S45 a46 24 = some a47 ∧ (ob S45 a47 13 ∧ (vp_in x19 (hN S45 a47) ∧ (∀ S49 : HS, S49 = sI S45 a47 x19.toNatClampNeg x12 → (∃ a50 : Nat, fR S49 v0 4 = some a50 ∧ (ob S49 a50 10 ∧ (∃ a51 : Nat, fR S49 a50 25 = some a51 ∧ (ob S49 a51 13 ∧ (vp_in x19 (hN S49 a51) ∧ (∀ S53 : HS, S53 = sI S49 a51 x19.toNatClampNeg x15 → (∃ a54 : Nat, fR S53 v0 4 = some a54 ∧ (ob S53 a54 10 ∧ (∀ x55 : Int32, x55 = fI S53 a54 4 → (∀ x56 : Int32, x56 = x55 + (1 : Int32) → (∀ S57 : HS, S57 = sI S53 a54 4 x56 → (Q S57)))))))))))))))))))))))))))))))))))))))))))))))))))) S13))))) ∧ ((x16 = (5 : Int32)) → (Q S13))))) S10)) S7)) S4)) S1)) S)
set_option maxRecDepth 20000 in
set_option maxHeartbeats 4000000 in
theorem T_X11_readWalker_149 {X : CX} {Q : HS → Prop} (C : Cx X cX11_readWalker RX11 12 rm_X11_readWalker) (E : ReV X rm_X11_readWalker Q) (ht : (xh X).sig.returnType = none) (hn : (xh X).name = yX11_readWalker.name) {v0 : Nat} {v1 : Int64} {v3 : Int32} {v4 : Int32} {s0 : Int32} {S : HS} (h : P_X11_readWalker_149 Q v0 v1 v3 v4 s0 S) : WS X 12 0 0 149 [(0, .ref v0), (1, .long v1), (3, .int v3), (4, .int v4)] [.int s0] S := by
  refine r_istore (pc := 149) C dX11_readWalker_149 (by decide) (lv' := [(5, .int s0), (0, .ref v0), (1, .long v1), (3, .int v3), (4, .int v4)]) rfl ?_
  refine r_aload_n (pc := 151) C dX11_readWalker_151 1 rfl ?_
  refine r_ldsw (pc := 152) C 49 rfl dX11_readWalker_152 ?_
  refine r_iconst (pc := 155) C (v := (1 : Int32)) dX11_readWalker_155 (by decide) ?_
  refine r_bipush (pc := 156) C (v := (9 : Int32)) dX11_readWalker_156 (by decide) ?_
  obtain ⟨o_v0, h⟩ := h
  refine r_callVi0 (pc := 158) C (rest := []) (a := v0) o_v0 [.ref (eK (xE X) 49), .int (1 : Int32), .int (9 : Int32)] yV_X11_readPart g_1422 (c_X11_readPart h) dX11_readWalker_158 rfl rfl (Nat.le_of_ble_eq_true rfl) ⟨by decide, by decide⟩ ⟨by decide, by decide⟩ ⟨rfl, rfl⟩ (fun x3 S1 h g2 => ?_)
  have h := h g2
  have o_v0 := gr_ob g2 o_v0
  refine r_istore (pc := 161) C dX11_readWalker_161 (by decide) (lv' := [(6, .int x3), (5, .int s0), (0, .ref v0), (1, .long v1), (3, .int v3), (4, .int v4)]) rfl ?_
  refine r_aload_n (pc := 163) C dX11_readWalker_163 2 rfl ?_
  refine r_ldsw (pc := 164) C 50 rfl dX11_readWalker_164 ?_
  refine r_iconst (pc := 167) C (v := (1 : Int32)) dX11_readWalker_167 (by decide) ?_
  refine r_bipush (pc := 168) C (v := (9 : Int32)) dX11_readWalker_168 (by decide) ?_
  refine r_callVi0 (pc := 170) C (rest := []) (a := v0) o_v0 [.ref (eK (xE X) 50), .int (1 : Int32), .int (9 : Int32)] yV_X11_readPart g_1422 (c_X11_readPart h) dX11_readWalker_170 rfl rfl (Nat.le_of_ble_eq_true rfl) ⟨by decide, by decide⟩ ⟨by decide, by decide⟩ ⟨rfl, rfl⟩ (fun x6 S4 h g5 => ?_)
  have h := h g5
  have o_v0 := gr_ob g5 o_v0
  refine r_istore (pc := 173) C dX11_readWalker_173 (by decide) (lv' := [(7, .int x6), (6, .int x3), (5, .int s0), (0, .ref v0), (1, .long v1), (3, .int v3), (4, .int v4)]) rfl ?_
  refine r_aload_n (pc := 175) C dX11_readWalker_175 3 rfl ?_
  refine r_ldsw (pc := 176) C 51 rfl dX11_readWalker_176 ?_
  refine r_iload (pc := 179) C dX11_readWalker_179 2 rfl ?_
  refine r_iconst (pc := 181) C (v := (1 : Int32)) dX11_readWalker_181 (by decide) ?_
  refine r_iadd (pc := 182) C dX11_readWalker_182 ?_
  refine r_bipush (pc := 183) C (v := (9 : Int32)) dX11_readWalker_183 (by decide) ?_
  refine r_callVi0 (pc := 185) C (rest := []) (a := v0) o_v0 [.ref (eK (xE X) 51), .int (s0 + (1 : Int32)), .int (9 : Int32)] yV_X11_readPart g_1422 (c_X11_readPart h) dX11_readWalker_185 rfl rfl (Nat.le_of_ble_eq_true rfl) ⟨by decide, by decide⟩ ⟨by decide, by decide⟩ ⟨rfl, rfl⟩ (fun x9 S7 h g8 => ?_)
  have h := h g8
  have o_v0 := gr_ob g8 o_v0
  refine r_istore (pc := 188) C dX11_readWalker_188 (by decide) (lv' := [(8, .int x9), (7, .int x6), (6, .int x3), (5, .int s0), (0, .ref v0), (1, .long v1), (3, .int v3), (4, .int v4)]) rfl ?_
  refine r_aload_n (pc := 190) C dX11_readWalker_190 4 rfl ?_
  refine r_ldsw (pc := 191) C 52 rfl dX11_readWalker_191 ?_
  refine r_iconst (pc := 194) C (v := (1 : Int32)) dX11_readWalker_194 (by decide) ?_
  refine r_bipush (pc := 195) C (v := (9 : Int32)) dX11_readWalker_195 (by decide) ?_
  refine r_callVi0 (pc := 197) C (rest := []) (a := v0) o_v0 [.ref (eK (xE X) 52), .int (1 : Int32), .int (9 : Int32)] yV_X11_readPart g_1422 (c_X11_readPart h) dX11_readWalker_197 rfl rfl (Nat.le_of_ble_eq_true rfl) ⟨by decide, by decide⟩ ⟨by decide, by decide⟩ ⟨rfl, rfl⟩ (fun x12 S10 h g11 => ?_)
  have h := h g11
  have o_v0 := gr_ob g11 o_v0
  refine r_istore (pc := 200) C dX11_readWalker_200 (by decide) (lv' := [(9, .int x12), (8, .int x9), (7, .int x6), (6, .int x3), (5, .int s0), (0, .ref v0), (1, .long v1), (3, .int v3), (4, .int v4)]) rfl ?_
  refine r_aload_n (pc := 202) C dX11_readWalker_202 5 rfl ?_
  refine r_ldsw (pc := 203) C 53 rfl dX11_readWalker_203 ?_
  refine r_iload (pc := 206) C dX11_readWalker_206 0 rfl ?_
  refine r_bipush (pc := 208) C (v := (9 : Int32)) dX11_readWalker_208 (by decide) ?_
  refine r_callVi0 (pc := 210) C (rest := []) (a := v0) o_v0 [.ref (eK (xE X) 53), .int x12, .int (9 : Int32)] yV_X11_readPart g_1422 (c_X11_readPart h) dX11_readWalker_210 rfl rfl (Nat.le_of_ble_eq_true rfl) ⟨by decide, by decide⟩ ⟨by decide, by decide⟩ ⟨rfl, rfl⟩ (fun x15 S13 h g14 => ?_)
  have h := h g14
  have o_v0 := gr_ob g14 o_v0
  refine r_istore (pc := 213) C dX11_readWalker_213 (by decide) (lv' := [(10, .int x15), (9, .int x12), (8, .int x9), (7, .int x6), (6, .int x3), (5, .int s0), (0, .ref v0), (1, .long v1), (3, .int v3), (4, .int v4)]) rfl ?_
  refine r_aload_n (pc := 215) C dX11_readWalker_215 6 rfl ?_
  refine r_geti (pc := 216) C fL_X11_68 dX11_readWalker_216 o_v0 ?_
  refine r_topi (fun x16 ex16 => ?_)
  have h := h x16 ex16
  refine r_iconst (pc := 219) C (v := (5 : Int32)) dX11_readWalker_219 (by decide) ?_
  refine r_icmp_ne (pc := 220) C (tgt := 224) dX11_readWalker_220 (by decide) (fun c17 => ?_) (fun c17 => ?_)
  · have h := h.1 c17
    refine r_aload_n (pc := 224) C dX11_readWalker_224 6 rfl ?_
    obtain ⟨a18, ea18, h⟩ := h
    refine r_getr (pc := 225) C fL_X11_147 dX11_readWalker_225 o_v0 ea18 ?_
    obtain ⟨o_a18, h⟩ := h
    refine r_getNi (pc := 228) C fN_X11_193 dX11_readWalker_228 o_a18 ?_
    refine r_topi (fun x19 ex19 => ?_)
    have h := h x19 ex19
    refine r_istore (pc := 231) C dX11_readWalker_231 (by decide) (lv' := [(11, .int x19), (10, .int x15), (9, .int x12), (8, .int x9), (7, .int x6), (6, .int x3), (5, .int s0), (0, .ref v0), (1, .long v1), (3, .int v3), (4, .int v4)]) rfl ?_
    refine r_aload_n (pc := 233) C dX11_readWalker_233 7 rfl ?_
    refine r_lload_n (pc := 234) C dX11_readWalker_234 8 rfl ?_
    refine r_iconst (pc := 235) C (v := (1 : Int32)) dX11_readWalker_235 (by decide) ?_
    refine r_iload (pc := 236) C dX11_readWalker_236 0 rfl ?_
    refine r_callVv0 (pc := 238) C (rest := []) (a := v0) o_v0 [.long v1, .int (1 : Int32), .int x19] yV_X11_names g_1485 (c_X11_names h) dX11_readWalker_238 rfl rfl (Nat.le_of_ble_eq_true rfl) ⟨by decide, by decide⟩ ⟨by decide, by decide⟩ ⟨rfl, rfl⟩ (fun S20 h g21 => ?_)
    have h := h g21
    have o_a18 := gr_ob g21 o_a18
    have o_v0 := gr_ob g21 o_v0
    refine r_aload_n (pc := 241) C dX11_readWalker_241 7 rfl ?_
    obtain ⟨a23, ea23, h⟩ := h
    refine r_getr (pc := 242) C fL_X11_147 dX11_readWalker_242 o_v0 ea23 ?_
    obtain ⟨o_a23, h⟩ := h
    obtain ⟨a24, ea24, h⟩ := h
    refine r_getNr (pc := 245) C fN_X11_302 dX11_readWalker_245 o_a23 ea24 ?_
    refine r_iload (pc := 248) C dX11_readWalker_248 0 rfl ?_
    refine r_iload_n (pc := 250) C dX11_readWalker_250 9 rfl ?_
    obtain ⟨o_a24, h⟩ := h
    obtain ⟨i25, h⟩ := h
    refine r_iast (pc := 251) C dX11_readWalker_251 o_a24 i25 ?_
    refine r_heap (fun S26 eS26 => ?_)
    have h := h S26 eS26
    have o_a18 := ob_I eS26 o_a18
    have o_a23 := ob_I eS26 o_a23
    have o_a24 := ob_I eS26 o_a24
    have o_v0 := ob_I eS26 o_v0
    refine r_aload_n (pc := 252) C dX11_readWalker_252 7 rfl ?_
    obtain ⟨a27, ea27, h⟩ := h
    refine r_getr (pc := 253) C fL_X11_147 dX11_readWalker_253 o_v0 ea27 ?_
    obtain ⟨o_a27, h⟩ := h
    obtain ⟨a28, ea28, h⟩ := h
    refine r_getNr (pc := 256) C fN_X11_305 dX11_readWalker_256 o_a27 ea28 ?_
    refine r_iload (pc := 259) C dX11_readWalker_259 0 rfl ?_
    refine r_iload (pc := 261) C dX11_readWalker_261 10 rfl ?_
    obtain ⟨o_a28, h⟩ := h
    obtain ⟨i29, h⟩ := h
    refine r_iast (pc := 263) C dX11_readWalker_263 o_a28 i29 ?_
    refine r_heap (fun S30 eS30 => ?_)
    have h := h S30 eS30
    have o_a18 := ob_I eS30 o_a18
    have o_a23 := ob_I eS30 o_a23
    have o_a24 := ob_I eS30 o_a24
    have o_a27 := ob_I eS30 o_a27
    have o_a28 := ob_I eS30 o_a28
    have o_v0 := ob_I eS30 o_v0
    refine r_aload_n (pc := 264) C dX11_readWalker_264 7 rfl ?_
    obtain ⟨a31, ea31, h⟩ := h
    refine r_getr (pc := 265) C fL_X11_147 dX11_readWalker_265 o_v0 ea31 ?_
    obtain ⟨o_a31, h⟩ := h
    obtain ⟨a32, ea32, h⟩ := h
    refine r_getNr (pc := 268) C fN_X11_308 dX11_readWalker_268 o_a31 ea32 ?_
    refine r_iload (pc := 271) C dX11_readWalker_271 0 rfl ?_
    refine r_iload (pc := 273) C dX11_readWalker_273 5 rfl ?_
    refine r_iload (pc := 275) C dX11_readWalker_275 4 rfl ?_
    refine r_iload (pc := 277) C dX11_readWalker_277 6 rfl ?_
    refine r_iadd (pc := 279) C dX11_readWalker_279 ?_
    refine r_imul (pc := 280) C dX11_readWalker_280 ?_
    obtain ⟨o_a32, h⟩ := h
    refine r_topi (fun x34 ex34 => ?_)
    have h := h x34 ex34
    obtain ⟨i33, h⟩ := h
    refine r_iast (pc := 281) C dX11_readWalker_281 o_a32 i33 ?_
    refine r_heap (fun S35 eS35 => ?_)
    have h := h S35 eS35
    have o_a18 := ob_I eS35 o_a18
    have o_a23 := ob_I eS35 o_a23
    have o_a24 := ob_I eS35 o_a24
    have o_a27 := ob_I eS35 o_a27
    have o_a28 := ob_I eS35 o_a28
    have o_a31 := ob_I eS35 o_a31
    have o_a32 := ob_I eS35 o_a32
    have o_v0 := ob_I eS35 o_v0
    refine r_aload_n (pc := 282) C dX11_readWalker_282 7 rfl ?_
    obtain ⟨a36, ea36, h⟩ := h
    refine r_getr (pc := 283) C fL_X11_147 dX11_readWalker_283 o_v0 ea36 ?_
    obtain ⟨o_a36, h⟩ := h
    obtain ⟨a37, ea37, h⟩ := h
    refine r_getNr (pc := 286) C fN_X11_311 dX11_readWalker_286 o_a36 ea37 ?_
    refine r_iload (pc := 289) C dX11_readWalker_289 0 rfl ?_
    refine r_iload (pc := 291) C dX11_readWalker_291 5 rfl ?_
    refine r_iload (pc := 293) C dX11_readWalker_293 3 rfl ?_
    refine r_iload (pc := 295) C dX11_readWalker_295 6 rfl ?_
    refine r_isub (pc := 297) C dX11_readWalker_297 ?_
    refine r_imul (pc := 298) C dX11_readWalker_298 ?_
    obtain ⟨o_a37, h⟩ := h
    refine r_topi (fun x39 ex39 => ?_)
    have h := h x39 ex39
    obtain ⟨i38, h⟩ := h
    refine r_iast (pc := 299) C dX11_readWalker_299 o_a37 i38 ?_
    refine r_heap (fun S40 eS40 => ?_)
    have h := h S40 eS40
    have o_a18 := ob_I eS40 o_a18
    have o_a23 := ob_I eS40 o_a23
    have o_a24 := ob_I eS40 o_a24
    have o_a27 := ob_I eS40 o_a27
    have o_a28 := ob_I eS40 o_a28
    have o_a31 := ob_I eS40 o_a31
    have o_a32 := ob_I eS40 o_a32
    have o_a36 := ob_I eS40 o_a36
    have o_a37 := ob_I eS40 o_a37
    have o_v0 := ob_I eS40 o_v0
    refine r_aload_n (pc := 300) C dX11_readWalker_300 7 rfl ?_
    obtain ⟨a41, ea41, h⟩ := h
    refine r_getr (pc := 301) C fL_X11_147 dX11_readWalker_301 o_v0 ea41 ?_
    obtain ⟨o_a41, h⟩ := h
    obtain ⟨a42, ea42, h⟩ := h
    refine r_getNr (pc := 304) C fN_X11_314 dX11_readWalker_304 o_a41 ea42 ?_
    refine r_iload (pc := 307) C dX11_readWalker_307 0 rfl ?_
    refine r_iload (pc := 309) C dX11_readWalker_309 4 rfl ?_
    refine r_iload (pc := 311) C dX11_readWalker_311 6 rfl ?_
    refine r_iadd (pc := 313) C dX11_readWalker_313 ?_
    refine r_iload (pc := 314) C dX11_readWalker_314 3 rfl ?_
    refine r_iload (pc := 316) C dX11_readWalker_316 6 rfl ?_
    refine r_isub (pc := 318) C dX11_readWalker_318 ?_
    refine r_imul (pc := 319) C dX11_readWalker_319 ?_
    obtain ⟨o_a42, h⟩ := h
    refine r_topi (fun x44 ex44 => ?_)
    have h := h x44 ex44
    obtain ⟨i43, h⟩ := h
    refine r_iast (pc := 320) C dX11_readWalker_320 o_a42 i43 ?_
    refine r_heap (fun S45 eS45 => ?_)
    have h := h S45 eS45
    have o_a18 := ob_I eS45 o_a18
    have o_a23 := ob_I eS45 o_a23
    have o_a24 := ob_I eS45 o_a24
    have o_a27 := ob_I eS45 o_a27
    have o_a28 := ob_I eS45 o_a28
    have o_a31 := ob_I eS45 o_a31
    have o_a32 := ob_I eS45 o_a32
    have o_a36 := ob_I eS45 o_a36
    have o_a37 := ob_I eS45 o_a37
    have o_a41 := ob_I eS45 o_a41
    have o_a42 := ob_I eS45 o_a42
    have o_v0 := ob_I eS45 o_v0
    refine r_aload_n (pc := 321) C dX11_readWalker_321 7 rfl ?_
    obtain ⟨a46, ea46, h⟩ := h
    refine r_getr (pc := 322) C fL_X11_147 dX11_readWalker_322 o_v0 ea46 ?_
    obtain ⟨o_a46, h⟩ := h
    obtain ⟨a47, ea47, h⟩ := h
    refine r_getNr (pc := 325) C fN_X11_317 dX11_readWalker_325 o_a46 ea47 ?_
    refine r_iload (pc := 328) C dX11_readWalker_328 0 rfl ?_
    refine r_iload (pc := 330) C dX11_readWalker_330 2 rfl ?_
    obtain ⟨o_a47, h⟩ := h
    obtain ⟨i48, h⟩ := h
    refine r_iast (pc := 332) C dX11_readWalker_332 o_a47 i48 ?_
    refine r_heap (fun S49 eS49 => ?_)
    have h := h S49 eS49
    have o_a18 := ob_I eS49 o_a18
    have o_a23 := ob_I eS49 o_a23
    have o_a24 := ob_I eS49 o_a24
    have o_a27 := ob_I eS49 o_a27
    have o_a28 := ob_I eS49 o_a28
    have o_a31 := ob_I eS49 o_a31
    have o_a32 := ob_I eS49 o_a32
    have o_a36 := ob_I eS49 o_a36
    have o_a37 := ob_I eS49 o_a37
    have o_a41 := ob_I eS49 o_a41
    have o_a42 := ob_I eS49 o_a42
    have o_a46 := ob_I eS49 o_a46
    have o_a47 := ob_I eS49 o_a47
    have o_v0 := ob_I eS49 o_v0
    refine r_aload_n (pc := 333) C dX11_readWalker_333 7 rfl ?_
    obtain ⟨a50, ea50, h⟩ := h
    refine r_getr (pc := 334) C fL_X11_147 dX11_readWalker_334 o_v0 ea50 ?_
    obtain ⟨o_a50, h⟩ := h
    obtain ⟨a51, ea51, h⟩ := h
    refine r_getNr (pc := 337) C fN_X11_320 dX11_readWalker_337 o_a50 ea51 ?_
    refine r_iload (pc := 340) C dX11_readWalker_340 0 rfl ?_
    refine r_iload (pc := 342) C dX11_readWalker_342 1 rfl ?_
    obtain ⟨o_a51, h⟩ := h
    obtain ⟨i52, h⟩ := h
    refine r_iast (pc := 344) C dX11_readWalker_344 o_a51 i52 ?_
    refine r_heap (fun S53 eS53 => ?_)
    have h := h S53 eS53
    have o_a18 := ob_I eS53 o_a18
    have o_a23 := ob_I eS53 o_a23
    have o_a24 := ob_I eS53 o_a24
    have o_a27 := ob_I eS53 o_a27
    have o_a28 := ob_I eS53 o_a28
    have o_a31 := ob_I eS53 o_a31
    have o_a32 := ob_I eS53 o_a32
    have o_a36 := ob_I eS53 o_a36
    have o_a37 := ob_I eS53 o_a37
    have o_a41 := ob_I eS53 o_a41
    have o_a42 := ob_I eS53 o_a42
    have o_a46 := ob_I eS53 o_a46
    have o_a47 := ob_I eS53 o_a47
    have o_a50 := ob_I eS53 o_a50
    have o_a51 := ob_I eS53 o_a51
    have o_v0 := ob_I eS53 o_v0
    refine r_aload_n (pc := 345) C dX11_readWalker_345 7 rfl ?_
    obtain ⟨a54, ea54, h⟩ := h
    refine r_getr (pc := 346) C fL_X11_147 dX11_readWalker_346 o_v0 ea54 ?_
    refine r_dup (pc := 349) C dX11_readWalker_349 rfl ?_
    obtain ⟨o_a54, h⟩ := h
    refine r_getNi (pc := 350) C fN_X11_193 dX11_readWalker_350 o_a54 ?_
    refine r_topi (fun x55 ex55 => ?_)
    have h := h x55 ex55
    refine r_iconst (pc := 353) C (v := (1 : Int32)) dX11_readWalker_353 (by decide) ?_
    refine r_iadd (pc := 354) C dX11_readWalker_354 ?_
    refine r_topi (fun x56 ex56 => ?_)
    have h := h x56 ex56
    refine r_putNi (pc := 355) C pfN_X11_193 dX11_readWalker_355 o_a54 ?_
    refine r_heap (fun S57 eS57 => ?_)
    have h := h S57 eS57
    have o_a18 := ob_I eS57 o_a18
    have o_a23 := ob_I eS57 o_a23
    have o_a24 := ob_I eS57 o_a24
    have o_a27 := ob_I eS57 o_a27
    have o_a28 := ob_I eS57 o_a28
    have o_a31 := ob_I eS57 o_a31
    have o_a32 := ob_I eS57 o_a32
    have o_a36 := ob_I eS57 o_a36
    have o_a37 := ob_I eS57 o_a37
    have o_a41 := ob_I eS57 o_a41
    have o_a42 := ob_I eS57 o_a42
    have o_a46 := ob_I eS57 o_a46
    have o_a47 := ob_I eS57 o_a47
    have o_a50 := ob_I eS57 o_a50
    have o_a51 := ob_I eS57 o_a51
    have o_a54 := ob_I eS57 o_a54
    have o_v0 := ob_I eS57 o_v0
    exact r_vret (pc := 358) C E ht dX11_readWalker_358 (by decide) (by decide) h
  · have h := h.2 c17
    exact r_vret (pc := 223) C E ht dX11_readWalker_223 (by decide) (by decide) h
def P_X11_readWalker_136 (Q : HS → Prop) (v0 : Nat) (v1 : Int64) (v3 : Int32) (s0 : Int32) (S : HS) : Prop := ((¬ v3 = (1 : Int32)) → (P_X11_readWalker_149 Q v0 v1 v3 s0 (0 : Int32) S)) ∧ ((v3 = (1 : Int32)) → (P_X11_readWalker_149 Q v0 v1 v3 s0 s0 S))
set_option maxRecDepth 20000 in
set_option maxHeartbeats 4000000 in
theorem T_X11_readWalker_136 {X : CX} {Q : HS → Prop} (C : Cx X cX11_readWalker RX11 12 rm_X11_readWalker) (E : ReV X rm_X11_readWalker Q) (ht : (xh X).sig.returnType = none) (hn : (xh X).name = yX11_readWalker.name) {v0 : Nat} {v1 : Int64} {v3 : Int32} {s0 : Int32} {S : HS} (h : P_X11_readWalker_136 Q v0 v1 v3 s0 S) : WS X 12 0 0 136 [(0, .ref v0), (1, .long v1), (3, .int v3)] [.int s0] S := by
  refine r_istore (pc := 136) C dX11_readWalker_136 (by decide) (lv' := [(4, .int s0), (0, .ref v0), (1, .long v1), (3, .int v3)]) rfl ?_
  refine r_iload_n (pc := 138) C dX11_readWalker_138 3 rfl ?_
  refine r_iconst (pc := 139) C (v := (1 : Int32)) dX11_readWalker_139 (by decide) ?_
  refine r_icmp_ne (pc := 140) C (tgt := 148) dX11_readWalker_140 (by decide) (fun c1 => ?_) (fun c1 => ?_)
  · have h := h.1 c1
    refine r_iconst (pc := 148) C (v := (0 : Int32)) dX11_readWalker_148 (by decide) ?_
    exact r_sub [1, 2, 3, 0] rfl (T_X11_readWalker_149 C E ht hn h)
  · have h := h.2 c1
    refine r_iload (pc := 143) C dX11_readWalker_143 0 rfl ?_
    refine r_goto (pc := 145) C (tgt := 149) dX11_readWalker_145 (by decide) ?_
    exact r_sub [1, 2, 3, 0] rfl (T_X11_readWalker_149 C E ht hn h)
def P_X11_readWalker_85 (Q : HS → Prop) (v0 : Nat) (v1 : Int64) (v3 : Int32) (S : HS) : Prop := ob S v0 11 ∧ (P_X11_goesOn v0 (fun S1 => Gr S S1 → (((¬ v3 = (1 : Int32)) → (((¬ v3 = (2 : Int32)) → (((¬ v3 = (3 : Int32)) → (P_X11_readWalker_136 Q v0 v1 v3 (0 : Int32) S1)) ∧ ((v3 = (3 : Int32)) → (P_X11_readWhole v0 (1 : Int32) (99 : Int32) (fun x9 S7 => Gr S1 S7 → (P_X11_readWalker_136 Q v0 v1 v3 x9 S7)) S1)))) ∧ ((v3 = (2 : Int32)) → (P_X11_readWhole v0 (0 : Int32) (999 : Int32) (fun x12 S10 => Gr S1 S10 → (P_X11_readWalker_136 Q v0 v1 v3 x12 S10)) S1)))) ∧ ((v3 = (1 : Int32)) → (P_X11_readWhole v0 (1 : Int32) (8 : Int32) (fun x15 S13 => Gr S1 S13 → (P_X11_readWalker_136 Q v0 v1 v3 x15 S13)) S1)))) S)
set_option maxRecDepth 20000 in
set_option maxHeartbeats 4000000 in
theorem T_X11_readWalker_85 {X : CX} {Q : HS → Prop} (C : Cx X cX11_readWalker RX11 12 rm_X11_readWalker) (E : ReV X rm_X11_readWalker Q) (ht : (xh X).sig.returnType = none) (hn : (xh X).name = yX11_readWalker.name) {v0 : Nat} {v1 : Int64} {v3 : Int32} {S : HS} (h : P_X11_readWalker_85 Q v0 v1 v3 S) : WS X 12 0 0 85 [(0, .ref v0), (1, .long v1), (3, .int v3)] [] S := by
  refine r_aload_n (pc := 85) C dX11_readWalker_85 0 rfl ?_
  obtain ⟨o_v0, h⟩ := h
  refine r_callVv0 (pc := 86) C (rest := []) (a := v0) o_v0 [] yV_X11_goesOn g_1380 (c_X11_goesOn h) dX11_readWalker_86 rfl rfl (Nat.le_of_ble_eq_true rfl) ⟨by decide, by decide⟩ ⟨by decide, by decide⟩ ⟨rfl, rfl⟩ (fun S1 h g2 => ?_)
  have h := h g2
  have o_v0 := gr_ob g2 o_v0
  refine r_iload_n (pc := 89) C dX11_readWalker_89 2 rfl ?_
  refine r_iconst (pc := 90) C (v := (1 : Int32)) dX11_readWalker_90 (by decide) ?_
  refine r_icmp_ne (pc := 91) C (tgt := 104) dX11_readWalker_91 (by decide) (fun c4 => ?_) (fun c4 => ?_)
  · have h := h.1 c4
    refine r_iload_n (pc := 104) C dX11_readWalker_104 2 rfl ?_
    refine r_iconst (pc := 105) C (v := (2 : Int32)) dX11_readWalker_105 (by decide) ?_
    refine r_icmp_ne (pc := 106) C (tgt := 120) dX11_readWalker_106 (by decide) (fun c5 => ?_) (fun c5 => ?_)
    · have h := h.1 c5
      refine r_iload_n (pc := 120) C dX11_readWalker_120 2 rfl ?_
      refine r_iconst (pc := 121) C (v := (3 : Int32)) dX11_readWalker_121 (by decide) ?_
      refine r_icmp_ne (pc := 122) C (tgt := 135) dX11_readWalker_122 (by decide) (fun c6 => ?_) (fun c6 => ?_)
      · have h := h.1 c6
        refine r_iconst (pc := 135) C (v := (0 : Int32)) dX11_readWalker_135 (by decide) ?_
        exact r_sub [0, 1, 2] rfl (T_X11_readWalker_136 C E ht hn h)
      · have h := h.2 c6
        refine r_aload_n (pc := 125) C dX11_readWalker_125 0 rfl ?_
        refine r_iconst (pc := 126) C (v := (1 : Int32)) dX11_readWalker_126 (by decide) ?_
        refine r_bipush (pc := 127) C (v := (99 : Int32)) dX11_readWalker_127 (by decide) ?_
        refine r_callVi0 (pc := 129) C (rest := []) (a := v0) o_v0 [.int (1 : Int32), .int (99 : Int32)] yV_X11_readWhole g_1430 (c_X11_readWhole h) dX11_readWalker_129 rfl rfl (Nat.le_of_ble_eq_true rfl) ⟨by decide, by decide⟩ ⟨by decide, by decide⟩ ⟨rfl, rfl⟩ (fun x9 S7 h g8 => ?_)
        have h := h g8
        have o_v0 := gr_ob g8 o_v0
        refine r_goto (pc := 132) C (tgt := 136) dX11_readWalker_132 (by decide) ?_
        exact r_sub [0, 1, 2] rfl (T_X11_readWalker_136 C E ht hn h)
    · have h := h.2 c5
      refine r_aload_n (pc := 109) C dX11_readWalker_109 0 rfl ?_
      refine r_iconst (pc := 110) C (v := (0 : Int32)) dX11_readWalker_110 (by decide) ?_
      refine r_sipush (pc := 111) C (v := (999 : Int32)) dX11_readWalker_111 (by decide) ?_
      refine r_callVi0 (pc := 114) C (rest := []) (a := v0) o_v0 [.int (0 : Int32), .int (999 : Int32)] yV_X11_readWhole g_1430 (c_X11_readWhole h) dX11_readWalker_114 rfl rfl (Nat.le_of_ble_eq_true rfl) ⟨by decide, by decide⟩ ⟨by decide, by decide⟩ ⟨rfl, rfl⟩ (fun x12 S10 h g11 => ?_)
      have h := h g11
      have o_v0 := gr_ob g11 o_v0
      refine r_goto (pc := 117) C (tgt := 136) dX11_readWalker_117 (by decide) ?_
      exact r_sub [0, 1, 2] rfl (T_X11_readWalker_136 C E ht hn h)
  · have h := h.2 c4
    refine r_aload_n (pc := 94) C dX11_readWalker_94 0 rfl ?_
    refine r_iconst (pc := 95) C (v := (1 : Int32)) dX11_readWalker_95 (by decide) ?_
    refine r_bipush (pc := 96) C (v := (8 : Int32)) dX11_readWalker_96 (by decide) ?_
    refine r_callVi0 (pc := 98) C (rest := []) (a := v0) o_v0 [.int (1 : Int32), .int (8 : Int32)] yV_X11_readWhole g_1430 (c_X11_readWhole h) dX11_readWalker_98 rfl rfl (Nat.le_of_ble_eq_true rfl) ⟨by decide, by decide⟩ ⟨by decide, by decide⟩ ⟨rfl, rfl⟩ (fun x15 S13 h g14 => ?_)
    have h := h g14
    have o_v0 := gr_ob g14 o_v0
    refine r_goto (pc := 101) C (tgt := 136) dX11_readWalker_101 (by decide) ?_
    exact r_sub [0, 1, 2] rfl (T_X11_readWalker_136 C E ht hn h)
def P_X11_readWalker_74 (Q : HS → Prop) (v0 : Nat) (v1 : Int64) (s0 : Int32) (S : HS) : Prop := ((¬ s0 = (-1 : Int32)) → (P_X11_readWalker_85 Q v0 v1 s0 S)) ∧ ((s0 = (-1 : Int32)) → (ob S v0 11 ∧ (P_X11_flaw v0 (1 : Int32) (fun S2 => Gr S S2 → (P_X11_readWalker_85 Q v0 v1 s0 S2)) S)))
set_option maxRecDepth 20000 in
set_option maxHeartbeats 4000000 in
theorem T_X11_readWalker_74 {X : CX} {Q : HS → Prop} (C : Cx X cX11_readWalker RX11 12 rm_X11_readWalker) (E : ReV X rm_X11_readWalker Q) (ht : (xh X).sig.returnType = none) (hn : (xh X).name = yX11_readWalker.name) {v0 : Nat} {v1 : Int64} {s0 : Int32} {S : HS} (h : P_X11_readWalker_74 Q v0 v1 s0 S) : WS X 12 0 0 74 [(0, .ref v0), (1, .long v1)] [.int s0] S := by
  refine r_istore_n (pc := 74) C dX11_readWalker_74 rfl (by decide) (lv' := [(3, .int s0), (0, .ref v0), (1, .long v1)]) rfl ?_
  refine r_iload_n (pc := 75) C dX11_readWalker_75 0 rfl ?_
  refine r_iconst (pc := 76) C (v := (-1 : Int32)) dX11_readWalker_76 (by decide) ?_
  refine r_icmp_ne (pc := 77) C (tgt := 85) dX11_readWalker_77 (by decide) (fun c1 => ?_) (fun c1 => ?_)
  · have h := h.1 c1
    exact r_sub [1, 2, 0] rfl (T_X11_readWalker_85 C E ht hn h)
  · have h := h.2 c1
    refine r_aload_n (pc := 80) C dX11_readWalker_80 1 rfl ?_
    refine r_iconst (pc := 81) C (v := (1 : Int32)) dX11_readWalker_81 (by decide) ?_
    obtain ⟨o_v0, h⟩ := h
    refine r_callVv0 (pc := 82) C (rest := []) (a := v0) o_v0 [.int (1 : Int32)] yV_X11_flaw g_1417 (c_X11_flaw h) dX11_readWalker_82 rfl rfl (Nat.le_of_ble_eq_true rfl) ⟨by decide, by decide⟩ ⟨by decide, by decide⟩ ⟨rfl, rfl⟩ (fun S2 h g3 => ?_)
    have h := h g3
    have o_v0 := gr_ob g3 o_v0
    exact r_sub [1, 2, 0] rfl (T_X11_readWalker_85 C E ht hn h)
def P_X11_readWalker_0 (Q : HS → Prop) (v0 : Nat) (S : HS) : Prop := ob S v0 11 ∧ (∃ a1 : Nat, fR S v0 4 = some a1 ∧ (ob S a1 10 ∧ (∀ x2 : Int32, x2 = fI S a1 4 → (P_X11_begins v0 x2 (4 : Int32) (fun S3 => Gr S S3 → (P_X11_readFresh v0 (fun x8 S6 => Gr S3 S6 → (P_X11_isWord v0 45 (fun x11 S9 => Gr S6 S9 → bl x11 → (((x11 = 0) → (P_X11_isWord v0 46 (fun x15 S13 => Gr S9 S13 → bl x15 → (((x15 = 0) → (P_X11_isWord v0 47 (fun x19 S17 => Gr S13 S17 → bl x19 → (((x19 = 0) → (P_X11_isWord v0 48 (fun x23 S21 => Gr S17 S21 → bl x23 → (((x23 = 0) → (P_X11_readWalker_74 Q v0 x8 (-1 : Int32) S21)) ∧ ((¬ x23 = 0) → (P_X11_readWalker_74 Q v0 x8 (3 : Int32) S21)))) S17)) ∧ ((¬ x19 = 0) → (P_X11_readWalker_74 Q v0 x8 (2 : Int32) S17)))) S13)) ∧ ((¬ x15 = 0) → (P_X11_readWalker_74 Q v0 x8 (1 : Int32) S13)))) S9)) ∧ ((¬ x11 = 0) → (P_X11_readWalker_74 Q v0 x8 (0 : Int32) S9)))) S6)) S3)) S))))
set_option maxRecDepth 20000 in
set_option maxHeartbeats 4000000 in
theorem T_X11_readWalker_0 {X : CX} {Q : HS → Prop} (C : Cx X cX11_readWalker RX11 12 rm_X11_readWalker) (E : ReV X rm_X11_readWalker Q) (ht : (xh X).sig.returnType = none) (hn : (xh X).name = yX11_readWalker.name) {v0 : Nat} {S : HS} (h : P_X11_readWalker_0 Q v0 S) : WS X 12 0 0 0 [(0, .ref v0)] [] S := by
  refine r_aload_n (pc := 0) C dX11_readWalker_0 0 rfl ?_
  refine r_aload_n (pc := 1) C dX11_readWalker_1 0 rfl ?_
  obtain ⟨o_v0, h⟩ := h
  obtain ⟨a1, ea1, h⟩ := h
  refine r_getr (pc := 2) C fL_X11_147 dX11_readWalker_2 o_v0 ea1 ?_
  obtain ⟨o_a1, h⟩ := h
  refine r_getNi (pc := 5) C fN_X11_193 dX11_readWalker_5 o_a1 ?_
  refine r_topi (fun x2 ex2 => ?_)
  have h := h x2 ex2
  refine r_iconst (pc := 8) C (v := (4 : Int32)) dX11_readWalker_8 (by decide) ?_
  refine r_callVv0 (pc := 9) C (rest := []) (a := v0) o_v0 [.int x2, .int (4 : Int32)] yV_X11_begins g_1442 (c_X11_begins h) dX11_readWalker_9 rfl rfl (Nat.le_of_ble_eq_true rfl) ⟨by decide, by decide⟩ ⟨by decide, by decide⟩ ⟨rfl, rfl⟩ (fun S3 h g4 => ?_)
  have h := h g4
  have o_a1 := gr_ob g4 o_a1
  have o_v0 := gr_ob g4 o_v0
  refine r_aload_n (pc := 12) C dX11_readWalker_12 0 rfl ?_
  refine r_callVl0 (pc := 13) C (rest := []) (a := v0) o_v0 [] yV_X11_readFresh g_1463 (c_X11_readFresh h) dX11_readWalker_13 rfl rfl (Nat.le_of_ble_eq_true rfl) ⟨by decide, by decide⟩ ⟨by decide, by decide⟩ ⟨rfl, rfl⟩ (fun x8 S6 h g7 => ?_)
  have h := h g7
  have o_a1 := gr_ob g7 o_a1
  have o_v0 := gr_ob g7 o_v0
  refine r_lstore_n (pc := 16) C dX11_readWalker_16 rfl (by decide) (lv' := [(1, .long x8), (0, .ref v0)]) rfl ?_
  refine r_aload_n (pc := 17) C dX11_readWalker_17 1 rfl ?_
  refine r_ldsw (pc := 18) C 45 rfl dX11_readWalker_18 ?_
  refine r_callVi0 (pc := 21) C (rest := []) (a := v0) o_v0 [.ref (eK (xE X) 45)] yV_X11_isWord g_1404 (c_X11_isWord h) dX11_readWalker_21 rfl rfl (Nat.le_of_ble_eq_true rfl) ⟨by decide, by decide⟩ ⟨by decide, by decide⟩ ⟨rfl, rfl⟩ (fun x11 S9 h g10 => ?_)
  have bx11 := h.1
  have h := h.2 g10 bx11
  have o_a1 := gr_ob g10 o_a1
  have o_v0 := gr_ob g10 o_v0
  refine r_if_eq (pc := 24) C (tgt := 31) dX11_readWalker_24 (by decide) (fun c12 => ?_) (fun c12 => ?_)
  · have h := h.1 c12
    refine r_aload_n (pc := 31) C dX11_readWalker_31 1 rfl ?_
    refine r_ldsw (pc := 32) C 46 rfl dX11_readWalker_32 ?_
    refine r_callVi0 (pc := 35) C (rest := []) (a := v0) o_v0 [.ref (eK (xE X) 46)] yV_X11_isWord g_1404 (c_X11_isWord h) dX11_readWalker_35 rfl rfl (Nat.le_of_ble_eq_true rfl) ⟨by decide, by decide⟩ ⟨by decide, by decide⟩ ⟨rfl, rfl⟩ (fun x15 S13 h g14 => ?_)
    have bx15 := h.1
    have h := h.2 g14 bx15
    have o_a1 := gr_ob g14 o_a1
    have o_v0 := gr_ob g14 o_v0
    refine r_if_eq (pc := 38) C (tgt := 45) dX11_readWalker_38 (by decide) (fun c16 => ?_) (fun c16 => ?_)
    · have h := h.1 c16
      refine r_aload_n (pc := 45) C dX11_readWalker_45 1 rfl ?_
      refine r_ldsw (pc := 46) C 47 rfl dX11_readWalker_46 ?_
      refine r_callVi0 (pc := 49) C (rest := []) (a := v0) o_v0 [.ref (eK (xE X) 47)] yV_X11_isWord g_1404 (c_X11_isWord h) dX11_readWalker_49 rfl rfl (Nat.le_of_ble_eq_true rfl) ⟨by decide, by decide⟩ ⟨by decide, by decide⟩ ⟨rfl, rfl⟩ (fun x19 S17 h g18 => ?_)
      have bx19 := h.1
      have h := h.2 g18 bx19
      have o_a1 := gr_ob g18 o_a1
      have o_v0 := gr_ob g18 o_v0
      refine r_if_eq (pc := 52) C (tgt := 59) dX11_readWalker_52 (by decide) (fun c20 => ?_) (fun c20 => ?_)
      · have h := h.1 c20
        refine r_aload_n (pc := 59) C dX11_readWalker_59 1 rfl ?_
        refine r_ldsw (pc := 60) C 48 rfl dX11_readWalker_60 ?_
        refine r_callVi0 (pc := 63) C (rest := []) (a := v0) o_v0 [.ref (eK (xE X) 48)] yV_X11_isWord g_1404 (c_X11_isWord h) dX11_readWalker_63 rfl rfl (Nat.le_of_ble_eq_true rfl) ⟨by decide, by decide⟩ ⟨by decide, by decide⟩ ⟨rfl, rfl⟩ (fun x23 S21 h g22 => ?_)
        have bx23 := h.1
        have h := h.2 g22 bx23
        have o_a1 := gr_ob g22 o_a1
        have o_v0 := gr_ob g22 o_v0
        refine r_if_eq (pc := 66) C (tgt := 73) dX11_readWalker_66 (by decide) (fun c24 => ?_) (fun c24 => ?_)
        · have h := h.1 c24
          refine r_iconst (pc := 73) C (v := (-1 : Int32)) dX11_readWalker_73 (by decide) ?_
          exact r_sub [1, 0] rfl (T_X11_readWalker_74 C E ht hn h)
        · have h := h.2 c24
          refine r_iconst (pc := 69) C (v := (3 : Int32)) dX11_readWalker_69 (by decide) ?_
          refine r_goto (pc := 70) C (tgt := 74) dX11_readWalker_70 (by decide) ?_
          exact r_sub [1, 0] rfl (T_X11_readWalker_74 C E ht hn h)
      · have h := h.2 c20
        refine r_iconst (pc := 55) C (v := (2 : Int32)) dX11_readWalker_55 (by decide) ?_
        refine r_goto (pc := 56) C (tgt := 74) dX11_readWalker_56 (by decide) ?_
        exact r_sub [1, 0] rfl (T_X11_readWalker_74 C E ht hn h)
    · have h := h.2 c16
      refine r_iconst (pc := 41) C (v := (1 : Int32)) dX11_readWalker_41 (by decide) ?_
      refine r_goto (pc := 42) C (tgt := 74) dX11_readWalker_42 (by decide) ?_
      exact r_sub [1, 0] rfl (T_X11_readWalker_74 C E ht hn h)
  · have h := h.2 c12
    refine r_iconst (pc := 27) C (v := (0 : Int32)) dX11_readWalker_27 (by decide) ?_
    refine r_goto (pc := 28) C (tgt := 74) dX11_readWalker_28 (by decide) ?_
    exact r_sub [1, 0] rfl (T_X11_readWalker_74 C E ht hn h)
def P_X11_readWalker (v0 : Nat) (Q : HS → Prop) (S : HS) : Prop := P_X11_readWalker_0 Q v0 S
theorem c_X11_readWalker {l : Launch} {Ee : EE} {S : HS} {v0 : Nat} {Q : HS → Prop} (h : P_X11_readWalker v0 Q S) : MV l yX11_readWalker cX11_readWalker 12 none rm_X11_readWalker Ee S [.ref v0] Q :=
  openV (by decide) (Nat.le_of_ble_eq_true rfl) (fun X C E ht hn hE hl => by subst hE; exact r_sub [0] rfl (T_X11_readWalker_0 C E ht hn h))
def rm_X11_readWorld : Room := { frames := 9, cells := 0, slots := 0, locals := 208 }
def P_X11_readWorld_15 (Q : HS → Prop) (v0 : Nat) (S : HS) : Prop := ob S v0 11 ∧ (P_X11_goesOn v0 (fun S1 => Gr S S1 → (P_X11_readPart v0 28 (5 : Int32) (60 : Int32) (fun x6 S4 => Gr S1 S4 → (∀ x7 : Int32, x7 = fI S4 v0 9 → (((x7 = (5 : Int32)) → (Q S4)) ∧ ((¬ x7 = (5 : Int32)) → (∃ a9 : Nat, fR S4 v0 4 = some a9 ∧ (ob S4 a9 10 ∧ (∀ S10 : HS, S10 = sI S4 a9 0 x6 → (Q S10)))))))) S1)) S)
set_option maxRecDepth 20000 in
set_option maxHeartbeats 4000000 in
theorem T_X11_readWorld_15 {X : CX} {Q : HS → Prop} (C : Cx X cX11_readWorld RX11 2 rm_X11_readWorld) (E : ReV X rm_X11_readWorld Q) (ht : (xh X).sig.returnType = none) (hn : (xh X).name = yX11_readWorld.name) {v0 : Nat} {S : HS} (h : P_X11_readWorld_15 Q v0 S) : WS X 2 0 0 15 [(0, .ref v0)] [] S := by
  refine r_aload_n (pc := 15) C dX11_readWorld_15 0 rfl ?_
  obtain ⟨o_v0, h⟩ := h
  refine r_callVv0 (pc := 16) C (rest := []) (a := v0) o_v0 [] yV_X11_goesOn g_1380 (c_X11_goesOn h) dX11_readWorld_16 rfl rfl (Nat.le_of_ble_eq_true rfl) ⟨by decide, by decide⟩ ⟨by decide, by decide⟩ ⟨rfl, rfl⟩ (fun S1 h g2 => ?_)
  have h := h g2
  have o_v0 := gr_ob g2 o_v0
  refine r_aload_n (pc := 19) C dX11_readWorld_19 0 rfl ?_
  refine r_lds (pc := 20) C 28 rfl dX11_readWorld_20 ?_
  refine r_iconst (pc := 22) C (v := (5 : Int32)) dX11_readWorld_22 (by decide) ?_
  refine r_bipush (pc := 23) C (v := (60 : Int32)) dX11_readWorld_23 (by decide) ?_
  refine r_callVi0 (pc := 25) C (rest := []) (a := v0) o_v0 [.ref (eK (xE X) 28), .int (5 : Int32), .int (60 : Int32)] yV_X11_readPart g_1422 (c_X11_readPart h) dX11_readWorld_25 rfl rfl (Nat.le_of_ble_eq_true rfl) ⟨by decide, by decide⟩ ⟨by decide, by decide⟩ ⟨rfl, rfl⟩ (fun x6 S4 h g5 => ?_)
  have h := h g5
  have o_v0 := gr_ob g5 o_v0
  refine r_istore_n (pc := 28) C dX11_readWorld_28 rfl (by decide) (lv' := [(1, .int x6), (0, .ref v0)]) rfl ?_
  refine r_aload_n (pc := 29) C dX11_readWorld_29 1 rfl ?_
  refine r_geti (pc := 30) C fL_X11_68 dX11_readWorld_30 o_v0 ?_
  refine r_topi (fun x7 ex7 => ?_)
  have h := h x7 ex7
  refine r_iconst (pc := 33) C (v := (5 : Int32)) dX11_readWorld_33 (by decide) ?_
  refine r_icmp_eq (pc := 34) C (tgt := 45) dX11_readWorld_34 (by decide) (fun c8 => ?_) (fun c8 => ?_)
  · have h := h.1 c8
    exact r_vret (pc := 45) C E ht dX11_readWorld_45 (by decide) (by decide) h
  · have h := h.2 c8
    refine r_aload_n (pc := 37) C dX11_readWorld_37 1 rfl ?_
    obtain ⟨a9, ea9, h⟩ := h
    refine r_getr (pc := 38) C fL_X11_147 dX11_readWorld_38 o_v0 ea9 ?_
    refine r_iload_n (pc := 41) C dX11_readWorld_41 0 rfl ?_
    obtain ⟨o_a9, h⟩ := h
    refine r_putNi (pc := 42) C pfN_X11_151 dX11_readWorld_42 o_a9 ?_
    refine r_heap (fun S10 eS10 => ?_)
    have h := h S10 eS10
    have o_a9 := ob_I eS10 o_a9
    have o_v0 := ob_I eS10 o_v0
    exact r_vret (pc := 45) C E ht dX11_readWorld_45 (by decide) (by decide) h
def P_X11_readWorld_0 (Q : HS → Prop) (v0 : Nat) (S : HS) : Prop := ob S v0 11 ∧ (∃ a1 : Nat, fR S v0 4 = some a1 ∧ (ob S a1 10 ∧ (∀ x2 : Int32, x2 = fI S a1 0 → (((x2 ≤ 0) → (P_X11_readWorld_15 Q v0 S)) ∧ ((¬ x2 ≤ 0) → (P_X11_flaw v0 (3 : Int32) (fun S4 => Gr S S4 → (P_X11_readWorld_15 Q v0 S4)) S))))))
set_option maxRecDepth 20000 in
set_option maxHeartbeats 4000000 in
theorem T_X11_readWorld_0 {X : CX} {Q : HS → Prop} (C : Cx X cX11_readWorld RX11 2 rm_X11_readWorld) (E : ReV X rm_X11_readWorld Q) (ht : (xh X).sig.returnType = none) (hn : (xh X).name = yX11_readWorld.name) {v0 : Nat} {S : HS} (h : P_X11_readWorld_0 Q v0 S) : WS X 2 0 0 0 [(0, .ref v0)] [] S := by
  refine r_aload_n (pc := 0) C dX11_readWorld_0 0 rfl ?_
  obtain ⟨o_v0, h⟩ := h
  obtain ⟨a1, ea1, h⟩ := h
  refine r_getr (pc := 1) C fL_X11_147 dX11_readWorld_1 o_v0 ea1 ?_
  obtain ⟨o_a1, h⟩ := h
  refine r_getNi (pc := 4) C fN_X11_151 dX11_readWorld_4 o_a1 ?_
  refine r_topi (fun x2 ex2 => ?_)
  have h := h x2 ex2
  refine r_if_le (pc := 7) C (tgt := 15) dX11_readWorld_7 (by decide) (fun c3 => ?_) (fun c3 => ?_)
  · have h := h.1 c3
    exact r_sub [0] rfl (T_X11_readWorld_15 C E ht hn h)
  · have h := h.2 c3
    refine r_aload_n (pc := 10) C dX11_readWorld_10 0 rfl ?_
    refine r_iconst (pc := 11) C (v := (3 : Int32)) dX11_readWorld_11 (by decide) ?_
    refine r_callVv0 (pc := 12) C (rest := []) (a := v0) o_v0 [.int (3 : Int32)] yV_X11_flaw g_1417 (c_X11_flaw h) dX11_readWorld_12 rfl rfl (Nat.le_of_ble_eq_true rfl) ⟨by decide, by decide⟩ ⟨by decide, by decide⟩ ⟨rfl, rfl⟩ (fun S4 h g5 => ?_)
    have h := h g5
    have o_a1 := gr_ob g5 o_a1
    have o_v0 := gr_ob g5 o_v0
    exact r_sub [0] rfl (T_X11_readWorld_15 C E ht hn h)
def P_X11_readWorld (v0 : Nat) (Q : HS → Prop) (S : HS) : Prop := P_X11_readWorld_0 Q v0 S
theorem c_X11_readWorld {l : Launch} {Ee : EE} {S : HS} {v0 : Nat} {Q : HS → Prop} (h : P_X11_readWorld v0 Q S) : MV l yX11_readWorld cX11_readWorld 2 none rm_X11_readWorld Ee S [.ref v0] Q :=
  openV (by decide) (Nat.le_of_ble_eq_true rfl) (fun X C E ht hn hE hl => by subst hE; exact r_sub [0] rfl (T_X11_readWorld_0 C E ht hn h))
def rm_X11_readLine : Room := { frames := 10, cells := 0, slots := 0, locals := 239 }
def P_X11_readLine_0 (Q : HS → Prop) (v0 : Nat) (S : HS) : Prop := ob S v0 11 ∧ (P_X11_isWord v0 27 (fun x3 S1 => Gr S S1 → bl x3 → (((x3 = 0) → (P_X11_isWord v0 29 (fun x7 S5 => Gr S1 S5 → bl x7 → (((x7 = 0) → (P_X11_isWord v0 38 (fun x11 S9 => Gr S5 S9 → bl x11 → (((x11 = 0) → (P_X11_isWord v0 39 (fun x15 S13 => Gr S9 S13 → bl x15 → (((x15 = 0) → (P_X11_isWord v0 40 (fun x19 S17 => Gr S13 S17 → bl x19 → (((x19 = 0) → (P_X11_isWord v0 41 (fun x23 S21 => Gr S17 S21 → bl x23 → (((x23 = 0) → (P_X11_flaw v0 (1 : Int32) (fun S25 => Gr S21 S25 → (Q S25)) S21)) ∧ ((¬ x23 = 0) → (P_X11_readSeen v0 (fun S28 => Gr S21 S28 → (Q S28)) S21)))) S17)) ∧ ((¬ x19 = 0) → (P_X11_readWalker v0 (fun S31 => Gr S17 S31 → (Q S31)) S17)))) S13)) ∧ ((¬ x15 = 0) → (P_X11_readRoad v0 (fun S34 => Gr S13 S34 → (Q S34)) S13)))) S9)) ∧ ((¬ x11 = 0) → (P_X11_readPlace v0 (fun S37 => Gr S9 S37 → (Q S37)) S9)))) S5)) ∧ ((¬ x7 = 0) → (P_X11_readRain v0 (fun S40 => Gr S5 S40 → (Q S40)) S5)))) S1)) ∧ ((¬ x3 = 0) → (P_X11_readWorld v0 (fun S43 => Gr S1 S43 → (Q S43)) S1)))) S)
set_option maxRecDepth 20000 in
set_option maxHeartbeats 4000000 in
theorem T_X11_readLine_0 {X : CX} {Q : HS → Prop} (C : Cx X cX11_readLine RX11 1 rm_X11_readLine) (E : ReV X rm_X11_readLine Q) (ht : (xh X).sig.returnType = none) (hn : (xh X).name = yX11_readLine.name) {v0 : Nat} {S : HS} (h : P_X11_readLine_0 Q v0 S) : WS X 1 0 0 0 [(0, .ref v0)] [] S := by
  refine r_aload_n (pc := 0) C dX11_readLine_0 0 rfl ?_
  refine r_lds (pc := 1) C 27 rfl dX11_readLine_1 ?_
  obtain ⟨o_v0, h⟩ := h
  refine r_callVi0 (pc := 3) C (rest := []) (a := v0) o_v0 [.ref (eK (xE X) 27)] yV_X11_isWord g_1404 (c_X11_isWord h) dX11_readLine_3 rfl rfl (Nat.le_of_ble_eq_true rfl) ⟨by decide, by decide⟩ ⟨by decide, by decide⟩ ⟨rfl, rfl⟩ (fun x3 S1 h g2 => ?_)
  have bx3 := h.1
  have h := h.2 g2 bx3
  have o_v0 := gr_ob g2 o_v0
  refine r_if_eq (pc := 6) C (tgt := 16) dX11_readLine_6 (by decide) (fun c4 => ?_) (fun c4 => ?_)
  · have h := h.1 c4
    refine r_aload_n (pc := 16) C dX11_readLine_16 0 rfl ?_
    refine r_lds (pc := 17) C 29 rfl dX11_readLine_17 ?_
    refine r_callVi0 (pc := 19) C (rest := []) (a := v0) o_v0 [.ref (eK (xE X) 29)] yV_X11_isWord g_1404 (c_X11_isWord h) dX11_readLine_19 rfl rfl (Nat.le_of_ble_eq_true rfl) ⟨by decide, by decide⟩ ⟨by decide, by decide⟩ ⟨rfl, rfl⟩ (fun x7 S5 h g6 => ?_)
    have bx7 := h.1
    have h := h.2 g6 bx7
    have o_v0 := gr_ob g6 o_v0
    refine r_if_eq (pc := 22) C (tgt := 32) dX11_readLine_22 (by decide) (fun c8 => ?_) (fun c8 => ?_)
    · have h := h.1 c8
      refine r_aload_n (pc := 32) C dX11_readLine_32 0 rfl ?_
      refine r_lds (pc := 33) C 38 rfl dX11_readLine_33 ?_
      refine r_callVi0 (pc := 35) C (rest := []) (a := v0) o_v0 [.ref (eK (xE X) 38)] yV_X11_isWord g_1404 (c_X11_isWord h) dX11_readLine_35 rfl rfl (Nat.le_of_ble_eq_true rfl) ⟨by decide, by decide⟩ ⟨by decide, by decide⟩ ⟨rfl, rfl⟩ (fun x11 S9 h g10 => ?_)
      have bx11 := h.1
      have h := h.2 g10 bx11
      have o_v0 := gr_ob g10 o_v0
      refine r_if_eq (pc := 38) C (tgt := 48) dX11_readLine_38 (by decide) (fun c12 => ?_) (fun c12 => ?_)
      · have h := h.1 c12
        refine r_aload_n (pc := 48) C dX11_readLine_48 0 rfl ?_
        refine r_lds (pc := 49) C 39 rfl dX11_readLine_49 ?_
        refine r_callVi0 (pc := 51) C (rest := []) (a := v0) o_v0 [.ref (eK (xE X) 39)] yV_X11_isWord g_1404 (c_X11_isWord h) dX11_readLine_51 rfl rfl (Nat.le_of_ble_eq_true rfl) ⟨by decide, by decide⟩ ⟨by decide, by decide⟩ ⟨rfl, rfl⟩ (fun x15 S13 h g14 => ?_)
        have bx15 := h.1
        have h := h.2 g14 bx15
        have o_v0 := gr_ob g14 o_v0
        refine r_if_eq (pc := 54) C (tgt := 64) dX11_readLine_54 (by decide) (fun c16 => ?_) (fun c16 => ?_)
        · have h := h.1 c16
          refine r_aload_n (pc := 64) C dX11_readLine_64 0 rfl ?_
          refine r_lds (pc := 65) C 40 rfl dX11_readLine_65 ?_
          refine r_callVi0 (pc := 67) C (rest := []) (a := v0) o_v0 [.ref (eK (xE X) 40)] yV_X11_isWord g_1404 (c_X11_isWord h) dX11_readLine_67 rfl rfl (Nat.le_of_ble_eq_true rfl) ⟨by decide, by decide⟩ ⟨by decide, by decide⟩ ⟨rfl, rfl⟩ (fun x19 S17 h g18 => ?_)
          have bx19 := h.1
          have h := h.2 g18 bx19
          have o_v0 := gr_ob g18 o_v0
          refine r_if_eq (pc := 70) C (tgt := 80) dX11_readLine_70 (by decide) (fun c20 => ?_) (fun c20 => ?_)
          · have h := h.1 c20
            refine r_aload_n (pc := 80) C dX11_readLine_80 0 rfl ?_
            refine r_lds (pc := 81) C 41 rfl dX11_readLine_81 ?_
            refine r_callVi0 (pc := 83) C (rest := []) (a := v0) o_v0 [.ref (eK (xE X) 41)] yV_X11_isWord g_1404 (c_X11_isWord h) dX11_readLine_83 rfl rfl (Nat.le_of_ble_eq_true rfl) ⟨by decide, by decide⟩ ⟨by decide, by decide⟩ ⟨rfl, rfl⟩ (fun x23 S21 h g22 => ?_)
            have bx23 := h.1
            have h := h.2 g22 bx23
            have o_v0 := gr_ob g22 o_v0
            refine r_if_eq (pc := 86) C (tgt := 96) dX11_readLine_86 (by decide) (fun c24 => ?_) (fun c24 => ?_)
            · have h := h.1 c24
              refine r_aload_n (pc := 96) C dX11_readLine_96 0 rfl ?_
              refine r_iconst (pc := 97) C (v := (1 : Int32)) dX11_readLine_97 (by decide) ?_
              refine r_callVv0 (pc := 98) C (rest := []) (a := v0) o_v0 [.int (1 : Int32)] yV_X11_flaw g_1417 (c_X11_flaw h) dX11_readLine_98 rfl rfl (Nat.le_of_ble_eq_true rfl) ⟨by decide, by decide⟩ ⟨by decide, by decide⟩ ⟨rfl, rfl⟩ (fun S25 h g26 => ?_)
              have h := h g26
              have o_v0 := gr_ob g26 o_v0
              exact r_vret (pc := 101) C E ht dX11_readLine_101 (by decide) (by decide) h
            · have h := h.2 c24
              refine r_aload_n (pc := 89) C dX11_readLine_89 0 rfl ?_
              refine r_callVv0 (pc := 90) C (rest := []) (a := v0) o_v0 [] yV_X11_readSeen g_1510 (c_X11_readSeen h) dX11_readLine_90 rfl rfl (Nat.le_of_ble_eq_true rfl) ⟨by decide, by decide⟩ ⟨by decide, by decide⟩ ⟨rfl, rfl⟩ (fun S28 h g29 => ?_)
              have h := h g29
              have o_v0 := gr_ob g29 o_v0
              refine r_goto (pc := 93) C (tgt := 101) dX11_readLine_93 (by decide) ?_
              exact r_vret (pc := 101) C E ht dX11_readLine_101 (by decide) (by decide) h
          · have h := h.2 c20
            refine r_aload_n (pc := 73) C dX11_readLine_73 0 rfl ?_
            refine r_callVv0 (pc := 74) C (rest := []) (a := v0) o_v0 [] yV_X11_readWalker g_1497 (c_X11_readWalker h) dX11_readLine_74 rfl rfl (Nat.le_of_ble_eq_true rfl) ⟨by decide, by decide⟩ ⟨by decide, by decide⟩ ⟨rfl, rfl⟩ (fun S31 h g32 => ?_)
            have h := h g32
            have o_v0 := gr_ob g32 o_v0
            refine r_goto (pc := 77) C (tgt := 101) dX11_readLine_77 (by decide) ?_
            exact r_vret (pc := 101) C E ht dX11_readLine_101 (by decide) (by decide) h
        · have h := h.2 c16
          refine r_aload_n (pc := 57) C dX11_readLine_57 0 rfl ?_
          refine r_callVv0 (pc := 58) C (rest := []) (a := v0) o_v0 [] yV_X11_readRoad g_1489 (c_X11_readRoad h) dX11_readLine_58 rfl rfl (Nat.le_of_ble_eq_true rfl) ⟨by decide, by decide⟩ ⟨by decide, by decide⟩ ⟨rfl, rfl⟩ (fun S34 h g35 => ?_)
          have h := h g35
          have o_v0 := gr_ob g35 o_v0
          refine r_goto (pc := 61) C (tgt := 101) dX11_readLine_61 (by decide) ?_
          exact r_vret (pc := 101) C E ht dX11_readLine_101 (by decide) (by decide) h
      · have h := h.2 c12
        refine r_aload_n (pc := 41) C dX11_readLine_41 0 rfl ?_
        refine r_callVv0 (pc := 42) C (rest := []) (a := v0) o_v0 [] yV_X11_readPlace g_1459 (c_X11_readPlace h) dX11_readLine_42 rfl rfl (Nat.le_of_ble_eq_true rfl) ⟨by decide, by decide⟩ ⟨by decide, by decide⟩ ⟨rfl, rfl⟩ (fun S37 h g38 => ?_)
        have h := h g38
        have o_v0 := gr_ob g38 o_v0
        refine r_goto (pc := 45) C (tgt := 101) dX11_readLine_45 (by decide) ?_
        exact r_vret (pc := 101) C E ht dX11_readLine_101 (by decide) (by decide) h
    · have h := h.2 c8
      refine r_aload_n (pc := 25) C dX11_readLine_25 0 rfl ?_
      refine r_callVv0 (pc := 26) C (rest := []) (a := v0) o_v0 [] yV_X11_readRain g_1438 (c_X11_readRain h) dX11_readLine_26 rfl rfl (Nat.le_of_ble_eq_true rfl) ⟨by decide, by decide⟩ ⟨by decide, by decide⟩ ⟨rfl, rfl⟩ (fun S40 h g41 => ?_)
      have h := h g41
      have o_v0 := gr_ob g41 o_v0
      refine r_goto (pc := 29) C (tgt := 101) dX11_readLine_29 (by decide) ?_
      exact r_vret (pc := 101) C E ht dX11_readLine_101 (by decide) (by decide) h
  · have h := h.2 c4
    refine r_aload_n (pc := 9) C dX11_readLine_9 0 rfl ?_
    refine r_callVv0 (pc := 10) C (rest := []) (a := v0) o_v0 [] yV_X11_readWorld g_1413 (c_X11_readWorld h) dX11_readLine_10 rfl rfl (Nat.le_of_ble_eq_true rfl) ⟨by decide, by decide⟩ ⟨by decide, by decide⟩ ⟨rfl, rfl⟩ (fun S43 h g44 => ?_)
    have h := h g44
    have o_v0 := gr_ob g44 o_v0
    refine r_goto (pc := 13) C (tgt := 101) dX11_readLine_13 (by decide) ?_
    exact r_vret (pc := 101) C E ht dX11_readLine_101 (by decide) (by decide) h
def P_X11_readLine (v0 : Nat) (Q : HS → Prop) (S : HS) : Prop := P_X11_readLine_0 Q v0 S
theorem c_X11_readLine {l : Launch} {Ee : EE} {S : HS} {v0 : Nat} {Q : HS → Prop} (h : P_X11_readLine v0 Q S) : MV l yX11_readLine cX11_readLine 1 none rm_X11_readLine Ee S [.ref v0] Q :=
  openV (by decide) (Nat.le_of_ble_eq_true rfl) (fun X C E ht hn hE hl => by subst hE; exact r_sub [0] rfl (T_X11_readLine_0 C E ht hn h))
def rm_X11_readAll : Room := { frames := 11, cells := 0, slots := 0, locals := 259 }
def P_X11_readAll_63 (Q : HS → Prop) (v0 : Nat) (S : HS) : Prop := ob S v0 11 ∧ (P_X11_flaw v0 (6 : Int32) (fun S1 => Gr S S1 → (Q S1)) S)
set_option maxRecDepth 20000 in
set_option maxHeartbeats 4000000 in
theorem T_X11_readAll_63 {X : CX} {Q : HS → Prop} (C : Cx X cX11_readAll RX11 2 rm_X11_readAll) (E : ReV X rm_X11_readAll Q) (ht : (xh X).sig.returnType = none) (hn : (xh X).name = yX11_readAll.name) {v0 : Nat} {S : HS} (h : P_X11_readAll_63 Q v0 S) : WS X 2 0 0 63 [(0, .ref v0)] [] S := by
  refine r_aload_n (pc := 63) C dX11_readAll_63 0 rfl ?_
  refine r_bipush (pc := 64) C (v := (6 : Int32)) dX11_readAll_64 (by decide) ?_
  obtain ⟨o_v0, h⟩ := h
  refine r_callVv0 (pc := 66) C (rest := []) (a := v0) o_v0 [.int (6 : Int32)] yV_X11_flaw g_1417 (c_X11_flaw h) dX11_readAll_66 rfl rfl (Nat.le_of_ble_eq_true rfl) ⟨by decide, by decide⟩ ⟨by decide, by decide⟩ ⟨rfl, rfl⟩ (fun S1 h g2 => ?_)
  have h := h g2
  have o_v0 := gr_ob g2 o_v0
  exact r_vret (pc := 69) C E ht dX11_readAll_69 (by decide) (by decide) h
def P_X11_readAll_33 (Q : HS → Prop) (v0 : Nat) (S : HS) : Prop := ob S v0 11 ∧ (∃ a1 : Nat, fR S v0 4 = some a1 ∧ (ob S a1 10 ∧ (∀ x2 : Int32, x2 = fI S a1 0 → (((x2 = 0) → (P_X11_readAll_63 Q v0 S)) ∧ ((¬ x2 = 0) → (∃ a4 : Nat, fR S v0 4 = some a4 ∧ (ob S a4 10 ∧ (∀ x5 : Int32, x5 = fI S a4 2 → (((x5 = 0) → (P_X11_readAll_63 Q v0 S)) ∧ ((¬ x5 = 0) → (∃ a7 : Nat, fR S v0 4 = some a7 ∧ (ob S a7 10 ∧ (∀ x8 : Int32, x8 = fI S a7 4 → (((¬ x8 = 0) → (Q S)) ∧ ((x8 = 0) → (P_X11_readAll_63 Q v0 S))))))))))))))))
set_option maxRecDepth 20000 in
set_option maxHeartbeats 4000000 in
theorem T_X11_readAll_33 {X : CX} {Q : HS → Prop} (C : Cx X cX11_readAll RX11 2 rm_X11_readAll) (E : ReV X rm_X11_readAll Q) (ht : (xh X).sig.returnType = none) (hn : (xh X).name = yX11_readAll.name) {v0 : Nat} {S : HS} (h : P_X11_readAll_33 Q v0 S) : WS X 2 0 0 33 [(0, .ref v0)] [] S := by
  refine r_aload_n (pc := 33) C dX11_readAll_33 0 rfl ?_
  obtain ⟨o_v0, h⟩ := h
  obtain ⟨a1, ea1, h⟩ := h
  refine r_getr (pc := 34) C fL_X11_147 dX11_readAll_34 o_v0 ea1 ?_
  obtain ⟨o_a1, h⟩ := h
  refine r_getNi (pc := 37) C fN_X11_151 dX11_readAll_37 o_a1 ?_
  refine r_topi (fun x2 ex2 => ?_)
  have h := h x2 ex2
  refine r_if_eq (pc := 40) C (tgt := 63) dX11_readAll_40 (by decide) (fun c3 => ?_) (fun c3 => ?_)
  · have h := h.1 c3
    exact r_sub [0] rfl (T_X11_readAll_63 C E ht hn h)
  · have h := h.2 c3
    refine r_aload_n (pc := 43) C dX11_readAll_43 0 rfl ?_
    obtain ⟨a4, ea4, h⟩ := h
    refine r_getr (pc := 44) C fL_X11_147 dX11_readAll_44 o_v0 ea4 ?_
    obtain ⟨o_a4, h⟩ := h
    refine r_getNi (pc := 47) C fN_X11_190 dX11_readAll_47 o_a4 ?_
    refine r_topi (fun x5 ex5 => ?_)
    have h := h x5 ex5
    refine r_if_eq (pc := 50) C (tgt := 63) dX11_readAll_50 (by decide) (fun c6 => ?_) (fun c6 => ?_)
    · have h := h.1 c6
      exact r_sub [0] rfl (T_X11_readAll_63 C E ht hn h)
    · have h := h.2 c6
      refine r_aload_n (pc := 53) C dX11_readAll_53 0 rfl ?_
      obtain ⟨a7, ea7, h⟩ := h
      refine r_getr (pc := 54) C fL_X11_147 dX11_readAll_54 o_v0 ea7 ?_
      obtain ⟨o_a7, h⟩ := h
      refine r_getNi (pc := 57) C fN_X11_193 dX11_readAll_57 o_a7 ?_
      refine r_topi (fun x8 ex8 => ?_)
      have h := h x8 ex8
      refine r_if_ne (pc := 60) C (tgt := 69) dX11_readAll_60 (by decide) (fun c9 => ?_) (fun c9 => ?_)
      · have h := h.1 c9
        exact r_vret (pc := 69) C E ht dX11_readAll_69 (by decide) (by decide) h
      · have h := h.2 c9
        exact r_sub [0] rfl (T_X11_readAll_63 C E ht hn h)
def B_X11_readAll_2 (Q : HS → Prop) (X2 : Nat → Int32 → HS → Prop) (v0 : Nat) (v1 : Int32) (S : HS) : Prop := ((v1 = 0) → (ob S v0 11 ∧ (∀ x2 : Int32, x2 = fI S v0 9 → (((x2 = (1 : Int32)) → (P_X11_readAll_33 Q v0 S)) ∧ ((¬ x2 = (1 : Int32)) → (P_X11_flaw v0 (1 : Int32) (fun S4 => Gr S S4 → (P_X11_readAll_33 Q v0 S4)) S)))))) ∧ ((¬ v1 = 0) → (ob S v0 11 ∧ (P_X11_readLine v0 (fun S7 => Gr S S7 → (P_X11_eatsSign v0 (59 : Int32) (fun x12 S10 => Gr S7 S10 → bl x12 → (X2 v0 x12 S10)) S7)) S)))
def P_X11_readAll_2 (Q : HS → Prop) (v0 : Nat) (v1 : Int32) (S : HS) : Prop := ∀ X2 : Nat → Int32 → HS → Prop, (∀ (v0 : Nat) (v1 : Int32) (S : HS), B_X11_readAll_2 Q X2 v0 v1 S → X2 v0 v1 S) → X2 v0 v1 S
set_option maxRecDepth 20000 in
set_option maxHeartbeats 4000000 in
theorem TB_X11_readAll_2 {X : CX} {Q : HS → Prop} (C : Cx X cX11_readAll RX11 2 rm_X11_readAll) (E : ReV X rm_X11_readAll Q) (ht : (xh X).sig.returnType = none) (hn : (xh X).name = yX11_readAll.name) {X2 : Nat → Int32 → HS → Prop} (hX2 : ∀ (v0 : Nat) (v1 : Int32) (S : HS), X2 v0 v1 S → WS X 2 0 0 2 [(0, .ref v0), (1, .int v1)] [] S) {v0 : Nat} {v1 : Int32} {S : HS} (h : B_X11_readAll_2 Q X2 v0 v1 S) : WS X 2 0 0 2 [(0, .ref v0), (1, .int v1)] [] S := by
  refine r_iload_n (pc := 2) C dX11_readAll_2 1 rfl ?_
  refine r_if_eq (pc := 3) C (tgt := 20) dX11_readAll_3 (by decide) (fun c1 => ?_) (fun c1 => ?_)
  · have h := h.1 c1
    refine r_aload_n (pc := 20) C dX11_readAll_20 0 rfl ?_
    obtain ⟨o_v0, h⟩ := h
    refine r_geti (pc := 21) C fL_X11_68 dX11_readAll_21 o_v0 ?_
    refine r_topi (fun x2 ex2 => ?_)
    have h := h x2 ex2
    refine r_iconst (pc := 24) C (v := (1 : Int32)) dX11_readAll_24 (by decide) ?_
    refine r_icmp_eq (pc := 25) C (tgt := 33) dX11_readAll_25 (by decide) (fun c3 => ?_) (fun c3 => ?_)
    · have h := h.1 c3
      exact r_sub [0] rfl (T_X11_readAll_33 C E ht hn h)
    · have h := h.2 c3
      refine r_aload_n (pc := 28) C dX11_readAll_28 0 rfl ?_
      refine r_iconst (pc := 29) C (v := (1 : Int32)) dX11_readAll_29 (by decide) ?_
      refine r_callVv0 (pc := 30) C (rest := []) (a := v0) o_v0 [.int (1 : Int32)] yV_X11_flaw g_1417 (c_X11_flaw h) dX11_readAll_30 rfl rfl (Nat.le_of_ble_eq_true rfl) ⟨by decide, by decide⟩ ⟨by decide, by decide⟩ ⟨rfl, rfl⟩ (fun S4 h g5 => ?_)
      have h := h g5
      have o_v0 := gr_ob g5 o_v0
      exact r_sub [0] rfl (T_X11_readAll_33 C E ht hn h)
  · have h := h.2 c1
    refine r_aload_n (pc := 6) C dX11_readAll_6 0 rfl ?_
    obtain ⟨o_v0, h⟩ := h
    refine r_callVv0 (pc := 7) C (rest := []) (a := v0) o_v0 [] yV_X11_readLine g_1399 (c_X11_readLine h) dX11_readAll_7 rfl rfl (Nat.le_of_ble_eq_true rfl) ⟨by decide, by decide⟩ ⟨by decide, by decide⟩ ⟨rfl, rfl⟩ (fun S7 h g8 => ?_)
    have h := h g8
    have o_v0 := gr_ob g8 o_v0
    refine r_aload_n (pc := 10) C dX11_readAll_10 0 rfl ?_
    refine r_bipush (pc := 11) C (v := (59 : Int32)) dX11_readAll_11 (by decide) ?_
    refine r_callVi0 (pc := 13) C (rest := []) (a := v0) o_v0 [.int (59 : Int32)] yV_X11_eatsSign g_1514 (c_X11_eatsSign h) dX11_readAll_13 rfl rfl (Nat.le_of_ble_eq_true rfl) ⟨by decide, by decide⟩ ⟨by decide, by decide⟩ ⟨rfl, rfl⟩ (fun x12 S10 h g11 => ?_)
    have bx12 := h.1
    have h := h.2 g11 bx12
    have o_v0 := gr_ob g11 o_v0
    refine r_istore_n (pc := 16) C dX11_readAll_16 rfl (by decide) (lv' := [(1, .int x12), (0, .ref v0)]) rfl ?_
    refine r_goto (pc := 17) C (tgt := 2) dX11_readAll_17 (by decide) ?_
    exact r_sub [1, 0] rfl (hX2 v0 x12 S10 h)
theorem T_X11_readAll_2 {X : CX} {Q : HS → Prop} (C : Cx X cX11_readAll RX11 2 rm_X11_readAll) (E : ReV X rm_X11_readAll Q) (ht : (xh X).sig.returnType = none) (hn : (xh X).name = yX11_readAll.name) {v0 : Nat} {v1 : Int32} {S : HS} (h : P_X11_readAll_2 Q v0 v1 S) : WS X 2 0 0 2 [(0, .ref v0), (1, .int v1)] [] S :=
  h (fun v0 v1 S => WS X 2 0 0 2 [(0, .ref v0), (1, .int v1)] [] S) (fun v0 v1 S hh => TB_X11_readAll_2 C E ht hn (fun v0 v1 S z => z) hh)
def P_X11_readAll_0 (Q : HS → Prop) (v0 : Nat) (S : HS) : Prop := P_X11_readAll_2 Q v0 (1 : Int32) S
set_option maxRecDepth 20000 in
set_option maxHeartbeats 4000000 in
theorem T_X11_readAll_0 {X : CX} {Q : HS → Prop} (C : Cx X cX11_readAll RX11 2 rm_X11_readAll) (E : ReV X rm_X11_readAll Q) (ht : (xh X).sig.returnType = none) (hn : (xh X).name = yX11_readAll.name) {v0 : Nat} {S : HS} (h : P_X11_readAll_0 Q v0 S) : WS X 2 0 0 0 [(0, .ref v0)] [] S := by
  refine r_iconst (pc := 0) C (v := (1 : Int32)) dX11_readAll_0 (by decide) ?_
  refine r_istore_n (pc := 1) C dX11_readAll_1 rfl (by decide) (lv' := [(1, .int (1 : Int32)), (0, .ref v0)]) rfl ?_
  exact r_sub [1, 0] rfl (T_X11_readAll_2 C E ht hn h)
def P_X11_readAll (v0 : Nat) (Q : HS → Prop) (S : HS) : Prop := P_X11_readAll_0 Q v0 S
theorem c_X11_readAll {l : Launch} {Ee : EE} {S : HS} {v0 : Nat} {Q : HS → Prop} (h : P_X11_readAll v0 Q S) : MV l yX11_readAll cX11_readAll 2 none rm_X11_readAll Ee S [.ref v0] Q :=
  openV (by decide) (Nat.le_of_ble_eq_true rfl) (fun X C E ht hn hE hl => by subst hE; exact r_sub [0] rfl (T_X11_readAll_0 C E ht hn h))
def rm_X11_road : Room := { frames := 1, cells := 0, slots := 0, locals := 22 }
def P_X11_road_22 (Q : Int32 → HS → Prop) (v0 : Nat) (S : HS) : Prop := ob S v0 11 ∧ (P_X11_refused v0 (1 : Int32) (fun x3 S1 => Gr S S1 → (Q x3 S1)) S)
set_option maxRecDepth 20000 in
set_option maxHeartbeats 4000000 in
theorem T_X11_road_22 {X : CX} {Q : Int32 → HS → Prop} (C : Cx X cX11_road RX11 3 rm_X11_road) (E : ReI X rm_X11_road Q) (ht : (xh X).sig.returnType = (some .int)) (hn : (xh X).name = yX11_road.name) {v0 : Nat} {S : HS} (h : P_X11_road_22 Q v0 S) : WS X 3 0 0 22 [(0, .ref v0)] [] S := by
  refine r_aload_n (pc := 22) C dX11_road_22 0 rfl ?_
  refine r_iconst (pc := 23) C (v := (1 : Int32)) dX11_road_23 (by decide) ?_
  obtain ⟨o_v0, h⟩ := h
  refine r_callVi0 (pc := 24) C (rest := []) (a := v0) o_v0 [.int (1 : Int32)] yV_X11_refused g_1250 (c_X11_refused h) dX11_road_24 rfl rfl (Nat.le_of_ble_eq_true rfl) ⟨by decide, by decide⟩ ⟨by decide, by decide⟩ ⟨rfl, rfl⟩ (fun x3 S1 h g2 => ?_)
  have h := h g2
  have o_v0 := gr_ob g2 o_v0
  exact r_iret (pc := 27) C E ht dX11_road_27 (by decide) (by decide) h
def P_X11_road_0 (Q : Int32 → HS → Prop) (v0 : Nat) (v1 : Int32) (v2 : Int32) (S : HS) : Prop := ob S v0 11 ∧ (∀ S1 : HS, S1 = sI S v0 0 (0 : Int32) → (P_X11_isRoad v0 v1 (fun x4 S2 => Gr S1 S2 → bl x4 → (((x4 = 0) → (P_X11_road_22 Q v0 S2)) ∧ ((¬ x4 = 0) → (P_X11_in v2 (0 : Int32) (4 : Int32) (fun x8 S6 => Gr S2 S6 → bl x8 → (((¬ x8 = 0) → ((v2.toInt < 0 ∨ 3 < v2.toInt → (∃ a11 : Nat, fR S6 v0 3 = some a11 ∧ (ob S6 a11 10 ∧ (∃ a12 : Nat, fR S6 a11 17 = some a12 ∧ (ob S6 a12 13 ∧ (vp_in v1 (hN S6 a12) ∧ ∀ x14 : Int32, x14 = fI S6 a12 v1.toNatClampNeg → (P_X11_good v0 x14 (fun x17 S15 => Gr S6 S15 → (Q x17 S15)) S6))))))) ∧ (v2.toInt = 0 → (∃ a18 : Nat, fR S6 v0 3 = some a18 ∧ (ob S6 a18 10 ∧ (∃ a19 : Nat, fR S6 a18 13 = some a19 ∧ (ob S6 a19 13 ∧ (vp_in v1 (hN S6 a19) ∧ ∀ x21 : Int32, x21 = fI S6 a19 v1.toNatClampNeg → (P_X11_good v0 x21 (fun x24 S22 => Gr S6 S22 → (Q x24 S22)) S6))))))) ∧ (v2.toInt = 1 → (∃ a25 : Nat, fR S6 v0 3 = some a25 ∧ (ob S6 a25 10 ∧ (∃ a26 : Nat, fR S6 a25 14 = some a26 ∧ (ob S6 a26 13 ∧ (vp_in v1 (hN S6 a26) ∧ ∀ x28 : Int32, x28 = fI S6 a26 v1.toNatClampNeg → (P_X11_good v0 x28 (fun x31 S29 => Gr S6 S29 → (Q x31 S29)) S6))))))) ∧ (v2.toInt = 2 → (∃ a32 : Nat, fR S6 v0 3 = some a32 ∧ (ob S6 a32 10 ∧ (∃ a33 : Nat, fR S6 a32 15 = some a33 ∧ (ob S6 a33 13 ∧ (vp_in v1 (hN S6 a33) ∧ ∀ x35 : Int32, x35 = fI S6 a33 v1.toNatClampNeg → (P_X11_good v0 x35 (fun x38 S36 => Gr S6 S36 → (Q x38 S36)) S6))))))) ∧ (v2.toInt = 3 → (∃ a39 : Nat, fR S6 v0 3 = some a39 ∧ (ob S6 a39 10 ∧ (∃ a40 : Nat, fR S6 a39 16 = some a40 ∧ (ob S6 a40 13 ∧ (vp_in v1 (hN S6 a40) ∧ ∀ x42 : Int32, x42 = fI S6 a40 v1.toNatClampNeg → (P_X11_good v0 x42 (fun x45 S43 => Gr S6 S43 → (Q x45 S43)) S6))))))))) ∧ ((x8 = 0) → (P_X11_road_22 Q v0 S6)))) S2)))) S1))
set_option maxRecDepth 20000 in
set_option maxHeartbeats 4000000 in
theorem T_X11_road_0 {X : CX} {Q : Int32 → HS → Prop} (C : Cx X cX11_road RX11 3 rm_X11_road) (E : ReI X rm_X11_road Q) (ht : (xh X).sig.returnType = (some .int)) (hn : (xh X).name = yX11_road.name) {v0 : Nat} {v1 : Int32} {v2 : Int32} {S : HS} (h : P_X11_road_0 Q v0 v1 v2 S) : WS X 3 0 0 0 [(0, .ref v0), (1, .int v1), (2, .int v2)] [] S := by
  refine r_aload_n (pc := 0) C dX11_road_0 0 rfl ?_
  refine r_iconst (pc := 1) C (v := (0 : Int32)) dX11_road_1 (by decide) ?_
  obtain ⟨o_v0, h⟩ := h
  refine r_puti (pc := 2) C pfL_X11_40 dX11_road_2 o_v0 ?_
  refine r_heap (fun S1 eS1 => ?_)
  have h := h S1 eS1
  have o_v0 := ob_I eS1 o_v0
  refine r_aload_n (pc := 5) C dX11_road_5 0 rfl ?_
  refine r_iload_n (pc := 6) C dX11_road_6 1 rfl ?_
  refine r_callVi0 (pc := 7) C (rest := []) (a := v0) o_v0 [.int v1] yV_X11_isRoad g_1542 (c_X11_isRoad h) dX11_road_7 rfl rfl (Nat.le_of_ble_eq_true rfl) ⟨by decide, by decide⟩ ⟨by decide, by decide⟩ ⟨rfl, rfl⟩ (fun x4 S2 h g3 => ?_)
  have bx4 := h.1
  have h := h.2 g3 bx4
  have o_v0 := gr_ob g3 o_v0
  refine r_if_eq (pc := 10) C (tgt := 22) dX11_road_10 (by decide) (fun c5 => ?_) (fun c5 => ?_)
  · have h := h.1 c5
    exact r_sub [0] rfl (T_X11_road_22 C E ht hn h)
  · have h := h.2 c5
    refine r_iload_n (pc := 13) C dX11_road_13 2 rfl ?_
    refine r_iconst (pc := 14) C (v := (0 : Int32)) dX11_road_14 (by decide) ?_
    refine r_iconst (pc := 15) C (v := (4 : Int32)) dX11_road_15 (by decide) ?_
    refine r_callSi0 (pc := 16) C (rest := []) rfl [.int v2, .int (0 : Int32), .int (4 : Int32)] yS_X11_in g_1434 (c_X11_in h) dX11_road_16 rfl rfl (Nat.le_of_ble_eq_true rfl) ⟨by decide, by decide⟩ ⟨by decide, by decide⟩ ⟨rfl, rfl⟩ (fun x8 S6 h g7 => ?_)
    have bx8 := h.1
    have h := h.2 g7 bx8
    have o_v0 := gr_ob g7 o_v0
    refine r_if_ne (pc := 19) C (tgt := 28) dX11_road_19 (by decide) (fun c9 => ?_) (fun c9 => ?_)
    · have h := h.1 c9
      refine r_iload_n (pc := 28) C dX11_road_28 2 rfl ?_
      refine r_table (pc := 29) C (tgt := 116) dX11_road_29 (by decide) (fun c10 => ?_) (fun j hj hx => ?_)
      · have h := h.1 c10
        refine r_aload_n (pc := 116) C dX11_road_116 0 rfl ?_
        refine r_aload_n (pc := 117) C dX11_road_117 0 rfl ?_
        obtain ⟨a11, ea11, h⟩ := h
        refine r_getr (pc := 118) C fL_X11_338 dX11_road_118 o_v0 ea11 ?_
        obtain ⟨o_a11, h⟩ := h
        obtain ⟨a12, ea12, h⟩ := h
        refine r_getNr (pc := 121) C fN_X11_282 dX11_road_121 o_a11 ea12 ?_
        refine r_iload_n (pc := 124) C dX11_road_124 1 rfl ?_
        obtain ⟨o_a12, h⟩ := h
        obtain ⟨i13, h⟩ := h
        refine r_iald (pc := 125) C dX11_road_125 o_a12 i13 ?_
        refine r_topi (fun x14 ex14 => ?_)
        have h := h x14 ex14
        refine r_callVi0 (pc := 126) C (rest := []) (a := v0) o_v0 [.int x14] yV_X11_good g_1518 (c_X11_good h) dX11_road_126 rfl rfl (Nat.le_of_ble_eq_true rfl) ⟨by decide, by decide⟩ ⟨by decide, by decide⟩ ⟨rfl, rfl⟩ (fun x17 S15 h g16 => ?_)
        have h := h g16
        have o_a11 := gr_ob g16 o_a11
        have o_a12 := gr_ob g16 o_a12
        have o_v0 := gr_ob g16 o_v0
        exact r_iret (pc := 129) C E ht dX11_road_129 (by decide) (by decide) h
      · match j, hj, hx with
        | 0, _, hx =>
          refine ⟨31, 60, rfl, by decide, ?_⟩
          have h := h.2.1 (by simpa using hx)
          refine r_aload_n (pc := 60) C dX11_road_60 0 rfl ?_
          refine r_aload_n (pc := 61) C dX11_road_61 0 rfl ?_
          obtain ⟨a18, ea18, h⟩ := h
          refine r_getr (pc := 62) C fL_X11_338 dX11_road_62 o_v0 ea18 ?_
          obtain ⟨o_a18, h⟩ := h
          obtain ⟨a19, ea19, h⟩ := h
          refine r_getNr (pc := 65) C fN_X11_270 dX11_road_65 o_a18 ea19 ?_
          refine r_iload_n (pc := 68) C dX11_road_68 1 rfl ?_
          obtain ⟨o_a19, h⟩ := h
          obtain ⟨i20, h⟩ := h
          refine r_iald (pc := 69) C dX11_road_69 o_a19 i20 ?_
          refine r_topi (fun x21 ex21 => ?_)
          have h := h x21 ex21
          refine r_callVi0 (pc := 70) C (rest := []) (a := v0) o_v0 [.int x21] yV_X11_good g_1518 (c_X11_good h) dX11_road_70 rfl rfl (Nat.le_of_ble_eq_true rfl) ⟨by decide, by decide⟩ ⟨by decide, by decide⟩ ⟨rfl, rfl⟩ (fun x24 S22 h g23 => ?_)
          have h := h g23
          have o_a18 := gr_ob g23 o_a18
          have o_a19 := gr_ob g23 o_a19
          have o_v0 := gr_ob g23 o_v0
          exact r_iret (pc := 73) C E ht dX11_road_73 (by decide) (by decide) h
        | 1, _, hx =>
          refine ⟨45, 74, rfl, by decide, ?_⟩
          have h := h.2.2.1 (by simpa using hx)
          refine r_aload_n (pc := 74) C dX11_road_74 0 rfl ?_
          refine r_aload_n (pc := 75) C dX11_road_75 0 rfl ?_
          obtain ⟨a25, ea25, h⟩ := h
          refine r_getr (pc := 76) C fL_X11_338 dX11_road_76 o_v0 ea25 ?_
          obtain ⟨o_a25, h⟩ := h
          obtain ⟨a26, ea26, h⟩ := h
          refine r_getNr (pc := 79) C fN_X11_273 dX11_road_79 o_a25 ea26 ?_
          refine r_iload_n (pc := 82) C dX11_road_82 1 rfl ?_
          obtain ⟨o_a26, h⟩ := h
          obtain ⟨i27, h⟩ := h
          refine r_iald (pc := 83) C dX11_road_83 o_a26 i27 ?_
          refine r_topi (fun x28 ex28 => ?_)
          have h := h x28 ex28
          refine r_callVi0 (pc := 84) C (rest := []) (a := v0) o_v0 [.int x28] yV_X11_good g_1518 (c_X11_good h) dX11_road_84 rfl rfl (Nat.le_of_ble_eq_true rfl) ⟨by decide, by decide⟩ ⟨by decide, by decide⟩ ⟨rfl, rfl⟩ (fun x31 S29 h g30 => ?_)
          have h := h g30
          have o_a25 := gr_ob g30 o_a25
          have o_a26 := gr_ob g30 o_a26
          have o_v0 := gr_ob g30 o_v0
          exact r_iret (pc := 87) C E ht dX11_road_87 (by decide) (by decide) h
        | 2, _, hx =>
          refine ⟨59, 88, rfl, by decide, ?_⟩
          have h := h.2.2.2.1 (by simpa using hx)
          refine r_aload_n (pc := 88) C dX11_road_88 0 rfl ?_
          refine r_aload_n (pc := 89) C dX11_road_89 0 rfl ?_
          obtain ⟨a32, ea32, h⟩ := h
          refine r_getr (pc := 90) C fL_X11_338 dX11_road_90 o_v0 ea32 ?_
          obtain ⟨o_a32, h⟩ := h
          obtain ⟨a33, ea33, h⟩ := h
          refine r_getNr (pc := 93) C fN_X11_276 dX11_road_93 o_a32 ea33 ?_
          refine r_iload_n (pc := 96) C dX11_road_96 1 rfl ?_
          obtain ⟨o_a33, h⟩ := h
          obtain ⟨i34, h⟩ := h
          refine r_iald (pc := 97) C dX11_road_97 o_a33 i34 ?_
          refine r_topi (fun x35 ex35 => ?_)
          have h := h x35 ex35
          refine r_callVi0 (pc := 98) C (rest := []) (a := v0) o_v0 [.int x35] yV_X11_good g_1518 (c_X11_good h) dX11_road_98 rfl rfl (Nat.le_of_ble_eq_true rfl) ⟨by decide, by decide⟩ ⟨by decide, by decide⟩ ⟨rfl, rfl⟩ (fun x38 S36 h g37 => ?_)
          have h := h g37
          have o_a32 := gr_ob g37 o_a32
          have o_a33 := gr_ob g37 o_a33
          have o_v0 := gr_ob g37 o_v0
          exact r_iret (pc := 101) C E ht dX11_road_101 (by decide) (by decide) h
        | 3, _, hx =>
          refine ⟨73, 102, rfl, by decide, ?_⟩
          have h := h.2.2.2.2 (by simpa using hx)
          refine r_aload_n (pc := 102) C dX11_road_102 0 rfl ?_
          refine r_aload_n (pc := 103) C dX11_road_103 0 rfl ?_
          obtain ⟨a39, ea39, h⟩ := h
          refine r_getr (pc := 104) C fL_X11_338 dX11_road_104 o_v0 ea39 ?_
          obtain ⟨o_a39, h⟩ := h
          obtain ⟨a40, ea40, h⟩ := h
          refine r_getNr (pc := 107) C fN_X11_279 dX11_road_107 o_a39 ea40 ?_
          refine r_iload_n (pc := 110) C dX11_road_110 1 rfl ?_
          obtain ⟨o_a40, h⟩ := h
          obtain ⟨i41, h⟩ := h
          refine r_iald (pc := 111) C dX11_road_111 o_a40 i41 ?_
          refine r_topi (fun x42 ex42 => ?_)
          have h := h x42 ex42
          refine r_callVi0 (pc := 112) C (rest := []) (a := v0) o_v0 [.int x42] yV_X11_good g_1518 (c_X11_good h) dX11_road_112 rfl rfl (Nat.le_of_ble_eq_true rfl) ⟨by decide, by decide⟩ ⟨by decide, by decide⟩ ⟨rfl, rfl⟩ (fun x45 S43 h g44 => ?_)
          have h := h g44
          have o_a39 := gr_ob g44 o_a39
          have o_a40 := gr_ob g44 o_a40
          have o_v0 := gr_ob g44 o_v0
          exact r_iret (pc := 115) C E ht dX11_road_115 (by decide) (by decide) h
        | j + 4, hj, _ => exact absurd hj (by omega)
    · have h := h.2 c9
      exact r_sub [0] rfl (T_X11_road_22 C E ht hn h)
def P_X11_road (v0 : Nat) (v1 : Int32) (v2 : Int32) (Q : Int32 → HS → Prop) (S : HS) : Prop := P_X11_road_0 Q v0 v1 v2 S
theorem c_X11_road {l : Launch} {Ee : EE} {S : HS} {v0 : Nat} {v1 : Int32} {v2 : Int32} {Q : Int32 → HS → Prop} (h : P_X11_road v0 v1 v2 Q S) : MI l yX11_road cX11_road 3 (some .int) rm_X11_road Ee S [.ref v0, .int v1, .int v2] Q :=
  openI (by decide) (Nat.le_of_ble_eq_true rfl) (fun X C E ht hn hE hl => by subst hE; exact r_sub [0, 1, 2] rfl (T_X11_road_0 C E ht hn h))
