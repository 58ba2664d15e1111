def rm_X4_whole : Room := { frames := 2, cells := 0, slots := 0, locals := 46 }
def P_X4_whole_34 (Q : Int32 → HS → Prop) (v0 : Nat) (S : HS) : Prop := ob S v0 4 ∧ (P_X4_fail v0 (4 : Int32) (fun x3 S1 => Gr S S1 → bl x3 → (bl x3 ∧ Q x3 S1)) S)
set_option maxRecDepth 20000 in
set_option maxHeartbeats 4000000 in
theorem T_X4_whole_34 {X : CX} {Q : Int32 → HS → Prop} (C : Cx X cX4_whole RX4 3 rm_X4_whole) (E : ReI X rm_X4_whole (fun r S => bl r ∧ Q r S)) (ht : (xh X).sig.returnType = (some .boolean)) (hn : (xh X).name = yX4_whole.name) {v0 : Nat} {S : HS} (h : P_X4_whole_34 Q v0 S) : WS X 3 0 0 34 [(0, .ref v0)] [] S := by
  refine r_aload_n (pc := 34) C dX4_whole_34 0 rfl ?_
  refine r_iconst (pc := 35) C (v := (4 : Int32)) dX4_whole_35 (by decide) ?_
  obtain ⟨o_v0, h⟩ := h
  refine r_callVi0 (pc := 36) C (rest := []) (a := v0) o_v0 [.int (4 : Int32)] yV_X4_fail g_519 (c_X4_fail h) dX4_whole_36 rfl rfl (by decide) ⟨by decide, by decide⟩ ⟨by decide, by decide⟩ ⟨rfl, rfl⟩ (fun x3 S1 h g2 => ?_)
  have bx3 := h.1
  have h := h.2 g2 bx3
  have o_v0 := gr_ob g2 o_v0
  exact r_zret (pc := 39) C E ht dX4_whole_39 (by decide) (by decide) h.1 h.2
def P_X4_whole_0 (Q : Int32 → HS → Prop) (v0 : Nat) (v1 : Int32) (v2 : Int32) (S : HS) : Prop := ob S v0 4 ∧ (∀ x1 : Int32, x1 = fI S v0 6 → (((x1 = (2 : Int32)) → (∀ x3 : Int64, x3 = fJ S v0 8 → ((((lg_cmp x3 v1.toInt64) < 0) → (P_X4_whole_34 Q v0 S)) ∧ ((¬ (lg_cmp x3 v1.toInt64) < 0) → (∀ x5 : Int64, x5 = fJ S v0 8 → ((((lg_cmp x5 v2.toInt64) ≤ 0) → (∀ x7 : Int64, x7 = fJ S v0 8 → (∀ x8 : Int32, x8 = x7.toInt32 → (P_X4_next v0 (fun S9 => Gr (sI S v0 9 x8) S9 → (Q (1 : Int32) S9)) (sI S v0 9 x8))))) ∧ ((¬ (lg_cmp x5 v2.toInt64) ≤ 0) → (P_X4_whole_34 Q v0 S)))))))) ∧ ((¬ x1 = (2 : Int32)) → (P_X4_fail v0 (1 : Int32) (fun x14 S12 => Gr S S12 → bl x14 → (bl x14 ∧ Q x14 S12)) S))))
set_option maxRecDepth 20000 in
set_option maxHeartbeats 4000000 in
theorem T_X4_whole_0 {X : CX} {Q : Int32 → HS → Prop} (C : Cx X cX4_whole RX4 3 rm_X4_whole) (E : ReI X rm_X4_whole (fun r S => bl r ∧ Q r S)) (ht : (xh X).sig.returnType = (some .boolean)) (hn : (xh X).name = yX4_whole.name) {v0 : Nat} {v1 : Int32} {v2 : Int32} {S : HS} (h : P_X4_whole_0 Q v0 v1 v2 S) : WS X 3 0 0 0 [(0, .ref v0), (1, .int v1), (2, .int v2)] [] S := by
  refine r_aload_n (pc := 0) C dX4_whole_0 0 rfl ?_
  obtain ⟨o_v0, h⟩ := h
  refine r_geti (pc := 1) C fL_X4_92 dX4_whole_1 o_v0 ?_
  refine r_topi (fun x1 ex1 => ?_)
  have h := h x1 ex1
  refine r_iconst (pc := 4) C (v := (2 : Int32)) dX4_whole_4 (by decide) ?_
  refine r_icmp_eq (pc := 5) C (tgt := 14) dX4_whole_5 (by decide) (fun c2 => ?_) (fun c2 => ?_)
  · have h := h.1 c2
    refine r_aload_n (pc := 14) C dX4_whole_14 0 rfl ?_
    refine r_getl (pc := 15) C fL_X4_132 dX4_whole_15 o_v0 ?_
    refine r_topl (fun x3 ex3 => ?_)
    have h := h x3 ex3
    refine r_iload_n (pc := 18) C dX4_whole_18 1 rfl ?_
    refine r_i2l (pc := 19) C dX4_whole_19 ?_
    refine r_lcmp (pc := 20) C dX4_whole_20 ?_
    refine r_if_lt (pc := 21) C (tgt := 34) dX4_whole_21 (by decide) (fun c4 => ?_) (fun c4 => ?_)
    · have h := h.1 c4
      exact r_sub [0] rfl (T_X4_whole_34 C E ht hn h)
    · have h := h.2 c4
      refine r_aload_n (pc := 24) C dX4_whole_24 0 rfl ?_
      refine r_getl (pc := 25) C fL_X4_132 dX4_whole_25 o_v0 ?_
      refine r_topl (fun x5 ex5 => ?_)
      have h := h x5 ex5
      refine r_iload_n (pc := 28) C dX4_whole_28 2 rfl ?_
      refine r_i2l (pc := 29) C dX4_whole_29 ?_
      refine r_lcmp (pc := 30) C dX4_whole_30 ?_
      refine r_if_le (pc := 31) C (tgt := 40) dX4_whole_31 (by decide) (fun c6 => ?_) (fun c6 => ?_)
      · have h := h.1 c6
        refine r_aload_n (pc := 40) C dX4_whole_40 0 rfl ?_
        refine r_aload_n (pc := 41) C dX4_whole_41 0 rfl ?_
        refine r_getl (pc := 42) C fL_X4_132 dX4_whole_42 o_v0 ?_
        refine r_topl (fun x7 ex7 => ?_)
        have h := h x7 ex7
        refine r_l2i (pc := 45) C dX4_whole_45 ?_
        refine r_topi (fun x8 ex8 => ?_)
        have h := h x8 ex8
        refine r_puti (pc := 46) C pfL_X4_147 dX4_whole_46 o_v0 ?_
        refine r_aload_n (pc := 49) C dX4_whole_49 0 rfl ?_
        refine r_callVv0 (pc := 50) C (rest := []) (a := v0) o_v0 [] yV_X4_next g_449 (c_X4_next h) dX4_whole_50 rfl rfl (by decide) ⟨by decide, by decide⟩ ⟨by decide, by decide⟩ ⟨rfl, rfl⟩ (fun S9 h g10 => ?_)
        have h := h g10
        have o_v0 := gr_ob g10 o_v0
        refine r_iconst (pc := 53) C (v := (1 : Int32)) dX4_whole_53 (by decide) ?_
        exact r_zret (pc := 54) C E ht dX4_whole_54 (by decide) (by decide) (Or.inr rfl) h
      · have h := h.2 c6
        exact r_sub [0] rfl (T_X4_whole_34 C E ht hn h)
  · have h := h.2 c2
    refine r_aload_n (pc := 8) C dX4_whole_8 0 rfl ?_
    refine r_iconst (pc := 9) C (v := (1 : Int32)) dX4_whole_9 (by decide) ?_
    refine r_callVi0 (pc := 10) C (rest := []) (a := v0) o_v0 [.int (1 : Int32)] yV_X4_fail g_519 (c_X4_fail h) dX4_whole_10 rfl rfl (by decide) ⟨by decide, by decide⟩ ⟨by decide, by decide⟩ ⟨rfl, rfl⟩ (fun x14 S12 h g13 => ?_)
    have bx14 := h.1
    have h := h.2 g13 bx14
    have o_v0 := gr_ob g13 o_v0
    exact r_zret (pc := 13) C E ht dX4_whole_13 (by decide) (by decide) h.1 h.2
def P_X4_whole (v0 : Nat) (v1 : Int32) (v2 : Int32) (Q : Int32 → HS → Prop) (S : HS) : Prop := P_X4_whole_0 Q v0 v1 v2 S
theorem c_X4_whole {l : Launch} {Ee : EE} {S : HS} {v0 : Nat} {v1 : Int32} {v2 : Int32} {Q : Int32 → HS → Prop} (h : P_X4_whole v0 v1 v2 Q S) : MI l yX4_whole cX4_whole 3 (some .boolean) rm_X4_whole Ee S [.ref v0, .int v1, .int v2] (fun r S => bl r ∧ Q r S) :=
  openI (by decide) (by decide) (fun X C E ht hn hE hl => by subst hE; exact r_sub [0, 1, 2] rfl (T_X4_whole_0 C E ht hn h))
def rm_X4_is : Room := { frames := 5, cells := 0, slots := 0, locals := 120 }
def B_X4_is_15 (Q : Int32 → HS → Prop) (X15 : Nat → Nat → Int64 → Int32 → HS → Prop) (v0 : Nat) (v1 : Nat) (v2 : Int64) (v4 : Int32) (S : HS) : Prop := v1 < 54 ∧ ∀ x1 : Int32, x1 = nI (sLen.getD v1 0) → (((x1 ≤ v4) → (ob S v0 4 ∧ (∀ x3 : Int64, x3 = fJ S v0 8 → (((¬ (lg_cmp x3 v2) = 0) → (Q (0 : Int32) S)) ∧ (((lg_cmp x3 v2) = 0) → (Q (1 : Int32) S)))))) ∧ ((¬ x1 ≤ v4) → (v1 < 54 ∧ vp_in v4 (sLen.getD v1 0) ∧ ∀ x5 : Int32, x5 = sch v1 v4 → (∀ x6 : Int64, x6 = (v2 * (32 : Int64)) + ((x5 &&& (31 : Int32)).toInt64) → (∀ x7 : Int32, x7 = v4 + (1 : Int32) → (X15 v0 v1 x6 x7 S))))))
def P_X4_is_15 (Q : Int32 → HS → Prop) (v0 : Nat) (v1 : Nat) (v2 : Int64) (v4 : Int32) (S : HS) : Prop := ∀ X15 : Nat → Nat → Int64 → Int32 → HS → Prop, (∀ (v0 : Nat) (v1 : Nat) (v2 : Int64) (v4 : Int32) (S : HS), B_X4_is_15 Q X15 v0 v1 v2 v4 S → X15 v0 v1 v2 v4 S) → X15 v0 v1 v2 v4 S
set_option maxRecDepth 20000 in
set_option maxHeartbeats 4000000 in
theorem TB_X4_is_15 {X : CX} {Q : Int32 → HS → Prop} (C : Cx X cX4_is RX4 5 rm_X4_is) (E : ReI X rm_X4_is (fun r S => bl r ∧ Q r S)) (ht : (xh X).sig.returnType = (some .boolean)) (hn : (xh X).name = yX4_is.name) {X15 : Nat → Nat → Int64 → Int32 → HS → Prop} (hX15 : ∀ (v0 : Nat) (v1 : Nat) (v2 : Int64) (v4 : Int32) (S : HS), X15 v0 v1 v2 v4 S → WS X 5 0 0 15 [(0, .ref v0), (1, .ref (eK (xE X) v1)), (2, .long v2), (4, .int v4)] [] S) {v0 : Nat} {v1 : Nat} {v2 : Int64} {v4 : Int32} {S : HS} (h : B_X4_is_15 Q X15 v0 v1 v2 v4 S) : WS X 5 0 0 15 [(0, .ref v0), (1, .ref (eK (xE X) v1)), (2, .long v2), (4, .int v4)] [] S := by
  refine r_iload (pc := 15) C dX4_is_15 3 rfl ?_
  refine r_aload_n (pc := 17) C dX4_is_17 1 rfl ?_
  obtain ⟨hw, h⟩ := h
  refine r_slen (pc := 18) C g_462 dX4_is_18 hw (by decide) (by decide) (by decide) (by decide) (by decide) ?_
  refine r_topi (fun x1 ex1 => ?_)
  have h := h x1 ex1
  refine r_icmp_ge (pc := 21) C (tgt := 47) dX4_is_21 (by decide) (fun c2 => ?_) (fun c2 => ?_)
  · have h := h.1 c2
    refine r_aload_n (pc := 47) C dX4_is_47 0 rfl ?_
    obtain ⟨o_v0, h⟩ := h
    refine r_getl (pc := 48) C fL_X4_132 dX4_is_48 o_v0 ?_
    refine r_topl (fun x3 ex3 => ?_)
    have h := h x3 ex3
    refine r_lload_n (pc := 51) C dX4_is_51 2 rfl ?_
    refine r_lcmp (pc := 52) C dX4_is_52 ?_
    refine r_if_ne (pc := 53) C (tgt := 60) dX4_is_53 (by decide) (fun c4 => ?_) (fun c4 => ?_)
    · have h := h.1 c4
      refine r_iconst (pc := 60) C (v := (0 : Int32)) dX4_is_60 (by decide) ?_
      exact r_zret (pc := 61) C E ht dX4_is_61 (by decide) (by decide) (Or.inl rfl) h
    · have h := h.2 c4
      refine r_iconst (pc := 56) C (v := (1 : Int32)) dX4_is_56 (by decide) ?_
      refine r_goto (pc := 57) C (tgt := 61) dX4_is_57 (by decide) ?_
      exact r_zret (pc := 61) C E ht dX4_is_61 (by decide) (by decide) (Or.inr rfl) h
  · have h := h.2 c2
    refine r_lload_n (pc := 24) C dX4_is_24 2 rfl ?_
    refine r_ldc2 (pc := 25) C (v := (32 : Int64)) dX4_is_25 g_472 ?_
    refine r_lmul (pc := 28) C dX4_is_28 ?_
    refine r_aload_n (pc := 29) C dX4_is_29 1 rfl ?_
    refine r_iload (pc := 30) C dX4_is_30 3 rfl ?_
    obtain ⟨hw, hw2, h⟩ := h
    refine r_schar (pc := 32) C g_473 dX4_is_32 hw hw2 (by decide) (by decide) (by decide) (by decide) (by decide) ?_
    refine r_topi (fun x5 ex5 => ?_)
    have h := h x5 ex5
    refine r_bipush (pc := 35) C (v := (31 : Int32)) dX4_is_35 (by decide) ?_
    refine r_iand (pc := 37) C dX4_is_37 ?_
    refine r_i2l (pc := 38) C dX4_is_38 ?_
    refine r_ladd (pc := 39) C dX4_is_39 ?_
    refine r_topl (fun x6 ex6 => ?_)
    have h := h x6 ex6
    refine r_lstore_n (pc := 40) C dX4_is_40 rfl (by decide) (lv' := [(2, .long x6), (0, .ref v0), (1, .ref (eK (xE X) v1)), (4, .int v4)]) rfl ?_
    obtain ⟨x7, ex7⟩ : ∃ z : Int32, z = v4 + (1 : Int32) := ⟨_, rfl⟩
    have h := h x7 ex7
    refine r_iinc (pc := 41) C (v := x7) (lv' := [(4, .int x7), (2, .long x6), (0, .ref v0), (1, .ref (eK (xE X) v1))]) dX4_is_41 3 rfl ex7.symm (by decide) rfl ?_
    refine r_goto (pc := 44) C (tgt := 15) dX4_is_44 (by decide) ?_
    exact r_sub [2, 3, 1, 0] rfl (hX15 v0 v1 x6 x7 S h)
theorem T_X4_is_15 {X : CX} {Q : Int32 → HS → Prop} (C : Cx X cX4_is RX4 5 rm_X4_is) (E : ReI X rm_X4_is (fun r S => bl r ∧ Q r S)) (ht : (xh X).sig.returnType = (some .boolean)) (hn : (xh X).name = yX4_is.name) {v0 : Nat} {v1 : Nat} {v2 : Int64} {v4 : Int32} {S : HS} (h : P_X4_is_15 Q v0 v1 v2 v4 S) : WS X 5 0 0 15 [(0, .ref v0), (1, .ref (eK (xE X) v1)), (2, .long v2), (4, .int v4)] [] S :=
  h (fun v0 v1 v2 v4 S => WS X 5 0 0 15 [(0, .ref v0), (1, .ref (eK (xE X) v1)), (2, .long v2), (4, .int v4)] [] S) (fun v0 v1 v2 v4 S hh => TB_X4_is_15 C E ht hn (fun v0 v1 v2 v4 S z => z) hh)
def P_X4_is_0 (Q : Int32 → HS → Prop) (v0 : Nat) (v1 : Nat) (S : HS) : Prop := ob S v0 4 ∧ (∀ x1 : Int32, x1 = fI S v0 6 → (((x1 = (1 : Int32)) → (P_X4_is_15 Q v0 v1 (0 : Int64) (0 : Int32) S)) ∧ ((¬ x1 = (1 : Int32)) → (Q (0 : Int32) S))))
set_option maxRecDepth 20000 in
set_option maxHeartbeats 4000000 in
theorem T_X4_is_0 {X : CX} {Q : Int32 → HS → Prop} (C : Cx X cX4_is RX4 5 rm_X4_is) (E : ReI X rm_X4_is (fun r S => bl r ∧ Q r S)) (ht : (xh X).sig.returnType = (some .boolean)) (hn : (xh X).name = yX4_is.name) {v0 : Nat} {v1 : Nat} {S : HS} (h : P_X4_is_0 Q v0 v1 S) : WS X 5 0 0 0 [(0, .ref v0), (1, .ref (eK (xE X) v1))] [] S := by
  refine r_aload_n (pc := 0) C dX4_is_0 0 rfl ?_
  obtain ⟨o_v0, h⟩ := h
  refine r_geti (pc := 1) C fL_X4_92 dX4_is_1 o_v0 ?_
  refine r_topi (fun x1 ex1 => ?_)
  have h := h x1 ex1
  refine r_iconst (pc := 4) C (v := (1 : Int32)) dX4_is_4 (by decide) ?_
  refine r_icmp_eq (pc := 5) C (tgt := 10) dX4_is_5 (by decide) (fun c2 => ?_) (fun c2 => ?_)
  · have h := h.1 c2
    refine r_lconst (pc := 10) C (v := (0 : Int64)) dX4_is_10 (by decide) ?_
    refine r_lstore_n (pc := 11) C dX4_is_11 rfl (by decide) (lv' := [(2, .long (0 : Int64)), (0, .ref v0), (1, .ref (eK (xE X) v1))]) rfl ?_
    refine r_iconst (pc := 12) C (v := (0 : Int32)) dX4_is_12 (by decide) ?_
    refine r_istore (pc := 13) C dX4_is_13 (by decide) (lv' := [(4, .int (0 : Int32)), (2, .long (0 : Int64)), (0, .ref v0), (1, .ref (eK (xE X) v1))]) rfl ?_
    exact r_sub [2, 3, 1, 0] rfl (T_X4_is_15 C E ht hn h)
  · have h := h.2 c2
    refine r_iconst (pc := 8) C (v := (0 : Int32)) dX4_is_8 (by decide) ?_
    exact r_zret (pc := 9) C E ht dX4_is_9 (by decide) (by decide) (Or.inl rfl) h
def P_X4_is (v0 : Nat) (v1 : Nat) (Q : Int32 → HS → Prop) (S : HS) : Prop := P_X4_is_0 Q v0 v1 S
theorem c_X4_is {l : Launch} {Ee : EE} {S : HS} {v0 : Nat} {v1 : Nat} {Q : Int32 → HS → Prop} (h : P_X4_is v0 v1 Q S) : MI l yX4_is cX4_is 5 (some .boolean) rm_X4_is Ee S [.ref v0, .ref (eK Ee v1)] (fun r S => bl r ∧ Q r S) :=
  openI (by decide) (by decide) (fun X C E ht hn hE hl => by subst hE; exact r_sub [0, 1] rfl (T_X4_is_0 C E ht hn h))
def rm_X4_word : Room := { frames := 6, cells := 0, slots := 0, locals := 144 }
def P_X4_word_0 (Q : Int32 → HS → Prop) (v0 : Nat) (v1 : Nat) (S : HS) : Prop := ob S v0 4 ∧ (P_X4_is v0 v1 (fun x3 S1 => Gr S S1 → bl x3 → (((¬ x3 = 0) → (P_X4_next v0 (fun S5 => Gr S1 S5 → (Q (1 : Int32) S5)) S1)) ∧ ((x3 = 0) → (P_X4_fail v0 (1 : Int32) (fun x10 S8 => Gr S1 S8 → bl x10 → (bl x10 ∧ Q x10 S8)) S1)))) S)
set_option maxRecDepth 20000 in
set_option maxHeartbeats 4000000 in
theorem T_X4_word_0 {X : CX} {Q : Int32 → HS → Prop} (C : Cx X cX4_word RX4 2 rm_X4_word) (E : ReI X rm_X4_word (fun r S => bl r ∧ Q r S)) (ht : (xh X).sig.returnType = (some .boolean)) (hn : (xh X).name = yX4_word.name) {v0 : Nat} {v1 : Nat} {S : HS} (h : P_X4_word_0 Q v0 v1 S) : WS X 2 0 0 0 [(0, .ref v0), (1, .ref (eK (xE X) v1))] [] S := by
  refine r_aload_n (pc := 0) C dX4_word_0 0 rfl ?_
  refine r_aload_n (pc := 1) C dX4_word_1 1 rfl ?_
  obtain ⟨o_v0, h⟩ := h
  refine r_callVi0 (pc := 2) C (rest := []) (a := v0) o_v0 [.ref (eK (xE X) v1)] yV_X4_is g_458 (c_X4_is h) dX4_word_2 rfl rfl (by decide) ⟨by decide, by decide⟩ ⟨by decide, by decide⟩ ⟨rfl, rfl⟩ (fun x3 S1 h g2 => ?_)
  have bx3 := h.1
  have h := h.2 g2 bx3
  have o_v0 := gr_ob g2 o_v0
  refine r_if_ne (pc := 5) C (tgt := 14) dX4_word_5 (by decide) (fun c4 => ?_) (fun c4 => ?_)
  · have h := h.1 c4
    refine r_aload_n (pc := 14) C dX4_word_14 0 rfl ?_
    refine r_callVv0 (pc := 15) C (rest := []) (a := v0) o_v0 [] yV_X4_next g_449 (c_X4_next h) dX4_word_15 rfl rfl (by decide) ⟨by decide, by decide⟩ ⟨by decide, by decide⟩ ⟨rfl, rfl⟩ (fun S5 h g6 => ?_)
    have h := h g6
    have o_v0 := gr_ob g6 o_v0
    refine r_iconst (pc := 18) C (v := (1 : Int32)) dX4_word_18 (by decide) ?_
    exact r_zret (pc := 19) C E ht dX4_word_19 (by decide) (by decide) (Or.inr rfl) h
  · have h := h.2 c4
    refine r_aload_n (pc := 8) C dX4_word_8 0 rfl ?_
    refine r_iconst (pc := 9) C (v := (1 : Int32)) dX4_word_9 (by decide) ?_
    refine r_callVi0 (pc := 10) C (rest := []) (a := v0) o_v0 [.int (1 : Int32)] yV_X4_fail g_519 (c_X4_fail h) dX4_word_10 rfl rfl (by decide) ⟨by decide, by decide⟩ ⟨by decide, by decide⟩ ⟨rfl, rfl⟩ (fun x10 S8 h g9 => ?_)
    have bx10 := h.1
    have h := h.2 g9 bx10
    have o_v0 := gr_ob g9 o_v0
    exact r_zret (pc := 13) C E ht dX4_word_13 (by decide) (by decide) h.1 h.2
def P_X4_word (v0 : Nat) (v1 : Nat) (Q : Int32 → HS → Prop) (S : HS) : Prop := P_X4_word_0 Q v0 v1 S
theorem c_X4_word {l : Launch} {Ee : EE} {S : HS} {v0 : Nat} {v1 : Nat} {Q : Int32 → HS → Prop} (h : P_X4_word v0 v1 Q S) : MI l yX4_word cX4_word 2 (some .boolean) rm_X4_word Ee S [.ref v0, .ref (eK Ee v1)] (fun r S => bl r ∧ Q r S) :=
  openI (by decide) (by decide) (fun X C E ht hn hE hl => by subst hE; exact r_sub [0, 1] rfl (T_X4_word_0 C E ht hn h))
def rm_X4_wordAndWhole : Room := { frames := 7, cells := 0, slots := 0, locals := 165 }
def P_X4_wordAndWhole_0 (Q : Int32 → HS → Prop) (v0 : Nat) (v1 : Nat) (v2 : Int32) (v3 : Int32) (S : HS) : Prop := ob S v0 4 ∧ (P_X4_word v0 v1 (fun x3 S1 => Gr S S1 → bl x3 → (((x3 = 0) → (Q (0 : Int32) S1)) ∧ ((¬ x3 = 0) → (P_X4_whole v0 v2 v3 (fun x7 S5 => Gr S1 S5 → bl x7 → (((x7 = 0) → (Q (0 : Int32) S5)) ∧ ((¬ x7 = 0) → (Q (1 : Int32) S5)))) S1)))) S)
set_option maxRecDepth 20000 in
set_option maxHeartbeats 4000000 in
theorem T_X4_wordAndWhole_0 {X : CX} {Q : Int32 → HS → Prop} (C : Cx X cX4_wordAndWhole RX4 4 rm_X4_wordAndWhole) (E : ReI X rm_X4_wordAndWhole (fun r S => bl r ∧ Q r S)) (ht : (xh X).sig.returnType = (some .boolean)) (hn : (xh X).name = yX4_wordAndWhole.name) {v0 : Nat} {v1 : Nat} {v2 : Int32} {v3 : Int32} {S : HS} (h : P_X4_wordAndWhole_0 Q v0 v1 v2 v3 S) : WS X 4 0 0 0 [(0, .ref v0), (1, .ref (eK (xE X) v1)), (2, .int v2), (3, .int v3)] [] S := by
  refine r_aload_n (pc := 0) C dX4_wordAndWhole_0 0 rfl ?_
  refine r_aload_n (pc := 1) C dX4_wordAndWhole_1 1 rfl ?_
  obtain ⟨o_v0, h⟩ := h
  refine r_callVi0 (pc := 2) C (rest := []) (a := v0) o_v0 [.ref (eK (xE X) v1)] yV_X4_word g_528 (c_X4_word h) dX4_wordAndWhole_2 rfl rfl (by decide) ⟨by decide, by decide⟩ ⟨by decide, by decide⟩ ⟨rfl, rfl⟩ (fun x3 S1 h g2 => ?_)
  have bx3 := h.1
  have h := h.2 g2 bx3
  have o_v0 := gr_ob g2 o_v0
  refine r_if_eq (pc := 5) C (tgt := 21) dX4_wordAndWhole_5 (by decide) (fun c4 => ?_) (fun c4 => ?_)
  · have h := h.1 c4
    refine r_iconst (pc := 21) C (v := (0 : Int32)) dX4_wordAndWhole_21 (by decide) ?_
    exact r_zret (pc := 22) C E ht dX4_wordAndWhole_22 (by decide) (by decide) (Or.inl rfl) h
  · have h := h.2 c4
    refine r_aload_n (pc := 8) C dX4_wordAndWhole_8 0 rfl ?_
    refine r_iload_n (pc := 9) C dX4_wordAndWhole_9 2 rfl ?_
    refine r_iload_n (pc := 10) C dX4_wordAndWhole_10 3 rfl ?_
    refine r_callVi0 (pc := 11) C (rest := []) (a := v0) o_v0 [.int v2, .int v3] yV_X4_whole g_532 (c_X4_whole h) dX4_wordAndWhole_11 rfl rfl (by decide) ⟨by decide, by decide⟩ ⟨by decide, by decide⟩ ⟨rfl, rfl⟩ (fun x7 S5 h g6 => ?_)
    have bx7 := h.1
    have h := h.2 g6 bx7
    have o_v0 := gr_ob g6 o_v0
    refine r_if_eq (pc := 14) C (tgt := 21) dX4_wordAndWhole_14 (by decide) (fun c8 => ?_) (fun c8 => ?_)
    · have h := h.1 c8
      refine r_iconst (pc := 21) C (v := (0 : Int32)) dX4_wordAndWhole_21 (by decide) ?_
      exact r_zret (pc := 22) C E ht dX4_wordAndWhole_22 (by decide) (by decide) (Or.inl rfl) h
    · have h := h.2 c8
      refine r_iconst (pc := 17) C (v := (1 : Int32)) dX4_wordAndWhole_17 (by decide) ?_
      refine r_goto (pc := 18) C (tgt := 22) dX4_wordAndWhole_18 (by decide) ?_
      exact r_zret (pc := 22) C E ht dX4_wordAndWhole_22 (by decide) (by decide) (Or.inr rfl) h
def P_X4_wordAndWhole (v0 : Nat) (v1 : Nat) (v2 : Int32) (v3 : Int32) (Q : Int32 → HS → Prop) (S : HS) : Prop := P_X4_wordAndWhole_0 Q v0 v1 v2 v3 S
theorem c_X4_wordAndWhole {l : Launch} {Ee : EE} {S : HS} {v0 : Nat} {v1 : Nat} {v2 : Int32} {v3 : Int32} {Q : Int32 → HS → Prop} (h : P_X4_wordAndWhole v0 v1 v2 v3 Q S) : MI l yX4_wordAndWhole cX4_wordAndWhole 4 (some .boolean) rm_X4_wordAndWhole Ee S [.ref v0, .ref (eK Ee v1), .int v2, .int v3] (fun r S => bl r ∧ Q r S) :=
  openI (by decide) (by decide) (fun X C E ht hn hE hl => by subst hE; exact r_sub [0, 1, 2, 3] rfl (T_X4_wordAndWhole_0 C E ht hn h))
def rm_X6_shape : Room := { frames := 0, cells := 0, slots := 0, locals := 0 }
def P_X6_shape_16 (Q : HS → Prop) (v0 : Nat) (v1 : Int32) (v2 : Int32) (v3 : Int32) (s0 : Int32) (S : HS) : Prop := ob S v0 6 ∧ (∀ x1 : Int32, x1 = v1 * (v2 + s0) → (∀ x2 : Int32, x2 = v1 * (v3 - s0) → (∀ x3 : Int32, x3 = (v2 + s0) * (v3 - s0) → (Q (sI (sI (sI S v0 2 x1) v0 3 x2) v0 4 x3)))))
set_option maxRecDepth 20000 in
set_option maxHeartbeats 4000000 in
theorem T_X6_shape_16 {X : CX} {Q : HS → Prop} (C : Cx X cX6_shape RX6 5 rm_X6_shape) (E : ReV X rm_X6_shape Q) (ht : (xh X).sig.returnType = none) (hn : (xh X).name = yX6_shape.name) {v0 : Nat} {v1 : Int32} {v2 : Int32} {v3 : Int32} {s0 : Int32} {S : HS} (h : P_X6_shape_16 Q v0 v1 v2 v3 s0 S) : WS X 5 0 0 16 [(0, .ref v0), (1, .int v1), (2, .int v2), (3, .int v3)] [.int s0] S := by
  refine r_istore (pc := 16) C dX6_shape_16 (by decide) (lv' := [(4, .int s0), (0, .ref v0), (1, .int v1), (2, .int v2), (3, .int v3)]) rfl ?_
  refine r_aload_n (pc := 18) C dX6_shape_18 1 rfl ?_
  refine r_iload_n (pc := 19) C dX6_shape_19 2 rfl ?_
  refine r_iload_n (pc := 20) C dX6_shape_20 3 rfl ?_
  refine r_iload (pc := 21) C dX6_shape_21 0 rfl ?_
  refine r_iadd (pc := 23) C dX6_shape_23 ?_
  refine r_imul (pc := 24) C dX6_shape_24 ?_
  obtain ⟨o_v0, h⟩ := h
  refine r_topi (fun x1 ex1 => ?_)
  have h := h x1 ex1
  refine r_puti (pc := 25) C pfL_X6_18 dX6_shape_25 o_v0 ?_
  refine r_aload_n (pc := 28) C dX6_shape_28 1 rfl ?_
  refine r_iload_n (pc := 29) C dX6_shape_29 2 rfl ?_
  refine r_iload_n (pc := 30) C dX6_shape_30 4 rfl ?_
  refine r_iload (pc := 31) C dX6_shape_31 0 rfl ?_
  refine r_isub (pc := 33) C dX6_shape_33 ?_
  refine r_imul (pc := 34) C dX6_shape_34 ?_
  refine r_topi (fun x2 ex2 => ?_)
  have h := h x2 ex2
  refine r_puti (pc := 35) C pfL_X6_21 dX6_shape_35 o_v0 ?_
  refine r_aload_n (pc := 38) C dX6_shape_38 1 rfl ?_
  refine r_iload_n (pc := 39) C dX6_shape_39 3 rfl ?_
  refine r_iload (pc := 40) C dX6_shape_40 0 rfl ?_
  refine r_iadd (pc := 42) C dX6_shape_42 ?_
  refine r_iload_n (pc := 43) C dX6_shape_43 4 rfl ?_
  refine r_iload (pc := 44) C dX6_shape_44 0 rfl ?_
  refine r_isub (pc := 46) C dX6_shape_46 ?_
  refine r_imul (pc := 47) C dX6_shape_47 ?_
  refine r_topi (fun x3 ex3 => ?_)
  have h := h x3 ex3
  refine r_puti (pc := 48) C pfL_X6_24 dX6_shape_48 o_v0 ?_
  exact r_vret (pc := 51) C E ht dX6_shape_51 (by decide) (by decide) h
def P_X6_shape_0 (Q : HS → Prop) (v0 : Nat) (v1 : Int32) (v2 : Int32) (v3 : Int32) (S : HS) : Prop := ob S v0 6 ∧ (∀ x1 : Int32, x1 = fI S v0 0 → (((¬ x1 = (1 : Int32)) → (P_X6_shape_16 Q v0 v1 v2 v3 (0 : Int32) S)) ∧ ((x1 = (1 : Int32)) → (∀ x3 : Int32, x3 = fI S v0 1 → (P_X6_shape_16 Q v0 v1 v2 v3 x3 S)))))
set_option maxRecDepth 20000 in
set_option maxHeartbeats 4000000 in
theorem T_X6_shape_0 {X : CX} {Q : HS → Prop} (C : Cx X cX6_shape RX6 5 rm_X6_shape) (E : ReV X rm_X6_shape Q) (ht : (xh X).sig.returnType = none) (hn : (xh X).name = yX6_shape.name) {v0 : Nat} {v1 : Int32} {v2 : Int32} {v3 : Int32} {S : HS} (h : P_X6_shape_0 Q v0 v1 v2 v3 S) : WS X 5 0 0 0 [(0, .ref v0), (1, .int v1), (2, .int v2), (3, .int v3)] [] S := by
  refine r_aload_n (pc := 0) C dX6_shape_0 0 rfl ?_
  obtain ⟨o_v0, h⟩ := h
  refine r_geti (pc := 1) C fL_X6_9 dX6_shape_1 o_v0 ?_
  refine r_topi (fun x1 ex1 => ?_)
  have h := h x1 ex1
  refine r_iconst (pc := 4) C (v := (1 : Int32)) dX6_shape_4 (by decide) ?_
  refine r_icmp_ne (pc := 5) C (tgt := 15) dX6_shape_5 (by decide) (fun c2 => ?_) (fun c2 => ?_)
  · have h := h.1 c2
    refine r_iconst (pc := 15) C (v := (0 : Int32)) dX6_shape_15 (by decide) ?_
    exact r_sub [0, 1, 2, 3] rfl (T_X6_shape_16 C E ht hn h)
  · have h := h.2 c2
    refine r_aload_n (pc := 8) C dX6_shape_8 0 rfl ?_
    refine r_geti (pc := 9) C fL_X6_15 dX6_shape_9 o_v0 ?_
    refine r_topi (fun x3 ex3 => ?_)
    have h := h x3 ex3
    refine r_goto (pc := 12) C (tgt := 16) dX6_shape_12 (by decide) ?_
    exact r_sub [0, 1, 2, 3] rfl (T_X6_shape_16 C E ht hn h)
def P_X6_shape (v0 : Nat) (v1 : Int32) (v2 : Int32) (v3 : Int32) (Q : HS → Prop) (S : HS) : Prop := P_X6_shape_0 Q v0 v1 v2 v3 S
theorem c_X6_shape {l : Launch} {Ee : EE} {S : HS} {v0 : Nat} {v1 : Int32} {v2 : Int32} {v3 : Int32} {Q : HS → Prop} (h : P_X6_shape v0 v1 v2 v3 Q S) : MV l yX6_shape cX6_shape 5 none rm_X6_shape Ee S [.ref v0, .int v1, .int v2, .int v3] Q :=
  openV (by decide) (by decide) (fun X C E ht hn hE hl => by subst hE; exact r_sub [0, 1, 2, 3] rfl (T_X6_shape_0 C E ht hn h))
def rm_X4_bodyOf : Room := { frames := 8, cells := 0, slots := 0, locals := 188 }
def P_X4_bodyOf_58 (Q : Int32 → HS → Prop) (v0 : Nat) (v1 : Nat) (v2 : Int32) (v3 : Int32) (s0 : Int32) (S : HS) : Prop := ob S v0 4 ∧ (P_X4_wordAndWhole v0 24 s0 (9 : Int32) (fun x3 S1 => Gr S S1 → bl x3 → (((¬ x3 = 0) → (∀ x5 : Int32, x5 = fI S1 v0 9 → (ob S1 v1 6 ∧ (P_X6_shape v1 v2 v3 x5 (fun S6 => Gr S1 S6 → (Q (1 : Int32) S6)) S1)))) ∧ ((x3 = 0) → (Q (0 : Int32) S1)))) S)
set_option maxRecDepth 20000 in
set_option maxHeartbeats 4000000 in
theorem T_X4_bodyOf_58 {X : CX} {Q : Int32 → HS → Prop} (C : Cx X cX4_bodyOf RX4 5 rm_X4_bodyOf) (E : ReI X rm_X4_bodyOf (fun r S => bl r ∧ Q r S)) (ht : (xh X).sig.returnType = (some .boolean)) (hn : (xh X).name = yX4_bodyOf.name) {v0 : Nat} {v1 : Nat} {v2 : Int32} {v3 : Int32} {s0 : Int32} {S : HS} (h : P_X4_bodyOf_58 Q v0 v1 v2 v3 s0 S) : WS X 5 0 0 58 [(0, .ref v0), (1, .ref v1), (2, .int v2), (3, .int v3)] [.int s0] S := by
  refine r_istore (pc := 58) C dX4_bodyOf_58 (by decide) (lv' := [(4, .int s0), (0, .ref v0), (1, .ref v1), (2, .int v2), (3, .int v3)]) rfl ?_
  refine r_aload_n (pc := 60) C dX4_bodyOf_60 1 rfl ?_
  refine r_ldsw (pc := 61) C 24 rfl dX4_bodyOf_61 ?_
  refine r_iload (pc := 64) C dX4_bodyOf_64 0 rfl ?_
  refine r_bipush (pc := 66) C (v := (9 : Int32)) dX4_bodyOf_66 (by decide) ?_
  obtain ⟨o_v0, h⟩ := h
  refine r_callVi0 (pc := 68) C (rest := []) (a := v0) o_v0 [.ref (eK (xE X) 24), .int s0, .int (9 : Int32)] yV_X4_wordAndWhole g_524 (c_X4_wordAndWhole h) dX4_bodyOf_68 rfl rfl (by decide) ⟨by decide, by decide⟩ ⟨by decide, by decide⟩ ⟨rfl, rfl⟩ (fun x3 S1 h g2 => ?_)
  have bx3 := h.1
  have h := h.2 g2 bx3
  have o_v0 := gr_ob g2 o_v0
  refine r_if_ne (pc := 71) C (tgt := 76) dX4_bodyOf_71 (by decide) (fun c4 => ?_) (fun c4 => ?_)
  · have h := h.1 c4
    refine r_aload_n (pc := 76) C dX4_bodyOf_76 2 rfl ?_
    refine r_iload_n (pc := 77) C dX4_bodyOf_77 3 rfl ?_
    refine r_iload_n (pc := 78) C dX4_bodyOf_78 4 rfl ?_
    refine r_aload_n (pc := 79) C dX4_bodyOf_79 1 rfl ?_
    refine r_geti (pc := 80) C fL_X4_147 dX4_bodyOf_80 o_v0 ?_
    refine r_topi (fun x5 ex5 => ?_)
    have h := h x5 ex5
    obtain ⟨o_v1, h⟩ := h
    refine r_callVv0 (pc := 83) C (rest := []) (a := v1) o_v1 [.int v2, .int v3, .int x5] yV_X6_shape g_607 (c_X6_shape h) dX4_bodyOf_83 rfl rfl (by decide) ⟨by decide, by decide⟩ ⟨by decide, by decide⟩ ⟨rfl, rfl⟩ (fun S6 h g7 => ?_)
    have h := h g7
    have o_v0 := gr_ob g7 o_v0
    have o_v1 := gr_ob g7 o_v1
    refine r_iconst (pc := 86) C (v := (1 : Int32)) dX4_bodyOf_86 (by decide) ?_
    exact r_zret (pc := 87) C E ht dX4_bodyOf_87 (by decide) (by decide) (Or.inr rfl) h
  · have h := h.2 c4
    refine r_iconst (pc := 74) C (v := (0 : Int32)) dX4_bodyOf_74 (by decide) ?_
    exact r_zret (pc := 75) C E ht dX4_bodyOf_75 (by decide) (by decide) (Or.inl rfl) h
def P_X4_bodyOf_0 (Q : Int32 → HS → Prop) (v0 : Nat) (v1 : Nat) (S : HS) : Prop := ob S v0 4 ∧ (P_X4_wordAndWhole v0 22 (1 : Int32) (9 : Int32) (fun x3 S1 => Gr S S1 → bl x3 → (((¬ x3 = 0) → (∀ x5 : Int32, x5 = fI S1 v0 9 → (P_X4_wordAndWhole v0 23 (1 : Int32) (9 : Int32) (fun x8 S6 => Gr S1 S6 → bl x8 → (((¬ x8 = 0) → (∀ x10 : Int32, x10 = fI S6 v0 9 → (ob S6 v1 6 ∧ (∀ x11 : Int32, x11 = fI S6 v1 0 → (((¬ x11 = (1 : Int32)) → (P_X4_bodyOf_58 Q v0 v1 x5 x10 (1 : Int32) S6)) ∧ ((x11 = (1 : Int32)) → (∀ x13 : Int32, x13 = fI S6 v1 1 → (P_X4_bodyOf_58 Q v0 v1 x5 x10 (x13 + (1 : Int32)) S6)))))))) ∧ ((x8 = 0) → (Q (0 : Int32) S6)))) S1))) ∧ ((x3 = 0) → (Q (0 : Int32) S1)))) S)
set_option maxRecDepth 20000 in
set_option maxHeartbeats 4000000 in
theorem T_X4_bodyOf_0 {X : CX} {Q : Int32 → HS → Prop} (C : Cx X cX4_bodyOf RX4 5 rm_X4_bodyOf) (E : ReI X rm_X4_bodyOf (fun r S => bl r ∧ Q r S)) (ht : (xh X).sig.returnType = (some .boolean)) (hn : (xh X).name = yX4_bodyOf.name) {v0 : Nat} {v1 : Nat} {S : HS} (h : P_X4_bodyOf_0 Q v0 v1 S) : WS X 5 0 0 0 [(0, .ref v0), (1, .ref v1)] [] S := by
  refine r_aload_n (pc := 0) C dX4_bodyOf_0 0 rfl ?_
  refine r_ldsw (pc := 1) C 22 rfl dX4_bodyOf_1 ?_
  refine r_iconst (pc := 4) C (v := (1 : Int32)) dX4_bodyOf_4 (by decide) ?_
  refine r_bipush (pc := 5) C (v := (9 : Int32)) dX4_bodyOf_5 (by decide) ?_
  obtain ⟨o_v0, h⟩ := h
  refine r_callVi0 (pc := 7) C (rest := []) (a := v0) o_v0 [.ref (eK (xE X) 22), .int (1 : Int32), .int (9 : Int32)] yV_X4_wordAndWhole g_524 (c_X4_wordAndWhole h) dX4_bodyOf_7 rfl rfl (by decide) ⟨by decide, by decide⟩ ⟨by decide, by decide⟩ ⟨rfl, rfl⟩ (fun x3 S1 h g2 => ?_)
  have bx3 := h.1
  have h := h.2 g2 bx3
  have o_v0 := gr_ob g2 o_v0
  refine r_if_ne (pc := 10) C (tgt := 15) dX4_bodyOf_10 (by decide) (fun c4 => ?_) (fun c4 => ?_)
  · have h := h.1 c4
    refine r_aload_n (pc := 15) C dX4_bodyOf_15 0 rfl ?_
    refine r_geti (pc := 16) C fL_X4_147 dX4_bodyOf_16 o_v0 ?_
    refine r_topi (fun x5 ex5 => ?_)
    have h := h x5 ex5
    refine r_istore_n (pc := 19) C dX4_bodyOf_19 rfl (by decide) (lv' := [(2, .int x5), (0, .ref v0), (1, .ref v1)]) rfl ?_
    refine r_aload_n (pc := 20) C dX4_bodyOf_20 1 rfl ?_
    refine r_ldsw (pc := 21) C 23 rfl dX4_bodyOf_21 ?_
    refine r_iconst (pc := 24) C (v := (1 : Int32)) dX4_bodyOf_24 (by decide) ?_
    refine r_bipush (pc := 25) C (v := (9 : Int32)) dX4_bodyOf_25 (by decide) ?_
    refine r_callVi0 (pc := 27) C (rest := []) (a := v0) o_v0 [.ref (eK (xE X) 23), .int (1 : Int32), .int (9 : Int32)] yV_X4_wordAndWhole g_524 (c_X4_wordAndWhole h) dX4_bodyOf_27 rfl rfl (by decide) ⟨by decide, by decide⟩ ⟨by decide, by decide⟩ ⟨rfl, rfl⟩ (fun x8 S6 h g7 => ?_)
    have bx8 := h.1
    have h := h.2 g7 bx8
    have o_v0 := gr_ob g7 o_v0
    refine r_if_ne (pc := 30) C (tgt := 35) dX4_bodyOf_30 (by decide) (fun c9 => ?_) (fun c9 => ?_)
    · have h := h.1 c9
      refine r_aload_n (pc := 35) C dX4_bodyOf_35 1 rfl ?_
      refine r_geti (pc := 36) C fL_X4_147 dX4_bodyOf_36 o_v0 ?_
      refine r_topi (fun x10 ex10 => ?_)
      have h := h x10 ex10
      refine r_istore_n (pc := 39) C dX4_bodyOf_39 rfl (by decide) (lv' := [(3, .int x10), (2, .int x5), (0, .ref v0), (1, .ref v1)]) rfl ?_
      refine r_aload_n (pc := 40) C dX4_bodyOf_40 3 rfl ?_
      obtain ⟨o_v1, h⟩ := h
      refine r_geti (pc := 41) C fL_X4_264 dX4_bodyOf_41 o_v1 ?_
      refine r_topi (fun x11 ex11 => ?_)
      have h := h x11 ex11
      refine r_iconst (pc := 44) C (v := (1 : Int32)) dX4_bodyOf_44 (by decide) ?_
      refine r_icmp_ne (pc := 45) C (tgt := 57) dX4_bodyOf_45 (by decide) (fun c12 => ?_) (fun c12 => ?_)
      · have h := h.1 c12
        refine r_iconst (pc := 57) C (v := (1 : Int32)) dX4_bodyOf_57 (by decide) ?_
        exact r_sub [2, 3, 1, 0] rfl (T_X4_bodyOf_58 C E ht hn h)
      · have h := h.2 c12
        refine r_aload_n (pc := 48) C dX4_bodyOf_48 3 rfl ?_
        refine r_geti (pc := 49) C fL_X4_273 dX4_bodyOf_49 o_v1 ?_
        refine r_topi (fun x13 ex13 => ?_)
        have h := h x13 ex13
        refine r_iconst (pc := 52) C (v := (1 : Int32)) dX4_bodyOf_52 (by decide) ?_
        refine r_iadd (pc := 53) C dX4_bodyOf_53 ?_
        refine r_goto (pc := 54) C (tgt := 58) dX4_bodyOf_54 (by decide) ?_
        exact r_sub [2, 3, 1, 0] rfl (T_X4_bodyOf_58 C E ht hn h)
    · have h := h.2 c9
      refine r_iconst (pc := 33) C (v := (0 : Int32)) dX4_bodyOf_33 (by decide) ?_
      exact r_zret (pc := 34) C E ht dX4_bodyOf_34 (by decide) (by decide) (Or.inl rfl) h
  · have h := h.2 c4
    refine r_iconst (pc := 13) C (v := (0 : Int32)) dX4_bodyOf_13 (by decide) ?_
    exact r_zret (pc := 14) C E ht dX4_bodyOf_14 (by decide) (by decide) (Or.inl rfl) h
def P_X4_bodyOf (v0 : Nat) (v1 : Nat) (Q : Int32 → HS → Prop) (S : HS) : Prop := P_X4_bodyOf_0 Q v0 v1 S
theorem c_X4_bodyOf {l : Launch} {Ee : EE} {S : HS} {v0 : Nat} {v1 : Nat} {Q : Int32 → HS → Prop} (h : P_X4_bodyOf v0 v1 Q S) : MI l yX4_bodyOf cX4_bodyOf 5 (some .boolean) rm_X4_bodyOf Ee S [.ref v0, .ref v1] (fun r S => bl r ∧ Q r S) :=
  openI (by decide) (by decide) (fun X C E ht hn hE hl => by subst hE; exact r_sub [0, 1] rfl (T_X4_bodyOf_0 C E ht hn h))
def rm_X4_canBeName : Room := { frames := 6, cells := 0, slots := 0, locals := 144 }
def P_X4_canBeName_86 (Q : Int32 → HS → Prop) (v0 : Nat) (s0 : Int32) (S : HS) : Prop := ob S v0 4 ∧ (∀ x1 : Int32, x1 = fI S v0 6 → (((¬ x1 = (1 : Int32)) → (Q (0 : Int32) S)) ∧ ((x1 = (1 : Int32)) → (((¬ s0 = 0) → (Q (0 : Int32) S)) ∧ ((s0 = 0) → (Q (1 : Int32) S))))))
set_option maxRecDepth 20000 in
set_option maxHeartbeats 4000000 in
theorem T_X4_canBeName_86 {X : CX} {Q : Int32 → HS → Prop} (C : Cx X cX4_canBeName RX4 2 rm_X4_canBeName) (E : ReI X rm_X4_canBeName (fun r S => bl r ∧ Q r S)) (ht : (xh X).sig.returnType = (some .boolean)) (hn : (xh X).name = yX4_canBeName.name) {v0 : Nat} {s0 : Int32} {S : HS} (h : P_X4_canBeName_86 Q v0 s0 S) : WS X 2 0 0 86 [(0, .ref v0)] [.int s0] S := by
  refine r_istore_n (pc := 86) C dX4_canBeName_86 rfl (by decide) (lv' := [(1, .int s0), (0, .ref v0)]) rfl ?_
  refine r_aload_n (pc := 87) C dX4_canBeName_87 1 rfl ?_
  obtain ⟨o_v0, h⟩ := h
  refine r_geti (pc := 88) C fL_X4_92 dX4_canBeName_88 o_v0 ?_
  refine r_topi (fun x1 ex1 => ?_)
  have h := h x1 ex1
  refine r_iconst (pc := 91) C (v := (1 : Int32)) dX4_canBeName_91 (by decide) ?_
  refine r_icmp_ne (pc := 92) C (tgt := 103) dX4_canBeName_92 (by decide) (fun c2 => ?_) (fun c2 => ?_)
  · have h := h.1 c2
    refine r_iconst (pc := 103) C (v := (0 : Int32)) dX4_canBeName_103 (by decide) ?_
    exact r_zret (pc := 104) C E ht dX4_canBeName_104 (by decide) (by decide) (Or.inl rfl) h
  · have h := h.2 c2
    refine r_iload_n (pc := 95) C dX4_canBeName_95 0 rfl ?_
    refine r_if_ne (pc := 96) C (tgt := 103) dX4_canBeName_96 (by decide) (fun c3 => ?_) (fun c3 => ?_)
    · have h := h.1 c3
      refine r_iconst (pc := 103) C (v := (0 : Int32)) dX4_canBeName_103 (by decide) ?_
      exact r_zret (pc := 104) C E ht dX4_canBeName_104 (by decide) (by decide) (Or.inl rfl) h
    · have h := h.2 c3
      refine r_iconst (pc := 99) C (v := (1 : Int32)) dX4_canBeName_99 (by decide) ?_
      refine r_goto (pc := 100) C (tgt := 104) dX4_canBeName_100 (by decide) ?_
      exact r_zret (pc := 104) C E ht dX4_canBeName_104 (by decide) (by decide) (Or.inr rfl) h
def P_X4_canBeName_81 (Q : Int32 → HS → Prop) (v0 : Nat) (S : HS) : Prop := P_X4_canBeName_86 Q v0 (1 : Int32) S
set_option maxRecDepth 20000 in
set_option maxHeartbeats 4000000 in
theorem T_X4_canBeName_81 {X : CX} {Q : Int32 → HS → Prop} (C : Cx X cX4_canBeName RX4 2 rm_X4_canBeName) (E : ReI X rm_X4_canBeName (fun r S => bl r ∧ Q r S)) (ht : (xh X).sig.returnType = (some .boolean)) (hn : (xh X).name = yX4_canBeName.name) {v0 : Nat} {S : HS} (h : P_X4_canBeName_81 Q v0 S) : WS X 2 0 0 81 [(0, .ref v0)] [] S := by
  refine r_iconst (pc := 81) C (v := (1 : Int32)) dX4_canBeName_81 (by decide) ?_
  refine r_goto (pc := 82) C (tgt := 86) dX4_canBeName_82 (by decide) ?_
  exact r_sub [0] rfl (T_X4_canBeName_86 C E ht hn h)
def P_X4_canBeName_0 (Q : Int32 → HS → Prop) (v0 : Nat) (S : HS) : Prop := ob S v0 4 ∧ (P_X4_is v0 0 (fun x3 S1 => Gr S S1 → bl x3 → (((¬ x3 = 0) → (P_X4_canBeName_81 Q v0 S1)) ∧ ((x3 = 0) → (P_X4_is v0 2 (fun x7 S5 => Gr S1 S5 → bl x7 → (((¬ x7 = 0) → (P_X4_canBeName_81 Q v0 S5)) ∧ ((x7 = 0) → (P_X4_is v0 11 (fun x11 S9 => Gr S5 S9 → bl x11 → (((¬ x11 = 0) → (P_X4_canBeName_81 Q v0 S9)) ∧ ((x11 = 0) → (P_X4_is v0 12 (fun x15 S13 => Gr S9 S13 → bl x15 → (((¬ x15 = 0) → (P_X4_canBeName_81 Q v0 S13)) ∧ ((x15 = 0) → (P_X4_is v0 13 (fun x19 S17 => Gr S13 S17 → bl x19 → (((¬ x19 = 0) → (P_X4_canBeName_81 Q v0 S17)) ∧ ((x19 = 0) → (P_X4_is v0 14 (fun x23 S21 => Gr S17 S21 → bl x23 → (((¬ x23 = 0) → (P_X4_canBeName_81 Q v0 S21)) ∧ ((x23 = 0) → (P_X4_is v0 15 (fun x27 S25 => Gr S21 S25 → bl x27 → (((¬ x27 = 0) → (P_X4_canBeName_81 Q v0 S25)) ∧ ((x27 = 0) → (P_X4_is v0 16 (fun x31 S29 => Gr S25 S29 → bl x31 → (((¬ x31 = 0) → (P_X4_canBeName_81 Q v0 S29)) ∧ ((x31 = 0) → (P_X4_is v0 17 (fun x35 S33 => Gr S29 S33 → bl x35 → (((x35 = 0) → (P_X4_canBeName_86 Q v0 (0 : Int32) S33)) ∧ ((¬ x35 = 0) → (P_X4_canBeName_81 Q v0 S33)))) S29)))) S25)))) S21)))) S17)))) S13)))) S9)))) S5)))) S1)))) S)
set_option maxRecDepth 20000 in
set_option maxHeartbeats 4000000 in
theorem T_X4_canBeName_0 {X : CX} {Q : Int32 → HS → Prop} (C : Cx X cX4_canBeName RX4 2 rm_X4_canBeName) (E : ReI X rm_X4_canBeName (fun r S => bl r ∧ Q r S)) (ht : (xh X).sig.returnType = (some .boolean)) (hn : (xh X).name = yX4_canBeName.name) {v0 : Nat} {S : HS} (h : P_X4_canBeName_0 Q v0 S) : WS X 2 0 0 0 [(0, .ref v0)] [] S := by
  refine r_aload_n (pc := 0) C dX4_canBeName_0 0 rfl ?_
  refine r_lds (pc := 1) C 0 rfl dX4_canBeName_1 ?_
  obtain ⟨o_v0, h⟩ := h
  refine r_callVi0 (pc := 3) C (rest := []) (a := v0) o_v0 [.ref (eK (xE X) 0)] yV_X4_is g_458 (c_X4_is h) dX4_canBeName_3 rfl rfl (by decide) ⟨by decide, by decide⟩ ⟨by decide, by decide⟩ ⟨rfl, rfl⟩ (fun x3 S1 h g2 => ?_)
  have bx3 := h.1
  have h := h.2 g2 bx3
  have o_v0 := gr_ob g2 o_v0
  refine r_if_ne (pc := 6) C (tgt := 81) dX4_canBeName_6 (by decide) (fun c4 => ?_) (fun c4 => ?_)
  · have h := h.1 c4
    exact r_sub [0] rfl (T_X4_canBeName_81 C E ht hn h)
  · have h := h.2 c4
    refine r_aload_n (pc := 9) C dX4_canBeName_9 0 rfl ?_
    refine r_lds (pc := 10) C 2 rfl dX4_canBeName_10 ?_
    refine r_callVi0 (pc := 12) C (rest := []) (a := v0) o_v0 [.ref (eK (xE X) 2)] yV_X4_is g_458 (c_X4_is h) dX4_canBeName_12 rfl rfl (by decide) ⟨by decide, by decide⟩ ⟨by decide, by decide⟩ ⟨rfl, rfl⟩ (fun x7 S5 h g6 => ?_)
    have bx7 := h.1
    have h := h.2 g6 bx7
    have o_v0 := gr_ob g6 o_v0
    refine r_if_ne (pc := 15) C (tgt := 81) dX4_canBeName_15 (by decide) (fun c8 => ?_) (fun c8 => ?_)
    · have h := h.1 c8
      exact r_sub [0] rfl (T_X4_canBeName_81 C E ht hn h)
    · have h := h.2 c8
      refine r_aload_n (pc := 18) C dX4_canBeName_18 0 rfl ?_
      refine r_lds (pc := 19) C 11 rfl dX4_canBeName_19 ?_
      refine r_callVi0 (pc := 21) C (rest := []) (a := v0) o_v0 [.ref (eK (xE X) 11)] yV_X4_is g_458 (c_X4_is h) dX4_canBeName_21 rfl rfl (by decide) ⟨by decide, by decide⟩ ⟨by decide, by decide⟩ ⟨rfl, rfl⟩ (fun x11 S9 h g10 => ?_)
      have bx11 := h.1
      have h := h.2 g10 bx11
      have o_v0 := gr_ob g10 o_v0
      refine r_if_ne (pc := 24) C (tgt := 81) dX4_canBeName_24 (by decide) (fun c12 => ?_) (fun c12 => ?_)
      · have h := h.1 c12
        exact r_sub [0] rfl (T_X4_canBeName_81 C E ht hn h)
      · have h := h.2 c12
        refine r_aload_n (pc := 27) C dX4_canBeName_27 0 rfl ?_
        refine r_lds (pc := 28) C 12 rfl dX4_canBeName_28 ?_
        refine r_callVi0 (pc := 30) C (rest := []) (a := v0) o_v0 [.ref (eK (xE X) 12)] yV_X4_is g_458 (c_X4_is h) dX4_canBeName_30 rfl rfl (by decide) ⟨by decide, by decide⟩ ⟨by decide, by decide⟩ ⟨rfl, rfl⟩ (fun x15 S13 h g14 => ?_)
        have bx15 := h.1
        have h := h.2 g14 bx15
        have o_v0 := gr_ob g14 o_v0
        refine r_if_ne (pc := 33) C (tgt := 81) dX4_canBeName_33 (by decide) (fun c16 => ?_) (fun c16 => ?_)
        · have h := h.1 c16
          exact r_sub [0] rfl (T_X4_canBeName_81 C E ht hn h)
        · have h := h.2 c16
          refine r_aload_n (pc := 36) C dX4_canBeName_36 0 rfl ?_
          refine r_lds (pc := 37) C 13 rfl dX4_canBeName_37 ?_
          refine r_callVi0 (pc := 39) C (rest := []) (a := v0) o_v0 [.ref (eK (xE X) 13)] yV_X4_is g_458 (c_X4_is h) dX4_canBeName_39 rfl rfl (by decide) ⟨by decide, by decide⟩ ⟨by decide, by decide⟩ ⟨rfl, rfl⟩ (fun x19 S17 h g18 => ?_)
          have bx19 := h.1
          have h := h.2 g18 bx19
          have o_v0 := gr_ob g18 o_v0
          refine r_if_ne (pc := 42) C (tgt := 81) dX4_canBeName_42 (by decide) (fun c20 => ?_) (fun c20 => ?_)
          · have h := h.1 c20
            exact r_sub [0] rfl (T_X4_canBeName_81 C E ht hn h)
          · have h := h.2 c20
            refine r_aload_n (pc := 45) C dX4_canBeName_45 0 rfl ?_
            refine r_lds (pc := 46) C 14 rfl dX4_canBeName_46 ?_
            refine r_callVi0 (pc := 48) C (rest := []) (a := v0) o_v0 [.ref (eK (xE X) 14)] yV_X4_is g_458 (c_X4_is h) dX4_canBeName_48 rfl rfl (by decide) ⟨by decide, by decide⟩ ⟨by decide, by decide⟩ ⟨rfl, rfl⟩ (fun x23 S21 h g22 => ?_)
            have bx23 := h.1
            have h := h.2 g22 bx23
            have o_v0 := gr_ob g22 o_v0
            refine r_if_ne (pc := 51) C (tgt := 81) dX4_canBeName_51 (by decide) (fun c24 => ?_) (fun c24 => ?_)
            · have h := h.1 c24
              exact r_sub [0] rfl (T_X4_canBeName_81 C E ht hn h)
            · have h := h.2 c24
              refine r_aload_n (pc := 54) C dX4_canBeName_54 0 rfl ?_
              refine r_lds (pc := 55) C 15 rfl dX4_canBeName_55 ?_
              refine r_callVi0 (pc := 57) C (rest := []) (a := v0) o_v0 [.ref (eK (xE X) 15)] yV_X4_is g_458 (c_X4_is h) dX4_canBeName_57 rfl rfl (by decide) ⟨by decide, by decide⟩ ⟨by decide, by decide⟩ ⟨rfl, rfl⟩ (fun x27 S25 h g26 => ?_)
              have bx27 := h.1
              have h := h.2 g26 bx27
              have o_v0 := gr_ob g26 o_v0
              refine r_if_ne (pc := 60) C (tgt := 81) dX4_canBeName_60 (by decide) (fun c28 => ?_) (fun c28 => ?_)
              · have h := h.1 c28
                exact r_sub [0] rfl (T_X4_canBeName_81 C E ht hn h)
              · have h := h.2 c28
                refine r_aload_n (pc := 63) C dX4_canBeName_63 0 rfl ?_
                refine r_lds (pc := 64) C 16 rfl dX4_canBeName_64 ?_
                refine r_callVi0 (pc := 66) C (rest := []) (a := v0) o_v0 [.ref (eK (xE X) 16)] yV_X4_is g_458 (c_X4_is h) dX4_canBeName_66 rfl rfl (by decide) ⟨by decide, by decide⟩ ⟨by decide, by decide⟩ ⟨rfl, rfl⟩ (fun x31 S29 h g30 => ?_)
                have bx31 := h.1
                have h := h.2 g30 bx31
                have o_v0 := gr_ob g30 o_v0
                refine r_if_ne (pc := 69) C (tgt := 81) dX4_canBeName_69 (by decide) (fun c32 => ?_) (fun c32 => ?_)
                · have h := h.1 c32
                  exact r_sub [0] rfl (T_X4_canBeName_81 C E ht hn h)
                · have h := h.2 c32
                  refine r_aload_n (pc := 72) C dX4_canBeName_72 0 rfl ?_
                  refine r_lds (pc := 73) C 17 rfl dX4_canBeName_73 ?_
                  refine r_callVi0 (pc := 75) C (rest := []) (a := v0) o_v0 [.ref (eK (xE X) 17)] yV_X4_is g_458 (c_X4_is h) dX4_canBeName_75 rfl rfl (by decide) ⟨by decide, by decide⟩ ⟨by decide, by decide⟩ ⟨rfl, rfl⟩ (fun x35 S33 h g34 => ?_)
                  have bx35 := h.1
                  have h := h.2 g34 bx35
                  have o_v0 := gr_ob g34 o_v0
                  refine r_if_eq (pc := 78) C (tgt := 85) dX4_canBeName_78 (by decide) (fun c36 => ?_) (fun c36 => ?_)
                  · have h := h.1 c36
                    refine r_iconst (pc := 85) C (v := (0 : Int32)) dX4_canBeName_85 (by decide) ?_
                    exact r_sub [0] rfl (T_X4_canBeName_86 C E ht hn h)
                  · have h := h.2 c36
                    exact r_sub [0] rfl (T_X4_canBeName_81 C E ht hn h)
def P_X4_canBeName (v0 : Nat) (Q : Int32 → HS → Prop) (S : HS) : Prop := P_X4_canBeName_0 Q v0 S
theorem c_X4_canBeName {l : Launch} {Ee : EE} {S : HS} {v0 : Nat} {Q : Int32 → HS → Prop} (h : P_X4_canBeName v0 Q S) : MI l yX4_canBeName cX4_canBeName 2 (some .boolean) rm_X4_canBeName Ee S [.ref v0] (fun r S => bl r ∧ Q r S) :=
  openI (by decide) (by decide) (fun X C E ht hn hE hl => by subst hE; exact r_sub [0] rfl (T_X4_canBeName_0 C E ht hn h))
def rm_X4_exchange : Room := { frames := 0, cells := 0, slots := 0, locals := 0 }
def P_X4_exchange_0 (Q : Nat → HS → Prop) (v0 : Nat) (v1 : Nat) (S : HS) : Prop := ob S v0 4 ∧ (∃ a1 : Nat, fR S v0 5 = some a1 ∧ (Q a1 (sR S v0 5 (some v1))))
set_option maxRecDepth 20000 in
set_option maxHeartbeats 4000000 in
theorem T_X4_exchange_0 {X : CX} {Q : Nat → HS → Prop} (C : Cx X cX4_exchange RX4 3 rm_X4_exchange) (E : ReR X rm_X4_exchange (fun r S => ∃ a, r = some a ∧ Q a S)) (ht : (xh X).sig.returnType = (some (.object "RainWalk$World"))) (hn : (xh X).name = yX4_exchange.name) {v0 : Nat} {v1 : Nat} {S : HS} (h : P_X4_exchange_0 Q v0 v1 S) : WS X 3 0 0 0 [(0, .ref v0), (1, .ref v1)] [] S := by
  refine r_aload_n (pc := 0) C dX4_exchange_0 0 rfl ?_
  obtain ⟨o_v0, h⟩ := h
  obtain ⟨a1, ea1, h⟩ := h
  refine r_getr (pc := 1) C fL_X4_18 dX4_exchange_1 o_v0 ea1 ?_
  refine r_astore_n (pc := 4) C dX4_exchange_4 rfl (by decide) (lv' := [(2, .ref a1), (0, .ref v0), (1, .ref v1)]) rfl ?_
  refine r_aload_n (pc := 5) C dX4_exchange_5 1 rfl ?_
  refine r_aload_n (pc := 6) C dX4_exchange_6 2 rfl ?_
  refine r_putr (pc := 7) C pfL_X4_18 dX4_exchange_7 o_v0 ?_
  refine r_aload_n (pc := 10) C dX4_exchange_10 0 rfl ?_
  exact r_aret (pc := 11) C E ht (Or.inl ⟨_, rfl⟩) dX4_exchange_11 (by decide) (by decide) ⟨_, rfl, h⟩
def P_X4_exchange (v0 : Nat) (v1 : Nat) (Q : Nat → HS → Prop) (S : HS) : Prop := P_X4_exchange_0 Q v0 v1 S
theorem c_X4_exchange {l : Launch} {Ee : EE} {S : HS} {v0 : Nat} {v1 : Nat} {Q : Nat → HS → Prop} (h : P_X4_exchange v0 v1 Q S) : MR l yX4_exchange cX4_exchange 3 (some (.object "RainWalk$World")) rm_X4_exchange Ee S [.ref v0, .ref v1] (fun r S => ∃ a, r = some a ∧ Q a S) :=
  openR (by decide) (by decide) (fun X C E ht hn hE hl => by subst hE; exact r_sub [0, 1] rfl (T_X4_exchange_0 C E ht hn h))
def rm_X4_findName : Room := { frames := 0, cells := 0, slots := 0, locals := 0 }
def B_X4_findName_2 (Q : Int32 → HS → Prop) (X2 : Nat → Int32 → HS → Prop) (v0 : Nat) (v1 : Int32) (S : HS) : Prop := ob S v0 4 ∧ (∀ x1 : Int32, x1 = fI S v0 10 → (((x1 ≤ v1) → (Q (-1 : Int32) S)) ∧ ((¬ x1 ≤ v1) → ((((12 : Int32) ≤ v1) → (Q (-1 : Int32) S)) ∧ ((¬ (12 : Int32) ≤ v1) → (∃ a4 : Nat, fR S v0 11 = some a4 ∧ (ob S a4 14 ∧ (vp_in v1 (hN S a4) ∧ ∀ x6 : Int64, x6 = fJ S a4 v1.toNatClampNeg → (∀ x7 : Int64, x7 = fJ S v0 8 → (((¬ (lg_cmp x6 x7) = 0) → (∀ x9 : Int32, x9 = v1 + (1 : Int32) → (X2 v0 x9 S))) ∧ (((lg_cmp x6 x7) = 0) → (∃ a10 : Nat, fR S v0 12 = some a10 ∧ (ob S a10 13 ∧ (vp_in v1 (hN S a10) ∧ ∀ x12 : Int32, x12 = fI S a10 v1.toNatClampNeg → (Q x12 S)))))))))))))))
def P_X4_findName_2 (Q : Int32 → HS → Prop) (v0 : Nat) (v1 : Int32) (S : HS) : Prop := ∀ X2 : Nat → Int32 → HS → Prop, (∀ (v0 : Nat) (v1 : Int32) (S : HS), B_X4_findName_2 Q X2 v0 v1 S → X2 v0 v1 S) → X2 v0 v1 S
set_option maxRecDepth 20000 in
set_option maxHeartbeats 4000000 in
theorem TB_X4_findName_2 {X : CX} {Q : Int32 → HS → Prop} (C : Cx X cX4_findName RX4 2 rm_X4_findName) (E : ReI X rm_X4_findName Q) (ht : (xh X).sig.returnType = (some .int)) (hn : (xh X).name = yX4_findName.name) {X2 : Nat → Int32 → HS → Prop} (hX2 : ∀ (v0 : Nat) (v1 : Int32) (S : HS), X2 v0 v1 S → WS X 2 0 0 2 [(0, .ref v0), (1, .int v1)] [] S) {v0 : Nat} {v1 : Int32} {S : HS} (h : B_X4_findName_2 Q X2 v0 v1 S) : WS X 2 0 0 2 [(0, .ref v0), (1, .int v1)] [] S := by
  refine r_iload_n (pc := 2) C dX4_findName_2 1 rfl ?_
  refine r_aload_n (pc := 3) C dX4_findName_3 0 rfl ?_
  obtain ⟨o_v0, h⟩ := h
  refine r_geti (pc := 4) C fL_X4_116 dX4_findName_4 o_v0 ?_
  refine r_topi (fun x1 ex1 => ?_)
  have h := h x1 ex1
  refine r_icmp_ge (pc := 7) C (tgt := 43) dX4_findName_7 (by decide) (fun c2 => ?_) (fun c2 => ?_)
  · have h := h.1 c2
    refine r_iconst (pc := 43) C (v := (-1 : Int32)) dX4_findName_43 (by decide) ?_
    exact r_iret (pc := 44) C E ht dX4_findName_44 (by decide) (by decide) h
  · have h := h.2 c2
    refine r_iload_n (pc := 10) C dX4_findName_10 1 rfl ?_
    refine r_bipush (pc := 11) C (v := (12 : Int32)) dX4_findName_11 (by decide) ?_
    refine r_icmp_ge (pc := 13) C (tgt := 43) dX4_findName_13 (by decide) (fun c3 => ?_) (fun c3 => ?_)
    · have h := h.1 c3
      refine r_iconst (pc := 43) C (v := (-1 : Int32)) dX4_findName_43 (by decide) ?_
      exact r_iret (pc := 44) C E ht dX4_findName_44 (by decide) (by decide) h
    · have h := h.2 c3
      refine r_aload_n (pc := 16) C dX4_findName_16 0 rfl ?_
      obtain ⟨a4, ea4, h⟩ := h
      refine r_getr (pc := 17) C fL_X4_22 dX4_findName_17 o_v0 ea4 ?_
      refine r_iload_n (pc := 20) C dX4_findName_20 1 rfl ?_
      obtain ⟨o_a4, h⟩ := h
      obtain ⟨i5, h⟩ := h
      refine r_lald (pc := 21) C dX4_findName_21 o_a4 i5 ?_
      refine r_topl (fun x6 ex6 => ?_)
      have h := h x6 ex6
      refine r_aload_n (pc := 22) C dX4_findName_22 0 rfl ?_
      refine r_getl (pc := 23) C fL_X4_132 dX4_findName_23 o_v0 ?_
      refine r_topl (fun x7 ex7 => ?_)
      have h := h x7 ex7
      refine r_lcmp (pc := 26) C dX4_findName_26 ?_
      refine r_if_ne (pc := 27) C (tgt := 37) dX4_findName_27 (by decide) (fun c8 => ?_) (fun c8 => ?_)
      · have h := h.1 c8
        obtain ⟨x9, ex9⟩ : ∃ z : Int32, z = v1 + (1 : Int32) := ⟨_, rfl⟩
        have h := h x9 ex9
        refine r_iinc (pc := 37) C (v := x9) (lv' := [(1, .int x9), (0, .ref v0)]) dX4_findName_37 1 rfl ex9.symm (by decide) rfl ?_
        refine r_goto (pc := 40) C (tgt := 2) dX4_findName_40 (by decide) ?_
        exact r_sub [1, 0] rfl (hX2 v0 x9 S h)
      · have h := h.2 c8
        refine r_aload_n (pc := 30) C dX4_findName_30 0 rfl ?_
        obtain ⟨a10, ea10, h⟩ := h
        refine r_getr (pc := 31) C fL_X4_26 dX4_findName_31 o_v0 ea10 ?_
        refine r_iload_n (pc := 34) C dX4_findName_34 1 rfl ?_
        obtain ⟨o_a10, h⟩ := h
        obtain ⟨i11, h⟩ := h
        refine r_iald (pc := 35) C dX4_findName_35 o_a10 i11 ?_
        refine r_topi (fun x12 ex12 => ?_)
        have h := h x12 ex12
        exact r_iret (pc := 36) C E ht dX4_findName_36 (by decide) (by decide) h
theorem T_X4_findName_2 {X : CX} {Q : Int32 → HS → Prop} (C : Cx X cX4_findName RX4 2 rm_X4_findName) (E : ReI X rm_X4_findName Q) (ht : (xh X).sig.returnType = (some .int)) (hn : (xh X).name = yX4_findName.name) {v0 : Nat} {v1 : Int32} {S : HS} (h : P_X4_findName_2 Q v0 v1 S) : WS X 2 0 0 2 [(0, .ref v0), (1, .int v1)] [] S :=
  h (fun v0 v1 S => WS X 2 0 0 2 [(0, .ref v0), (1, .int v1)] [] S) (fun v0 v1 S hh => TB_X4_findName_2 C E ht hn (fun v0 v1 S z => z) hh)
def P_X4_findName_0 (Q : Int32 → HS → Prop) (v0 : Nat) (S : HS) : Prop := P_X4_findName_2 Q v0 (0 : Int32) S
set_option maxRecDepth 20000 in
set_option maxHeartbeats 4000000 in
theorem T_X4_findName_0 {X : CX} {Q : Int32 → HS → Prop} (C : Cx X cX4_findName RX4 2 rm_X4_findName) (E : ReI X rm_X4_findName Q) (ht : (xh X).sig.returnType = (some .int)) (hn : (xh X).name = yX4_findName.name) {v0 : Nat} {S : HS} (h : P_X4_findName_0 Q v0 S) : WS X 2 0 0 0 [(0, .ref v0)] [] S := by
  refine r_iconst (pc := 0) C (v := (0 : Int32)) dX4_findName_0 (by decide) ?_
  refine r_istore_n (pc := 1) C dX4_findName_1 rfl (by decide) (lv' := [(1, .int (0 : Int32)), (0, .ref v0)]) rfl ?_
  exact r_sub [1, 0] rfl (T_X4_findName_2 C E ht hn h)
def P_X4_findName (v0 : Nat) (Q : Int32 → HS → Prop) (S : HS) : Prop := P_X4_findName_0 Q v0 S
theorem c_X4_findName {l : Launch} {Ee : EE} {S : HS} {v0 : Nat} {Q : Int32 → HS → Prop} (h : P_X4_findName v0 Q S) : MI l yX4_findName cX4_findName 2 (some .int) rm_X4_findName Ee S [.ref v0] Q :=
  openI (by decide) (by decide) (fun X C E ht hn hE hl => by subst hE; exact r_sub [0] rfl (T_X4_findName_0 C E ht hn h))
def rm_X8_isTold : Room := { frames := 0, cells := 0, slots := 0, locals := 0 }
def P_X8_isTold_0 (Q : Int32 → HS → Prop) (v0 : Nat) (S : HS) : Prop := ob S v0 8 ∧ (∀ x1 : Int32, x1 = fI S v0 0 → (((x1 ≤ 0) → (Q (0 : Int32) S)) ∧ ((¬ x1 ≤ 0) → (Q (1 : Int32) S))))
set_option maxRecDepth 20000 in
set_option maxHeartbeats 4000000 in
theorem T_X8_isTold_0 {X : CX} {Q : Int32 → HS → Prop} (C : Cx X cX8_isTold RX8 1 rm_X8_isTold) (E : ReI X rm_X8_isTold (fun r S => bl r ∧ Q r S)) (ht : (xh X).sig.returnType = (some .boolean)) (hn : (xh X).name = yX8_isTold.name) {v0 : Nat} {S : HS} (h : P_X8_isTold_0 Q v0 S) : WS X 1 0 0 0 [(0, .ref v0)] [] S := by
  refine r_aload_n (pc := 0) C dX8_isTold_0 0 rfl ?_
  obtain ⟨o_v0, h⟩ := h
  refine r_geti (pc := 1) C fL_X8_42 dX8_isTold_1 o_v0 ?_
  refine r_topi (fun x1 ex1 => ?_)
  have h := h x1 ex1
  refine r_if_le (pc := 4) C (tgt := 11) dX8_isTold_4 (by decide) (fun c2 => ?_) (fun c2 => ?_)
  · have h := h.1 c2
    refine r_iconst (pc := 11) C (v := (0 : Int32)) dX8_isTold_11 (by decide) ?_
    exact r_zret (pc := 12) C E ht dX8_isTold_12 (by decide) (by decide) (Or.inl rfl) h
  · have h := h.2 c2
    refine r_iconst (pc := 7) C (v := (1 : Int32)) dX8_isTold_7 (by decide) ?_
    refine r_goto (pc := 8) C (tgt := 12) dX8_isTold_8 (by decide) ?_
    exact r_zret (pc := 12) C E ht dX8_isTold_12 (by decide) (by decide) (Or.inr rfl) h
def P_X8_isTold (v0 : Nat) (Q : Int32 → HS → Prop) (S : HS) : Prop := P_X8_isTold_0 Q v0 S
theorem c_X8_isTold {l : Launch} {Ee : EE} {S : HS} {v0 : Nat} {Q : Int32 → HS → Prop} (h : P_X8_isTold v0 Q S) : MI l yX8_isTold cX8_isTold 1 (some .boolean) rm_X8_isTold Ee S [.ref v0] (fun r S => bl r ∧ Q r S) :=
  openI (by decide) (by decide) (fun X C E ht hn hE hl => by subst hE; exact r_sub [0] rfl (T_X8_isTold_0 C E ht hn h))
def rm_X4_hasRoom : Room := { frames := 2, cells := 0, slots := 0, locals := 46 }
def P_X4_hasRoom_0 (Q : Int32 → HS → Prop) (v0 : Nat) (v1 : Int32) (v2 : Int32) (S : HS) : Prop := ob S v0 4 ∧ (∃ a1 : Nat, fR S v0 5 = some a1 ∧ (ob S a1 8 ∧ (P_X8_isTold a1 (fun x4 S2 => Gr S S2 → bl x4 → (((¬ x4 = 0) → (((v1 < v2) → (P_X4_next v0 (fun S7 => Gr S2 S7 → (Q (1 : Int32) S7)) S2)) ∧ ((¬ v1 < v2) → (P_X4_fail v0 (5 : Int32) (fun x12 S10 => Gr S2 S10 → bl x12 → (bl x12 ∧ Q x12 S10)) S2)))) ∧ ((x4 = 0) → (P_X4_fail v0 (6 : Int32) (fun x15 S13 => Gr S2 S13 → bl x15 → (bl x15 ∧ Q x15 S13)) S2)))) S)))
set_option maxRecDepth 20000 in
set_option maxHeartbeats 4000000 in
theorem T_X4_hasRoom_0 {X : CX} {Q : Int32 → HS → Prop} (C : Cx X cX4_hasRoom RX4 3 rm_X4_hasRoom) (E : ReI X rm_X4_hasRoom (fun r S => bl r ∧ Q r S)) (ht : (xh X).sig.returnType = (some .boolean)) (hn : (xh X).name = yX4_hasRoom.name) {v0 : Nat} {v1 : Int32} {v2 : Int32} {S : HS} (h : P_X4_hasRoom_0 Q v0 v1 v2 S) : WS X 3 0 0 0 [(0, .ref v0), (1, .int v1), (2, .int v2)] [] S := by
  refine r_aload_n (pc := 0) C dX4_hasRoom_0 0 rfl ?_
  obtain ⟨o_v0, h⟩ := h
  obtain ⟨a1, ea1, h⟩ := h
  refine r_getr (pc := 1) C fL_X4_18 dX4_hasRoom_1 o_v0 ea1 ?_
  obtain ⟨o_a1, h⟩ := h
  refine r_callVi0 (pc := 4) C (rest := []) (a := a1) o_a1 [] yV_X8_isTold g_515 (c_X8_isTold h) dX4_hasRoom_4 rfl rfl (by decide) ⟨by decide, by decide⟩ ⟨by decide, by decide⟩ ⟨rfl, rfl⟩ (fun x4 S2 h g3 => ?_)
  have bx4 := h.1
  have h := h.2 g3 bx4
  have o_a1 := gr_ob g3 o_a1
  have o_v0 := gr_ob g3 o_v0
  refine r_if_ne (pc := 7) C (tgt := 17) dX4_hasRoom_7 (by decide) (fun c5 => ?_) (fun c5 => ?_)
  · have h := h.1 c5
    refine r_iload_n (pc := 17) C dX4_hasRoom_17 1 rfl ?_
    refine r_iload_n (pc := 18) C dX4_hasRoom_18 2 rfl ?_
    refine r_icmp_lt (pc := 19) C (tgt := 28) dX4_hasRoom_19 (by decide) (fun c6 => ?_) (fun c6 => ?_)
    · have h := h.1 c6
      refine r_aload_n (pc := 28) C dX4_hasRoom_28 0 rfl ?_
      refine r_callVv0 (pc := 29) C (rest := []) (a := v0) o_v0 [] yV_X4_next g_449 (c_X4_next h) dX4_hasRoom_29 rfl rfl (by decide) ⟨by decide, by decide⟩ ⟨by decide, by decide⟩ ⟨rfl, rfl⟩ (fun S7 h g8 => ?_)
      have h := h g8
      have o_a1 := gr_ob g8 o_a1
      have o_v0 := gr_ob g8 o_v0
      refine r_iconst (pc := 32) C (v := (1 : Int32)) dX4_hasRoom_32 (by decide) ?_
      exact r_zret (pc := 33) C E ht dX4_hasRoom_33 (by decide) (by decide) (Or.inr rfl) h
    · have h := h.2 c6
      refine r_aload_n (pc := 22) C dX4_hasRoom_22 0 rfl ?_
      refine r_iconst (pc := 23) C (v := (5 : Int32)) dX4_hasRoom_23 (by decide) ?_
      refine r_callVi0 (pc := 24) C (rest := []) (a := v0) o_v0 [.int (5 : Int32)] yV_X4_fail g_519 (c_X4_fail h) dX4_hasRoom_24 rfl rfl (by decide) ⟨by decide, by decide⟩ ⟨by decide, by decide⟩ ⟨rfl, rfl⟩ (fun x12 S10 h g11 => ?_)
      have bx12 := h.1
      have h := h.2 g11 bx12
      have o_a1 := gr_ob g11 o_a1
      have o_v0 := gr_ob g11 o_v0
      exact r_zret (pc := 27) C E ht dX4_hasRoom_27 (by decide) (by decide) h.1 h.2
  · have h := h.2 c5
    refine r_aload_n (pc := 10) C dX4_hasRoom_10 0 rfl ?_
    refine r_bipush (pc := 11) C (v := (6 : Int32)) dX4_hasRoom_11 (by decide) ?_
    refine r_callVi0 (pc := 13) C (rest := []) (a := v0) o_v0 [.int (6 : Int32)] yV_X4_fail g_519 (c_X4_fail h) dX4_hasRoom_13 rfl rfl (by decide) ⟨by decide, by decide⟩ ⟨by decide, by decide⟩ ⟨rfl, rfl⟩ (fun x15 S13 h g14 => ?_)
    have bx15 := h.1
    have h := h.2 g14 bx15
    have o_a1 := gr_ob g14 o_a1
    have o_v0 := gr_ob g14 o_v0
    exact r_zret (pc := 16) C E ht dX4_hasRoom_16 (by decide) (by decide) h.1 h.2
def P_X4_hasRoom (v0 : Nat) (v1 : Int32) (v2 : Int32) (Q : Int32 → HS → Prop) (S : HS) : Prop := P_X4_hasRoom_0 Q v0 v1 v2 S
theorem c_X4_hasRoom {l : Launch} {Ee : EE} {S : HS} {v0 : Nat} {v1 : Int32} {v2 : Int32} {Q : Int32 → HS → Prop} (h : P_X4_hasRoom v0 v1 v2 Q S) : MI l yX4_hasRoom cX4_hasRoom 3 (some .boolean) rm_X4_hasRoom Ee S [.ref v0, .int v1, .int v2] (fun r S => bl r ∧ Q r S) :=
  openI (by decide) (by decide) (fun X C E ht hn hE hl => by subst hE; exact r_sub [0, 1, 2] rfl (T_X4_hasRoom_0 C E ht hn h))
def rm_X5_init : Room := { frames := 1, cells := 0, slots := 0, locals := 20 }
def P_X5_init_0 (Q : HS → Prop) (v0 : Nat) (S : HS) : Prop := Q S
set_option maxRecDepth 20000 in
set_option maxHeartbeats 4000000 in
theorem T_X5_init_0 {X : CX} {Q : HS → Prop} (C : Cx X cX5_init RX5 1 rm_X5_init) (E : ReV X rm_X5_init Q) (ht : (xh X).sig.returnType = none) (hn : (xh X).name = yX5_init.name) {v0 : Nat} {S : HS} (h : P_X5_init_0 Q v0 S) : WS X 1 0 0 0 [(0, .ref v0)] [] S := by
  refine r_aload_n (pc := 0) C dX5_init_0 0 rfl ?_
  refine r_objinit (pc := 1) C g_77 dX5_init_1 (by decide) (by decide) ?_
  exact r_vret (pc := 4) C E ht dX5_init_4 (by decide) (by decide) h
def P_X5_init (v0 : Nat) (Q : HS → Prop) (S : HS) : Prop := P_X5_init_0 Q v0 S
theorem c_X5_init {l : Launch} {Ee : EE} {S : HS} {v0 : Nat} {Q : HS → Prop} (h : P_X5_init v0 Q S) : MV l yX5_init cX5_init 1 none rm_X5_init Ee S [.ref v0] Q :=
  openV (by decide) (by decide) (fun X C E ht hn hE hl => by subst hE; exact r_sub [0] rfl (T_X5_init_0 C E ht hn h))
def rm_X6_init : Room := { frames := 1, cells := 0, slots := 0, locals := 20 }
def P_X6_init_0 (Q : HS → Prop) (v0 : Nat) (S : HS) : Prop := Q S
set_option maxRecDepth 20000 in
set_option maxHeartbeats 4000000 in
theorem T_X6_init_0 {X : CX} {Q : HS → Prop} (C : Cx X cX6_init RX6 1 rm_X6_init) (E : ReV X rm_X6_init Q) (ht : (xh X).sig.returnType = none) (hn : (xh X).name = yX6_init.name) {v0 : Nat} {S : HS} (h : P_X6_init_0 Q v0 S) : WS X 1 0 0 0 [(0, .ref v0)] [] S := by
  refine r_aload_n (pc := 0) C dX6_init_0 0 rfl ?_
  refine r_objinit (pc := 1) C g_105 dX6_init_1 (by decide) (by decide) ?_
  exact r_vret (pc := 4) C E ht dX6_init_4 (by decide) (by decide) h
def P_X6_init (v0 : Nat) (Q : HS → Prop) (S : HS) : Prop := P_X6_init_0 Q v0 S
theorem c_X6_init {l : Launch} {Ee : EE} {S : HS} {v0 : Nat} {Q : HS → Prop} (h : P_X6_init v0 Q S) : MV l yX6_init cX6_init 1 none rm_X6_init Ee S [.ref v0] Q :=
  openV (by decide) (by decide) (fun X C E ht hn hE hl => by subst hE; exact r_sub [0] rfl (T_X6_init_0 C E ht hn h))
def rm_X8_init : Room := { frames := 2, cells := 28, slots := 172, locals := 40 }
def B_X8_init_115 (Q : HS → Prop) (X115 : Nat → Int32 → Nat → Nat → HS → Prop) (v0 : Nat) (v1 : Int32) (kk : Nat) (nn : Nat) (S : HS) : Prop := ob S v0 8 ∧ (∃ a1 : Nat, fR S v0 9 = some a1 ∧ (ob S a1 19 ∧ ((((nI (hN S a1)) ≤ v1) → (kk ≤ rm_X8_init.cells ∧ nn ≤ rm_X8_init.slots ∧ Q S)) ∧ ((¬ (nI (hN S a1)) ≤ v1) → (∃ a3 : Nat, fR S v0 9 = some a3 ∧ (kk + 1 ≤ rm_X8_init.cells ∧ nn + 7 ≤ rm_X8_init.slots ∧ ∀ a4 : Nat, a4 ∉ hL S → ∀ S5 : HS, S5 = nW S a4 6 0 → (kk + 1 ≤ rm_X8_init.cells ∧ nn + 7 ≤ rm_X8_init.slots ∧ (P_X6_init a4 (fun S6 => Gr S5 S6 → (ob S6 a3 19 ∧ (vp_in v1 (hN S6 a3) ∧ (∀ x10 : Int32, x10 = v1 + (1 : Int32) → (X115 v0 x10 (kk + 1) (nn + 7) (sR S6 a3 v1.toNatClampNeg (some a4))))))) S5))))))))
def P_X8_init_115 (Q : HS → Prop) (v0 : Nat) (v1 : Int32) (kk : Nat) (nn : Nat) (S : HS) : Prop := ∀ X115 : Nat → Int32 → Nat → Nat → HS → Prop, (∀ (v0 : Nat) (v1 : Int32) (kk : Nat) (nn : Nat) (S : HS), B_X8_init_115 Q X115 v0 v1 kk nn S → X115 v0 v1 kk nn S) → X115 v0 v1 kk nn S
set_option maxRecDepth 20000 in
set_option maxHeartbeats 4000000 in
theorem TB_X8_init_115 {X : CX} {Q : HS → Prop} (C : Cx X cX8_init RX8 2 rm_X8_init) (E : ReV X rm_X8_init Q) (ht : (xh X).sig.returnType = none) (hn : (xh X).name = yX8_init.name) {X115 : Nat → Int32 → Nat → Nat → HS → Prop} (hX115 : ∀ (v0 : Nat) (v1 : Int32) (kk : Nat) (nn : Nat) (S : HS), X115 v0 v1 kk nn S → WS X 2 kk nn 115 [(0, .ref v0), (1, .int v1)] [] S) {v0 : Nat} {v1 : Int32} {kk : Nat} {nn : Nat} {S : HS} (h : B_X8_init_115 Q X115 v0 v1 kk nn S) : WS X 2 kk nn 115 [(0, .ref v0), (1, .int v1)] [] S := by
  refine r_iload_n (pc := 115) C dX8_init_115 1 rfl ?_
  refine r_aload_n (pc := 116) C dX8_init_116 0 rfl ?_
  obtain ⟨o_v0, h⟩ := h
  obtain ⟨a1, ea1, h⟩ := h
  refine r_getr (pc := 117) C fL_X8_29 dX8_init_117 o_v0 ea1 ?_
  obtain ⟨o_a1, h⟩ := h
  refine r_alen19 (pc := 120) C dX8_init_120 o_a1 ?_
  refine r_icmp_ge (pc := 121) C (tgt := 143) dX8_init_121 (by decide) (fun c2 => ?_) (fun c2 => ?_)
  · have h := h.1 c2
    obtain ⟨hk, hk2, h⟩ := h
    exact r_vret (pc := 143) C E ht dX8_init_143 hk hk2 h
  · have h := h.2 c2
    refine r_aload_n (pc := 124) C dX8_init_124 0 rfl ?_
    obtain ⟨a3, ea3, h⟩ := h
    refine r_getr (pc := 125) C fL_X8_29 dX8_init_125 o_v0 ea3 ?_
    refine r_iload_n (pc := 128) C dX8_init_128 1 rfl ?_
    obtain ⟨hk, hk2, h⟩ := h
    refine r_new (pc := 129) C nc_X8_27 dX8_init_129 hk hk2 (fun a4 q11 => ?_)
    refine r_heap (fun S5 eS5 => ?_)
    have h := h a4 q11 S5 eS5
    have g12 := gr_of_new eS5 q11
    have o_a4 := ob_of_new eS5
    have o_a1 := gr_ob g12 o_a1
    have o_v0 := gr_ob g12 o_v0
    refine r_dup (pc := 132) C dX8_init_132 rfl ?_
    obtain ⟨hk, hk2, h⟩ := h
    refine r_callNv0 (pc := 133) C (rest := [.ref a4, .int v1, .ref a3]) (a := a4) [] yI_X6_init (List.mem_of_getElem? (i := 2) rfl) (c_X6_init h) dX8_init_133 rfl rfl (by decide) ⟨by decide, by decide⟩ ⟨hk, hk2⟩ ⟨rfl, rfl⟩ (fun S6 h g7 => ?_)
    have h := h g7
    have o_a1 := gr_ob g7 o_a1
    have o_a4 := gr_ob g7 o_a4
    have o_v0 := gr_ob g7 o_v0
    obtain ⟨o_a3, h⟩ := h
    obtain ⟨i9, h⟩ := h
    refine r_aast19 (pc := 136) C dX8_init_136 o_a3 i9 o_a4 ?_
    obtain ⟨x10, ex10⟩ : ∃ z : Int32, z = v1 + (1 : Int32) := ⟨_, rfl⟩
    have h := h x10 ex10
    refine r_iinc (pc := 137) C (v := x10) (lv' := [(1, .int x10), (0, .ref v0)]) dX8_init_137 1 rfl ex10.symm (by decide) rfl ?_
    refine r_goto (pc := 140) C (tgt := 115) dX8_init_140 (by decide) ?_
    exact r_sub [1, 0] rfl (hX115 v0 x10 (kk + 1) (nn + 7) (sR S6 a3 v1.toNatClampNeg (some a4)) h)
theorem T_X8_init_115 {X : CX} {Q : HS → Prop} (C : Cx X cX8_init RX8 2 rm_X8_init) (E : ReV X rm_X8_init Q) (ht : (xh X).sig.returnType = none) (hn : (xh X).name = yX8_init.name) {v0 : Nat} {v1 : Int32} {kk : Nat} {nn : Nat} {S : HS} (h : P_X8_init_115 Q v0 v1 kk nn S) : WS X 2 kk nn 115 [(0, .ref v0), (1, .int v1)] [] S :=
  h (fun v0 v1 kk nn S => WS X 2 kk nn 115 [(0, .ref v0), (1, .int v1)] [] S) (fun v0 v1 kk nn S hh => TB_X8_init_115 C E ht hn (fun v0 v1 kk nn S z => z) hh)
def B_X8_init_85 (Q : HS → Prop) (X85 : Nat → Int32 → Nat → Nat → HS → Prop) (v0 : Nat) (v1 : Int32) (kk : Nat) (nn : Nat) (S : HS) : Prop := ob S v0 8 ∧ (∃ a1 : Nat, fR S v0 8 = some a1 ∧ (ob S a1 18 ∧ ((((nI (hN S a1)) ≤ v1) → (P_X8_init_115 Q v0 (0 : Int32) kk nn S)) ∧ ((¬ (nI (hN S a1)) ≤ v1) → (∃ a3 : Nat, fR S v0 8 = some a3 ∧ (kk + 1 ≤ rm_X8_init.cells ∧ nn + 5 ≤ rm_X8_init.slots ∧ ∀ a4 : Nat, a4 ∉ hL S → ∀ S5 : HS, S5 = nW S a4 5 0 → (kk + 1 ≤ rm_X8_init.cells ∧ nn + 5 ≤ rm_X8_init.slots ∧ (P_X5_init a4 (fun S6 => Gr S5 S6 → (ob S6 a3 18 ∧ (vp_in v1 (hN S6 a3) ∧ (∀ x10 : Int32, x10 = v1 + (1 : Int32) → (X85 v0 x10 (kk + 1) (nn + 5) (sR S6 a3 v1.toNatClampNeg (some a4))))))) S5))))))))
def P_X8_init_85 (Q : HS → Prop) (v0 : Nat) (v1 : Int32) (kk : Nat) (nn : Nat) (S : HS) : Prop := ∀ X85 : Nat → Int32 → Nat → Nat → HS → Prop, (∀ (v0 : Nat) (v1 : Int32) (kk : Nat) (nn : Nat) (S : HS), B_X8_init_85 Q X85 v0 v1 kk nn S → X85 v0 v1 kk nn S) → X85 v0 v1 kk nn S
set_option maxRecDepth 20000 in
set_option maxHeartbeats 4000000 in
theorem TB_X8_init_85 {X : CX} {Q : HS → Prop} (C : Cx X cX8_init RX8 2 rm_X8_init) (E : ReV X rm_X8_init Q) (ht : (xh X).sig.returnType = none) (hn : (xh X).name = yX8_init.name) {X85 : Nat → Int32 → Nat → Nat → HS → Prop} (hX85 : ∀ (v0 : Nat) (v1 : Int32) (kk : Nat) (nn : Nat) (S : HS), X85 v0 v1 kk nn S → WS X 2 kk nn 85 [(0, .ref v0), (1, .int v1)] [] S) {v0 : Nat} {v1 : Int32} {kk : Nat} {nn : Nat} {S : HS} (h : B_X8_init_85 Q X85 v0 v1 kk nn S) : WS X 2 kk nn 85 [(0, .ref v0), (1, .int v1)] [] S := by
  refine r_iload_n (pc := 85) C dX8_init_85 1 rfl ?_
  refine r_aload_n (pc := 86) C dX8_init_86 0 rfl ?_
  obtain ⟨o_v0, h⟩ := h
  obtain ⟨a1, ea1, h⟩ := h
  refine r_getr (pc := 87) C fL_X8_23 dX8_init_87 o_v0 ea1 ?_
  obtain ⟨o_a1, h⟩ := h
  refine r_alen18 (pc := 90) C dX8_init_90 o_a1 ?_
  refine r_icmp_ge (pc := 91) C (tgt := 113) dX8_init_91 (by decide) (fun c2 => ?_) (fun c2 => ?_)
  · have h := h.1 c2
    refine r_iconst (pc := 113) C (v := (0 : Int32)) dX8_init_113 (by decide) ?_
    refine r_istore_n (pc := 114) C dX8_init_114 rfl (by decide) (lv' := [(1, .int (0 : Int32)), (0, .ref v0)]) rfl ?_
    exact r_sub [1, 0] rfl (T_X8_init_115 C E ht hn h)
  · have h := h.2 c2
    refine r_aload_n (pc := 94) C dX8_init_94 0 rfl ?_
    obtain ⟨a3, ea3, h⟩ := h
    refine r_getr (pc := 95) C fL_X8_23 dX8_init_95 o_v0 ea3 ?_
    refine r_iload_n (pc := 98) C dX8_init_98 1 rfl ?_
    obtain ⟨hk, hk2, h⟩ := h
    refine r_new (pc := 99) C nc_X8_21 dX8_init_99 hk hk2 (fun a4 q11 => ?_)
    refine r_heap (fun S5 eS5 => ?_)
    have h := h a4 q11 S5 eS5
    have g12 := gr_of_new eS5 q11
    have o_a4 := ob_of_new eS5
    have o_a1 := gr_ob g12 o_a1
    have o_v0 := gr_ob g12 o_v0
    refine r_dup (pc := 102) C dX8_init_102 rfl ?_
    obtain ⟨hk, hk2, h⟩ := h
    refine r_callNv0 (pc := 103) C (rest := [.ref a4, .int v1, .ref a3]) (a := a4) [] yI_X5_init (List.mem_of_getElem? (i := 1) rfl) (c_X5_init h) dX8_init_103 rfl rfl (by decide) ⟨by decide, by decide⟩ ⟨hk, hk2⟩ ⟨rfl, rfl⟩ (fun S6 h g7 => ?_)
    have h := h g7
    have o_a1 := gr_ob g7 o_a1
    have o_a4 := gr_ob g7 o_a4
    have o_v0 := gr_ob g7 o_v0
    obtain ⟨o_a3, h⟩ := h
    obtain ⟨i9, h⟩ := h
    refine r_aast18 (pc := 106) C dX8_init_106 o_a3 i9 o_a4 ?_
    obtain ⟨x10, ex10⟩ : ∃ z : Int32, z = v1 + (1 : Int32) := ⟨_, rfl⟩
    have h := h x10 ex10
    refine r_iinc (pc := 107) C (v := x10) (lv' := [(1, .int x10), (0, .ref v0)]) dX8_init_107 1 rfl ex10.symm (by decide) rfl ?_
    refine r_goto (pc := 110) C (tgt := 85) dX8_init_110 (by decide) ?_
    exact r_sub [1, 0] rfl (hX85 v0 x10 (kk + 1) (nn + 5) (sR S6 a3 v1.toNatClampNeg (some a4)) h)
theorem T_X8_init_85 {X : CX} {Q : HS → Prop} (C : Cx X cX8_init RX8 2 rm_X8_init) (E : ReV X rm_X8_init Q) (ht : (xh X).sig.returnType = none) (hn : (xh X).name = yX8_init.name) {v0 : Nat} {v1 : Int32} {kk : Nat} {nn : Nat} {S : HS} (h : P_X8_init_85 Q v0 v1 kk nn S) : WS X 2 kk nn 85 [(0, .ref v0), (1, .int v1)] [] S :=
  h (fun v0 v1 kk nn S => WS X 2 kk nn 85 [(0, .ref v0), (1, .int v1)] [] S) (fun v0 v1 kk nn S hh => TB_X8_init_85 C E ht hn (fun v0 v1 kk nn S z => z) hh)
def B_X8_init_55 (Q : HS → Prop) (X55 : Nat → Int32 → Nat → Nat → HS → Prop) (v0 : Nat) (v1 : Int32) (kk : Nat) (nn : Nat) (S : HS) : Prop := ob S v0 8 ∧ (∃ a1 : Nat, fR S v0 6 = some a1 ∧ (ob S a1 17 ∧ ((((nI (hN S a1)) ≤ v1) → (P_X8_init_85 Q v0 (0 : Int32) kk nn S)) ∧ ((¬ (nI (hN S a1)) ≤ v1) → (∃ a3 : Nat, fR S v0 6 = some a3 ∧ (kk + 1 ≤ rm_X8_init.cells ∧ nn + 5 ≤ rm_X8_init.slots ∧ ∀ a4 : Nat, a4 ∉ hL S → ∀ S5 : HS, S5 = nW S a4 3 0 → (kk + 1 ≤ rm_X8_init.cells ∧ nn + 5 ≤ rm_X8_init.slots ∧ (P_X3_init a4 (fun S6 => Gr S5 S6 → (ob S6 a3 17 ∧ (vp_in v1 (hN S6 a3) ∧ (∀ x10 : Int32, x10 = v1 + (1 : Int32) → (X55 v0 x10 (kk + 1) (nn + 5) (sR S6 a3 v1.toNatClampNeg (some a4))))))) S5))))))))
def P_X8_init_55 (Q : HS → Prop) (v0 : Nat) (v1 : Int32) (kk : Nat) (nn : Nat) (S : HS) : Prop := ∀ X55 : Nat → Int32 → Nat → Nat → HS → Prop, (∀ (v0 : Nat) (v1 : Int32) (kk : Nat) (nn : Nat) (S : HS), B_X8_init_55 Q X55 v0 v1 kk nn S → X55 v0 v1 kk nn S) → X55 v0 v1 kk nn S
set_option maxRecDepth 20000 in
set_option maxHeartbeats 4000000 in
theorem TB_X8_init_55 {X : CX} {Q : HS → Prop} (C : Cx X cX8_init RX8 2 rm_X8_init) (E : ReV X rm_X8_init Q) (ht : (xh X).sig.returnType = none) (hn : (xh X).name = yX8_init.name) {X55 : Nat → Int32 → Nat → Nat → HS → Prop} (hX55 : ∀ (v0 : Nat) (v1 : Int32) (kk : Nat) (nn : Nat) (S : HS), X55 v0 v1 kk nn S → WS X 2 kk nn 55 [(0, .ref v0), (1, .int v1)] [] S) {v0 : Nat} {v1 : Int32} {kk : Nat} {nn : Nat} {S : HS} (h : B_X8_init_55 Q X55 v0 v1 kk nn S) : WS X 2 kk nn 55 [(0, .ref v0), (1, .int v1)] [] S := by
  refine r_iload_n (pc := 55) C dX8_init_55 1 rfl ?_
  refine r_aload_n (pc := 56) C dX8_init_56 0 rfl ?_
  obtain ⟨o_v0, h⟩ := h
  obtain ⟨a1, ea1, h⟩ := h
  refine r_getr (pc := 57) C fL_X8_11 dX8_init_57 o_v0 ea1 ?_
  obtain ⟨o_a1, h⟩ := h
  refine r_alen17 (pc := 60) C dX8_init_60 o_a1 ?_
  refine r_icmp_ge (pc := 61) C (tgt := 83) dX8_init_61 (by decide) (fun c2 => ?_) (fun c2 => ?_)
  · have h := h.1 c2
    refine r_iconst (pc := 83) C (v := (0 : Int32)) dX8_init_83 (by decide) ?_
    refine r_istore_n (pc := 84) C dX8_init_84 rfl (by decide) (lv' := [(1, .int (0 : Int32)), (0, .ref v0)]) rfl ?_
    exact r_sub [1, 0] rfl (T_X8_init_85 C E ht hn h)
  · have h := h.2 c2
    refine r_aload_n (pc := 64) C dX8_init_64 0 rfl ?_
    obtain ⟨a3, ea3, h⟩ := h
    refine r_getr (pc := 65) C fL_X8_11 dX8_init_65 o_v0 ea3 ?_
    refine r_iload_n (pc := 68) C dX8_init_68 1 rfl ?_
    obtain ⟨hk, hk2, h⟩ := h
    refine r_new (pc := 69) C nc_X8_9 dX8_init_69 hk hk2 (fun a4 q11 => ?_)
    refine r_heap (fun S5 eS5 => ?_)
    have h := h a4 q11 S5 eS5
    have g12 := gr_of_new eS5 q11
    have o_a4 := ob_of_new eS5
    have o_a1 := gr_ob g12 o_a1
    have o_v0 := gr_ob g12 o_v0
    refine r_dup (pc := 72) C dX8_init_72 rfl ?_
    obtain ⟨hk, hk2, h⟩ := h
    refine r_callNv0 (pc := 73) C (rest := [.ref a4, .int v1, .ref a3]) (a := a4) [] yI_X3_init (List.mem_of_getElem? (i := 0) rfl) (c_X3_init h) dX8_init_73 rfl rfl (by decide) ⟨by decide, by decide⟩ ⟨hk, hk2⟩ ⟨rfl, rfl⟩ (fun S6 h g7 => ?_)
    have h := h g7
    have o_a1 := gr_ob g7 o_a1
    have o_a4 := gr_ob g7 o_a4
    have o_v0 := gr_ob g7 o_v0
    obtain ⟨o_a3, h⟩ := h
    obtain ⟨i9, h⟩ := h
    refine r_aast17 (pc := 76) C dX8_init_76 o_a3 i9 o_a4 ?_
    obtain ⟨x10, ex10⟩ : ∃ z : Int32, z = v1 + (1 : Int32) := ⟨_, rfl⟩
    have h := h x10 ex10
    refine r_iinc (pc := 77) C (v := x10) (lv' := [(1, .int x10), (0, .ref v0)]) dX8_init_77 1 rfl ex10.symm (by decide) rfl ?_
    refine r_goto (pc := 80) C (tgt := 55) dX8_init_80 (by decide) ?_
    exact r_sub [1, 0] rfl (hX55 v0 x10 (kk + 1) (nn + 5) (sR S6 a3 v1.toNatClampNeg (some a4)) h)
theorem T_X8_init_55 {X : CX} {Q : HS → Prop} (C : Cx X cX8_init RX8 2 rm_X8_init) (E : ReV X rm_X8_init Q) (ht : (xh X).sig.returnType = none) (hn : (xh X).name = yX8_init.name) {v0 : Nat} {v1 : Int32} {kk : Nat} {nn : Nat} {S : HS} (h : P_X8_init_55 Q v0 v1 kk nn S) : WS X 2 kk nn 55 [(0, .ref v0), (1, .int v1)] [] S :=
  h (fun v0 v1 kk nn S => WS X 2 kk nn 55 [(0, .ref v0), (1, .int v1)] [] S) (fun v0 v1 kk nn S hh => TB_X8_init_55 C E ht hn (fun v0 v1 kk nn S z => z) hh)
def P_X8_init_0 (Q : HS → Prop) (v0 : Nat) (kk : Nat) (nn : Nat) (S : HS) : Prop := kk + 1 ≤ rm_X8_init.cells ∧ nn + 6 ≤ rm_X8_init.slots ∧ ∀ a1 : Nat, a1 ∉ hL S → ∀ S2 : HS, S2 = nW S a1 17 6 → (ob S2 v0 8 ∧ (kk + 1 + 1 ≤ rm_X8_init.cells ∧ nn + 6 + 8 ≤ rm_X8_init.slots ∧ ∀ a3 : Nat, a3 ∉ hL (sR S2 v0 6 (some a1)) → ∀ S4 : HS, S4 = nW (sR S2 v0 6 (some a1)) a3 13 8 → (kk + 1 + 1 + 1 ≤ rm_X8_init.cells ∧ nn + 6 + 8 + 12 ≤ rm_X8_init.slots ∧ ∀ a5 : Nat, a5 ∉ hL (sR S4 v0 7 (some a3)) → ∀ S6 : HS, S6 = nW (sR S4 v0 7 (some a3)) a5 18 12 → (kk + 1 + 1 + 1 + 1 ≤ rm_X8_init.cells ∧ nn + 6 + 8 + 12 + 4 ≤ rm_X8_init.slots ∧ ∀ a7 : Nat, a7 ∉ hL (sR S6 v0 8 (some a5)) → ∀ S8 : HS, S8 = nW (sR S6 v0 8 (some a5)) a7 19 4 → (kk + 1 + 1 + 1 + 1 + 1 ≤ rm_X8_init.cells ∧ nn + 6 + 8 + 12 + 4 + 4 ≤ rm_X8_init.slots ∧ ∀ a9 : Nat, a9 ∉ hL (sR S8 v0 9 (some a7)) → ∀ S10 : HS, S10 = nW (sR S8 v0 9 (some a7)) a9 13 4 → (kk + 1 + 1 + 1 + 1 + 1 + 1 ≤ rm_X8_init.cells ∧ nn + 6 + 8 + 12 + 4 + 4 + 20 ≤ rm_X8_init.slots ∧ ∀ a11 : Nat, a11 ∉ hL (sR S10 v0 10 (some a9)) → ∀ S12 : HS, S12 = nW (sR S10 v0 10 (some a9)) a11 13 20 → (P_X8_init_55 Q v0 (0 : Int32) (kk + 1 + 1 + 1 + 1 + 1 + 1) (nn + 6 + 8 + 12 + 4 + 4 + 20) (sR S12 v0 11 (some a11)))))))))
set_option maxRecDepth 20000 in
set_option maxHeartbeats 4000000 in
theorem T_X8_init_0 {X : CX} {Q : HS → Prop} (C : Cx X cX8_init RX8 2 rm_X8_init) (E : ReV X rm_X8_init Q) (ht : (xh X).sig.returnType = none) (hn : (xh X).name = yX8_init.name) {v0 : Nat} {kk : Nat} {nn : Nat} {S : HS} (h : P_X8_init_0 Q v0 kk nn S) : WS X 2 kk nn 0 [(0, .ref v0)] [] S := by
  refine r_aload_n (pc := 0) C dX8_init_0 0 rfl ?_
  refine r_objinit (pc := 1) C g_35 dX8_init_1 (by decide) (by decide) ?_
  refine r_aload_n (pc := 4) C dX8_init_4 0 rfl ?_
  refine r_bipush (pc := 5) C (v := (6 : Int32)) dX8_init_5 (by decide) ?_
  obtain ⟨hk, hk2, h⟩ := h
  refine r_newa17 (pc := 7) C (N := 6) g_36 dX8_init_7 (by decide) (by decide) (by decide) hk hk2 (fun a1 q23 => ?_)
  refine r_heap (fun S2 eS2 => ?_)
  have h := h a1 q23 S2 eS2
  have g24 := gr_of_new eS2 q23
  have o_a1 := ob_of_new eS2
  obtain ⟨o_v0, h⟩ := h
  refine r_putFr (pc := 10) C pfL_X8_11 hn dX8_init_10 o_v0 ?_
  refine r_aload_n (pc := 13) C dX8_init_13 0 rfl ?_
  refine r_bipush (pc := 14) C (v := (8 : Int32)) dX8_init_14 (by decide) ?_
  obtain ⟨hk, hk2, h⟩ := h
  refine r_newa13 (pc := 16) C (N := 8) g_72 dX8_init_16 (by decide) (by decide) (by decide) hk hk2 (fun a3 q21 => ?_)
  refine r_heap (fun S4 eS4 => ?_)
  have h := h a3 q21 S4 eS4
  have g22 := gr_of_new eS4 q21
  have o_a3 := ob_of_new eS4
  have o_a1 := gr_ob g22 o_a1
  have o_v0 := gr_ob g22 o_v0
  refine r_putFr (pc := 18) C pfL_X8_17 hn dX8_init_18 o_v0 ?_
  refine r_aload_n (pc := 21) C dX8_init_21 0 rfl ?_
  refine r_bipush (pc := 22) C (v := (12 : Int32)) dX8_init_22 (by decide) ?_
  obtain ⟨hk, hk2, h⟩ := h
  refine r_newa18 (pc := 24) C (N := 12) g_38 dX8_init_24 (by decide) (by decide) (by decide) hk hk2 (fun a5 q19 => ?_)
  refine r_heap (fun S6 eS6 => ?_)
  have h := h a5 q19 S6 eS6
  have g20 := gr_of_new eS6 q19
  have o_a5 := ob_of_new eS6
  have o_a1 := gr_ob g20 o_a1
  have o_a3 := gr_ob g20 o_a3
  have o_v0 := gr_ob g20 o_v0
  refine r_putFr (pc := 27) C pfL_X8_23 hn dX8_init_27 o_v0 ?_
  refine r_aload_n (pc := 30) C dX8_init_30 0 rfl ?_
  refine r_iconst (pc := 31) C (v := (4 : Int32)) dX8_init_31 (by decide) ?_
  obtain ⟨hk, hk2, h⟩ := h
  refine r_newa19 (pc := 32) C (N := 4) g_40 dX8_init_32 (by decide) (by decide) (by decide) hk hk2 (fun a7 q17 => ?_)
  refine r_heap (fun S8 eS8 => ?_)
  have h := h a7 q17 S8 eS8
  have g18 := gr_of_new eS8 q17
  have o_a7 := ob_of_new eS8
  have o_a1 := gr_ob g18 o_a1
  have o_a3 := gr_ob g18 o_a3
  have o_a5 := gr_ob g18 o_a5
  have o_v0 := gr_ob g18 o_v0
  refine r_putFr (pc := 35) C pfL_X8_29 hn dX8_init_35 o_v0 ?_
  refine r_aload_n (pc := 38) C dX8_init_38 0 rfl ?_
  refine r_iconst (pc := 39) C (v := (4 : Int32)) dX8_init_39 (by decide) ?_
  obtain ⟨hk, hk2, h⟩ := h
  refine r_newa13 (pc := 40) C (N := 4) g_72 dX8_init_40 (by decide) (by decide) (by decide) hk hk2 (fun a9 q15 => ?_)
  refine r_heap (fun S10 eS10 => ?_)
  have h := h a9 q15 S10 eS10
  have g16 := gr_of_new eS10 q15
  have o_a9 := ob_of_new eS10
  have o_a1 := gr_ob g16 o_a1
  have o_a3 := gr_ob g16 o_a3
  have o_a5 := gr_ob g16 o_a5
  have o_a7 := gr_ob g16 o_a7
  have o_v0 := gr_ob g16 o_v0
  refine r_putFr (pc := 42) C pfL_X8_33 hn dX8_init_42 o_v0 ?_
  refine r_aload_n (pc := 45) C dX8_init_45 0 rfl ?_
  refine r_bipush (pc := 46) C (v := (20 : Int32)) dX8_init_46 (by decide) ?_
  obtain ⟨hk, hk2, h⟩ := h
  refine r_newa13 (pc := 48) C (N := 20) g_72 dX8_init_48 (by decide) (by decide) (by decide) hk hk2 (fun a11 q13 => ?_)
  refine r_heap (fun S12 eS12 => ?_)
  have h := h a11 q13 S12 eS12
  have g14 := gr_of_new eS12 q13
  have o_a11 := ob_of_new eS12
  have o_a1 := gr_ob g14 o_a1
  have o_a3 := gr_ob g14 o_a3
  have o_a5 := gr_ob g14 o_a5
  have o_a7 := gr_ob g14 o_a7
  have o_a9 := gr_ob g14 o_a9
  have o_v0 := gr_ob g14 o_v0
  refine r_putFr (pc := 50) C pfL_X8_36 hn dX8_init_50 o_v0 ?_
  refine r_iconst (pc := 53) C (v := (0 : Int32)) dX8_init_53 (by decide) ?_
  refine r_istore_n (pc := 54) C dX8_init_54 rfl (by decide) (lv' := [(1, .int (0 : Int32)), (0, .ref v0)]) rfl ?_
  exact r_sub [1, 0] rfl (T_X8_init_55 C E ht hn h)
def P_X8_init (v0 : Nat) (Q : HS → Prop) (S : HS) : Prop := P_X8_init_0 Q v0 0 0 S
theorem c_X8_init {l : Launch} {Ee : EE} {S : HS} {v0 : Nat} {Q : HS → Prop} (h : P_X8_init v0 Q S) : MV l yX8_init cX8_init 2 none rm_X8_init Ee S [.ref v0] Q :=
  openV (by decide) (by decide) (fun X C E ht hn hE hl => by subst hE; exact r_sub [0] rfl (T_X8_init_0 C E ht hn h))
