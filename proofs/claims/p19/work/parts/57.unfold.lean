section
theorem u_X10_find {v0 : Nat} {v1 : Int64} {Q : Int32 → HS → Prop} {S : HS} (h : P_X10_find_0 Q v0 v1 S) : P_X10_find v0 v1 Q S := h
theorem u_X10_find_0 {Q : Int32 → HS → Prop} {v0 : Nat} {v1 : Int64} {S : HS} (h : P_X10_find_2 Q v0 v1 (0 : Int32) S) : P_X10_find_0 Q v0 v1 S := h
theorem u_X10_find_2 {Q : Int32 → HS → Prop} {X2 : Nat → Int64 → Int32 → HS → Prop} {v0 : Nat} {v1 : Int64} {v3 : Int32} {S : HS} (h : ob S v0 10 ∧ (∀ x1 : Int32, x1 = fI S v0 6 → (((x1 ≤ v3) → (Q (-1 : Int32) S)) ∧ ((¬ x1 ≤ v3) → (∃ a3 : Nat, fR S v0 28 = some a3 ∧ (ob S a3 14 ∧ (vp_in v3 (hN S a3) ∧ ∀ x5 : Int64, x5 = fJ S a3 v3.toNatClampNeg → (((¬ (lg_cmp x5 v1) = 0) → (∀ x7 : Int32, x7 = v3 + (1 : Int32) → (X2 v0 v1 x7 S))) ∧ (((lg_cmp x5 v1) = 0) → (Q v3 S)))))))))) : B_X10_find_2 Q X2 v0 v1 v3 S := h
theorem i_X10_find_2 {Q : Int32 → HS → Prop} (μ : Nat → Int64 → Int32 → HS → Nat) (I : Nat → Int64 → Int32 → HS → Prop) (hs : ∀ (v0 : Nat) (v1 : Int64) (v3 : Int32) (S : HS) (X : Nat → Int64 → Int32 → HS → Prop), I v0 v1 v3 S → (∀ (w0 : Nat) (w1 : Int64) (w3 : Int32) (T : HS), I w0 w1 w3 T → μ w0 w1 w3 T < μ v0 v1 v3 S → X w0 w1 w3 T) → B_X10_find_2 Q X v0 v1 v3 S) : ∀ (v0 : Nat) (v1 : Int64) (v3 : Int32) (S : HS), I v0 v1 v3 S → P_X10_find_2 Q v0 v1 v3 S := by
  intro v0 v1 v3 S h X hX
  have key : ∀ (z : Nat) (v0 : Nat) (v1 : Int64) (v3 : Int32) (S : HS), μ v0 v1 v3 S < z → I v0 v1 v3 S → X v0 v1 v3 S := by
    intro z
    induction z with
    | zero => intro v0 v1 v3 S hz; exact absurd hz (Nat.not_lt_zero _)
    | succ z ih => intro v0 v1 v3 S hz hI; exact hX _ _ _ _ (hs _ _ _ _ _ hI (fun w0 w1 w3 T hT hl => ih _ _ _ _ (by omega) hT))
  exact key _ _ _ _ _ (Nat.lt_succ_self _) h
theorem u_X11_begins {v0 : Nat} {v1 : Int32} {v2 : Int32} {Q : HS → Prop} {S : HS} (h : P_X11_begins_0 Q v0 v1 v2 S) : P_X11_begins v0 v1 v2 Q S := h
theorem u_X11_begins_0 {Q : HS → Prop} {v0 : Nat} {v1 : Int32} {v2 : Int32} {S : HS} (h : ((¬ v1 = v2) → (P_X11_begins_10 Q v0 S)) ∧ ((v1 = v2) → (ob S v0 11 ∧ (P_X11_flaw v0 (5 : Int32) (fun S2 => Gr S S2 → (P_X11_begins_10 Q v0 S2)) S)))) : P_X11_begins_0 Q v0 v1 v2 S := h
theorem u_X11_begins_10 {Q : HS → Prop} {v0 : Nat} {S : HS} (h : ob S v0 11 ∧ (∃ a1 : Nat, fR S v0 4 = some a1 ∧ (ob S a1 10 ∧ (∀ x2 : Int32, x2 = fI S a1 0 → (((¬ x2 = 0) → (P_X11_begins_26 Q v0 S)) ∧ ((x2 = 0) → (P_X11_flaw v0 (6 : Int32) (fun S4 => Gr S S4 → (P_X11_begins_26 Q v0 S4)) S))))))) : P_X11_begins_10 Q v0 S := h
theorem u_X11_begins_26 {Q : HS → Prop} {v0 : Nat} {S : HS} (h : ob S v0 11 ∧ (P_X11_goesOn v0 (fun S1 => Gr S S1 → (Q S1)) S)) : P_X11_begins_26 Q v0 S := h
theorem u_X11_byteAt {v0 : Nat} {v1 : Int32} {Q : Int32 → HS → Prop} {S : HS} (h : P_X11_byteAt_0 Q v0 v1 S) : P_X11_byteAt v0 v1 Q S := h
theorem u_X11_byteAt_0 {Q : Int32 → HS → Prop} {v0 : Nat} {v1 : Int32} {S : HS} (h : ob S v0 11 ∧ (∀ x1 : Int32, x1 = fI S v0 7 → (((x1 ≤ v1) → (Q (-1 : Int32) S)) ∧ ((¬ x1 ≤ v1) → (∃ a3 : Nat, fR S v0 5 = some a3 ∧ (ob S a3 12 ∧ (vp_in v1 (hN S a3) ∧ ∀ x5 : Int32, x5 = fI S a3 v1.toNatClampNeg → (Q (x5 &&& (255 : Int32)) S)))))))) : P_X11_byteAt_0 Q v0 v1 S := h
theorem u_X11_eatsSign {v0 : Nat} {v1 : Int32} {Q : Int32 → HS → Prop} {S : HS} (h : P_X11_eatsSign_0 Q v0 v1 S) : P_X11_eatsSign v0 v1 Q S := h
theorem u_X11_eatsSign_0 {Q : Int32 → HS → Prop} {v0 : Nat} {v1 : Int32} {S : HS} (h : ob S v0 11 ∧ (∀ x1 : Int32, x1 = fI S v0 9 → (((¬ x1 = (4 : Int32)) → (P_X11_eatsSign_20 Q v0 S)) ∧ ((x1 = (4 : Int32)) → (∀ x3 : Int32, x3 = fI S v0 11 → (((¬ x3 = v1) → (P_X11_eatsSign_20 Q v0 S)) ∧ ((x3 = v1) → (P_X11_eatsSign_21 Q v0 (1 : Int32) S)))))))) : P_X11_eatsSign_0 Q v0 v1 S := h
theorem u_X11_eatsSign_20 {Q : Int32 → HS → Prop} {v0 : Nat} {S : HS} (h : P_X11_eatsSign_21 Q v0 (0 : Int32) S) : P_X11_eatsSign_20 Q v0 S := h
theorem u_X11_eatsSign_21 {Q : Int32 → HS → Prop} {v0 : Nat} {s0 : Int32} {S : HS} (h : ((s0 = 0) → (bl s0 ∧ Q s0 S)) ∧ ((¬ s0 = 0) → (ob S v0 11 ∧ (P_X11_goesOn v0 (fun S2 => Gr S S2 → (bl s0 ∧ Q s0 S2)) S)))) : P_X11_eatsSign_21 Q v0 s0 S := h
theorem u_X11_eatsWord {v0 : Nat} {v1 : Nat} {Q : Int32 → HS → Prop} {S : HS} (h : P_X11_eatsWord_0 Q v0 v1 S) : P_X11_eatsWord v0 v1 Q S := h
theorem u_X11_eatsWord_0 {Q : Int32 → HS → Prop} {v0 : Nat} {v1 : Nat} {S : HS} (h : ob S v0 11 ∧ (P_X11_isWord v0 v1 (fun x3 S1 => Gr S S1 → bl x3 → (((x3 = 0) → (bl x3 ∧ Q x3 S1)) ∧ ((¬ x3 = 0) → (P_X11_goesOn v0 (fun S5 => Gr S1 S5 → (bl x3 ∧ Q x3 S5)) S1)))) S)) : P_X11_eatsWord_0 Q v0 v1 S := h
theorem u_X11_flaw {v0 : Nat} {v1 : Int32} {Q : HS → Prop} {S : HS} (h : P_X11_flaw_0 Q v0 v1 S) : P_X11_flaw v0 v1 Q S := h
theorem u_X11_flaw_0 {Q : HS → Prop} {v0 : Nat} {v1 : Int32} {S : HS} (h : ob S v0 11 ∧ (∀ x1 : Int32, x1 = fI S v0 9 → (((¬ x1 = (5 : Int32)) → (∀ S3 : HS, S3 = sI S v0 13 v1 → (∀ x4 : Int32, x4 = fI S3 v0 10 → (∀ S5 : HS, S5 = sI S3 v0 14 x4 → (∀ S6 : HS, S6 = sI S5 v0 9 (5 : Int32) → (Q S6)))))) ∧ ((x1 = (5 : Int32)) → (Q S))))) : P_X11_flaw_0 Q v0 v1 S := h
theorem u_X11_goesOn {v0 : Nat} {Q : HS → Prop} {S : HS} (h : P_X11_goesOn_0 Q v0 S) : P_X11_goesOn v0 Q S := h
theorem u_X11_goesOn_0 {Q : HS → Prop} {v0 : Nat} {S : HS} (h : ob S v0 11 ∧ (∀ x1 : Int32, x1 = fI S v0 9 → (((¬ x1 = (5 : Int32)) → (P_X11_goesOn_9 Q v0 S)) ∧ ((x1 = (5 : Int32)) → (Q S))))) : P_X11_goesOn_0 Q v0 S := h
theorem u_X11_goesOn_9 {Q : HS → Prop} {X9 : Nat → HS → Prop} {v0 : Nat} {S : HS} (h : ob S v0 11 ∧ (∀ x1 : Int32, x1 = fI S v0 8 → (P_X11_byteAt v0 x1 (fun x4 S2 => Gr S S2 → (((¬ x4 = (32 : Int32)) → (∀ x6 : Int32, x6 = fI S2 v0 8 → (∀ S7 : HS, S7 = sI S2 v0 10 x6 → (∀ S8 : HS, S8 = sI S7 v0 9 (0 : Int32) → (∀ S9 : HS, S9 = sI S8 v0 11 (0 : Int32) → (∀ x10 : Int32, x10 = fI S9 v0 8 → (P_X11_byteAt v0 x10 (fun x13 S11 => Gr S9 S11 → (((¬ x13 = (-1 : Int32)) → (P_X11_isLetter x13 (fun x17 S15 => Gr S11 S15 → bl x17 → (((x17 = 0) → (P_X11_isDigit x13 (fun x21 S19 => Gr S15 S19 → bl x21 → (((x21 = 0) → (((x13 = (59 : Int32)) → (P_X11_goesOn_261 Q v0 x13 S19)) ∧ ((¬ x13 = (59 : Int32)) → (((¬ x13 = (44 : Int32)) → (Q S19)) ∧ ((x13 = (44 : Int32)) → (P_X11_goesOn_261 Q v0 x13 S19)))))) ∧ ((¬ x21 = 0) → (∀ S25 : HS, S25 = sI S19 v0 12 (0 : Int32) → (P_X11_goesOn_178 Q v0 (0 : Int32) S25))))) S15)) ∧ ((¬ x17 = 0) → (∀ S26 : HS, S26 = sJ S15 v0 15 (0 : Int64) → (P_X11_goesOn_89 Q v0 (0 : Int32) S26))))) S11)) ∧ ((x13 = (-1 : Int32)) → (∀ S27 : HS, S27 = sI S11 v0 9 (1 : Int32) → (Q S27))))) S9))))))) ∧ ((x4 = (32 : Int32)) → (∀ x28 : Int32, x28 = fI S2 v0 8 → (∀ x29 : Int32, x29 = x28 + (1 : Int32) → (∀ S30 : HS, S30 = sI S2 v0 8 x29 → (X9 v0 S30))))))) S))) : B_X11_goesOn_9 Q X9 v0 S := h
theorem i_X11_goesOn_9 {Q : HS → Prop} (μ : Nat → HS → Nat) (I : Nat → HS → Prop) (hs : ∀ (v0 : Nat) (S : HS) (X : Nat → HS → Prop), I v0 S → (∀ (w0 : Nat) (T : HS), I w0 T → μ w0 T < μ v0 S → X w0 T) → B_X11_goesOn_9 Q X v0 S) : ∀ (v0 : Nat) (S : HS), I v0 S → P_X11_goesOn_9 Q v0 S := by
  intro v0 S h X hX
  have key : ∀ (z : Nat) (v0 : Nat) (S : HS), μ v0 S < z → I v0 S → X v0 S := by
    intro z
    induction z with
    | zero => intro v0 S hz; exact absurd hz (Nat.not_lt_zero _)
    | succ z ih => intro v0 S hz hI; exact hX _ _ (hs _ _ _ hI (fun w0 T hT hl => ih _ _ (by omega) hT))
  exact key _ _ _ (Nat.lt_succ_self _) h
theorem u_X11_goesOn_89 {Q : HS → Prop} {X89 : Nat → Int32 → HS → Prop} {v0 : Nat} {v2 : Int32} {S : HS} (h : ob S v0 11 ∧ (∀ x1 : Int32, x1 = fI S v0 8 → (P_X11_byteAt v0 x1 (fun x4 S2 => Gr S S2 → (P_X11_isLetter x4 (fun x7 S5 => Gr S2 S5 → bl x7 → (((x7 = 0) → ((((8 : Int32) < v2) → (Q S5)) ∧ ((¬ (8 : Int32) < v2) → (∀ S10 : HS, S10 = sI S5 v0 9 (2 : Int32) → (Q S10))))) ∧ ((¬ x7 = 0) → ((((8 : Int32) ≤ v2) → (P_X11_goesOn_136 Q X89 v0 v2 S5)) ∧ ((¬ (8 : Int32) ≤ v2) → (∀ x12 : Int64, x12 = fJ S5 v0 15 → (∀ x13 : Int32, x13 = fI S5 v0 8 → (P_X11_byteAt v0 x13 (fun x16 S14 => Gr S5 S14 → (∀ x17 : Int64, x17 = ((32 : Int64) * x12) + (((x16 - (97 : Int32)) + (1 : Int32)).toInt64) → (∀ S18 : HS, S18 = sJ S14 v0 15 x17 → (P_X11_goesOn_136 Q X89 v0 v2 S18)))) S5)))))))) S2)) S))) : B_X11_goesOn_89 Q X89 v0 v2 S := h
theorem i_X11_goesOn_89 {Q : HS → Prop} (μ : Nat → Int32 → HS → Nat) (I : Nat → Int32 → HS → Prop) (hs : ∀ (v0 : Nat) (v2 : Int32) (S : HS) (X : Nat → Int32 → HS → Prop), I v0 v2 S → (∀ (w0 : Nat) (w2 : Int32) (T : HS), I w0 w2 T → μ w0 w2 T < μ v0 v2 S → X w0 w2 T) → B_X11_goesOn_89 Q X v0 v2 S) : ∀ (v0 : Nat) (v2 : Int32) (S : HS), I v0 v2 S → P_X11_goesOn_89 Q v0 v2 S := by
  intro v0 v2 S h X hX
  have key : ∀ (z : Nat) (v0 : Nat) (v2 : Int32) (S : HS), μ v0 v2 S < z → I v0 v2 S → X v0 v2 S := by
    intro z
    induction z with
    | zero => intro v0 v2 S hz; exact absurd hz (Nat.not_lt_zero _)
    | succ z ih => intro v0 v2 S hz hI; exact hX _ _ _ (hs _ _ _ _ hI (fun w0 w2 T hT hl => ih _ _ _ (by omega) hT))
  exact key _ _ _ _ (Nat.lt_succ_self _) h
theorem u_X11_goesOn_136 {Q : HS → Prop} {X89 : Nat → Int32 → HS → Prop} {v0 : Nat} {v2 : Int32} {S : HS} (h : ∀ x1 : Int32, x1 = v2 + (1 : Int32) → (ob S v0 11 ∧ (∀ x2 : Int32, x2 = fI S v0 8 → (∀ x3 : Int32, x3 = x2 + (1 : Int32) → (∀ S4 : HS, S4 = sI S v0 8 x3 → (X89 v0 x1 S4)))))) : P_X11_goesOn_136 Q X89 v0 v2 S := h
theorem u_X11_goesOn_178 {Q : HS → Prop} {X178 : Nat → Int32 → HS → Prop} {v0 : Nat} {v2 : Int32} {S : HS} (h : ob S v0 11 ∧ (∀ x1 : Int32, x1 = fI S v0 8 → (P_X11_byteAt v0 x1 (fun x4 S2 => Gr S S2 → (P_X11_isDigit x4 (fun x7 S5 => Gr S2 S5 → bl x7 → (((x7 = 0) → ((((3 : Int32) < v2) → (Q S5)) ∧ ((¬ (3 : Int32) < v2) → (∀ S10 : HS, S10 = sI S5 v0 9 (3 : Int32) → (Q S10))))) ∧ ((¬ x7 = 0) → ((((3 : Int32) ≤ v2) → (P_X11_goesOn_220 Q X178 v0 v2 S5)) ∧ ((¬ (3 : Int32) ≤ v2) → (∀ x12 : Int32, x12 = fI S5 v0 12 → (∀ x13 : Int32, x13 = fI S5 v0 8 → (P_X11_byteAt v0 x13 (fun x16 S14 => Gr S5 S14 → (∀ x17 : Int32, x17 = (((10 : Int32) * x12) + x16) - (48 : Int32) → (∀ S18 : HS, S18 = sI S14 v0 12 x17 → (P_X11_goesOn_220 Q X178 v0 v2 S18)))) S5)))))))) S2)) S))) : B_X11_goesOn_178 Q X178 v0 v2 S := h
theorem i_X11_goesOn_178 {Q : HS → Prop} (μ : Nat → Int32 → HS → Nat) (I : Nat → Int32 → HS → Prop) (hs : ∀ (v0 : Nat) (v2 : Int32) (S : HS) (X : Nat → Int32 → HS → Prop), I v0 v2 S → (∀ (w0 : Nat) (w2 : Int32) (T : HS), I w0 w2 T → μ w0 w2 T < μ v0 v2 S → X w0 w2 T) → B_X11_goesOn_178 Q X v0 v2 S) : ∀ (v0 : Nat) (v2 : Int32) (S : HS), I v0 v2 S → P_X11_goesOn_178 Q v0 v2 S := by
  intro v0 v2 S h X hX
  have key : ∀ (z : Nat) (v0 : Nat) (v2 : Int32) (S : HS), μ v0 v2 S < z → I v0 v2 S → X v0 v2 S := by
    intro z
    induction z with
    | zero => intro v0 v2 S hz; exact absurd hz (Nat.not_lt_zero _)
    | succ z ih => intro v0 v2 S hz hI; exact hX _ _ _ (hs _ _ _ _ hI (fun w0 w2 T hT hl => ih _ _ _ (by omega) hT))
  exact key _ _ _ _ (Nat.lt_succ_self _) h
theorem u_X11_goesOn_220 {Q : HS → Prop} {X178 : Nat → Int32 → HS → Prop} {v0 : Nat} {v2 : Int32} {S : HS} (h : ∀ x1 : Int32, x1 = v2 + (1 : Int32) → (ob S v0 11 ∧ (∀ x2 : Int32, x2 = fI S v0 8 → (∀ x3 : Int32, x3 = x2 + (1 : Int32) → (∀ S4 : HS, S4 = sI S v0 8 x3 → (X178 v0 x1 S4)))))) : P_X11_goesOn_220 Q X178 v0 v2 S := h
theorem u_X11_goesOn_261 {Q : HS → Prop} {v0 : Nat} {v1 : Int32} {S : HS} (h : ob S v0 11 ∧ (∀ S1 : HS, S1 = sI S v0 9 (4 : Int32) → (∀ S2 : HS, S2 = sI S1 v0 11 v1 → (∀ x3 : Int32, x3 = fI S2 v0 8 → (∀ x4 : Int32, x4 = x3 + (1 : Int32) → (∀ S5 : HS, S5 = sI S2 v0 8 x4 → (Q S5))))))) : P_X11_goesOn_261 Q v0 v1 S := h
theorem u_X11_isDigit {v0 : Int32} {Q : Int32 → HS → Prop} {S : HS} (h : P_X11_isDigit_0 Q v0 S) : P_X11_isDigit v0 Q S := h
theorem u_X11_isDigit_0 {Q : Int32 → HS → Prop} {v0 : Int32} {S : HS} (h : ((v0 < (48 : Int32)) → (Q (0 : Int32) S)) ∧ ((¬ v0 < (48 : Int32)) → ((((57 : Int32) < v0) → (Q (0 : Int32) S)) ∧ ((¬ (57 : Int32) < v0) → (Q (1 : Int32) S))))) : P_X11_isDigit_0 Q v0 S := h
theorem u_X11_isLetter {v0 : Int32} {Q : Int32 → HS → Prop} {S : HS} (h : P_X11_isLetter_0 Q v0 S) : P_X11_isLetter v0 Q S := h
theorem u_X11_isLetter_0 {Q : Int32 → HS → Prop} {v0 : Int32} {S : HS} (h : ((v0 < (97 : Int32)) → (Q (0 : Int32) S)) ∧ ((¬ v0 < (97 : Int32)) → ((((122 : Int32) < v0) → (Q (0 : Int32) S)) ∧ ((¬ (122 : Int32) < v0) → (Q (1 : Int32) S))))) : P_X11_isLetter_0 Q v0 S := h
theorem u_X11_isName {v0 : Nat} {Q : Int32 → HS → Prop} {S : HS} (h : P_X11_isName_0 Q v0 S) : P_X11_isName v0 Q S := h
theorem u_X11_isName_0 {Q : Int32 → HS → Prop} {v0 : Nat} {S : HS} (h : ob S v0 11 ∧ (∀ x1 : Int32, x1 = fI S v0 9 → (((¬ x1 = (2 : Int32)) → (Q (0 : Int32) S)) ∧ ((x1 = (2 : Int32)) → (P_X11_isWord v0 27 (fun x5 S3 => Gr S S3 → bl x5 → (((¬ x5 = 0) → (Q (0 : Int32) S3)) ∧ ((x5 = 0) → (P_X11_isWord v0 29 (fun x9 S7 => Gr S3 S7 → bl x9 → (((¬ x9 = 0) → (Q (0 : Int32) S7)) ∧ ((x9 = 0) → (P_X11_isWord v0 38 (fun x13 S11 => Gr S7 S11 → bl x13 → (((¬ x13 = 0) → (Q (0 : Int32) S11)) ∧ ((x13 = 0) → (P_X11_isWord v0 39 (fun x17 S15 => Gr S11 S15 → bl x17 → (((x17 = 0) → (P_X11_isWord v0 40 (fun x21 S19 => Gr S15 S19 → bl x21 → (((¬ x21 = 0) → (Q (0 : Int32) S19)) ∧ ((x21 = 0) → (P_X11_isWord v0 41 (fun x25 S23 => Gr S19 S23 → bl x25 → (((¬ x25 = 0) → (Q (0 : Int32) S23)) ∧ ((x25 = 0) → (P_X11_isWord v0 42 (fun x29 S27 => Gr S23 S27 → bl x29 → (((¬ x29 = 0) → (Q (0 : Int32) S27)) ∧ ((x29 = 0) → (P_X11_isWord v0 43 (fun x33 S31 => Gr S27 S31 → bl x33 → (((¬ x33 = 0) → (Q (0 : Int32) S31)) ∧ ((x33 = 0) → (P_X11_isWord v0 44 (fun x37 S35 => Gr S31 S35 → bl x37 → (((¬ x37 = 0) → (Q (0 : Int32) S35)) ∧ ((x37 = 0) → (Q (1 : Int32) S35)))) S31)))) S27)))) S23)))) S19)))) S15)) ∧ ((¬ x17 = 0) → (Q (0 : Int32) S15)))) S11)))) S7)))) S3)))) S))))) : P_X11_isName_0 Q v0 S := h
theorem u_X11_isWord {v0 : Nat} {v1 : Nat} {Q : Int32 → HS → Prop} {S : HS} (h : P_X11_isWord_0 Q v0 v1 S) : P_X11_isWord v0 v1 Q S := h
theorem u_X11_isWord_0 {Q : Int32 → HS → Prop} {v0 : Nat} {v1 : Nat} {S : HS} (h : ob S v0 11 ∧ (∀ x1 : Int32, x1 = fI S v0 9 → (((¬ x1 = (2 : Int32)) → (Q (0 : Int32) S)) ∧ ((x1 = (2 : Int32)) → (∀ x3 : Int64, x3 = fJ S v0 15 → (P_X11_wordOf v1 (fun x6 S4 => Gr S S4 → (((¬ (lg_cmp x3 x6) = 0) → (Q (0 : Int32) S4)) ∧ (((lg_cmp x3 x6) = 0) → (Q (1 : Int32) S4)))) S)))))) : P_X11_isWord_0 Q v0 v1 S := h
theorem u_X11_known {v0 : Nat} {v1 : Int32} {Q : Int32 → HS → Prop} {S : HS} (h : P_X11_known_0 Q v0 v1 S) : P_X11_known v0 v1 Q S := h
theorem u_X11_known_0 {Q : Int32 → HS → Prop} {v0 : Nat} {v1 : Int32} {S : HS} (h : ob S v0 11 ∧ (P_X11_isName v0 (fun x3 S1 => Gr S S1 → bl x3 → (((¬ x3 = 0) → (P_X11_known_12 Q v0 v1 S1)) ∧ ((x3 = 0) → (P_X11_flaw v0 (1 : Int32) (fun S5 => Gr S1 S5 → (P_X11_known_12 Q v0 v1 S5)) S1)))) S)) : P_X11_known_0 Q v0 v1 S := h
theorem u_X11_known_12 {Q : Int32 → HS → Prop} {v0 : Nat} {v1 : Int32} {S : HS} (h : ob S v0 11 ∧ (∃ a1 : Nat, fR S v0 4 = some a1 ∧ (∀ x2 : Int64, x2 = fJ S v0 15 → (ob S a1 10 ∧ (P_X10_find a1 x2 (fun x5 S3 => Gr S S3 → (((x5 = (-1 : Int32)) → (P_X11_known_42 Q v0 x5 S3)) ∧ ((¬ x5 = (-1 : Int32)) → (∃ a7 : Nat, fR S3 v0 4 = some a7 ∧ (ob S3 a7 10 ∧ (∃ a8 : Nat, fR S3 a7 29 = some a8 ∧ (ob S3 a8 13 ∧ (vp_in x5 (hN S3 a8) ∧ ∀ x10 : Int32, x10 = fI S3 a8 x5.toNatClampNeg → (((x10 = v1) → (P_X11_known_47 Q v0 x5 S3)) ∧ ((¬ x10 = v1) → (P_X11_known_42 Q v0 x5 S3))))))))))) S))))) : P_X11_known_12 Q v0 v1 S := h
theorem u_X11_known_42 {Q : Int32 → HS → Prop} {v0 : Nat} {v2 : Int32} {S : HS} (h : ob S v0 11 ∧ (P_X11_flaw v0 (2 : Int32) (fun S1 => Gr S S1 → (P_X11_known_47 Q v0 v2 S1)) S)) : P_X11_known_42 Q v0 v2 S := h
theorem u_X11_known_47 {Q : Int32 → HS → Prop} {v0 : Nat} {v2 : Int32} {S : HS} (h : ob S v0 11 ∧ (∀ x1 : Int32, x1 = fI S v0 9 → (((¬ x1 = (5 : Int32)) → (∃ a3 : Nat, fR S v0 4 = some a3 ∧ (ob S a3 10 ∧ (∃ a4 : Nat, fR S a3 30 = some a4 ∧ (ob S a4 13 ∧ (vp_in v2 (hN S a4) ∧ ∀ x6 : Int32, x6 = fI S a4 v2.toNatClampNeg → (Q x6 S))))))) ∧ ((x1 = (5 : Int32)) → (Q (0 : Int32) S))))) : P_X11_known_47 Q v0 v2 S := h
theorem u_X11_names {v0 : Nat} {v1 : Int64} {v3 : Int32} {v4 : Int32} {Q : HS → Prop} {S : HS} (h : P_X11_names_0 Q v0 v1 v3 v4 S) : P_X11_names v0 v1 v3 v4 Q S := h
theorem u_X11_names_0 {Q : HS → Prop} {v0 : Nat} {v1 : Int64} {v3 : Int32} {v4 : Int32} {S : HS} (h : ob S v0 11 ∧ (∃ a1 : Nat, fR S v0 4 = some a1 ∧ (ob S a1 10 ∧ (∃ a2 : Nat, fR S a1 28 = some a2 ∧ (∃ a3 : Nat, fR S v0 4 = some a3 ∧ (ob S a3 10 ∧ (∀ x4 : Int32, x4 = fI S a3 6 → (ob S a2 14 ∧ (vp_in x4 (hN S a2) ∧ (∀ S6 : HS, S6 = sJ S a2 x4.toNatClampNeg v1 → (∃ a7 : Nat, fR S6 v0 4 = some a7 ∧ (ob S6 a7 10 ∧ (∃ a8 : Nat, fR S6 a7 29 = some a8 ∧ (∃ a9 : Nat, fR S6 v0 4 = some a9 ∧ (ob S6 a9 10 ∧ (∀ x10 : Int32, x10 = fI S6 a9 6 → (ob S6 a8 13 ∧ (vp_in x10 (hN S6 a8) ∧ (∀ S12 : HS, S12 = sI S6 a8 x10.toNatClampNeg v3 → (∃ a13 : Nat, fR S12 v0 4 = some a13 ∧ (ob S12 a13 10 ∧ (∃ a14 : Nat, fR S12 a13 30 = some a14 ∧ (∃ a15 : Nat, fR S12 v0 4 = some a15 ∧ (ob S12 a15 10 ∧ (∀ x16 : Int32, x16 = fI S12 a15 6 → (ob S12 a14 13 ∧ (vp_in x16 (hN S12 a14) ∧ (∀ S18 : HS, S18 = sI S12 a14 x16.toNatClampNeg v4 → (∃ a19 : Nat, fR S18 v0 4 = some a19 ∧ (ob S18 a19 10 ∧ (∀ x20 : Int32, x20 = fI S18 a19 6 → (∀ x21 : Int32, x21 = x20 + (1 : Int32) → (∀ S22 : HS, S22 = sI S18 a19 6 x21 → (Q S22)))))))))))))))))))))))))))))))))) : P_X11_names_0 Q v0 v1 v3 v4 S := h
theorem u_X11_needs {v0 : Nat} {v1 : Nat} {Q : HS → Prop} {S : HS} (h : P_X11_needs_0 Q v0 v1 S) : P_X11_needs v0 v1 Q S := h
theorem u_X11_needs_0 {Q : HS → Prop} {v0 : Nat} {v1 : Nat} {S : HS} (h : ob S v0 11 ∧ (P_X11_isWord v0 v1 (fun x3 S1 => Gr S S1 → bl x3 → (((¬ x3 = 0) → (P_X11_needs_13 Q v0 S1)) ∧ ((x3 = 0) → (P_X11_flaw v0 (1 : Int32) (fun S5 => Gr S1 S5 → (P_X11_needs_13 Q v0 S5)) S1)))) S)) : P_X11_needs_0 Q v0 v1 S := h
theorem u_X11_needs_13 {Q : HS → Prop} {v0 : Nat} {S : HS} (h : ob S v0 11 ∧ (P_X11_goesOn v0 (fun S1 => Gr S S1 → (Q S1)) S)) : P_X11_needs_13 Q v0 S := h
theorem u_X11_readAll {v0 : Nat} {Q : HS → Prop} {S : HS} (h : P_X11_readAll_0 Q v0 S) : P_X11_readAll v0 Q S := h
theorem u_X11_readAll_0 {Q : HS → Prop} {v0 : Nat} {S : HS} (h : P_X11_readAll_2 Q v0 (1 : Int32) S) : P_X11_readAll_0 Q v0 S := h
theorem u_X11_readAll_2 {Q : HS → Prop} {X2 : Nat → Int32 → HS → Prop} {v0 : Nat} {v1 : Int32} {S : HS} (h : ((v1 = 0) → (ob S v0 11 ∧ (∀ x2 : Int32, x2 = fI S v0 9 → (((x2 = (1 : Int32)) → (P_X11_readAll_33 Q v0 S)) ∧ ((¬ x2 = (1 : Int32)) → (P_X11_flaw v0 (1 : Int32) (fun S4 => Gr S S4 → (P_X11_readAll_33 Q v0 S4)) S)))))) ∧ ((¬ v1 = 0) → (ob S v0 11 ∧ (P_X11_readLine v0 (fun S7 => Gr S S7 → (P_X11_eatsSign v0 (59 : Int32) (fun x12 S10 => Gr S7 S10 → bl x12 → (X2 v0 x12 S10)) S7)) S)))) : B_X11_readAll_2 Q X2 v0 v1 S := h
theorem i_X11_readAll_2 {Q : HS → Prop} (μ : Nat → Int32 → HS → Nat) (I : Nat → Int32 → HS → Prop) (hs : ∀ (v0 : Nat) (v1 : Int32) (S : HS) (X : Nat → Int32 → HS → Prop), I v0 v1 S → (∀ (w0 : Nat) (w1 : Int32) (T : HS), I w0 w1 T → μ w0 w1 T < μ v0 v1 S → X w0 w1 T) → B_X11_readAll_2 Q X v0 v1 S) : ∀ (v0 : Nat) (v1 : Int32) (S : HS), I v0 v1 S → P_X11_readAll_2 Q v0 v1 S := by
  intro v0 v1 S h X hX
  have key : ∀ (z : Nat) (v0 : Nat) (v1 : Int32) (S : HS), μ v0 v1 S < z → I v0 v1 S → X v0 v1 S := by
    intro z
    induction z with
    | zero => intro v0 v1 S hz; exact absurd hz (Nat.not_lt_zero _)
    | succ z ih => intro v0 v1 S hz hI; exact hX _ _ _ (hs _ _ _ _ hI (fun w0 w1 T hT hl => ih _ _ _ (by omega) hT))
  exact key _ _ _ _ (Nat.lt_succ_self _) h
theorem u_X11_readAll_33 {Q : HS → Prop} {v0 : Nat} {S : HS} (h : ob S v0 11 ∧ (∃ a1 : Nat, fR S v0 4 = some a1 ∧ (ob S a1 10 ∧ (∀ x2 : Int32, x2 = fI S a1 0 → (((x2 = 0) → (P_X11_readAll_63 Q v0 S)) ∧ ((¬ x2 = 0) → (∃ a4 : Nat, fR S v0 4 = some a4 ∧ (ob S a4 10 ∧ (∀ x5 : Int32, x5 = fI S a4 2 → (((x5 = 0) → (P_X11_readAll_63 Q v0 S)) ∧ ((¬ x5 = 0) → (∃ a7 : Nat, fR S v0 4 = some a7 ∧ (ob S a7 10 ∧ (∀ x8 : Int32, x8 = fI S a7 4 → (((¬ x8 = 0) → (Q S)) ∧ ((x8 = 0) → (P_X11_readAll_63 Q v0 S))))))))))))))))) : P_X11_readAll_33 Q v0 S := h
theorem u_X11_readAll_63 {Q : HS → Prop} {v0 : Nat} {S : HS} (h : ob S v0 11 ∧ (P_X11_flaw v0 (6 : Int32) (fun S1 => Gr S S1 → (Q S1)) S)) : P_X11_readAll_63 Q v0 S := h
theorem u_X11_readFresh {v0 : Nat} {Q : Int64 → HS → Prop} {S : HS} (h : P_X11_readFresh_0 Q v0 S) : P_X11_readFresh v0 Q S := h
theorem u_X11_readFresh_0 {Q : Int64 → HS → Prop} {v0 : Nat} {S : HS} (h : ob S v0 11 ∧ (P_X11_isName v0 (fun x3 S1 => Gr S S1 → bl x3 → (((¬ x3 = 0) → (P_X11_readFresh_12 Q v0 S1)) ∧ ((x3 = 0) → (P_X11_flaw v0 (1 : Int32) (fun S5 => Gr S1 S5 → (P_X11_readFresh_12 Q v0 S5)) S1)))) S)) : P_X11_readFresh_0 Q v0 S := h
theorem u_X11_readFresh_12 {Q : Int64 → HS → Prop} {v0 : Nat} {S : HS} (h : ob S v0 11 ∧ (∃ a1 : Nat, fR S v0 4 = some a1 ∧ (∀ x2 : Int64, x2 = fJ S v0 15 → (ob S a1 10 ∧ (P_X10_find a1 x2 (fun x5 S3 => Gr S S3 → (((x5 = (-1 : Int32)) → (P_X11_readFresh_32 Q v0 S3)) ∧ ((¬ x5 = (-1 : Int32)) → (P_X11_flaw v0 (3 : Int32) (fun S7 => Gr S3 S7 → (P_X11_readFresh_32 Q v0 S7)) S3)))) S))))) : P_X11_readFresh_12 Q v0 S := h
theorem u_X11_readFresh_32 {Q : Int64 → HS → Prop} {v0 : Nat} {S : HS} (h : ob S v0 11 ∧ (∀ x1 : Int64, x1 = fJ S v0 15 → (P_X11_goesOn v0 (fun S2 => Gr S S2 → (Q x1 S2)) S))) : P_X11_readFresh_32 Q v0 S := h
theorem u_X11_readLine {v0 : Nat} {Q : HS → Prop} {S : HS} (h : P_X11_readLine_0 Q v0 S) : P_X11_readLine v0 Q S := h
theorem u_X11_readLine_0 {Q : HS → Prop} {v0 : Nat} {S : HS} (h : ob S v0 11 ∧ (P_X11_isWord v0 27 (fun x3 S1 => Gr S S1 → bl x3 → (((x3 = 0) → (P_X11_isWord v0 29 (fun x7 S5 => Gr S1 S5 → bl x7 → (((x7 = 0) → (P_X11_isWord v0 38 (fun x11 S9 => Gr S5 S9 → bl x11 → (((x11 = 0) → (P_X11_isWord v0 39 (fun x15 S13 => Gr S9 S13 → bl x15 → (((x15 = 0) → (P_X11_isWord v0 40 (fun x19 S17 => Gr S13 S17 → bl x19 → (((x19 = 0) → (P_X11_isWord v0 41 (fun x23 S21 => Gr S17 S21 → bl x23 → (((x23 = 0) → (P_X11_flaw v0 (1 : Int32) (fun S25 => Gr S21 S25 → (Q S25)) S21)) ∧ ((¬ x23 = 0) → (P_X11_readSeen v0 (fun S28 => Gr S21 S28 → (Q S28)) S21)))) S17)) ∧ ((¬ x19 = 0) → (P_X11_readWalker v0 (fun S31 => Gr S17 S31 → (Q S31)) S17)))) S13)) ∧ ((¬ x15 = 0) → (P_X11_readRoad v0 (fun S34 => Gr S13 S34 → (Q S34)) S13)))) S9)) ∧ ((¬ x11 = 0) → (P_X11_readPlace v0 (fun S37 => Gr S9 S37 → (Q S37)) S9)))) S5)) ∧ ((¬ x7 = 0) → (P_X11_readRain v0 (fun S40 => Gr S5 S40 → (Q S40)) S5)))) S1)) ∧ ((¬ x3 = 0) → (P_X11_readWorld v0 (fun S43 => Gr S1 S43 → (Q S43)) S1)))) S)) : P_X11_readLine_0 Q v0 S := h
theorem u_X11_readPart {v0 : Nat} {v1 : Nat} {v2 : Int32} {v3 : Int32} {Q : Int32 → HS → Prop} {S : HS} (h : P_X11_readPart_0 Q v0 v1 v2 v3 S) : P_X11_readPart v0 v1 v2 v3 Q S := h
theorem u_X11_readPart_0 {Q : Int32 → HS → Prop} {v0 : Nat} {v1 : Nat} {v2 : Int32} {v3 : Int32} {S : HS} (h : ob S v0 11 ∧ (P_X11_needs v0 v1 (fun S1 => Gr S S1 → (P_X11_readWhole v0 v2 v3 (fun x6 S4 => Gr S1 S4 → (Q x6 S4)) S1)) S)) : P_X11_readPart_0 Q v0 v1 v2 v3 S := h
theorem u_X11_readPlace {v0 : Nat} {Q : HS → Prop} {S : HS} (h : P_X11_readPlace_0 Q v0 S) : P_X11_readPlace v0 Q S := h
theorem u_X11_readPlace_0 {Q : HS → Prop} {v0 : Nat} {S : HS} (h : ob S v0 11 ∧ (∃ a1 : Nat, fR S v0 4 = some a1 ∧ (ob S a1 10 ∧ (∀ x2 : Int32, x2 = fI S a1 2 → (P_X11_begins v0 x2 (8 : Int32) (fun S3 => Gr S S3 → (P_X11_readFresh v0 (fun x8 S6 => Gr S3 S6 → (P_X11_eatsWord v0 42 (fun x11 S9 => Gr S6 S9 → bl x11 → (((¬ x11 = 0) → (P_X11_readPlace_48 Q v0 x8 x11 S9)) ∧ ((x11 = 0) → (P_X11_eatsWord v0 43 (fun x15 S13 => Gr S9 S13 → bl x15 → (((x15 = 0) → (P_X11_readPlace_48 Q v0 x8 x11 S13)) ∧ ((¬ x15 = 0) → (P_X11_readWhole v0 (0 : Int32) (9 : Int32) (fun x19 S17 => Gr S13 S17 → (P_X11_readPlace_50 Q v0 x8 x11 x19 S17)) S13)))) S9)))) S6)) S3)) S))))) : P_X11_readPlace_0 Q v0 S := h
theorem u_X11_readPlace_48 {Q : HS → Prop} {v0 : Nat} {v1 : Int64} {v3 : Int32} {S : HS} (h : P_X11_readPlace_50 Q v0 v1 v3 (-2 : Int32) S) : P_X11_readPlace_48 Q v0 v1 v3 S := h
theorem u_X11_readPlace_50 {Q : HS → Prop} {v0 : Nat} {v1 : Int64} {v3 : Int32} {s0 : Int32} {S : HS} (h : ob S v0 11 ∧ (∀ x1 : Int32, x1 = fI S v0 9 → (((¬ x1 = (5 : Int32)) → (∃ a3 : Nat, fR S v0 4 = some a3 ∧ (ob S a3 10 ∧ (∀ x4 : Int32, x4 = fI S a3 2 → (P_X11_names v0 v1 (0 : Int32) x4 (fun S5 => Gr S S5 → (∃ a8 : Nat, fR S5 v0 4 = some a8 ∧ (ob S5 a8 10 ∧ (∃ a9 : Nat, fR S5 a8 18 = some a9 ∧ (∃ a10 : Nat, fR S5 v0 4 = some a10 ∧ (ob S5 a10 10 ∧ (∀ x11 : Int32, x11 = fI S5 a10 2 → (ob S5 a9 15 ∧ (vp_in x11 (hN S5 a9) ∧ (∀ S13 : HS, S13 = sI S5 a9 x11.toNatClampNeg (vp_nar .boolean v3) → (∃ a14 : Nat, fR S13 v0 4 = some a14 ∧ (ob S13 a14 10 ∧ (∃ a15 : Nat, fR S13 a14 12 = some a15 ∧ (∃ a16 : Nat, fR S13 v0 4 = some a16 ∧ (ob S13 a16 10 ∧ (∀ x17 : Int32, x17 = fI S13 a16 2 → (ob S13 a15 13 ∧ (vp_in x17 (hN S13 a15) ∧ (∀ S19 : HS, S19 = sI S13 a15 x17.toNatClampNeg s0 → (∃ a20 : Nat, fR S19 v0 4 = some a20 ∧ (ob S19 a20 10 ∧ (∀ x21 : Int32, x21 = fI S19 a20 2 → (∀ x22 : Int32, x22 = x21 + (1 : Int32) → (∀ S23 : HS, S23 = sI S19 a20 2 x22 → (Q S23))))))))))))))))))))))))) S))))) ∧ ((x1 = (5 : Int32)) → (Q S))))) : P_X11_readPlace_50 Q v0 v1 v3 s0 S := h
theorem u_X11_readRain {v0 : Nat} {Q : HS → Prop} {S : HS} (h : P_X11_readRain_0 Q v0 S) : P_X11_readRain v0 Q S := h
theorem u_X11_readRain_0 {Q : HS → Prop} {v0 : Nat} {S : HS} (h : ob S v0 11 ∧ (∃ a1 : Nat, fR S v0 4 = some a1 ∧ (ob S a1 10 ∧ (∀ x2 : Int32, x2 = fI S a1 1 → (P_X11_begins v0 x2 (6 : Int32) (fun S3 => Gr S S3 → (P_X11_readPart v0 30 (0 : Int32) (9 : Int32) (fun x8 S6 => Gr S3 S6 → (P_X11_readPart v0 31 (1 : Int32) (9 : Int32) (fun x11 S9 => Gr S6 S9 → (P_X11_needs v0 32 (fun S12 => Gr S9 S12 → (P_X11_readSide v0 (fun x17 S15 => Gr S12 S15 → (P_X11_readWhole v0 (0 : Int32) (9 : Int32) (fun x20 S18 => Gr S15 S18 → (P_X11_readPart v0 37 (0 : Int32) (100 : Int32) (fun x23 S21 => Gr S18 S21 → (∀ x24 : Int32, x24 = fI S21 v0 9 → (((¬ x24 = (5 : Int32)) → (∃ a26 : Nat, fR S21 v0 4 = some a26 ∧ (ob S21 a26 10 ∧ (∃ a27 : Nat, fR S21 a26 7 = some a27 ∧ (∃ a28 : Nat, fR S21 v0 4 = some a28 ∧ (ob S21 a28 10 ∧ (∀ x29 : Int32, x29 = fI S21 a28 1 → (ob S21 a27 13 ∧ (vp_in x29 (hN S21 a27) ∧ (∀ S31 : HS, S31 = sI S21 a27 x29.toNatClampNeg x8 → (∃ a32 : Nat, fR S31 v0 4 = some a32 ∧ (ob S31 a32 10 ∧ (∃ a33 : Nat, fR S31 a32 8 = some a33 ∧ (∃ a34 : Nat, fR S31 v0 4 = some a34 ∧ (ob S31 a34 10 ∧ (∀ x35 : Int32, x35 = fI S31 a34 1 → (ob S31 a33 13 ∧ (vp_in x35 (hN S31 a33) ∧ (∀ S37 : HS, S37 = sI S31 a33 x35.toNatClampNeg x11 → (∃ a38 : Nat, fR S37 v0 4 = some a38 ∧ (ob S37 a38 10 ∧ (∃ a39 : Nat, fR S37 a38 9 = some a39 ∧ (∃ a40 : Nat, fR S37 v0 4 = some a40 ∧ (ob S37 a40 10 ∧ (∀ x41 : Int32, x41 = fI S37 a40 1 → (ob S37 a39 13 ∧ (vp_in x41 (hN S37 a39) ∧ (∀ S43 : HS, S43 = sI S37 a39 x41.toNatClampNeg x17 → (∃ a44 : Nat, fR S43 v0 4 = some a44 ∧ (ob S43 a44 10 ∧ (∃ a45 : Nat, fR S43 a44 10 = some a45 ∧ (∃ a46 : Nat, fR S43 v0 4 = some a46 ∧ (ob S43 a46 10 ∧ (∀ x47 : Int32, x47 = fI S43 a46 1 → (ob S43 a45 13 ∧ (vp_in x47 (hN S43 a45) ∧ (∀ S49 : HS, S49 = sI S43 a45 x47.toNatClampNeg x20 → (∃ a50 : Nat, fR S49 v0 4 = some a50 ∧ (ob S49 a50 10 ∧ (∃ a51 : Nat, fR S49 a50 11 = some a51 ∧ (∃ a52 : Nat, fR S49 v0 4 = some a52 ∧ (ob S49 a52 10 ∧ (∀ x53 : Int32, x53 = fI S49 a52 1 → (ob S49 a51 13 ∧ (vp_in x53 (hN S49 a51) ∧ (∀ S55 : HS, S55 = sI S49 a51 x53.toNatClampNeg x23 → (∃ a56 : Nat, fR S55 v0 4 = some a56 ∧ (ob S55 a56 10 ∧ (∀ x57 : Int32, x57 = fI S55 a56 1 → (∀ x58 : Int32, x58 = x57 + (1 : Int32) → (∀ S59 : HS, S59 = sI S55 a56 1 x58 → (Q S59)))))))))))))))))))))))))))))))))))))))))))))))))))) ∧ ((x24 = (5 : Int32)) → (Q S21))))) S18)) S15)) S12)) S9)) S6)) S3)) S))))) : P_X11_readRain_0 Q v0 S := h
theorem u_X11_readRoad {v0 : Nat} {Q : HS → Prop} {S : HS} (h : P_X11_readRoad_0 Q v0 S) : P_X11_readRoad v0 Q S := h
theorem u_X11_readRoad_0 {Q : HS → Prop} {v0 : Nat} {S : HS} (h : ob S v0 11 ∧ (∃ a1 : Nat, fR S v0 4 = some a1 ∧ (ob S a1 10 ∧ (∀ x2 : Int32, x2 = fI S a1 3 → (P_X11_begins v0 x2 (12 : Int32) (fun S3 => Gr S S3 → (P_X11_known v0 (0 : Int32) (fun x8 S6 => Gr S3 S6 → (P_X11_goesOn v0 (fun S9 => Gr S6 S9 → (P_X11_readSide v0 (fun x14 S12 => Gr S9 S12 → (P_X11_readWhole v0 (1 : Int32) (60 : Int32) (fun x17 S15 => Gr S12 S15 → (P_X11_known v0 (0 : Int32) (fun x20 S18 => Gr S15 S18 → (∀ x21 : Int32, x21 = fI S18 v0 9 → (((x21 = (5 : Int32)) → (P_X11_readRoad_62 Q v0 x8 x14 x17 x20 S18)) ∧ ((¬ x21 = (5 : Int32)) → (((¬ x20 = x8) → (P_X11_readRoad_62 Q v0 x8 x14 x17 x20 S18)) ∧ ((x20 = x8) → (P_X11_flaw v0 (3 : Int32) (fun S24 => Gr S18 S24 → (P_X11_readRoad_62 Q v0 x8 x14 x17 x20 S24)) S18))))))) S15)) S12)) S9)) S6)) S3)) S))))) : P_X11_readRoad_0 Q v0 S := h
theorem u_X11_readRoad_62 {Q : HS → Prop} {v0 : Nat} {v1 : Int32} {v2 : Int32} {v3 : Int32} {v4 : Int32} {S : HS} (h : ob S v0 11 ∧ (P_X11_goesOn v0 (fun S1 => Gr S S1 → (P_X11_eatsWord v0 44 (fun x6 S4 => Gr S1 S4 → bl x6 → (((x6 = 0) → (P_X11_readRoad_85 Q v0 v1 v2 v3 v4 (0 : Int32) S4)) ∧ ((¬ x6 = 0) → (P_X11_readWhole v0 (0 : Int32) v3 (fun x10 S8 => Gr S4 S8 → (P_X11_readRoad_85 Q v0 v1 v2 v3 v4 x10 S8)) S4)))) S1)) S)) : P_X11_readRoad_62 Q v0 v1 v2 v3 v4 S := h
theorem u_X11_readRoad_85 {Q : HS → Prop} {v0 : Nat} {v1 : Int32} {v2 : Int32} {v3 : Int32} {v4 : Int32} {s0 : Int32} {S : HS} (h : ob S v0 11 ∧ (∀ x1 : Int32, x1 = fI S v0 9 → (((¬ x1 = (5 : Int32)) → (∃ a3 : Nat, fR S v0 4 = some a3 ∧ (ob S a3 10 ∧ (∀ x4 : Int32, x4 = fI S a3 3 → (∃ a5 : Nat, fR S v0 4 = some a5 ∧ (ob S a5 10 ∧ (∃ a6 : Nat, fR S a5 13 = some a6 ∧ (ob S a6 13 ∧ (vp_in x4 (hN S a6) ∧ (∀ S8 : HS, S8 = sI S a6 x4.toNatClampNeg v1 → (∃ a9 : Nat, fR S8 v0 4 = some a9 ∧ (ob S8 a9 10 ∧ (∃ a10 : Nat, fR S8 a9 14 = some a10 ∧ (ob S8 a10 13 ∧ (vp_in x4 (hN S8 a10) ∧ (∀ S12 : HS, S12 = sI S8 a10 x4.toNatClampNeg v4 → (∃ a13 : Nat, fR S12 v0 4 = some a13 ∧ (ob S12 a13 10 ∧ (∃ a14 : Nat, fR S12 a13 15 = some a14 ∧ (ob S12 a14 13 ∧ (vp_in x4 (hN S12 a14) ∧ (∀ S16 : HS, S16 = sI S12 a14 x4.toNatClampNeg v2 → (∃ a17 : Nat, fR S16 v0 4 = some a17 ∧ (ob S16 a17 10 ∧ (∃ a18 : Nat, fR S16 a17 16 = some a18 ∧ (ob S16 a18 13 ∧ (vp_in x4 (hN S16 a18) ∧ (∀ S20 : HS, S20 = sI S16 a18 x4.toNatClampNeg v3 → (∃ a21 : Nat, fR S20 v0 4 = some a21 ∧ (ob S20 a21 10 ∧ (∃ a22 : Nat, fR S20 a21 17 = some a22 ∧ (ob S20 a22 13 ∧ (vp_in x4 (hN S20 a22) ∧ (∀ S24 : HS, S24 = sI S20 a22 x4.toNatClampNeg s0 → (∃ a25 : Nat, fR S24 v0 4 = some a25 ∧ (ob S24 a25 10 ∧ (∀ x26 : Int32, x26 = fI S24 a25 3 → (∀ x27 : Int32, x27 = x26 + (1 : Int32) → (∀ S28 : HS, S28 = sI S24 a25 3 x27 → (Q S28)))))))))))))))))))))))))))))))))))))))) ∧ ((x1 = (5 : Int32)) → (Q S))))) : P_X11_readRoad_85 Q v0 v1 v2 v3 v4 s0 S := h
theorem u_X11_readSeen {v0 : Nat} {Q : HS → Prop} {S : HS} (h : P_X11_readSeen_0 Q v0 S) : P_X11_readSeen v0 Q S := h
theorem u_X11_readSeen_0 {Q : HS → Prop} {v0 : Nat} {S : HS} (h : ob S v0 11 ∧ (∃ a1 : Nat, fR S v0 4 = some a1 ∧ (ob S a1 10 ∧ (∀ x2 : Int32, x2 = fI S a1 5 → (P_X11_begins v0 x2 (4 : Int32) (fun S3 => Gr S S3 → (P_X11_known v0 (1 : Int32) (fun x8 S6 => Gr S3 S6 → (P_X11_goesOn v0 (fun S9 => Gr S6 S9 → (P_X11_readSeen_24 Q v0 x8 (0 : Int32) S9)) S6)) S3)) S))))) : P_X11_readSeen_0 Q v0 S := h
theorem u_X11_readSeen_24 {Q : HS → Prop} {X24 : Nat → Int32 → Int32 → HS → Prop} {v0 : Nat} {v1 : Int32} {v2 : Int32} {S : HS} (h : (((5 : Int32) ≤ v2) → (ob S v0 11 ∧ (∃ a2 : Nat, fR S v0 4 = some a2 ∧ (ob S a2 10 ∧ (∃ a3 : Nat, fR S a2 26 = some a3 ∧ (∃ a4 : Nat, fR S v0 4 = some a4 ∧ (ob S a4 10 ∧ (∀ x5 : Int32, x5 = fI S a4 5 → (ob S a3 13 ∧ (vp_in x5 (hN S a3) ∧ (∀ S7 : HS, S7 = sI S a3 x5.toNatClampNeg v1 → (∃ a8 : Nat, fR S7 v0 4 = some a8 ∧ (ob S7 a8 10 ∧ (∀ x9 : Int32, x9 = fI S7 a8 5 → (∀ x10 : Int32, x10 = x9 + (1 : Int32) → (∀ S11 : HS, S11 = sI S7 a8 5 x10 → (Q S11))))))))))))))))) ∧ ((¬ (5 : Int32) ≤ v2) → (((v2 ≤ 0) → (P_X11_readSeen_47 Q X24 v0 v1 v2 S)) ∧ ((¬ v2 ≤ 0) → (ob S v0 11 ∧ (P_X11_eatsSign v0 (44 : Int32) (fun x15 S13 => Gr S S13 → bl x15 → (((¬ x15 = 0) → (P_X11_readSeen_47 Q X24 v0 v1 v2 S13)) ∧ ((x15 = 0) → (P_X11_flaw v0 (1 : Int32) (fun S17 => Gr S13 S17 → (P_X11_readSeen_47 Q X24 v0 v1 v2 S17)) S13)))) S)))))) : B_X11_readSeen_24 Q X24 v0 v1 v2 S := h
theorem i_X11_readSeen_24 {Q : HS → Prop} (μ : Nat → Int32 → Int32 → HS → Nat) (I : Nat → Int32 → Int32 → HS → Prop) (hs : ∀ (v0 : Nat) (v1 : Int32) (v2 : Int32) (S : HS) (X : Nat → Int32 → Int32 → HS → Prop), I v0 v1 v2 S → (∀ (w0 : Nat) (w1 : Int32) (w2 : Int32) (T : HS), I w0 w1 w2 T → μ w0 w1 w2 T < μ v0 v1 v2 S → X w0 w1 w2 T) → B_X11_readSeen_24 Q X v0 v1 v2 S) : ∀ (v0 : Nat) (v1 : Int32) (v2 : Int32) (S : HS), I v0 v1 v2 S → P_X11_readSeen_24 Q v0 v1 v2 S := by
  intro v0 v1 v2 S h X hX
  have key : ∀ (z : Nat) (v0 : Nat) (v1 : Int32) (v2 : Int32) (S : HS), μ v0 v1 v2 S < z → I v0 v1 v2 S → X v0 v1 v2 S := by
    intro z
    induction z with
    | zero => intro v0 v1 v2 S hz; exact absurd hz (Nat.not_lt_zero _)
    | succ z ih => intro v0 v1 v2 S hz hI; exact hX _ _ _ _ (hs _ _ _ _ _ hI (fun w0 w1 w2 T hT hl => ih _ _ _ _ (by omega) hT))
  exact key _ _ _ _ _ (Nat.lt_succ_self _) h
theorem u_X11_readSeen_47 {Q : HS → Prop} {X24 : Nat → Int32 → Int32 → HS → Prop} {v0 : Nat} {v1 : Int32} {v2 : Int32} {S : HS} (h : ob S v0 11 ∧ (P_X11_readWhole v0 (0 : Int32) (999 : Int32) (fun x3 S1 => Gr S S1 → (∀ x4 : Int32, x4 = fI S1 v0 9 → (((¬ x4 = (5 : Int32)) → (∃ a6 : Nat, fR S1 v0 4 = some a6 ∧ (ob S1 a6 10 ∧ (∃ a7 : Nat, fR S1 a6 27 = some a7 ∧ (∃ a8 : Nat, fR S1 v0 4 = some a8 ∧ (ob S1 a8 10 ∧ (∀ x9 : Int32, x9 = fI S1 a8 5 → (ob S1 a7 13 ∧ (vp_in (((5 : Int32) * x9) + v2) (hN S1 a7) ∧ (∀ S11 : HS, S11 = sI S1 a7 (((5 : Int32) * x9) + v2).toNatClampNeg x3 → (∀ x12 : Int32, x12 = v2 + (1 : Int32) → (X24 v0 v1 x12 S11)))))))))))) ∧ ((x4 = (5 : Int32)) → (Q S1))))) S)) : P_X11_readSeen_47 Q X24 v0 v1 v2 S := h
theorem u_X11_readSide {v0 : Nat} {Q : Int32 → HS → Prop} {S : HS} (h : P_X11_readSide_0 Q v0 S) : P_X11_readSide v0 Q S := h
theorem u_X11_readSide_0 {Q : Int32 → HS → Prop} {v0 : Nat} {S : HS} (h : ob S v0 11 ∧ (P_X11_isWord v0 33 (fun x3 S1 => Gr S S1 → bl x3 → (((x3 = 0) → (P_X11_isWord v0 34 (fun x7 S5 => Gr S1 S5 → bl x7 → (((x7 = 0) → (P_X11_isWord v0 35 (fun x11 S9 => Gr S5 S9 → bl x11 → (((x11 = 0) → (P_X11_isWord v0 36 (fun x15 S13 => Gr S9 S13 → bl x15 → (((x15 = 0) → (P_X11_readSide_53 Q v0 (-1 : Int32) S13)) ∧ ((¬ x15 = 0) → (P_X11_readSide_53 Q v0 (3 : Int32) S13)))) S9)) ∧ ((¬ x11 = 0) → (P_X11_readSide_53 Q v0 (2 : Int32) S9)))) S5)) ∧ ((¬ x7 = 0) → (P_X11_readSide_53 Q v0 (1 : Int32) S5)))) S1)) ∧ ((¬ x3 = 0) → (P_X11_readSide_53 Q v0 (0 : Int32) S1)))) S)) : P_X11_readSide_0 Q v0 S := h
theorem u_X11_readSide_53 {Q : Int32 → HS → Prop} {v0 : Nat} {s0 : Int32} {S : HS} (h : ((¬ s0 = (-1 : Int32)) → (P_X11_readSide_64 Q v0 s0 S)) ∧ ((s0 = (-1 : Int32)) → (ob S v0 11 ∧ (P_X11_flaw v0 (1 : Int32) (fun S2 => Gr S S2 → (P_X11_readSide_64 Q v0 s0 S2)) S)))) : P_X11_readSide_53 Q v0 s0 S := h
theorem u_X11_readSide_64 {Q : Int32 → HS → Prop} {v0 : Nat} {v1 : Int32} {S : HS} (h : ob S v0 11 ∧ (P_X11_goesOn v0 (fun S1 => Gr S S1 → (Q v1 S1)) S)) : P_X11_readSide_64 Q v0 v1 S := h
theorem u_X11_readWalker {v0 : Nat} {Q : HS → Prop} {S : HS} (h : P_X11_readWalker_0 Q v0 S) : P_X11_readWalker v0 Q S := h
theorem u_X11_readWalker_0 {Q : HS → Prop} {v0 : Nat} {S : HS} (h : ob S v0 11 ∧ (∃ a1 : Nat, fR S v0 4 = some a1 ∧ (ob S a1 10 ∧ (∀ x2 : Int32, x2 = fI S a1 4 → (P_X11_begins v0 x2 (4 : Int32) (fun S3 => Gr S S3 → (P_X11_readFresh v0 (fun x8 S6 => Gr S3 S6 → (P_X11_isWord v0 45 (fun x11 S9 => Gr S6 S9 → bl x11 → (((x11 = 0) → (P_X11_isWord v0 46 (fun x15 S13 => Gr S9 S13 → bl x15 → (((x15 = 0) → (P_X11_isWord v0 47 (fun x19 S17 => Gr S13 S17 → bl x19 → (((x19 = 0) → (P_X11_isWord v0 48 (fun x23 S21 => Gr S17 S21 → bl x23 → (((x23 = 0) → (P_X11_readWalker_74 Q v0 x8 (-1 : Int32) S21)) ∧ ((¬ x23 = 0) → (P_X11_readWalker_74 Q v0 x8 (3 : Int32) S21)))) S17)) ∧ ((¬ x19 = 0) → (P_X11_readWalker_74 Q v0 x8 (2 : Int32) S17)))) S13)) ∧ ((¬ x15 = 0) → (P_X11_readWalker_74 Q v0 x8 (1 : Int32) S13)))) S9)) ∧ ((¬ x11 = 0) → (P_X11_readWalker_74 Q v0 x8 (0 : Int32) S9)))) S6)) S3)) S))))) : P_X11_readWalker_0 Q v0 S := h
theorem u_X11_readWalker_74 {Q : HS → Prop} {v0 : Nat} {v1 : Int64} {s0 : Int32} {S : HS} (h : ((¬ s0 = (-1 : Int32)) → (P_X11_readWalker_85 Q v0 v1 s0 S)) ∧ ((s0 = (-1 : Int32)) → (ob S v0 11 ∧ (P_X11_flaw v0 (1 : Int32) (fun S2 => Gr S S2 → (P_X11_readWalker_85 Q v0 v1 s0 S2)) S)))) : P_X11_readWalker_74 Q v0 v1 s0 S := h
theorem u_X11_readWalker_85 {Q : HS → Prop} {v0 : Nat} {v1 : Int64} {v3 : Int32} {S : HS} (h : ob S v0 11 ∧ (P_X11_goesOn v0 (fun S1 => Gr S S1 → (((¬ v3 = (1 : Int32)) → (((¬ v3 = (2 : Int32)) → (((¬ v3 = (3 : Int32)) → (P_X11_readWalker_136 Q v0 v1 v3 (0 : Int32) S1)) ∧ ((v3 = (3 : Int32)) → (P_X11_readWhole v0 (1 : Int32) (99 : Int32) (fun x9 S7 => Gr S1 S7 → (P_X11_readWalker_136 Q v0 v1 v3 x9 S7)) S1)))) ∧ ((v3 = (2 : Int32)) → (P_X11_readWhole v0 (0 : Int32) (999 : Int32) (fun x12 S10 => Gr S1 S10 → (P_X11_readWalker_136 Q v0 v1 v3 x12 S10)) S1)))) ∧ ((v3 = (1 : Int32)) → (P_X11_readWhole v0 (1 : Int32) (8 : Int32) (fun x15 S13 => Gr S1 S13 → (P_X11_readWalker_136 Q v0 v1 v3 x15 S13)) S1)))) S)) : P_X11_readWalker_85 Q v0 v1 v3 S := h
theorem u_X11_readWalker_136 {Q : HS → Prop} {v0 : Nat} {v1 : Int64} {v3 : Int32} {s0 : Int32} {S : HS} (h : ((¬ v3 = (1 : Int32)) → (P_X11_readWalker_149 Q v0 v1 v3 s0 (0 : Int32) S)) ∧ ((v3 = (1 : Int32)) → (P_X11_readWalker_149 Q v0 v1 v3 s0 s0 S))) : P_X11_readWalker_136 Q v0 v1 v3 s0 S := h
theorem u_X11_readWalker_149 {Q : HS → Prop} {v0 : Nat} {v1 : Int64} {v3 : Int32} {v4 : Int32} {s0 : Int32} {S : HS} (h : ob S v0 11 ∧ (P_X11_readPart v0 49 (1 : Int32) (9 : Int32) (fun x3 S1 => Gr S S1 → (P_X11_readPart v0 50 (1 : Int32) (9 : Int32) (fun x6 S4 => Gr S1 S4 → (P_X11_readPart v0 51 (s0 + (1 : Int32)) (9 : Int32) (fun x9 S7 => Gr S4 S7 → (P_X11_readPart v0 52 (1 : Int32) (9 : Int32) (fun x12 S10 => Gr S7 S10 → (P_X11_readPart v0 53 x12 (9 : Int32) (fun x15 S13 => Gr S10 S13 → (∀ x16 : Int32, x16 = fI S13 v0 9 → (((¬ x16 = (5 : Int32)) → (∃ a18 : Nat, fR S13 v0 4 = some a18 ∧ (ob S13 a18 10 ∧ (∀ x19 : Int32, x19 = fI S13 a18 4 → (P_X11_names v0 v1 (1 : Int32) x19 (fun S20 => Gr S13 S20 → (∃ a23 : Nat, fR S20 v0 4 = some a23 ∧ (ob S20 a23 10 ∧ (∃ a24 : Nat, fR S20 a23 19 = some a24 ∧ (ob S20 a24 13 ∧ (vp_in x19 (hN S20 a24) ∧ (∀ S26 : HS, S26 = sI S20 a24 x19.toNatClampNeg v3 → (∃ a27 : Nat, fR S26 v0 4 = some a27 ∧ (ob S26 a27 10 ∧ (∃ a28 : Nat, fR S26 a27 20 = some a28 ∧ (ob S26 a28 13 ∧ (vp_in x19 (hN S26 a28) ∧ (∀ S30 : HS, S30 = sI S26 a28 x19.toNatClampNeg v4 → (∃ a31 : Nat, fR S30 v0 4 = some a31 ∧ (ob S30 a31 10 ∧ (∃ a32 : Nat, fR S30 a31 21 = some a32 ∧ (ob S30 a32 13 ∧ (∀ x34 : Int32, x34 = x3 * (x6 + s0) → (vp_in x19 (hN S30 a32) ∧ (∀ S35 : HS, S35 = sI S30 a32 x19.toNatClampNeg x34 → (∃ a36 : Nat, fR S35 v0 4 = some a36 ∧ (ob S35 a36 10 ∧ (∃ a37 : Nat, fR S35 a36 22 = some a37 ∧ (ob S35 a37 13 ∧ (∀ x39 : Int32, x39 = x3 * (x9 - s0) → (vp_in x19 (hN S35 a37) ∧ (∀ S40 : HS, S40 = sI S35 a37 x19.toNatClampNeg x39 → (∃ a41 : Nat, fR S40 v0 4 = some a41 ∧ (ob S40 a41 10 ∧ (∃ a42 : Nat, fR S40 a41 23 = some a42 ∧ (ob S40 a42 13 ∧ (∀ x44 : Int32, x44 = (x6 + s0) * (x9 - s0) → (vp_in x19 (hN S40 a42) ∧ (∀ S45 : HS, S45 = sI S40 a42 x19.toNatClampNeg x44 → (∃ a46 : Nat, fR S45 v0 4 = some a46 ∧ (ob S45 a46 10 ∧ (∃ a47 : Nat, fR S45 a46 24 = some a47 ∧ (ob S45 a47 13 ∧ (vp_in x19 (hN S45 a47) ∧ (∀ S49 : HS, S49 = sI S45 a47 x19.toNatClampNeg x12 → (∃ a50 : Nat, fR S49 v0 4 = some a50 ∧ (ob S49 a50 10 ∧ (∃ a51 : Nat, fR S49 a50 25 = some a51 ∧ (ob S49 a51 13 ∧ (vp_in x19 (hN S49 a51) ∧ (∀ S53 : HS, S53 = sI S49 a51 x19.toNatClampNeg x15 → (∃ a54 : Nat, fR S53 v0 4 = some a54 ∧ (ob S53 a54 10 ∧ (∀ x55 : Int32, x55 = fI S53 a54 4 → (∀ x56 : Int32, x56 = x55 + (1 : Int32) → (∀ S57 : HS, S57 = sI S53 a54 4 x56 → (Q S57)))))))))))))))))))))))))))))))))))))))))))))))))))) S13))))) ∧ ((x16 = (5 : Int32)) → (Q S13))))) S10)) S7)) S4)) S1)) S)) : P_X11_readWalker_149 Q v0 v1 v3 v4 s0 S := h
theorem u_X11_readWhole {v0 : Nat} {v1 : Int32} {v2 : Int32} {Q : Int32 → HS → Prop} {S : HS} (h : P_X11_readWhole_0 Q v0 v1 v2 S) : P_X11_readWhole v0 v1 v2 Q S := h
theorem u_X11_readWhole_0 {Q : Int32 → HS → Prop} {v0 : Nat} {v1 : Int32} {v2 : Int32} {S : HS} (h : ob S v0 11 ∧ (∀ x1 : Int32, x1 = fI S v0 9 → (((x1 = (3 : Int32)) → (∀ x3 : Int32, x3 = fI S v0 12 → (P_X11_in x3 v1 v2 (fun x6 S4 => Gr S S4 → bl x6 → (((¬ x6 = 0) → (P_X11_readWhole_33 Q v0 v1 S4)) ∧ ((x6 = 0) → (P_X11_flaw v0 (4 : Int32) (fun S8 => Gr S4 S8 → (P_X11_readWhole_33 Q v0 v1 S8)) S4)))) S))) ∧ ((¬ x1 = (3 : Int32)) → (P_X11_flaw v0 (1 : Int32) (fun S11 => Gr S S11 → (P_X11_readWhole_33 Q v0 v1 S11)) S))))) : P_X11_readWhole_0 Q v0 v1 v2 S := h
theorem u_X11_readWhole_33 {Q : Int32 → HS → Prop} {v0 : Nat} {v1 : Int32} {S : HS} (h : ob S v0 11 ∧ (∀ x1 : Int32, x1 = fI S v0 9 → (((¬ x1 = (5 : Int32)) → (∀ x3 : Int32, x3 = fI S v0 12 → (P_X11_readWhole_49 Q v0 x3 S))) ∧ ((x1 = (5 : Int32)) → (P_X11_readWhole_49 Q v0 v1 S))))) : P_X11_readWhole_33 Q v0 v1 S := h
theorem u_X11_readWhole_49 {Q : Int32 → HS → Prop} {v0 : Nat} {s0 : Int32} {S : HS} (h : ob S v0 11 ∧ (P_X11_goesOn v0 (fun S1 => Gr S S1 → (Q s0 S1)) S)) : P_X11_readWhole_49 Q v0 s0 S := h
theorem u_X11_readWorld {v0 : Nat} {Q : HS → Prop} {S : HS} (h : P_X11_readWorld_0 Q v0 S) : P_X11_readWorld v0 Q S := h
theorem u_X11_readWorld_0 {Q : HS → Prop} {v0 : Nat} {S : HS} (h : ob S v0 11 ∧ (∃ a1 : Nat, fR S v0 4 = some a1 ∧ (ob S a1 10 ∧ (∀ x2 : Int32, x2 = fI S a1 0 → (((x2 ≤ 0) → (P_X11_readWorld_15 Q v0 S)) ∧ ((¬ x2 ≤ 0) → (P_X11_flaw v0 (3 : Int32) (fun S4 => Gr S S4 → (P_X11_readWorld_15 Q v0 S4)) S))))))) : P_X11_readWorld_0 Q v0 S := h
theorem u_X11_readWorld_15 {Q : HS → Prop} {v0 : Nat} {S : HS} (h : ob S v0 11 ∧ (P_X11_goesOn v0 (fun S1 => Gr S S1 → (P_X11_readPart v0 28 (5 : Int32) (60 : Int32) (fun x6 S4 => Gr S1 S4 → (∀ x7 : Int32, x7 = fI S4 v0 9 → (((x7 = (5 : Int32)) → (Q S4)) ∧ ((¬ x7 = (5 : Int32)) → (∃ a9 : Nat, fR S4 v0 4 = some a9 ∧ (ob S4 a9 10 ∧ (∀ S10 : HS, S10 = sI S4 a9 0 x6 → (Q S10)))))))) S1)) S)) : P_X11_readWorld_15 Q v0 S := h
theorem u_X11_wordOf {v0 : Nat} {Q : Int64 → HS → Prop} {S : HS} (h : P_X11_wordOf_0 Q v0 S) : P_X11_wordOf v0 Q S := h
theorem u_X11_wordOf_0 {Q : Int64 → HS → Prop} {v0 : Nat} {S : HS} (h : P_X11_wordOf_4 Q v0 (0 : Int64) (0 : Int32) S) : P_X11_wordOf_0 Q v0 S := h
theorem u_X11_wordOf_4 {Q : Int64 → HS → Prop} {X4 : Nat → Int64 → Int32 → HS → Prop} {v0 : Nat} {v1 : Int64} {v3 : Int32} {S : HS} (h : v0 < 54 ∧ ∀ x1 : Int32, x1 = nI (sLen.getD v0 0) → (((x1 ≤ v3) → (Q v1 S)) ∧ ((¬ x1 ≤ v3) → (v0 < 54 ∧ vp_in v3 (sLen.getD v0 0) ∧ ∀ x3 : Int32, x3 = sch v0 v3 → (∀ x4 : Int64, x4 = ((32 : Int64) * v1) + (((x3 - (97 : Int32)) + (1 : Int32)).toInt64) → (∀ x5 : Int32, x5 = v3 + (1 : Int32) → (X4 v0 x4 x5 S))))))) : B_X11_wordOf_4 Q X4 v0 v1 v3 S := h
theorem i_X11_wordOf_4 {Q : Int64 → HS → Prop} (μ : Nat → Int64 → Int32 → HS → Nat) (I : Nat → Int64 → Int32 → HS → Prop) (hs : ∀ (v0 : Nat) (v1 : Int64) (v3 : Int32) (S : HS) (X : Nat → Int64 → Int32 → HS → Prop), I v0 v1 v3 S → (∀ (w0 : Nat) (w1 : Int64) (w3 : Int32) (T : HS), I w0 w1 w3 T → μ w0 w1 w3 T < μ v0 v1 v3 S → X w0 w1 w3 T) → B_X11_wordOf_4 Q X v0 v1 v3 S) : ∀ (v0 : Nat) (v1 : Int64) (v3 : Int32) (S : HS), I v0 v1 v3 S → P_X11_wordOf_4 Q v0 v1 v3 S := by
  intro v0 v1 v3 S h X hX
  have key : ∀ (z : Nat) (v0 : Nat) (v1 : Int64) (v3 : Int32) (S : HS), μ v0 v1 v3 S < z → I v0 v1 v3 S → X v0 v1 v3 S := by
    intro z
    induction z with
    | zero => intro v0 v1 v3 S hz; exact absurd hz (Nat.not_lt_zero _)
    | succ z ih => intro v0 v1 v3 S hz hI; exact hX _ _ _ _ (hs _ _ _ _ _ hI (fun w0 w1 w3 T hT hl => ih _ _ _ _ (by omega) hT))
  exact key _ _ _ _ _ (Nat.lt_succ_self _) h
theorem hs_no2 {S : HS} {w c : Nat} {v : Int32} (hc : c ≠ 2 ∧ c ≠ 4) (z : Int32) (hz : z < fI (sI S w c v) w 2 + fI (sI S w c v) w 4) : z < fI S w 2 + fI S w 4 := by
  rw [show fI (sI S w c v) w 2 = fI S w 2 from u2_ne _ _ (fun t => by omega), show fI (sI S w c v) w 4 = fI S w 4 from u2_ne _ _ (fun t => by omega)] at hz
  exact hz
end
section
set_option maxHeartbeats 4000000 in
set_option maxRecDepth 20000 in
theorem m_X10_find {v0 : Nat} {v1 : Int64} {Q : Int32 → HS → Prop} {S : HS} (hI : IV S) (o_v0 : ob S v0 10)     (hq : ∀ (r : Int32) (T : HS), IV T → Gr S T → (S = T) ∧ (r = -1 ∨ (0 ≤ r ∧ r < fI S v0 6)) → Q r T) : P_X10_find v0 v1 Q S := by
  have g0 := gr_rf S
  refine u_X10_find ?_
  refine u_X10_find_0 ?_
  refine i_X10_find_2 (fun (y0 : Nat) (y1 : Int64) (y3 : Int32) (Z : HS) => ((2147483647 : Int32).toInt - y3.toInt).toNat) (fun (y0 : Nat) (y1 : Int64) (y3 : Int32) (Z : HS) => (S = Z) ∧ (v0 = y0) ∧ (v1 = y1) ∧ (0 ≤ y3)) ?_ _ _ _ _ ⟨rfl, rfl, rfl, (qr694)⟩
  intro w5 w7 w9 S2 X10 ⟨eS2, q6, q8, i1u1⟩ ih11
  subst q6
  subst q8
  subst eS2
  refine u_X10_find_2 ?_
  refine ⟨o_v0, ?_⟩
  intro x12 ex12
  have r_x12 : (0 : Int32) ≤ x12 ∧ x12 ≤ (12 : Int32) := by rw [ex12]; exact nu 22 rfl hI o_v0
  have d_x12 := ex12
  refine ⟨fun c13 => ?_, fun c13 => ?_⟩
  · exact hq _ _ hI g0 ⟨rfl, (Or.inl rfl)⟩
  · obtain ⟨a14, ea14, o_a14, l_a14⟩ := shl 50 rfl hI o_v0
    refine ⟨a14, ea14, ?_⟩
    refine ⟨o_a14, ?_⟩
    refine ⟨(vin l_a14 (m := 12) (by decide) (qr809 i1u1 r_x12 c13)), ?_⟩
    intro x15 ex15
    refine ⟨fun c16 => ?_, fun c16 => ?_⟩
    · intro x17 ex17
      exact ih11 _ _ _ _ ⟨rfl, rfl, rfl, (qr810 i1u1 r_x12 c13 c16 ex17)⟩ (mu_up (qr811 i1u1 r_x12 c13 c16 ex17) (qr812 i1u1 r_x12 c13 c16 ex17))
    · exact hq _ _ hI g0 ⟨rfl, (Or.inr ⟨(qr813 i1u1 r_x12 c13 c16), by rw [← d_x12]; exact (qr814 i1u1 r_x12 c13 c16)⟩)⟩
set_option maxHeartbeats 4000000 in
set_option maxRecDepth 20000 in
theorem m_X11_flaw {v0 : Nat} {v1 : Int32} {Q : HS → Prop} {S : HS} (hI : IV S) (o_v0 : ob S v0 11)   (h1 : 1 ≤ v1) (hG : RG S v0) (hO : fI S v0 9 = 5 → 0 < fI S v0 13) (hq : ∀ (T : HS), IV T → Gr S T → FRI [(11, 9), (11, 13), (11, 14)] [] S T → (RG T v0) ∧ (fI T v0 9 = 5 → 0 < fI T v0 13) ∧ (fI T v0 9 = 5 ∨ ¬ fI S v0 9 = 5) ∧ (fI S v0 8 ≤ fI T v0 8 ∧ (fI T v0 9 = 4 → fI S v0 8 < fI T v0 8 ∨ fI S v0 9 = 4)) ∧ (fI T v0 9 = 5) → Q T) : P_X11_flaw v0 v1 Q S := by
  have g0 := gr_rf S
  have f0 := fri_rf [(11, 9), (11, 13), (11, 14)] [] S
  obtain ⟨kv1, d_kv1⟩ : ∃ z : Int32, z = fI S v0 8 := ⟨_, rfl⟩
  have r_kv1 : (0 : Int32) ≤ kv1 ∧ kv1 ≤ (900 : Int32) := by rw [d_kv1]; exact nu 25 rfl hI o_v0
  obtain ⟨iv2, hiv2⟩ : ∃ z : Int32, z = kv1 := ⟨_, rfl⟩
  have di_8 := hiv2.trans d_kv1
  obtain ⟨kv3, d_kv3⟩ : ∃ z : Int32, z = fI S v0 9 := ⟨_, rfl⟩
  obtain ⟨iv4, hiv4⟩ : ∃ z : Int32, z = kv3 := ⟨_, rfl⟩
  have di_9 := hiv4.trans d_kv3
  obtain ⟨kv5, d_kv5⟩ : ∃ z : Int32, z = fI S v0 13 := ⟨_, rfl⟩
  obtain ⟨iv6, hiv6⟩ : ∃ z : Int32, z = kv5 := ⟨_, rfl⟩
  have di_13 := hiv6.trans d_kv5
  have hO : iv4 = 5 → 0 < iv6 := by rw [di_9, di_13]; exact hO
  refine u_X11_flaw ?_
  refine u_X11_flaw_0 ?_
  refine ⟨o_v0, ?_⟩
  intro x7 ex7
  have q_x7 : x7 = kv3 := ex7.trans d_kv3.symm
  have d_x7 := ex7
  refine ⟨fun c8 => ?_, fun c8 => ?_⟩
  · intro S9 eS9
    have hIn : IV S9 := by rw [eS9]; exact iv11_sI hI o_v0 (by decide) (nu_free (by decide))
    have hG := rg_11 eS9 hI o_v0 hG
    have hI := hIn
    have f0 := fr_I eS9 g0 f0 o_v0 (by decide)
    have d_kv1 := rd_Ij eS9 (by decide) d_kv1
    have d_x7 := rd_Ij eS9 (by decide) d_x7
    have d_v1 := rd_Is eS9 (rfl : v1 = v1)
    have g0 := gr_I eS9 g0
    have o_v0 := ob_I eS9 o_v0
    intro x10 ex10
    have d_x10 := ex10
    intro S11 eS11
    have hIn : IV S11 := by rw [eS11]; exact iv11_sI hI o_v0 (by decide) (nu_free (by decide))
    have hG := rg_11 eS11 hI o_v0 hG
    have hI := hIn
    have f0 := fr_I eS11 g0 f0 o_v0 (by decide)
    have d_kv1 := rd_Ij eS11 (by decide) d_kv1
    have d_x7 := rd_Ij eS11 (by decide) d_x7
    have d_v1 := rd_Ij eS11 (by decide) d_v1
    have d_x10 := rd_Ij eS11 (by decide) d_x10
    obtain ⟨kv12, hkv12⟩ : ∃ z : Int32, z = x10 := ⟨_, rfl⟩
    have d_kv12 := rd_Is eS11 hkv12
    have g0 := gr_I eS11 g0
    have o_v0 := ob_I eS11 o_v0
    intro S13 eS13
    have hIn : IV S13 := by rw [eS13]; exact iv11_sI hI o_v0 (by decide) (nu_free (by decide))
    have hG := rg_11 eS13 hI o_v0 hG
    have hI := hIn
    have f0 := fr_I eS13 g0 f0 o_v0 (by decide)
    have d_kv1 := rd_Ij eS13 (by decide) d_kv1
    have d_v1 := rd_Ij eS13 (by decide) d_v1
    have d_x10 := rd_Ij eS13 (by decide) d_x10
    have d_kv12 := rd_Ij eS13 (by decide) d_kv12
    obtain ⟨kv14, hkv14⟩ : ∃ z : Int32, z = (5 : Int32) := ⟨_, rfl⟩
    have d_kv14 := rd_Is eS13 hkv14
    have g0 := gr_I eS13 g0
    have o_v0 := ob_I eS13 o_v0
    exact hq _ hI g0 f0 ⟨hG, (by have t : kv14 = 5 → 0 < v1 := (qr761 h1 hiv4 hiv6 hO q_x7 c8 hkv14); rw [d_kv14, d_v1] at t; exact t), (by have t : kv14 = 5 ∨ ¬ iv4 = 5 := (qr762 hiv4 q_x7 c8 hkv14); rw [di_9, d_kv14] at t; exact t), (by have t : iv2 ≤ kv1 ∧ (kv14 = 4 → iv2 < kv1 ∨ iv4 = 4) := (qr763 r_kv1 hiv2 hiv4 q_x7 c8 hkv14); rw [di_8, di_9, d_kv1, d_kv14] at t; exact t), (by have t : kv14 = 5 := (qr764 hiv4 q_x7 c8 hkv14); rw [d_kv14] at t; exact t)⟩
  · exact hq _ hI g0 f0 ⟨hG, (by have t : x7 = 5 → 0 < kv5 := (qr752 hiv4 hiv6 hO q_x7 c8); rw [d_x7, d_kv5] at t; exact t), (by have t : x7 = 5 ∨ ¬ iv4 = 5 := (qr753 hiv4 q_x7 c8); rw [di_9, d_x7] at t; exact t), (by have t : iv2 ≤ kv1 ∧ (x7 = 4 → iv2 < kv1 ∨ iv4 = 4) := (qr754 r_kv1 hiv2 hiv4 q_x7 c8); rw [di_8, di_9, d_kv1, d_x7] at t; exact t), (by have t : x7 = 5 := (qr765 hiv4 q_x7 c8); rw [d_x7] at t; exact t)⟩
set_option maxHeartbeats 4000000 in
set_option maxRecDepth 20000 in
theorem m_X11_byteAt {v0 : Nat} {v1 : Int32} {Q : Int32 → HS → Prop} {S : HS} (hI : IV S) (o_v0 : ob S v0 11)   (h1 : 0 ≤ v1)  (hq : ∀ (r : Int32) (T : HS), IV T → Gr S T → (S = T) ∧ (r = -1 ∨ v1 < fI S v0 7) → Q r T) : P_X11_byteAt v0 v1 Q S := by
  have g0 := gr_rf S
  refine u_X11_byteAt ?_
  refine u_X11_byteAt_0 ?_
  refine ⟨o_v0, ?_⟩
  intro x1 ex1
  have r_x1 : (0 : Int32) ≤ x1 ∧ x1 ≤ (900 : Int32) := by rw [ex1]; exact nu 24 rfl hI o_v0
  have d_x1 := ex1
  refine ⟨fun c2 => ?_, fun c2 => ?_⟩
  · exact hq _ _ hI g0 ⟨rfl, (Or.inl rfl)⟩
  · obtain ⟨a3, ea3, o_a3, l_a3⟩ := shl 53 rfl hI o_v0
    refine ⟨a3, ea3, ?_⟩
    refine ⟨o_a3, ?_⟩
    refine ⟨(vin l_a3 (m := 900) (by decide) (qr781 h1 r_x1 c2)), ?_⟩
    intro x4 ex4
    exact hq _ _ hI g0 ⟨rfl, (Or.inr (by rw [← d_x1]; exact (qr782 h1 r_x1 c2)))⟩
set_option maxHeartbeats 4000000 in
set_option maxRecDepth 20000 in
theorem m_X11_isDigit {v0 : Int32} {Q : Int32 → HS → Prop} {S : HS} (hI : IV S)      (hq : ∀ (r : Int32) (T : HS), IV T → Gr S T → bl r → (S = T) ∧ (r = 0 ∨ (48 ≤ v0 ∧ v0 ≤ 57)) → Q r T) : P_X11_isDigit v0 Q S := by
  have g0 := gr_rf S
  refine u_X11_isDigit ?_
  refine u_X11_isDigit_0 ?_
  refine ⟨fun c1 => ?_, fun c1 => ?_⟩
  · exact hq _ _ hI g0 (Or.inl rfl) ⟨rfl, (qr758 c1)⟩
  · refine ⟨fun c2 => ?_, fun c2 => ?_⟩
    · exact hq _ _ hI g0 (Or.inl rfl) ⟨rfl, (qr759 c1 c2)⟩
    · exact hq _ _ hI g0 (Or.inr rfl) ⟨rfl, (qr760 c1 c2)⟩
set_option maxHeartbeats 4000000 in
set_option maxRecDepth 20000 in
theorem m_X11_isLetter {v0 : Int32} {Q : Int32 → HS → Prop} {S : HS} (hI : IV S)      (hq : ∀ (r : Int32) (T : HS), IV T → Gr S T → bl r → (S = T) ∧ (r = 0 ∨ (97 ≤ v0 ∧ v0 ≤ 122)) → Q r T) : P_X11_isLetter v0 Q S := by
  have g0 := gr_rf S
  refine u_X11_isLetter ?_
  refine u_X11_isLetter_0 ?_
  refine ⟨fun c1 => ?_, fun c1 => ?_⟩
  · exact hq _ _ hI g0 (Or.inl rfl) ⟨rfl, (qr755 c1)⟩
  · refine ⟨fun c2 => ?_, fun c2 => ?_⟩
    · exact hq _ _ hI g0 (Or.inl rfl) ⟨rfl, (qr756 c1 c2)⟩
    · exact hq _ _ hI g0 (Or.inr rfl) ⟨rfl, (qr757 c1 c2)⟩
set_option maxHeartbeats 4000000 in
set_option maxRecDepth 20000 in
theorem m_X11_goesOn {v0 : Nat} {Q : HS → Prop} {S : HS} (hI : IV S) (o_v0 : ob S v0 11)    (hG : RG S v0) (hO : fI S v0 9 = 5 → 0 < fI S v0 13) (hq : ∀ (T : HS), IV T → Gr S T → FRI [(11, 8), (11, 9), (11, 10), (11, 11), (11, 12)] [] S T → (RG T v0) ∧ (fI T v0 9 = 5 → 0 < fI T v0 13) ∧ (fI T v0 9 = 5 ∨ ¬ fI S v0 9 = 5) ∧ (fI S v0 8 ≤ fI T v0 8 ∧ (fI T v0 9 = 4 → fI S v0 8 < fI T v0 8 ∨ fI S v0 9 = 4)) → Q T) : P_X11_goesOn v0 Q S := by
  have g0 := gr_rf S
  have f0 := fri_rf [(11, 8), (11, 9), (11, 10), (11, 11), (11, 12)] [] S
  obtain ⟨kv1, d_kv1⟩ : ∃ z : Int32, z = fI S v0 8 := ⟨_, rfl⟩
  have r_kv1 : (0 : Int32) ≤ kv1 ∧ kv1 ≤ (900 : Int32) := by rw [d_kv1]; exact nu 25 rfl hI o_v0
  obtain ⟨iv2, hiv2⟩ : ∃ z : Int32, z = kv1 := ⟨_, rfl⟩
  have di_8 := hiv2.trans d_kv1
  obtain ⟨kv3, d_kv3⟩ : ∃ z : Int32, z = fI S v0 9 := ⟨_, rfl⟩
  obtain ⟨iv4, hiv4⟩ : ∃ z : Int32, z = kv3 := ⟨_, rfl⟩
  have di_9 := hiv4.trans d_kv3
  obtain ⟨kv5, d_kv5⟩ : ∃ z : Int32, z = fI S v0 13 := ⟨_, rfl⟩
  obtain ⟨iv6, hiv6⟩ : ∃ z : Int32, z = kv5 := ⟨_, rfl⟩
  have di_13 := hiv6.trans d_kv5
  have hO : iv4 = 5 → 0 < iv6 := by rw [di_9, di_13]; exact hO
  refine u_X11_goesOn ?_
  refine u_X11_goesOn_0 ?_
  refine ⟨o_v0, ?_⟩
  intro x7 ex7
  have q_x7 : x7 = kv3 := ex7.trans d_kv3.symm
  have d_x7 := ex7
  refine ⟨fun c8 => ?_, fun c8 => ?_⟩
  · refine i_X11_goesOn_9 (fun (y0 : Nat) (Z : HS) => ((901 : Int32).toInt - (fI Z v0 8).toInt).toNat) (fun (y0 : Nat) (Z : HS) => (IV Z) ∧ (Gr S Z) ∧ (FRI [(11, 8)] [] S Z) ∧ (v0 = y0) ∧ (RG Z v0) ∧ (iv2 ≤ fI Z v0 8)) ?_ _ _ ⟨hI, (gr_rf _), (fri_rf _ _ _), rfl, hG, (by rw [← d_kv1]; exact (qr699 r_kv1 hiv2 hiv4 q_x7 c8))⟩
    intro w13 S10 X15 ⟨hI, gL11, fL12, q14, hG, k1u9⟩ ih16
    subst q14
    have d_x7 := d_x7.trans (fri_at fL12 (by decide) (by decide) o_v0).symm
    have d_kv5 := d_kv5.trans (fri_at fL12 (by decide) (by decide) o_v0).symm
    have f0 := fri_tr (S := S) g0 f0 fL12 (by decide) (by decide)
    have o_v0 := gr_ob gL11 o_v0
    have g0 := gr_tr (T := S) g0 gL11
    obtain ⟨kv17, d_kv17⟩ : ∃ z : Int32, z = fI S10 v0 8 := ⟨_, rfl⟩
    have p_k1u9 : iv2 ≤ kv17 := by rw [d_kv17]; exact k1u9
    have d0_kv17 := d_kv17
    refine u_X11_goesOn_9 ?_
    refine ⟨o_v0, ?_⟩
    intro x18 ex18
    have r_x18 : (0 : Int32) ≤ x18 ∧ x18 ≤ (900 : Int32) := by rw [ex18]; exact nu 25 rfl hI o_v0
    have q_x18 : x18 = kv17 := ex18.trans d_kv17.symm
    have d_x18 := ex18
    refine m_X11_byteAt hI o_v0 (qr700 r_kv1 hiv2 hiv4 q_x7 c8 p_k1u9 r_x18 q_x18) (fun x19 S20 hI2 g21 p_x19 => ?_)
    obtain ⟨z_S20, p_x19⟩ := p_x19
    subst z_S20
    intro _
    obtain ⟨kv23, d_kv23⟩ : ∃ z : Int32, z = fI S10 v0 7 := ⟨_, rfl⟩
    have r_kv23 : (0 : Int32) ≤ kv23 ∧ kv23 ≤ (900 : Int32) := by rw [d_kv23]; exact nu 24 rfl hI o_v0
    have by_x19 : x19 = -1 ∨ x18 < kv23 := by rw [d_kv23]; exact p_x19
    refine ⟨fun c24 => ?_, fun c24 => ?_⟩
    · intro x25 ex25
      have r_x25 : (0 : Int32) ≤ x25 ∧ x25 ≤ (900 : Int32) := by rw [ex25]; exact nu 25 rfl hI o_v0
      have q_x25 : x25 = x18 := ex25.trans d_x18.symm
      have d_x25 := ex25
      intro S26 eS26
      have hIn : IV S26 := by rw [eS26]; exact iv11_sI hI o_v0 (by decide) (nu_free (by decide))
      have hG := rg_11 eS26 hI o_v0 hG
      have hI := hIn
      have f0 := fr_I eS26 g0 f0 o_v0 (by decide)
      have d_x7 := rd_Ij eS26 (by decide) d_x7
      have d_kv5 := rd_Ij eS26 (by decide) d_kv5
      have d_x25 := rd_Ij eS26 (by decide) d_x25
      have d_kv23 := rd_Ij eS26 (by decide) d_kv23
      obtain ⟨kv27, hkv27⟩ : ∃ z : Int32, z = x25 := ⟨_, rfl⟩
      have d_kv27 := rd_Is eS26 hkv27
      have g0 := gr_I eS26 g0
      have o_v0 := ob_I eS26 o_v0
      intro S28 eS28
      have hIn : IV S28 := by rw [eS28]; exact iv11_sI hI o_v0 (by decide) (nu_free (by decide))
      have hG := rg_11 eS28 hI o_v0 hG
      have hI := hIn
      have f0 := fr_I eS28 g0 f0 o_v0 (by decide)
      have d_kv5 := rd_Ij eS28 (by decide) d_kv5
      have d_x25 := rd_Ij eS28 (by decide) d_x25
      have d_kv23 := rd_Ij eS28 (by decide) d_kv23
      have d_kv27 := rd_Ij eS28 (by decide) d_kv27
      obtain ⟨kv29, hkv29⟩ : ∃ z : Int32, z = (0 : Int32) := ⟨_, rfl⟩
      have d_kv29 := rd_Is eS28 hkv29
      have g0 := gr_I eS28 g0
      have o_v0 := ob_I eS28 o_v0
      intro S30 eS30
      have hIn : IV S30 := by rw [eS30]; exact iv11_sI hI o_v0 (by decide) (nu_free (by decide))
      have hG := rg_11 eS30 hI o_v0 hG
      have hI := hIn
      have f0 := fr_I eS30 g0 f0 o_v0 (by decide)
      have d_kv5 := rd_Ij eS30 (by decide) d_kv5
      have d_x25 := rd_Ij eS30 (by decide) d_x25
      have d_kv23 := rd_Ij eS30 (by decide) d_kv23
      have d_kv27 := rd_Ij eS30 (by decide) d_kv27
      have d_kv29 := rd_Ij eS30 (by decide) d_kv29
      obtain ⟨kv31, hkv31⟩ : ∃ z : Int32, z = (0 : Int32) := ⟨_, rfl⟩
      have d_kv31 := rd_Is eS30 hkv31
      have g0 := gr_I eS30 g0
      have o_v0 := ob_I eS30 o_v0
      intro x32 ex32
      have r_x32 : (0 : Int32) ≤ x32 ∧ x32 ≤ (900 : Int32) := by rw [ex32]; exact nu 25 rfl hI o_v0
      have q_x32 : x32 = x25 := ex32.trans d_x25.symm
      have d_x32 := ex32
      refine m_X11_byteAt hI o_v0 (qr701 r_kv1 hiv2 hiv4 q_x7 c8 p_k1u9 r_x18 q_x18 r_kv23 by_x19 c24 r_x25 q_x25 hkv27 r_x32 q_x32) (fun x33 S34 hI2 g35 p_x33 => ?_)
      obtain ⟨z_S34, p_x33⟩ := p_x33
      subst z_S34
      intro _
      have by_x33 : x33 = -1 ∨ x32 < kv23 := by rw [d_kv23]; exact p_x33
      refine ⟨fun c37 => ?_, fun c37 => ?_⟩
      · refine m_X11_isLetter hI (fun x38 S39 hI2 g40 b_x38 p_x38 => ?_)
        obtain ⟨z_S39, p_x38⟩ := p_x38
        subst z_S39
        intro _ _
        have bb_x38 : x38 = 0 ∨ x38 = 1 := b_x38
        refine ⟨fun c42 => ?_, fun c42 => ?_⟩
        · refine m_X11_isDigit hI (fun x43 S44 hI2 g45 b_x43 p_x43 => ?_)
          obtain ⟨z_S44, p_x43⟩ := p_x43
          subst z_S44
          intro _ _
          have bb_x43 : x43 = 0 ∨ x43 = 1 := b_x43
          refine ⟨fun c47 => ?_, fun c47 => ?_⟩
          · refine ⟨fun c48 => ?_, fun c48 => ?_⟩
            · refine u_X11_goesOn_261 ?_
              refine ⟨o_v0, ?_⟩
              intro S49 eS49
              have hIn : IV S49 := by rw [eS49]; exact iv11_sI hI o_v0 (by decide) (nu_free (by decide))
              have hG := rg_11 eS49 hI o_v0 hG
              have hI := hIn
              have f0 := fr_I eS49 g0 f0 o_v0 (by decide)
              have d_kv5 := rd_Ij eS49 (by decide) d_kv5
              have d_x32 := rd_Ij eS49 (by decide) d_x32
              have d_kv23 := rd_Ij eS49 (by decide) d_kv23
              have d_kv27 := rd_Ij eS49 (by decide) d_kv27
              have d_kv31 := rd_Ij eS49 (by decide) d_kv31
              obtain ⟨kv50, hkv50⟩ : ∃ z : Int32, z = (4 : Int32) := ⟨_, rfl⟩
              have d_kv50 := rd_Is eS49 hkv50
              have g0 := gr_I eS49 g0
              have o_v0 := ob_I eS49 o_v0
              intro S51 eS51
              have hIn : IV S51 := by rw [eS51]; exact iv11_sI hI o_v0 (by decide) (nu_free (by decide))
              have hG := rg_11 eS51 hI o_v0 hG
              have hI := hIn
              have f0 := fr_I eS51 g0 f0 o_v0 (by decide)
              have d_kv5 := rd_Ij eS51 (by decide) d_kv5
              have d_x32 := rd_Ij eS51 (by decide) d_x32
              have d_kv23 := rd_Ij eS51 (by decide) d_kv23
              have d_kv27 := rd_Ij eS51 (by decide) d_kv27
              have d_kv50 := rd_Ij eS51 (by decide) d_kv50
              have d_x33 := rd_Is eS51 (rfl : x33 = x33)
              have g0 := gr_I eS51 g0
              have o_v0 := ob_I eS51 o_v0
              intro x52 ex52
              have r_x52 : (0 : Int32) ≤ x52 ∧ x52 ≤ (900 : Int32) := by rw [ex52]; exact nu 25 rfl hI o_v0
              have q_x52 : x52 = x32 := ex52.trans d_x32.symm
              have d_x52 := ex52
              intro x53 ex53
              intro S54 eS54
              have hIn : IV S54 := by rw [eS54]; exact iv11_sI hI o_v0 (by decide) (nu_one (lo := (0 : Int32)) (hi := (900 : Int32)) (by decide) (qr702 r_kv1 hiv2 hiv4 q_x7 c8 p_k1u9 r_x18 q_x18 r_kv23 by_x19 c24 r_x25 q_x25 hkv27 r_x32 q_x32 by_x33 c37 p_x38 bb_x38 c42 p_x43 bb_x43 c47 c48 r_x52 q_x52 ex53))
              have hG := rg_11 eS54 hI o_v0 hG
              have hI := hIn
              have f0 := fr_I eS54 g0 f0 o_v0 (by decide)
              have d_kv5 := rd_Ij eS54 (by decide) d_kv5
              have d_kv23 := rd_Ij eS54 (by decide) d_kv23
              have d_kv27 := rd_Ij eS54 (by decide) d_kv27
              have d_kv50 := rd_Ij eS54 (by decide) d_kv50
              have d_x33 := rd_Ij eS54 (by decide) d_x33
              have d_x53 := rd_Is eS54 (rfl : x53 = x53)
              have g0 := gr_I eS54 g0
              have o_v0 := ob_I eS54 o_v0
              exact hq _ hI g0 f0 ⟨hG, (by have t : kv50 = 5 → 0 < kv5 := (qr703 hiv4 hiv6 hO q_x7 c8 hkv50); rw [d_kv50, d_kv5] at t; exact t), (by have t : kv50 = 5 ∨ ¬ iv4 = 5 := (qr704 hiv4 q_x7 c8 hkv50); rw [di_9, d_kv50] at t; exact t), (by have t : iv2 ≤ x53 ∧ (kv50 = 4 → iv2 < x53 ∨ iv4 = 4) := (qr705 r_kv1 hiv2 hiv4 q_x7 c8 p_k1u9 r_x18 q_x18 r_kv23 by_x19 c24 r_x25 q_x25 hkv27 r_x32 q_x32 by_x33 c37 p_x38 bb_x38 c42 p_x43 bb_x43 c47 c48 hkv50 r_x52 q_x52 ex53); rw [di_8, di_9, d_x53, d_kv50] at t; exact t)⟩
            · refine ⟨fun c55 => ?_, fun c55 => ?_⟩
              · exact hq _ hI g0 f0 ⟨hG, (by have t : kv29 = 5 → 0 < kv5 := (qr706 hiv4 hiv6 hO q_x7 c8 hkv29); rw [d_kv29, d_kv5] at t; exact t), (by have t : kv29 = 5 ∨ ¬ iv4 = 5 := (qr707 hiv4 q_x7 c8 hkv29); rw [di_9, d_kv29] at t; exact t), (by have t : iv2 ≤ x32 ∧ (kv29 = 4 → iv2 < x32 ∨ iv4 = 4) := (qr708 r_kv1 hiv2 hiv4 q_x7 c8 p_k1u9 r_x18 q_x18 r_kv23 by_x19 c24 r_x25 q_x25 hkv27 hkv29 r_x32 q_x32 by_x33 c37 p_x38 bb_x38 c42 p_x43 bb_x43 c47 c48 c55); rw [di_8, di_9, d_x32, d_kv29] at t; exact t)⟩
              · refine u_X11_goesOn_261 ?_
                refine ⟨o_v0, ?_⟩
                intro S56 eS56
                have hIn : IV S56 := by rw [eS56]; exact iv11_sI hI o_v0 (by decide) (nu_free (by decide))
                have hG := rg_11 eS56 hI o_v0 hG
                have hI := hIn
                have f0 := fr_I eS56 g0 f0 o_v0 (by decide)
                have d_kv5 := rd_Ij eS56 (by decide) d_kv5
                have d_x32 := rd_Ij eS56 (by decide) d_x32
                have d_kv23 := rd_Ij eS56 (by decide) d_kv23
                have d_kv27 := rd_Ij eS56 (by decide) d_kv27
                have d_kv31 := rd_Ij eS56 (by decide) d_kv31
                obtain ⟨kv57, hkv57⟩ : ∃ z : Int32, z = (4 : Int32) := ⟨_, rfl⟩
                have d_kv57 := rd_Is eS56 hkv57
                have g0 := gr_I eS56 g0
                have o_v0 := ob_I eS56 o_v0
                intro S58 eS58
                have hIn : IV S58 := by rw [eS58]; exact iv11_sI hI o_v0 (by decide) (nu_free (by decide))
                have hG := rg_11 eS58 hI o_v0 hG
                have hI := hIn
                have f0 := fr_I eS58 g0 f0 o_v0 (by decide)
                have d_kv5 := rd_Ij eS58 (by decide) d_kv5
                have d_x32 := rd_Ij eS58 (by decide) d_x32
                have d_kv23 := rd_Ij eS58 (by decide) d_kv23
                have d_kv27 := rd_Ij eS58 (by decide) d_kv27
                have d_kv57 := rd_Ij eS58 (by decide) d_kv57
                have d_x33 := rd_Is eS58 (rfl : x33 = x33)
                have g0 := gr_I eS58 g0
                have o_v0 := ob_I eS58 o_v0
                intro x59 ex59
                have r_x59 : (0 : Int32) ≤ x59 ∧ x59 ≤ (900 : Int32) := by rw [ex59]; exact nu 25 rfl hI o_v0
                have q_x59 : x59 = x32 := ex59.trans d_x32.symm
                have d_x59 := ex59
                intro x60 ex60
                intro S61 eS61
                have hIn : IV S61 := by rw [eS61]; exact iv11_sI hI o_v0 (by decide) (nu_one (lo := (0 : Int32)) (hi := (900 : Int32)) (by decide) (qr709 r_kv1 hiv2 hiv4 q_x7 c8 p_k1u9 r_x18 q_x18 r_kv23 by_x19 c24 r_x25 q_x25 hkv27 r_x32 q_x32 by_x33 c37 p_x38 bb_x38 c42 p_x43 bb_x43 c47 c48 c55 r_x59 q_x59 ex60))
                have hG := rg_11 eS61 hI o_v0 hG
                have hI := hIn
                have f0 := fr_I eS61 g0 f0 o_v0 (by decide)
                have d_kv5 := rd_Ij eS61 (by decide) d_kv5
                have d_kv23 := rd_Ij eS61 (by decide) d_kv23
                have d_kv27 := rd_Ij eS61 (by decide) d_kv27
                have d_kv57 := rd_Ij eS61 (by decide) d_kv57
                have d_x33 := rd_Ij eS61 (by decide) d_x33
                have d_x60 := rd_Is eS61 (rfl : x60 = x60)
                have g0 := gr_I eS61 g0
                have o_v0 := ob_I eS61 o_v0
                exact hq _ hI g0 f0 ⟨hG, (by have t : kv57 = 5 → 0 < kv5 := (qr703 hiv4 hiv6 hO q_x7 c8 hkv57); rw [d_kv57, d_kv5] at t; exact t), (by have t : kv57 = 5 ∨ ¬ iv4 = 5 := (qr704 hiv4 q_x7 c8 hkv57); rw [di_9, d_kv57] at t; exact t), (by have t : iv2 ≤ x60 ∧ (kv57 = 4 → iv2 < x60 ∨ iv4 = 4) := (qr710 r_kv1 hiv2 hiv4 q_x7 c8 p_k1u9 r_x18 q_x18 r_kv23 by_x19 c24 r_x25 q_x25 hkv27 r_x32 q_x32 by_x33 c37 p_x38 bb_x38 c42 p_x43 bb_x43 c47 c48 c55 hkv57 r_x59 q_x59 ex60); rw [di_8, di_9, d_x60, d_kv57] at t; exact t)⟩
          · intro S62 eS62
            have hIn : IV S62 := by rw [eS62]; exact iv11_sI hI o_v0 (by decide) (nu_free (by decide))
            have hG := rg_11 eS62 hI o_v0 hG
            have hI := hIn
            have f0 := fr_I eS62 g0 f0 o_v0 (by decide)
            have d_kv5 := rd_Ij eS62 (by decide) d_kv5
            have d_x32 := rd_Ij eS62 (by decide) d_x32
            have d_kv23 := rd_Ij eS62 (by decide) d_kv23
            have d_kv27 := rd_Ij eS62 (by decide) d_kv27
            have d_kv29 := rd_Ij eS62 (by decide) d_kv29
            have d_kv31 := rd_Ij eS62 (by decide) d_kv31
            obtain ⟨kv63, hkv63⟩ : ∃ z : Int32, z = (0 : Int32) := ⟨_, rfl⟩
            have d_kv63 := rd_Is eS62 hkv63
            have g0 := gr_I eS62 g0
            have o_v0 := ob_I eS62 o_v0
            refine i_X11_goesOn_178 (fun (y0 : Nat) (y2 : Int32) (Z : HS) => ((901 : Int32).toInt - (fI Z v0 8).toInt).toNat) (fun (y0 : Nat) (y2 : Int32) (Z : HS) => (IV Z) ∧ (Gr S62 Z) ∧ (FRI [(11, 8), (11, 12)] [] S62 Z) ∧ (v0 = y0) ∧ (RG Z v0) ∧ (iv2 ≤ fI Z v0 8)) ?_ _ _ _ ⟨hI, (gr_rf _), (fri_rf _ _ _), rfl, hG, (by rw [← d_x32]; exact (qr711 r_kv1 hiv2 hiv4 q_x7 c8 p_k1u9 r_x18 q_x18 r_kv23 by_x19 c24 r_x25 q_x25 hkv27 r_x32 q_x32 by_x33 c37 p_x38 bb_x38 c42 p_x43 bb_x43 c47))⟩
            intro w68 w70 S65 X71 ⟨hI, gL66, fL67, q69, hG, k1u64⟩ ih72
            subst q69
            have d_kv5 := d_kv5.trans (fri_at fL67 (by decide) (by decide) o_v0).symm
            have d_kv23 := d_kv23.trans (fri_at fL67 (by decide) (by decide) o_v0).symm
            have d_kv27 := d_kv27.trans (fri_at fL67 (by decide) (by decide) o_v0).symm
            have d_kv29 := d_kv29.trans (fri_at fL67 (by decide) (by decide) o_v0).symm
            have d_kv31 := d_kv31.trans (fri_at fL67 (by decide) (by decide) o_v0).symm
            have f0 := fri_tr (S := S62) g0 f0 fL67 (by decide) (by decide)
            have o_v0 := gr_ob gL66 o_v0
            have g0 := gr_tr (T := S62) g0 gL66
            obtain ⟨kv73, d_kv73⟩ : ∃ z : Int32, z = fI S65 v0 8 := ⟨_, rfl⟩
            have p_k1u64 : iv2 ≤ kv73 := by rw [d_kv73]; exact k1u64
            have d0_kv73 := d_kv73
            refine u_X11_goesOn_178 ?_
            refine ⟨o_v0, ?_⟩
            intro x74 ex74
            have r_x74 : (0 : Int32) ≤ x74 ∧ x74 ≤ (900 : Int32) := by rw [ex74]; exact nu 25 rfl hI o_v0
            have q_x74 : x74 = kv73 := ex74.trans d_kv73.symm
            have d_x74 := ex74
            refine m_X11_byteAt hI o_v0 (qr712 r_kv1 hiv2 hiv4 q_x7 c8 p_k1u9 r_x18 q_x18 r_kv23 by_x19 c24 r_x25 q_x25 hkv27 r_x32 q_x32 by_x33 c37 p_x38 bb_x38 c42 p_x43 bb_x43 c47 p_k1u64 r_x74 q_x74) (fun x75 S76 hI2 g77 p_x75 => ?_)
            obtain ⟨z_S76, p_x75⟩ := p_x75
            subst z_S76
            intro _
            have by_x75 : x75 = -1 ∨ x74 < kv23 := by rw [d_kv23]; exact p_x75
            refine m_X11_isDigit hI (fun x79 S80 hI2 g81 b_x79 p_x79 => ?_)
            obtain ⟨z_S80, p_x79⟩ := p_x79
            subst z_S80
            intro _ _
            have bb_x79 : x79 = 0 ∨ x79 = 1 := b_x79
            refine ⟨fun c83 => ?_, fun c83 => ?_⟩
            · refine ⟨fun c84 => ?_, fun c84 => ?_⟩
              · exact hq _ hI g0 f0 ⟨hG, (by have t : kv29 = 5 → 0 < kv5 := (qr713 hiv4 hiv6 hO q_x7 c8 hkv29 c84); rw [d_kv29, d_kv5] at t; exact t), (by have t : kv29 = 5 ∨ ¬ iv4 = 5 := (qr714 hiv4 q_x7 c8 hkv29 c84); rw [di_9, d_kv29] at t; exact t), (by have t : iv2 ≤ x74 ∧ (kv29 = 4 → iv2 < x74 ∨ iv4 = 4) := (qr715 r_kv1 hiv2 hiv4 q_x7 c8 p_k1u9 r_x18 q_x18 r_kv23 by_x19 c24 r_x25 q_x25 hkv27 hkv29 r_x32 q_x32 by_x33 c37 p_x38 bb_x38 c42 p_x43 bb_x43 c47 p_k1u64 r_x74 q_x74 by_x75 p_x79 bb_x79 c83 c84); rw [di_8, di_9, d_x74, d_kv29] at t; exact t)⟩
              · intro S85 eS85
                have hIn : IV S85 := by rw [eS85]; exact iv11_sI hI o_v0 (by decide) (nu_free (by decide))
                have hG := rg_11 eS85 hI o_v0 hG
                have hI := hIn
                have f0 := fr_I eS85 g0 f0 o_v0 (by decide)
                have d_kv5 := rd_Ij eS85 (by decide) d_kv5
                have d_kv23 := rd_Ij eS85 (by decide) d_kv23
                have d_kv27 := rd_Ij eS85 (by decide) d_kv27
                have d_kv31 := rd_Ij eS85 (by decide) d_kv31
                have d_x74 := rd_Ij eS85 (by decide) d_x74
                obtain ⟨kv86, hkv86⟩ : ∃ z : Int32, z = (3 : Int32) := ⟨_, rfl⟩
                have d_kv86 := rd_Is eS85 hkv86
                have g0 := gr_I eS85 g0
                have o_v0 := ob_I eS85 o_v0
                exact hq _ hI g0 f0 ⟨hG, (by have t : kv86 = 5 → 0 < kv5 := (qr716 hiv4 hiv6 hO q_x7 c8 c84 hkv86); rw [d_kv86, d_kv5] at t; exact t), (by have t : kv86 = 5 ∨ ¬ iv4 = 5 := (qr717 hiv4 q_x7 c8 c84 hkv86); rw [di_9, d_kv86] at t; exact t), (by have t : iv2 ≤ x74 ∧ (kv86 = 4 → iv2 < x74 ∨ iv4 = 4) := (qr718 r_kv1 hiv2 hiv4 q_x7 c8 p_k1u9 r_x18 q_x18 r_kv23 by_x19 c24 r_x25 q_x25 hkv27 r_x32 q_x32 by_x33 c37 p_x38 bb_x38 c42 p_x43 bb_x43 c47 p_k1u64 r_x74 q_x74 by_x75 p_x79 bb_x79 c83 c84 hkv86); rw [di_8, di_9, d_x74, d_kv86] at t; exact t)⟩
            · refine ⟨fun c87 => ?_, fun c87 => ?_⟩
              · refine u_X11_goesOn_220 ?_
                intro x88 ex88
                refine ⟨o_v0, ?_⟩
                intro x89 ex89
                have r_x89 : (0 : Int32) ≤ x89 ∧ x89 ≤ (900 : Int32) := by rw [ex89]; exact nu 25 rfl hI o_v0
                have q_x89 : x89 = x74 := ex89.trans d_x74.symm
                have d_x89 := ex89
                intro x90 ex90
                intro S91 eS91
                have hIn : IV S91 := by rw [eS91]; exact iv11_sI hI o_v0 (by decide) (nu_one (lo := (0 : Int32)) (hi := (900 : Int32)) (by decide) (qr719 r_kv1 hiv2 hiv4 q_x7 c8 p_k1u9 r_x18 q_x18 r_kv23 by_x19 c24 r_x25 q_x25 hkv27 r_x32 q_x32 by_x33 c37 p_x38 bb_x38 c42 p_x43 bb_x43 c47 p_k1u64 r_x74 q_x74 by_x75 p_x79 bb_x79 c83 c87 ex88 r_x89 q_x89 ex90))
                have hG := rg_11 eS91 hI o_v0 hG
                have hI := hIn
                have f0 := fr_I eS91 g0 f0 o_v0 (by decide)
                have fL67 := fr_I eS91 gL66 fL67 o_v0 (by decide)
                have d_kv5 := rd_Ij eS91 (by decide) d_kv5
                have d_kv23 := rd_Ij eS91 (by decide) d_kv23
                have d_kv27 := rd_Ij eS91 (by decide) d_kv27
                have d_kv29 := rd_Ij eS91 (by decide) d_kv29
                have d_kv31 := rd_Ij eS91 (by decide) d_kv31
                have d_x90 := rd_Is eS91 (rfl : x90 = x90)
                have g0 := gr_I eS91 g0
                have gL66 := gr_I eS91 gL66
                have o_v0 := ob_I eS91 o_v0
                exact ih72 _ _ _ ⟨hI, gL66, fL67, rfl, hG, (by rw [← d_x90]; exact (qr720 r_kv1 hiv2 hiv4 q_x7 c8 p_k1u9 r_x18 q_x18 r_kv23 by_x19 c24 r_x25 q_x25 hkv27 r_x32 q_x32 by_x33 c37 p_x38 bb_x38 c42 p_x43 bb_x43 c47 p_k1u64 r_x74 q_x74 by_x75 p_x79 bb_x79 c83 c87 ex88 r_x89 q_x89 ex90))⟩ (by rw [← d0_kv73, ← d_x90]; exact mu_up (qr721 r_kv1 hiv2 hiv4 q_x7 c8 p_k1u9 r_x18 q_x18 r_kv23 by_x19 c24 r_x25 q_x25 hkv27 r_x32 q_x32 by_x33 c37 p_x38 bb_x38 c42 p_x43 bb_x43 c47 p_k1u64 r_x74 q_x74 by_x75 p_x79 bb_x79 c83 c87 ex88 r_x89 q_x89 ex90) (qr722 r_kv1 hiv2 hiv4 q_x7 c8 p_k1u9 r_x18 q_x18 r_kv23 by_x19 c24 r_x25 q_x25 hkv27 r_x32 q_x32 by_x33 c37 p_x38 bb_x38 c42 p_x43 bb_x43 c47 p_k1u64 r_x74 q_x74 by_x75 p_x79 bb_x79 c83 c87 ex88 r_x89 q_x89 ex90))
              · intro x92 ex92
                have d_x92 := ex92
                intro x93 ex93
                have r_x93 : (0 : Int32) ≤ x93 ∧ x93 ≤ (900 : Int32) := by rw [ex93]; exact nu 25 rfl hI o_v0
                have q_x93 : x93 = x74 := ex93.trans d_x74.symm
                have d_x93 := ex93
                refine m_X11_byteAt hI o_v0 (qr723 r_kv1 hiv2 hiv4 q_x7 c8 p_k1u9 r_x18 q_x18 r_kv23 by_x19 c24 r_x25 q_x25 hkv27 r_x32 q_x32 by_x33 c37 p_x38 bb_x38 c42 p_x43 bb_x43 c47 p_k1u64 r_x74 q_x74 by_x75 p_x79 bb_x79 c83 c87 r_x93 q_x93) (fun x94 S95 hI2 g96 p_x94 => ?_)
                obtain ⟨z_S95, p_x94⟩ := p_x94
                subst z_S95
                intro _
                have by_x94 : x94 = -1 ∨ x93 < kv23 := by rw [d_kv23]; exact p_x94
                intro x98 ex98
                intro S99 eS99
                have hIn : IV S99 := by rw [eS99]; exact iv11_sI hI o_v0 (by decide) (nu_free (by decide))
                have hG := rg_11 eS99 hI o_v0 hG
                have hI := hIn
                have f0 := fr_I eS99 g0 f0 o_v0 (by decide)
                have fL67 := fr_I eS99 gL66 fL67 o_v0 (by decide)
                have d_kv5 := rd_Ij eS99 (by decide) d_kv5
                have d_kv23 := rd_Ij eS99 (by decide) d_kv23
                have d_kv27 := rd_Ij eS99 (by decide) d_kv27
                have d_kv29 := rd_Ij eS99 (by decide) d_kv29
                have d_kv31 := rd_Ij eS99 (by decide) d_kv31
                have d_x93 := rd_Ij eS99 (by decide) d_x93
                have d_x98 := rd_Is eS99 (rfl : x98 = x98)
                have g0 := gr_I eS99 g0
                have gL66 := gr_I eS99 gL66
                have o_v0 := ob_I eS99 o_v0
                refine u_X11_goesOn_220 ?_
                intro x100 ex100
                refine ⟨o_v0, ?_⟩
                intro x101 ex101
                have r_x101 : (0 : Int32) ≤ x101 ∧ x101 ≤ (900 : Int32) := by rw [ex101]; exact nu 25 rfl hI o_v0
                have q_x101 : x101 = x93 := ex101.trans d_x93.symm
                have d_x101 := ex101
                intro x102 ex102
                intro S103 eS103
                have hIn : IV S103 := by rw [eS103]; exact iv11_sI hI o_v0 (by decide) (nu_one (lo := (0 : Int32)) (hi := (900 : Int32)) (by decide) (qr724 r_kv1 hiv2 hiv4 q_x7 c8 p_k1u9 r_x18 q_x18 r_kv23 by_x19 c24 r_x25 q_x25 hkv27 r_x32 q_x32 by_x33 c37 p_x38 bb_x38 c42 p_x43 bb_x43 c47 p_k1u64 r_x74 q_x74 by_x75 p_x79 bb_x79 c83 c87 r_x93 q_x93 by_x94 ex98 ex100 r_x101 q_x101 ex102))
                have hG := rg_11 eS103 hI o_v0 hG
                have hI := hIn
                have f0 := fr_I eS103 g0 f0 o_v0 (by decide)
                have fL67 := fr_I eS103 gL66 fL67 o_v0 (by decide)
                have d_kv5 := rd_Ij eS103 (by decide) d_kv5
                have d_kv23 := rd_Ij eS103 (by decide) d_kv23
                have d_kv27 := rd_Ij eS103 (by decide) d_kv27
                have d_kv29 := rd_Ij eS103 (by decide) d_kv29
                have d_kv31 := rd_Ij eS103 (by decide) d_kv31
                have d_x98 := rd_Ij eS103 (by decide) d_x98
                have d_x102 := rd_Is eS103 (rfl : x102 = x102)
                have g0 := gr_I eS103 g0
                have gL66 := gr_I eS103 gL66
                have o_v0 := ob_I eS103 o_v0
                exact ih72 _ _ _ ⟨hI, gL66, fL67, rfl, hG, (by rw [← d_x102]; exact (qr725 r_kv1 hiv2 hiv4 q_x7 c8 p_k1u9 r_x18 q_x18 r_kv23 by_x19 c24 r_x25 q_x25 hkv27 r_x32 q_x32 by_x33 c37 p_x38 bb_x38 c42 p_x43 bb_x43 c47 p_k1u64 r_x74 q_x74 by_x75 p_x79 bb_x79 c83 c87 r_x93 q_x93 by_x94 ex98 ex100 r_x101 q_x101 ex102))⟩ (by rw [← d0_kv73, ← d_x102]; exact mu_up (qr726 r_kv1 hiv2 hiv4 q_x7 c8 p_k1u9 r_x18 q_x18 r_kv23 by_x19 c24 r_x25 q_x25 hkv27 r_x32 q_x32 by_x33 c37 p_x38 bb_x38 c42 p_x43 bb_x43 c47 p_k1u64 r_x74 q_x74 by_x75 p_x79 bb_x79 c83 c87 r_x93 q_x93 by_x94 ex98 ex100 r_x101 q_x101 ex102) (qr727 r_kv1 hiv2 hiv4 q_x7 c8 p_k1u9 r_x18 q_x18 r_kv23 by_x19 c24 r_x25 q_x25 hkv27 r_x32 q_x32 by_x33 c37 p_x38 bb_x38 c42 p_x43 bb_x43 c47 p_k1u64 r_x74 q_x74 by_x75 p_x79 bb_x79 c83 c87 r_x93 q_x93 by_x94 ex98 ex100 r_x101 q_x101 ex102))
        · intro S104 eS104
          have hIn : IV S104 := by rw [eS104]; exact iv11_sJ hI o_v0
          have hG := rg_J eS104 hG
          have hI := hIn
          have f0 := fr_J eS104 f0
          have d_kv5 := rd_J eS104 d_kv5
          have d_x32 := rd_J eS104 d_x32
          have d_kv23 := rd_J eS104 d_kv23
          have d_kv27 := rd_J eS104 d_kv27
          have d_kv29 := rd_J eS104 d_kv29
          have d_kv31 := rd_J eS104 d_kv31
          have g0 := gr_J eS104 g0
          have o_v0 := ob_J eS104 o_v0
          refine i_X11_goesOn_89 (fun (y0 : Nat) (y2 : Int32) (Z : HS) => ((901 : Int32).toInt - (fI Z v0 8).toInt).toNat) (fun (y0 : Nat) (y2 : Int32) (Z : HS) => (IV Z) ∧ (Gr S104 Z) ∧ (FRI [(11, 8)] [] S104 Z) ∧ (v0 = y0) ∧ (RG Z v0) ∧ (iv2 ≤ fI Z v0 8)) ?_ _ _ _ ⟨hI, (gr_rf _), (fri_rf _ _ _), rfl, hG, (by rw [← d_x32]; exact (qr728 r_kv1 hiv2 hiv4 q_x7 c8 p_k1u9 r_x18 q_x18 r_kv23 by_x19 c24 r_x25 q_x25 hkv27 r_x32 q_x32 by_x33 c37 p_x38 bb_x38 c42))⟩
          intro w109 w111 S106 X112 ⟨hI, gL107, fL108, q110, hG, k1u105⟩ ih113
          subst q110
          have d_kv5 := d_kv5.trans (fri_at fL108 (by decide) (by decide) o_v0).symm
          have d_kv23 := d_kv23.trans (fri_at fL108 (by decide) (by decide) o_v0).symm
          have d_kv27 := d_kv27.trans (fri_at fL108 (by decide) (by decide) o_v0).symm
          have d_kv29 := d_kv29.trans (fri_at fL108 (by decide) (by decide) o_v0).symm
          have d_kv31 := d_kv31.trans (fri_at fL108 (by decide) (by decide) o_v0).symm
          have f0 := fri_tr (S := S104) g0 f0 fL108 (by decide) (by decide)
          have o_v0 := gr_ob gL107 o_v0
          have g0 := gr_tr (T := S104) g0 gL107
          obtain ⟨kv114, d_kv114⟩ : ∃ z : Int32, z = fI S106 v0 8 := ⟨_, rfl⟩
          have p_k1u105 : iv2 ≤ kv114 := by rw [d_kv114]; exact k1u105
          have d0_kv114 := d_kv114
          refine u_X11_goesOn_89 ?_
          refine ⟨o_v0, ?_⟩
          intro x115 ex115
          have r_x115 : (0 : Int32) ≤ x115 ∧ x115 ≤ (900 : Int32) := by rw [ex115]; exact nu 25 rfl hI o_v0
          have q_x115 : x115 = kv114 := ex115.trans d_kv114.symm
          have d_x115 := ex115
          refine m_X11_byteAt hI o_v0 (qr729 r_kv1 hiv2 hiv4 q_x7 c8 p_k1u9 r_x18 q_x18 r_kv23 by_x19 c24 r_x25 q_x25 hkv27 r_x32 q_x32 by_x33 c37 p_x38 bb_x38 c42 p_k1u105 r_x115 q_x115) (fun x116 S117 hI2 g118 p_x116 => ?_)
          obtain ⟨z_S117, p_x116⟩ := p_x116
          subst z_S117
          intro _
          have by_x116 : x116 = -1 ∨ x115 < kv23 := by rw [d_kv23]; exact p_x116
          refine m_X11_isLetter hI (fun x120 S121 hI2 g122 b_x120 p_x120 => ?_)
          obtain ⟨z_S121, p_x120⟩ := p_x120
          subst z_S121
          intro _ _
          have bb_x120 : x120 = 0 ∨ x120 = 1 := b_x120
          refine ⟨fun c124 => ?_, fun c124 => ?_⟩
          · refine ⟨fun c125 => ?_, fun c125 => ?_⟩
            · exact hq _ hI g0 f0 ⟨hG, (by have t : kv29 = 5 → 0 < kv5 := (qr730 hiv4 hiv6 hO q_x7 c8 hkv29 c125); rw [d_kv29, d_kv5] at t; exact t), (by have t : kv29 = 5 ∨ ¬ iv4 = 5 := (qr731 hiv4 q_x7 c8 hkv29 c125); rw [di_9, d_kv29] at t; exact t), (by have t : iv2 ≤ x115 ∧ (kv29 = 4 → iv2 < x115 ∨ iv4 = 4) := (qr732 r_kv1 hiv2 hiv4 q_x7 c8 p_k1u9 r_x18 q_x18 r_kv23 by_x19 c24 r_x25 q_x25 hkv27 hkv29 r_x32 q_x32 by_x33 c37 p_x38 bb_x38 c42 p_k1u105 r_x115 q_x115 by_x116 p_x120 bb_x120 c124 c125); rw [di_8, di_9, d_x115, d_kv29] at t; exact t)⟩
            · intro S126 eS126
              have hIn : IV S126 := by rw [eS126]; exact iv11_sI hI o_v0 (by decide) (nu_free (by decide))
              have hG := rg_11 eS126 hI o_v0 hG
              have hI := hIn
              have f0 := fr_I eS126 g0 f0 o_v0 (by decide)
              have d_kv5 := rd_Ij eS126 (by decide) d_kv5
              have d_kv23 := rd_Ij eS126 (by decide) d_kv23
              have d_kv27 := rd_Ij eS126 (by decide) d_kv27
              have d_kv31 := rd_Ij eS126 (by decide) d_kv31
              have d_x115 := rd_Ij eS126 (by decide) d_x115
              obtain ⟨kv127, hkv127⟩ : ∃ z : Int32, z = (2 : Int32) := ⟨_, rfl⟩
              have d_kv127 := rd_Is eS126 hkv127
              have g0 := gr_I eS126 g0
              have o_v0 := ob_I eS126 o_v0
              exact hq _ hI g0 f0 ⟨hG, (by have t : kv127 = 5 → 0 < kv5 := (qr733 hiv4 hiv6 hO q_x7 c8 c125 hkv127); rw [d_kv127, d_kv5] at t; exact t), (by have t : kv127 = 5 ∨ ¬ iv4 = 5 := (qr734 hiv4 q_x7 c8 c125 hkv127); rw [di_9, d_kv127] at t; exact t), (by have t : iv2 ≤ x115 ∧ (kv127 = 4 → iv2 < x115 ∨ iv4 = 4) := (qr735 r_kv1 hiv2 hiv4 q_x7 c8 p_k1u9 r_x18 q_x18 r_kv23 by_x19 c24 r_x25 q_x25 hkv27 r_x32 q_x32 by_x33 c37 p_x38 bb_x38 c42 p_k1u105 r_x115 q_x115 by_x116 p_x120 bb_x120 c124 c125 hkv127); rw [di_8, di_9, d_x115, d_kv127] at t; exact t)⟩
          · refine ⟨fun c128 => ?_, fun c128 => ?_⟩
            · refine u_X11_goesOn_136 ?_
              intro x129 ex129
              refine ⟨o_v0, ?_⟩
              intro x130 ex130
              have r_x130 : (0 : Int32) ≤ x130 ∧ x130 ≤ (900 : Int32) := by rw [ex130]; exact nu 25 rfl hI o_v0
              have q_x130 : x130 = x115 := ex130.trans d_x115.symm
              have d_x130 := ex130
              intro x131 ex131
              intro S132 eS132
              have hIn : IV S132 := by rw [eS132]; exact iv11_sI hI o_v0 (by decide) (nu_one (lo := (0 : Int32)) (hi := (900 : Int32)) (by decide) (qr736 r_kv1 hiv2 hiv4 q_x7 c8 p_k1u9 r_x18 q_x18 r_kv23 by_x19 c24 r_x25 q_x25 hkv27 r_x32 q_x32 by_x33 c37 p_x38 bb_x38 c42 p_k1u105 r_x115 q_x115 by_x116 p_x120 bb_x120 c124 c128 ex129 r_x130 q_x130 ex131))
              have hG := rg_11 eS132 hI o_v0 hG
              have hI := hIn
              have f0 := fr_I eS132 g0 f0 o_v0 (by decide)
              have fL108 := fr_I eS132 gL107 fL108 o_v0 (by decide)
              have d_kv5 := rd_Ij eS132 (by decide) d_kv5
              have d_kv23 := rd_Ij eS132 (by decide) d_kv23
              have d_kv27 := rd_Ij eS132 (by decide) d_kv27
              have d_kv29 := rd_Ij eS132 (by decide) d_kv29
              have d_kv31 := rd_Ij eS132 (by decide) d_kv31
              have d_x131 := rd_Is eS132 (rfl : x131 = x131)
              have g0 := gr_I eS132 g0
              have gL107 := gr_I eS132 gL107
              have o_v0 := ob_I eS132 o_v0
              exact ih113 _ _ _ ⟨hI, gL107, fL108, rfl, hG, (by rw [← d_x131]; exact (qr737 r_kv1 hiv2 hiv4 q_x7 c8 p_k1u9 r_x18 q_x18 r_kv23 by_x19 c24 r_x25 q_x25 hkv27 r_x32 q_x32 by_x33 c37 p_x38 bb_x38 c42 p_k1u105 r_x115 q_x115 by_x116 p_x120 bb_x120 c124 c128 ex129 r_x130 q_x130 ex131))⟩ (by rw [← d0_kv114, ← d_x131]; exact mu_up (qr738 r_kv1 hiv2 hiv4 q_x7 c8 p_k1u9 r_x18 q_x18 r_kv23 by_x19 c24 r_x25 q_x25 hkv27 r_x32 q_x32 by_x33 c37 p_x38 bb_x38 c42 p_k1u105 r_x115 q_x115 by_x116 p_x120 bb_x120 c124 c128 ex129 r_x130 q_x130 ex131) (qr739 r_kv1 hiv2 hiv4 q_x7 c8 p_k1u9 r_x18 q_x18 r_kv23 by_x19 c24 r_x25 q_x25 hkv27 r_x32 q_x32 by_x33 c37 p_x38 bb_x38 c42 p_k1u105 r_x115 q_x115 by_x116 p_x120 bb_x120 c124 c128 ex129 r_x130 q_x130 ex131))
            · intro x133 ex133
              have dj_x133 := ex133
              intro x134 ex134
              have r_x134 : (0 : Int32) ≤ x134 ∧ x134 ≤ (900 : Int32) := by rw [ex134]; exact nu 25 rfl hI o_v0
              have q_x134 : x134 = x115 := ex134.trans d_x115.symm
              have d_x134 := ex134
              refine m_X11_byteAt hI o_v0 (qr740 r_kv1 hiv2 hiv4 q_x7 c8 p_k1u9 r_x18 q_x18 r_kv23 by_x19 c24 r_x25 q_x25 hkv27 r_x32 q_x32 by_x33 c37 p_x38 bb_x38 c42 p_k1u105 r_x115 q_x115 by_x116 p_x120 bb_x120 c124 c128 r_x134 q_x134) (fun x135 S136 hI2 g137 p_x135 => ?_)
              obtain ⟨z_S136, p_x135⟩ := p_x135
              subst z_S136
              intro _
              have by_x135 : x135 = -1 ∨ x134 < kv23 := by rw [d_kv23]; exact p_x135
              intro x139 ex139
              intro S140 eS140
              have hIn : IV S140 := by rw [eS140]; exact iv11_sJ hI o_v0
              have hG := rg_J eS140 hG
              have hI := hIn
              have f0 := fr_J eS140 f0
              have fL108 := fr_J eS140 fL108
              have d_kv5 := rd_J eS140 d_kv5
              have d_kv23 := rd_J eS140 d_kv23
              have d_kv27 := rd_J eS140 d_kv27
              have d_kv29 := rd_J eS140 d_kv29
              have d_kv31 := rd_J eS140 d_kv31
              have d_x134 := rd_J eS140 d_x134
              have g0 := gr_J eS140 g0
              have gL107 := gr_J eS140 gL107
              have o_v0 := ob_J eS140 o_v0
              refine u_X11_goesOn_136 ?_
              intro x141 ex141
              refine ⟨o_v0, ?_⟩
              intro x142 ex142
              have r_x142 : (0 : Int32) ≤ x142 ∧ x142 ≤ (900 : Int32) := by rw [ex142]; exact nu 25 rfl hI o_v0
              have q_x142 : x142 = x134 := ex142.trans d_x134.symm
              have d_x142 := ex142
              intro x143 ex143
              intro S144 eS144
              have hIn : IV S144 := by rw [eS144]; exact iv11_sI hI o_v0 (by decide) (nu_one (lo := (0 : Int32)) (hi := (900 : Int32)) (by decide) (qr741 r_kv1 hiv2 hiv4 q_x7 c8 p_k1u9 r_x18 q_x18 r_kv23 by_x19 c24 r_x25 q_x25 hkv27 r_x32 q_x32 by_x33 c37 p_x38 bb_x38 c42 p_k1u105 r_x115 q_x115 by_x116 p_x120 bb_x120 c124 c128 r_x134 q_x134 by_x135 ex139 ex141 r_x142 q_x142 ex143))
              have hG := rg_11 eS144 hI o_v0 hG
              have hI := hIn
              have f0 := fr_I eS144 g0 f0 o_v0 (by decide)
              have fL108 := fr_I eS144 gL107 fL108 o_v0 (by decide)
              have d_kv5 := rd_Ij eS144 (by decide) d_kv5
              have d_kv23 := rd_Ij eS144 (by decide) d_kv23
              have d_kv27 := rd_Ij eS144 (by decide) d_kv27
              have d_kv29 := rd_Ij eS144 (by decide) d_kv29
              have d_kv31 := rd_Ij eS144 (by decide) d_kv31
              have d_x143 := rd_Is eS144 (rfl : x143 = x143)
              have g0 := gr_I eS144 g0
              have gL107 := gr_I eS144 gL107
              have o_v0 := ob_I eS144 o_v0
              exact ih113 _ _ _ ⟨hI, gL107, fL108, rfl, hG, (by rw [← d_x143]; exact (qr742 r_kv1 hiv2 hiv4 q_x7 c8 p_k1u9 r_x18 q_x18 r_kv23 by_x19 c24 r_x25 q_x25 hkv27 r_x32 q_x32 by_x33 c37 p_x38 bb_x38 c42 p_k1u105 r_x115 q_x115 by_x116 p_x120 bb_x120 c124 c128 r_x134 q_x134 by_x135 ex139 ex141 r_x142 q_x142 ex143))⟩ (by rw [← d0_kv114, ← d_x143]; exact mu_up (qr743 r_kv1 hiv2 hiv4 q_x7 c8 p_k1u9 r_x18 q_x18 r_kv23 by_x19 c24 r_x25 q_x25 hkv27 r_x32 q_x32 by_x33 c37 p_x38 bb_x38 c42 p_k1u105 r_x115 q_x115 by_x116 p_x120 bb_x120 c124 c128 r_x134 q_x134 by_x135 ex139 ex141 r_x142 q_x142 ex143) (qr744 r_kv1 hiv2 hiv4 q_x7 c8 p_k1u9 r_x18 q_x18 r_kv23 by_x19 c24 r_x25 q_x25 hkv27 r_x32 q_x32 by_x33 c37 p_x38 bb_x38 c42 p_k1u105 r_x115 q_x115 by_x116 p_x120 bb_x120 c124 c128 r_x134 q_x134 by_x135 ex139 ex141 r_x142 q_x142 ex143))
      · intro S145 eS145
        have hIn : IV S145 := by rw [eS145]; exact iv11_sI hI o_v0 (by decide) (nu_free (by decide))
        have hG := rg_11 eS145 hI o_v0 hG
        have hI := hIn
        have f0 := fr_I eS145 g0 f0 o_v0 (by decide)
        have d_kv5 := rd_Ij eS145 (by decide) d_kv5
        have d_x32 := rd_Ij eS145 (by decide) d_x32
        have d_kv23 := rd_Ij eS145 (by decide) d_kv23
        have d_kv27 := rd_Ij eS145 (by decide) d_kv27
        have d_kv31 := rd_Ij eS145 (by decide) d_kv31
        obtain ⟨kv146, hkv146⟩ : ∃ z : Int32, z = (1 : Int32) := ⟨_, rfl⟩
        have d_kv146 := rd_Is eS145 hkv146
        have g0 := gr_I eS145 g0
        have o_v0 := ob_I eS145 o_v0
        exact hq _ hI g0 f0 ⟨hG, (by have t : kv146 = 5 → 0 < kv5 := (qr745 hiv4 hiv6 hO q_x7 c8 hkv146); rw [d_kv146, d_kv5] at t; exact t), (by have t : kv146 = 5 ∨ ¬ iv4 = 5 := (qr746 hiv4 q_x7 c8 hkv146); rw [di_9, d_kv146] at t; exact t), (by have t : iv2 ≤ x32 ∧ (kv146 = 4 → iv2 < x32 ∨ iv4 = 4) := (qr747 r_kv1 hiv2 hiv4 q_x7 c8 p_k1u9 r_x18 q_x18 r_kv23 by_x19 c24 r_x25 q_x25 hkv27 r_x32 q_x32 by_x33 c37 hkv146); rw [di_8, di_9, d_x32, d_kv146] at t; exact t)⟩
    · intro x147 ex147
      have r_x147 : (0 : Int32) ≤ x147 ∧ x147 ≤ (900 : Int32) := by rw [ex147]; exact nu 25 rfl hI o_v0
      have q_x147 : x147 = x18 := ex147.trans d_x18.symm
      have d_x147 := ex147
      intro x148 ex148
      intro S149 eS149
      have hIn : IV S149 := by rw [eS149]; exact iv11_sI hI o_v0 (by decide) (nu_one (lo := (0 : Int32)) (hi := (900 : Int32)) (by decide) (qr748 r_kv1 hiv2 hiv4 q_x7 c8 p_k1u9 r_x18 q_x18 r_kv23 by_x19 c24 r_x147 q_x147 ex148))
      have hG := rg_11 eS149 hI o_v0 hG
      have hI := hIn
      have f0 := fr_I eS149 g0 f0 o_v0 (by decide)
      have fL12 := fr_I eS149 gL11 fL12 o_v0 (by decide)
      have d_x7 := rd_Ij eS149 (by decide) d_x7
      have d_kv5 := rd_Ij eS149 (by decide) d_kv5
      have d_kv23 := rd_Ij eS149 (by decide) d_kv23
      have d_x148 := rd_Is eS149 (rfl : x148 = x148)
      have g0 := gr_I eS149 g0
      have gL11 := gr_I eS149 gL11
      have o_v0 := ob_I eS149 o_v0
      exact ih16 _ _ ⟨hI, gL11, fL12, rfl, hG, (by rw [← d_x148]; exact (qr749 r_kv1 hiv2 hiv4 q_x7 c8 p_k1u9 r_x18 q_x18 r_kv23 by_x19 c24 r_x147 q_x147 ex148))⟩ (by rw [← d0_kv17, ← d_x148]; exact mu_up (qr750 r_kv1 hiv2 hiv4 q_x7 c8 p_k1u9 r_x18 q_x18 r_kv23 by_x19 c24 r_x147 q_x147 ex148) (qr751 r_kv1 hiv2 hiv4 q_x7 c8 p_k1u9 r_x18 q_x18 r_kv23 by_x19 c24 r_x147 q_x147 ex148))
  · exact hq _ hI g0 f0 ⟨hG, (by have t : x7 = 5 → 0 < kv5 := (qr752 hiv4 hiv6 hO q_x7 c8); rw [d_x7, d_kv5] at t; exact t), (by have t : x7 = 5 ∨ ¬ iv4 = 5 := (qr753 hiv4 q_x7 c8); rw [di_9, d_x7] at t; exact t), (by have t : iv2 ≤ kv1 ∧ (x7 = 4 → iv2 < kv1 ∨ iv4 = 4) := (qr754 r_kv1 hiv2 hiv4 q_x7 c8); rw [di_8, di_9, d_kv1, d_x7] at t; exact t)⟩
end
section
set_option maxHeartbeats 4000000 in
set_option maxRecDepth 20000 in
theorem m_X11_begins {v0 : Nat} {v1 : Int32} {v2 : Int32} {Q : HS → Prop} {S : HS} (hI : IV S) (o_v0 : ob S v0 11)    (hG : RG S v0) (hO : fI S v0 9 = 5 → 0 < fI S v0 13) (hq : ∀ (T : HS), IV T → Gr S T → FRI [(11, 8), (11, 9), (11, 10), (11, 11), (11, 12), (11, 13), (11, 14)] [] S T → (RG T v0) ∧ (fI T v0 9 = 5 → 0 < fI T v0 13) ∧ (fI T v0 9 = 5 ∨ ¬ fI S v0 9 = 5) ∧ (fI S v0 8 ≤ fI T v0 8 ∧ (fI T v0 9 = 4 → fI S v0 8 < fI T v0 8 ∨ fI S v0 9 = 4)) ∧ (fI T v0 9 = 5 ∨ ¬ v1 = v2) → Q T) : P_X11_begins v0 v1 v2 Q S := by
  have g0 := gr_rf S
  have f0 := fri_rf [(11, 8), (11, 9), (11, 10), (11, 11), (11, 12), (11, 13), (11, 14)] [] S
  obtain ⟨kv1, d_kv1⟩ : ∃ z : Int32, z = fI S v0 8 := ⟨_, rfl⟩
  have r_kv1 : (0 : Int32) ≤ kv1 ∧ kv1 ≤ (900 : Int32) := by rw [d_kv1]; exact nu 25 rfl hI o_v0
  obtain ⟨iv2, hiv2⟩ : ∃ z : Int32, z = kv1 := ⟨_, rfl⟩
  have di_8 := hiv2.trans d_kv1
  obtain ⟨kv3, d_kv3⟩ : ∃ z : Int32, z = fI S v0 9 := ⟨_, rfl⟩
  obtain ⟨iv4, hiv4⟩ : ∃ z : Int32, z = kv3 := ⟨_, rfl⟩
  have di_9 := hiv4.trans d_kv3
  obtain ⟨kv5, d_kv5⟩ : ∃ z : Int32, z = fI S v0 13 := ⟨_, rfl⟩
  obtain ⟨iv6, hiv6⟩ : ∃ z : Int32, z = kv5 := ⟨_, rfl⟩
  have di_13 := hiv6.trans d_kv5
  have hO : iv4 = 5 → 0 < iv6 := by rw [di_9, di_13]; exact hO
  refine u_X11_begins ?_
  refine u_X11_begins_0 ?_
  refine ⟨fun c7 => ?_, fun c7 => ?_⟩
  · refine u_X11_begins_10 ?_
    refine ⟨o_v0, ?_⟩
    obtain ⟨a8, ea8, o_a8, -⟩ := id hG
    refine ⟨a8, ea8, ?_⟩
    refine ⟨o_a8, ?_⟩
    intro x9 ex9
    have r_x9 : (0 : Int32) ≤ x9 ∧ x9 ≤ (60 : Int32) := by rw [ex9]; exact nu 16 rfl hI o_a8
    have d_x9 := ex9
    refine ⟨fun c10 => ?_, fun c10 => ?_⟩
    · refine u_X11_begins_26 ?_
      refine ⟨o_v0, ?_⟩
      obtain ⟨iv11, hiv11⟩ : ∃ z : Int32, z = kv5 := ⟨_, rfl⟩
      have d_iv11 := hiv11.trans d_kv5
      have do11_kv1 := d_kv1
      have do11_kv3 := d_kv3
      have do11_iv11 := d_iv11
      refine m_X11_goesOn hI o_v0 hG (by have t : kv3 = 5 → 0 < kv5 := (qr783 hiv4 hiv6 hO c7 r_x9 c10); rw [d_kv3, d_kv5] at t; exact t) (fun S13 hJ g14 fc15 p_S13 => ?_)
      obtain ⟨hG, pg0_S13, pg1_S13, pg2_S13⟩ := p_S13
      have hI := hJ
      have d_kv5 := d_kv5.trans (fri_at fc15 (by decide) (by decide) o_v0).symm
      have d_x9 := d_x9.trans (fri_at fc15 (by decide) (by decide) o_a8).symm
      have ea8 := (frr_at fc15 (by decide) (by decide) o_v0).trans ea8
      have f0 := fri_tr (S := S) g0 f0 fc15 (by decide) (by decide)
      have o_a8 := gr_ob g14 o_a8
      have o_v0 := gr_ob g14 o_v0
      have g0 := gr_tr (T := S) g0 g14
      obtain ⟨kv16, d_kv16⟩ : ∃ z : Int32, z = fI S13 v0 9 := ⟨_, rfl⟩
      have ph0_S13 : kv16 = 5 → 0 < kv5 := by rw [d_kv16, d_kv5]; exact pg0_S13
      have ph1_S13 : kv16 = 5 ∨ ¬ kv3 = 5 := by rw [do11_kv3, d_kv16]; exact pg1_S13
      obtain ⟨kv17, d_kv17⟩ : ∃ z : Int32, z = fI S13 v0 8 := ⟨_, rfl⟩
      have r_kv17 : (0 : Int32) ≤ kv17 ∧ kv17 ≤ (900 : Int32) := by rw [d_kv17]; exact nu 25 rfl hI o_v0
      have ph2_S13 : kv1 ≤ kv17 ∧ (kv16 = 4 → kv1 < kv17 ∨ kv3 = 4) := by rw [do11_kv1, do11_kv3, d_kv17, d_kv16]; exact pg2_S13
      intro _
      exact hq _ hI g0 f0 ⟨hG, (by have t : kv16 = 5 → 0 < kv5 := (qr784 hiv4 hiv6 hO c7 r_x9 c10 hiv11 ph0_S13 ph1_S13); rw [d_kv16, d_kv5] at t; exact t), (by have t : kv16 = 5 ∨ ¬ iv4 = 5 := (qr785 hiv4 c7 r_x9 c10 ph1_S13); rw [di_9, d_kv16] at t; exact t), (by have t : iv2 ≤ kv17 ∧ (kv16 = 4 → iv2 < kv17 ∨ iv4 = 4) := (qr786 r_kv1 hiv2 hiv4 c7 r_x9 c10 ph1_S13 r_kv17 ph2_S13); rw [di_8, di_9, d_kv17, d_kv16] at t; exact t), (by have t : kv16 = 5 ∨ ¬ v1 = v2 := (qr787 hiv4 c7 r_x9 c10 ph1_S13); rw [d_kv16] at t; exact t)⟩
    · obtain ⟨iv18, hiv18⟩ : ∃ z : Int32, z = kv1 := ⟨_, rfl⟩
      have d_iv18 := hiv18.trans d_kv1
      have do18_iv18 := d_iv18
      have do18_kv3 := d_kv3
      have do18_kv5 := d_kv5
      refine m_X11_flaw hI o_v0 (qr788 c7 r_x9 c10) hG (by have t : kv3 = 5 → 0 < kv5 := (qr789 hiv4 hiv6 hO c7 r_x9 c10); rw [d_kv3, d_kv5] at t; exact t) (fun S20 hJ g21 fc22 p_S20 => ?_)
      obtain ⟨hG, pg0_S20, pg1_S20, pg2_S20, pg3_S20⟩ := p_S20
      have hI := hJ
      have d_kv1 := d_kv1.trans (fri_at fc22 (by decide) (by decide) o_v0).symm
      have d_x9 := d_x9.trans (fri_at fc22 (by decide) (by decide) o_a8).symm
      have ea8 := (frr_at fc22 (by decide) (by decide) o_v0).trans ea8
      have f0 := fri_tr (S := S) g0 f0 fc22 (by decide) (by decide)
      have o_a8 := gr_ob g21 o_a8
      have o_v0 := gr_ob g21 o_v0
      have g0 := gr_tr (T := S) g0 g21
      obtain ⟨kv23, d_kv23⟩ : ∃ z : Int32, z = fI S20 v0 9 := ⟨_, rfl⟩
      obtain ⟨kv24, d_kv24⟩ : ∃ z : Int32, z = fI S20 v0 13 := ⟨_, rfl⟩
      have ph0_S20 : kv23 = 5 → 0 < kv24 := by rw [d_kv23, d_kv24]; exact pg0_S20
      have ph1_S20 : kv23 = 5 ∨ ¬ kv3 = 5 := by rw [do18_kv3, d_kv23]; exact pg1_S20
      have ph2_S20 : iv18 ≤ kv1 ∧ (kv23 = 4 → iv18 < kv1 ∨ kv3 = 4) := by rw [do18_iv18, do18_kv3, d_kv1, d_kv23]; exact pg2_S20
      have ph3_S20 : kv23 = 5 := by rw [d_kv23]; exact pg3_S20
      intro _
      refine u_X11_begins_26 ?_
      refine ⟨o_v0, ?_⟩
      obtain ⟨iv25, hiv25⟩ : ∃ z : Int32, z = kv24 := ⟨_, rfl⟩
      have d_iv25 := hiv25.trans d_kv24
      have do25_kv1 := d_kv1
      have do25_kv23 := d_kv23
      have do25_iv25 := d_iv25
      refine m_X11_goesOn hI o_v0 hG (by have t : kv23 = 5 → 0 < kv24 := (qr790 hiv4 hiv6 hO c7 r_x9 c10 ph0_S20 ph1_S20 ph3_S20); rw [d_kv23, d_kv24] at t; exact t) (fun S27 hJ g28 fc29 p_S27 => ?_)
      obtain ⟨hG, pg0_S27, pg1_S27, pg2_S27⟩ := p_S27
      have hI := hJ
      have d_x9 := d_x9.trans (fri_at fc29 (by decide) (by decide) o_a8).symm
      have d_kv24 := d_kv24.trans (fri_at fc29 (by decide) (by decide) o_v0).symm
      have ea8 := (frr_at fc29 (by decide) (by decide) o_v0).trans ea8
      have f0 := fri_tr (S := S20) g0 f0 fc29 (by decide) (by decide)
      have o_a8 := gr_ob g28 o_a8
      have o_v0 := gr_ob g28 o_v0
      have g0 := gr_tr (T := S20) g0 g28
      obtain ⟨kv30, d_kv30⟩ : ∃ z : Int32, z = fI S27 v0 9 := ⟨_, rfl⟩
      have ph0_S27 : kv30 = 5 → 0 < kv24 := by rw [d_kv30, d_kv24]; exact pg0_S27
      have ph1_S27 : kv30 = 5 ∨ ¬ kv23 = 5 := by rw [do25_kv23, d_kv30]; exact pg1_S27
      have mo31 : kv30 = 5 ∨ ¬ kv3 = 5 := ph1_S27.elim Or.inl (fun h => Or.inr (ph1_S20.resolve_left h))
      obtain ⟨kv32, d_kv32⟩ : ∃ z : Int32, z = fI S27 v0 8 := ⟨_, rfl⟩
      have r_kv32 : (0 : Int32) ≤ kv32 ∧ kv32 ≤ (900 : Int32) := by rw [d_kv32]; exact nu 25 rfl hI o_v0
      have ph2_S27 : kv1 ≤ kv32 ∧ (kv30 = 4 → kv1 < kv32 ∨ kv23 = 4) := by rw [do25_kv1, do25_kv23, d_kv32, d_kv30]; exact pg2_S27
      intro _
      exact hq _ hI g0 f0 ⟨hG, (by have t : kv30 = 5 → 0 < kv24 := (qr791 hiv4 hiv6 hO c7 r_x9 c10 ph0_S20 mo31 ph3_S20 hiv25 ph0_S27 ph1_S27); rw [d_kv30, d_kv24] at t; exact t), (by have t : kv30 = 5 ∨ ¬ iv4 = 5 := (qr792 hiv4 c7 r_x9 c10 mo31 ph3_S20 ph1_S27); rw [di_9, d_kv30] at t; exact t), (by have t : iv2 ≤ kv32 ∧ (kv30 = 4 → iv2 < kv32 ∨ iv4 = 4) := (qr793 r_kv1 hiv2 hiv4 c7 r_x9 c10 hiv18 mo31 ph2_S20 ph3_S20 ph1_S27 r_kv32 ph2_S27); rw [di_8, di_9, d_kv32, d_kv30] at t; exact t), (by have t : kv30 = 5 ∨ ¬ v1 = v2 := (qr794 hiv4 c7 r_x9 c10 mo31 ph3_S20 ph1_S27); rw [d_kv30] at t; exact t)⟩
  · refine ⟨o_v0, ?_⟩
    obtain ⟨iv33, hiv33⟩ : ∃ z : Int32, z = kv1 := ⟨_, rfl⟩
    have d_iv33 := hiv33.trans d_kv1
    have do33_iv33 := d_iv33
    have do33_kv3 := d_kv3
    have do33_kv5 := d_kv5
    refine m_X11_flaw hI o_v0 (qr795 c7) hG (by have t : kv3 = 5 → 0 < kv5 := (qr796 hiv4 hiv6 hO c7); rw [d_kv3, d_kv5] at t; exact t) (fun S35 hJ g36 fc37 p_S35 => ?_)
    obtain ⟨hG, pg0_S35, pg1_S35, pg2_S35, pg3_S35⟩ := p_S35
    have hI := hJ
    have d_kv1 := d_kv1.trans (fri_at fc37 (by decide) (by decide) o_v0).symm
    have f0 := fri_tr (S := S) g0 f0 fc37 (by decide) (by decide)
    have o_v0 := gr_ob g36 o_v0
    have g0 := gr_tr (T := S) g0 g36
    obtain ⟨kv38, d_kv38⟩ : ∃ z : Int32, z = fI S35 v0 9 := ⟨_, rfl⟩
    obtain ⟨kv39, d_kv39⟩ : ∃ z : Int32, z = fI S35 v0 13 := ⟨_, rfl⟩
    have ph0_S35 : kv38 = 5 → 0 < kv39 := by rw [d_kv38, d_kv39]; exact pg0_S35
    have ph1_S35 : kv38 = 5 ∨ ¬ kv3 = 5 := by rw [do33_kv3, d_kv38]; exact pg1_S35
    have ph2_S35 : iv33 ≤ kv1 ∧ (kv38 = 4 → iv33 < kv1 ∨ kv3 = 4) := by rw [do33_iv33, do33_kv3, d_kv1, d_kv38]; exact pg2_S35
    have ph3_S35 : kv38 = 5 := by rw [d_kv38]; exact pg3_S35
    intro _
    refine u_X11_begins_10 ?_
    refine ⟨o_v0, ?_⟩
    obtain ⟨a40, ea40, o_a40, -⟩ := id hG
    refine ⟨a40, ea40, ?_⟩
    refine ⟨o_a40, ?_⟩
    intro x41 ex41
    have r_x41 : (0 : Int32) ≤ x41 ∧ x41 ≤ (60 : Int32) := by rw [ex41]; exact nu 16 rfl hI o_a40
    have d_x41 := ex41
    refine ⟨fun c42 => ?_, fun c42 => ?_⟩
    · refine u_X11_begins_26 ?_
      refine ⟨o_v0, ?_⟩
      obtain ⟨iv43, hiv43⟩ : ∃ z : Int32, z = kv39 := ⟨_, rfl⟩
      have d_iv43 := hiv43.trans d_kv39
      have do43_kv1 := d_kv1
      have do43_kv38 := d_kv38
      have do43_iv43 := d_iv43
      refine m_X11_goesOn hI o_v0 hG (by have t : kv38 = 5 → 0 < kv39 := (qr797 hiv4 hiv6 hO c7 ph0_S35 ph1_S35 ph3_S35 r_x41 c42); rw [d_kv38, d_kv39] at t; exact t) (fun S45 hJ g46 fc47 p_S45 => ?_)
      obtain ⟨hG, pg0_S45, pg1_S45, pg2_S45⟩ := p_S45
      have hI := hJ
      have d_kv39 := d_kv39.trans (fri_at fc47 (by decide) (by decide) o_v0).symm
      have d_x41 := d_x41.trans (fri_at fc47 (by decide) (by decide) o_a40).symm
      have ea40 := (frr_at fc47 (by decide) (by decide) o_v0).trans ea40
      have f0 := fri_tr (S := S35) g0 f0 fc47 (by decide) (by decide)
      have o_a40 := gr_ob g46 o_a40
      have o_v0 := gr_ob g46 o_v0
      have g0 := gr_tr (T := S35) g0 g46
      obtain ⟨kv48, d_kv48⟩ : ∃ z : Int32, z = fI S45 v0 9 := ⟨_, rfl⟩
      have ph0_S45 : kv48 = 5 → 0 < kv39 := by rw [d_kv48, d_kv39]; exact pg0_S45
      have ph1_S45 : kv48 = 5 ∨ ¬ kv38 = 5 := by rw [do43_kv38, d_kv48]; exact pg1_S45
      have mo49 : kv48 = 5 ∨ ¬ kv3 = 5 := ph1_S45.elim Or.inl (fun h => Or.inr (ph1_S35.resolve_left h))
      obtain ⟨kv50, d_kv50⟩ : ∃ z : Int32, z = fI S45 v0 8 := ⟨_, rfl⟩
      have r_kv50 : (0 : Int32) ≤ kv50 ∧ kv50 ≤ (900 : Int32) := by rw [d_kv50]; exact nu 25 rfl hI o_v0
      have ph2_S45 : kv1 ≤ kv50 ∧ (kv48 = 4 → kv1 < kv50 ∨ kv38 = 4) := by rw [do43_kv1, do43_kv38, d_kv50, d_kv48]; exact pg2_S45
      intro _
      exact hq _ hI g0 f0 ⟨hG, (by have t : kv48 = 5 → 0 < kv39 := (qr798 hiv4 hiv6 hO c7 ph0_S35 mo49 ph3_S35 r_x41 c42 hiv43 ph0_S45 ph1_S45); rw [d_kv48, d_kv39] at t; exact t), (by have t : kv48 = 5 ∨ ¬ iv4 = 5 := (qr799 hiv4 c7 mo49 ph3_S35 r_x41 c42 ph1_S45); rw [di_9, d_kv48] at t; exact t), (by have t : iv2 ≤ kv50 ∧ (kv48 = 4 → iv2 < kv50 ∨ iv4 = 4) := (qr800 r_kv1 hiv2 hiv4 c7 hiv33 mo49 ph2_S35 ph3_S35 r_x41 c42 ph1_S45 r_kv50 ph2_S45); rw [di_8, di_9, d_kv50, d_kv48] at t; exact t), (by have t : kv48 = 5 ∨ ¬ v1 = v2 := (qr801 hiv4 c7 mo49 ph3_S35 r_x41 c42 ph1_S45); rw [d_kv48] at t; exact t)⟩
    · obtain ⟨iv51, hiv51⟩ : ∃ z : Int32, z = kv1 := ⟨_, rfl⟩
      have d_iv51 := hiv51.trans d_kv1
      have do51_iv51 := d_iv51
      have do51_kv38 := d_kv38
      have do51_kv39 := d_kv39
      refine m_X11_flaw hI o_v0 (qr802 c7 r_x41 c42) hG (by have t : kv38 = 5 → 0 < kv39 := (qr803 hiv4 hiv6 hO c7 ph0_S35 ph1_S35 ph3_S35 r_x41 c42); rw [d_kv38, d_kv39] at t; exact t) (fun S53 hJ g54 fc55 p_S53 => ?_)
      obtain ⟨hG, pg0_S53, pg1_S53, pg2_S53, pg3_S53⟩ := p_S53
      have hI := hJ
      have d_kv1 := d_kv1.trans (fri_at fc55 (by decide) (by decide) o_v0).symm
      have d_x41 := d_x41.trans (fri_at fc55 (by decide) (by decide) o_a40).symm
      have ea40 := (frr_at fc55 (by decide) (by decide) o_v0).trans ea40
      have f0 := fri_tr (S := S35) g0 f0 fc55 (by decide) (by decide)
      have o_a40 := gr_ob g54 o_a40
      have o_v0 := gr_ob g54 o_v0
      have g0 := gr_tr (T := S35) g0 g54
      obtain ⟨kv56, d_kv56⟩ : ∃ z : Int32, z = fI S53 v0 9 := ⟨_, rfl⟩
      obtain ⟨kv57, d_kv57⟩ : ∃ z : Int32, z = fI S53 v0 13 := ⟨_, rfl⟩
      have ph0_S53 : kv56 = 5 → 0 < kv57 := by rw [d_kv56, d_kv57]; exact pg0_S53
      have ph1_S53 : kv56 = 5 ∨ ¬ kv38 = 5 := by rw [do51_kv38, d_kv56]; exact pg1_S53
      have mo58 : kv56 = 5 ∨ ¬ kv3 = 5 := ph1_S53.elim Or.inl (fun h => Or.inr (ph1_S35.resolve_left h))
      have ph2_S53 : iv51 ≤ kv1 ∧ (kv56 = 4 → iv51 < kv1 ∨ kv38 = 4) := by rw [do51_iv51, do51_kv38, d_kv1, d_kv56]; exact pg2_S53
      have ph3_S53 : kv56 = 5 := by rw [d_kv56]; exact pg3_S53
      intro _
      refine u_X11_begins_26 ?_
      refine ⟨o_v0, ?_⟩
      obtain ⟨iv59, hiv59⟩ : ∃ z : Int32, z = kv57 := ⟨_, rfl⟩
      have d_iv59 := hiv59.trans d_kv57
      have do59_kv1 := d_kv1
      have do59_kv56 := d_kv56
      have do59_iv59 := d_iv59
      refine m_X11_goesOn hI o_v0 hG (by have t : kv56 = 5 → 0 < kv57 := (qr804 hiv4 hiv6 hO c7 ph0_S35 mo58 ph3_S35 r_x41 c42 ph0_S53 ph1_S53 ph3_S53); rw [d_kv56, d_kv57] at t; exact t) (fun S61 hJ g62 fc63 p_S61 => ?_)
      obtain ⟨hG, pg0_S61, pg1_S61, pg2_S61⟩ := p_S61
      have hI := hJ
      have d_x41 := d_x41.trans (fri_at fc63 (by decide) (by decide) o_a40).symm
      have d_kv57 := d_kv57.trans (fri_at fc63 (by decide) (by decide) o_v0).symm
      have ea40 := (frr_at fc63 (by decide) (by decide) o_v0).trans ea40
      have f0 := fri_tr (S := S53) g0 f0 fc63 (by decide) (by decide)
      have o_a40 := gr_ob g62 o_a40
      have o_v0 := gr_ob g62 o_v0
      have g0 := gr_tr (T := S53) g0 g62
      obtain ⟨kv64, d_kv64⟩ : ∃ z : Int32, z = fI S61 v0 9 := ⟨_, rfl⟩
      have ph0_S61 : kv64 = 5 → 0 < kv57 := by rw [d_kv64, d_kv57]; exact pg0_S61
      have ph1_S61 : kv64 = 5 ∨ ¬ kv56 = 5 := by rw [do59_kv56, d_kv64]; exact pg1_S61
      have mo65 : kv64 = 5 ∨ ¬ kv3 = 5 := ph1_S61.elim Or.inl (fun h => Or.inr (mo58.resolve_left h))
      have mo66 : kv64 = 5 ∨ ¬ kv38 = 5 := ph1_S61.elim Or.inl (fun h => Or.inr (ph1_S53.resolve_left h))
      obtain ⟨kv67, d_kv67⟩ : ∃ z : Int32, z = fI S61 v0 8 := ⟨_, rfl⟩
      have r_kv67 : (0 : Int32) ≤ kv67 ∧ kv67 ≤ (900 : Int32) := by rw [d_kv67]; exact nu 25 rfl hI o_v0
      have ph2_S61 : kv1 ≤ kv67 ∧ (kv64 = 4 → kv1 < kv67 ∨ kv56 = 4) := by rw [do59_kv1, do59_kv56, d_kv67, d_kv64]; exact pg2_S61
      intro _
      exact hq _ hI g0 f0 ⟨hG, (by have t : kv64 = 5 → 0 < kv57 := (qr805 hiv4 hiv6 hO c7 ph0_S35 mo65 ph3_S35 r_x41 c42 ph0_S53 mo66 ph3_S53 hiv59 ph0_S61 ph1_S61); rw [d_kv64, d_kv57] at t; exact t), (by have t : kv64 = 5 ∨ ¬ iv4 = 5 := (qr806 hiv4 c7 mo65 ph3_S35 r_x41 c42 mo66 ph3_S53 ph1_S61); rw [di_9, d_kv64] at t; exact t), (by have t : iv2 ≤ kv67 ∧ (kv64 = 4 → iv2 < kv67 ∨ iv4 = 4) := (qr807 r_kv1 hiv2 hiv4 c7 hiv33 mo65 ph2_S35 ph3_S35 r_x41 c42 hiv51 mo66 ph2_S53 ph3_S53 ph1_S61 r_kv67 ph2_S61); rw [di_8, di_9, d_kv67, d_kv64] at t; exact t), (by have t : kv64 = 5 ∨ ¬ v1 = v2 := (qr808 hiv4 c7 mo65 ph3_S35 r_x41 c42 mo66 ph3_S53 ph1_S61); rw [d_kv64] at t; exact t)⟩
set_option maxHeartbeats 4000000 in
set_option maxRecDepth 20000 in
theorem m_X11_eatsSign {v0 : Nat} {v1 : Int32} {Q : Int32 → HS → Prop} {S : HS} (hI : IV S) (o_v0 : ob S v0 11)    (hG : RG S v0) (hO : fI S v0 9 = 5 → 0 < fI S v0 13) (hq : ∀ (r : Int32) (T : HS), IV T → Gr S T → FRI [(11, 8), (11, 9), (11, 10), (11, 11), (11, 12)] [] S T → bl r → (RG T v0) ∧ (fI T v0 9 = 5 → 0 < fI T v0 13) ∧ (fI T v0 9 = 5 ∨ ¬ fI S v0 9 = 5) ∧ (fI S v0 8 ≤ fI T v0 8 ∧ (fI T v0 9 = 4 → fI S v0 8 < fI T v0 8 ∨ fI S v0 9 = 4)) ∧ (r = 0 ∨ fI S v0 9 = 4) → Q r T) : P_X11_eatsSign v0 v1 Q S := by
  have g0 := gr_rf S
  have f0 := fri_rf [(11, 8), (11, 9), (11, 10), (11, 11), (11, 12)] [] S
  obtain ⟨kv1, d_kv1⟩ : ∃ z : Int32, z = fI S v0 8 := ⟨_, rfl⟩
  have r_kv1 : (0 : Int32) ≤ kv1 ∧ kv1 ≤ (900 : Int32) := by rw [d_kv1]; exact nu 25 rfl hI o_v0
  obtain ⟨iv2, hiv2⟩ : ∃ z : Int32, z = kv1 := ⟨_, rfl⟩
  have di_8 := hiv2.trans d_kv1
  obtain ⟨kv3, d_kv3⟩ : ∃ z : Int32, z = fI S v0 9 := ⟨_, rfl⟩
  obtain ⟨iv4, hiv4⟩ : ∃ z : Int32, z = kv3 := ⟨_, rfl⟩
  have di_9 := hiv4.trans d_kv3
  obtain ⟨kv5, d_kv5⟩ : ∃ z : Int32, z = fI S v0 13 := ⟨_, rfl⟩
  obtain ⟨iv6, hiv6⟩ : ∃ z : Int32, z = kv5 := ⟨_, rfl⟩
  have di_13 := hiv6.trans d_kv5
  have hO : iv4 = 5 → 0 < iv6 := by rw [di_9, di_13]; exact hO
  refine u_X11_eatsSign ?_
  refine u_X11_eatsSign_0 ?_
  refine ⟨o_v0, ?_⟩
  intro x7 ex7
  have q_x7 : x7 = kv3 := ex7.trans d_kv3.symm
  have d_x7 := ex7
  refine ⟨fun c8 => ?_, fun c8 => ?_⟩
  · refine u_X11_eatsSign_20 ?_
    refine u_X11_eatsSign_21 ?_
    refine ⟨fun c9 => ?_, fun c9 => absurd (show ¬ (0 : Int32) = 0 from c9) (by decide)⟩
    refine ⟨(Or.inl rfl), ?_⟩
    exact hq _ _ hI g0 f0 (Or.inl rfl) ⟨hG, (by have t : x7 = 5 → 0 < kv5 := (qr768 hiv4 hiv6 hO q_x7 c8); rw [d_x7, d_kv5] at t; exact t), (by have t : x7 = 5 ∨ ¬ iv4 = 5 := (qr769 hiv4 q_x7 c8); rw [di_9, d_x7] at t; exact t), (by have t : iv2 ≤ kv1 ∧ (x7 = 4 → iv2 < kv1 ∨ iv4 = 4) := (qr770 r_kv1 hiv2 hiv4 q_x7 c8); rw [di_8, di_9, d_kv1, d_x7] at t; exact t), (by have t : (0 : Int32) = 0 ∨ iv4 = 4 := (qr771 hiv4 q_x7 c8); rw [di_9] at t; exact t)⟩
  · intro x10 ex10
    have d_x10 := ex10
    refine ⟨fun c11 => ?_, fun c11 => ?_⟩
    · refine u_X11_eatsSign_20 ?_
      refine u_X11_eatsSign_21 ?_
      refine ⟨fun c12 => ?_, fun c12 => absurd (show ¬ (0 : Int32) = 0 from c12) (by decide)⟩
      refine ⟨(Or.inl rfl), ?_⟩
      exact hq _ _ hI g0 f0 (Or.inl rfl) ⟨hG, (by have t : x7 = 5 → 0 < kv5 := (qr772 hiv4 hiv6 hO q_x7 c8 c11); rw [d_x7, d_kv5] at t; exact t), (by have t : x7 = 5 ∨ ¬ iv4 = 5 := (qr773 hiv4 q_x7 c8 c11); rw [di_9, d_x7] at t; exact t), (by have t : iv2 ≤ kv1 ∧ (x7 = 4 → iv2 < kv1 ∨ iv4 = 4) := (qr774 r_kv1 hiv2 hiv4 q_x7 c8 c11); rw [di_8, di_9, d_kv1, d_x7] at t; exact t), (by have t : (0 : Int32) = 0 ∨ iv4 = 4 := (qr775 hiv4 q_x7 c8 c11); rw [di_9] at t; exact t)⟩
    · refine u_X11_eatsSign_21 ?_
      refine ⟨fun c13 => absurd (show (1 : Int32) = 0 from c13) (by decide), fun c13 => ?_⟩
      refine ⟨o_v0, ?_⟩
      obtain ⟨iv14, hiv14⟩ : ∃ z : Int32, z = kv5 := ⟨_, rfl⟩
      have d_iv14 := hiv14.trans d_kv5
      have do14_kv1 := d_kv1
      have do14_x7 := d_x7
      have do14_iv14 := d_iv14
      refine m_X11_goesOn hI o_v0 hG (by have t : x7 = 5 → 0 < kv5 := (qr776 hiv4 hiv6 hO q_x7 c8 c11); rw [d_x7, d_kv5] at t; exact t) (fun S16 hJ g17 fc18 p_S16 => ?_)
      obtain ⟨hG, pg0_S16, pg1_S16, pg2_S16⟩ := p_S16
      have hI := hJ
      have d_kv5 := d_kv5.trans (fri_at fc18 (by decide) (by decide) o_v0).symm
      have f0 := fri_tr (S := S) g0 f0 fc18 (by decide) (by decide)
      have o_v0 := gr_ob g17 o_v0
      have g0 := gr_tr (T := S) g0 g17
      obtain ⟨kv19, d_kv19⟩ : ∃ z : Int32, z = fI S16 v0 9 := ⟨_, rfl⟩
      have ph0_S16 : kv19 = 5 → 0 < kv5 := by rw [d_kv19, d_kv5]; exact pg0_S16
      have ph1_S16 : kv19 = 5 ∨ ¬ x7 = 5 := by rw [do14_x7, d_kv19]; exact pg1_S16
      obtain ⟨kv20, d_kv20⟩ : ∃ z : Int32, z = fI S16 v0 8 := ⟨_, rfl⟩
      have r_kv20 : (0 : Int32) ≤ kv20 ∧ kv20 ≤ (900 : Int32) := by rw [d_kv20]; exact nu 25 rfl hI o_v0
      have ph2_S16 : kv1 ≤ kv20 ∧ (kv19 = 4 → kv1 < kv20 ∨ x7 = 4) := by rw [do14_kv1, do14_x7, d_kv20, d_kv19]; exact pg2_S16
      intro _
      refine ⟨(Or.inr rfl), ?_⟩
      exact hq _ _ hI g0 f0 (Or.inr rfl) ⟨hG, (by have t : kv19 = 5 → 0 < kv5 := (qr777 hiv4 hiv6 hO q_x7 c8 c11 hiv14 ph0_S16 ph1_S16); rw [d_kv19, d_kv5] at t; exact t), (by have t : kv19 = 5 ∨ ¬ iv4 = 5 := (qr778 hiv4 q_x7 c8 c11 ph1_S16); rw [di_9, d_kv19] at t; exact t), (by have t : iv2 ≤ kv20 ∧ (kv19 = 4 → iv2 < kv20 ∨ iv4 = 4) := (qr779 r_kv1 hiv2 hiv4 q_x7 c8 c11 ph1_S16 r_kv20 ph2_S16); rw [di_8, di_9, d_kv20, d_kv19] at t; exact t), (by have t : (1 : Int32) = 0 ∨ iv4 = 4 := (qr780 hiv4 q_x7 c8 c11 ph1_S16); rw [di_9] at t; exact t)⟩
set_option maxHeartbeats 4000000 in
set_option maxRecDepth 20000 in
theorem m_X11_wordOf {v0 : Nat} {Q : Int64 → HS → Prop} {S : HS} (hI : IV S)   (hw_v0 : v0 < 54)   (hq : ∀ (r : Int64) (T : HS), IV T → Gr S T → (S = T) → Q r T) : P_X11_wordOf v0 Q S := by
  have g0 := gr_rf S
  refine u_X11_wordOf ?_
  refine u_X11_wordOf_0 ?_
  refine i_X11_wordOf_4 (fun (y0 : Nat) (y1 : Int64) (y3 : Int32) (Z : HS) => ((2147483647 : Int32).toInt - y3.toInt).toNat) (fun (y0 : Nat) (y1 : Int64) (y3 : Int32) (Z : HS) => (S = Z) ∧ (v0 = y0) ∧ (0 ≤ y3)) ?_ _ _ _ _ ⟨rfl, rfl, (qr694)⟩
  intro w5 w7 w8 S2 X9 ⟨eS2, q6, i1u1⟩ ih10
  subst q6
  subst eS2
  refine u_X11_wordOf_4 ?_
  refine ⟨hw_v0, ?_⟩
  intro x11 ex11
  refine ⟨fun c12 => ?_, fun c12 => ?_⟩
  · exact hq _ _ hI g0 rfl
  · refine ⟨hw_v0, (vinL (sl_lt v0) (by rw [← ex11]; exact (qr695 i1u1 c12))), ?_⟩
    intro x13 ex13
    intro x14 ex14
    intro x15 ex15
    exact ih10 _ _ _ _ ⟨rfl, rfl, (qr696 i1u1 c12 ex15)⟩ (mu_up (qr697 i1u1 c12 ex15) (qr698 i1u1 c12 ex15))
set_option maxHeartbeats 4000000 in
set_option maxRecDepth 20000 in
theorem m_X11_isWord {v0 : Nat} {v1 : Nat} {Q : Int32 → HS → Prop} {S : HS} (hI : IV S) (o_v0 : ob S v0 11)  (hw_v1 : v1 < 54)   (hq : ∀ (r : Int32) (T : HS), IV T → Gr S T → bl r → (S = T) ∧ (r = 0 ∨ fI S v0 9 = 2) → Q r T) : P_X11_isWord v0 v1 Q S := by
  have g0 := gr_rf S
  refine u_X11_isWord ?_
  refine u_X11_isWord_0 ?_
  refine ⟨o_v0, ?_⟩
  intro x1 ex1
  have d_x1 := ex1
  refine ⟨fun c2 => ?_, fun c2 => ?_⟩
  · exact hq _ _ hI g0 (Or.inl rfl) ⟨rfl, (Or.inl rfl)⟩
  · intro x3 ex3
    have dj_x3 := ex3
    refine m_X11_wordOf hI hw_v1 (fun x4 S5 hI2 g6 p_x4 => ?_)
    subst p_x4
    intro _
    refine ⟨fun c8 => ?_, fun c8 => ?_⟩
    · exact hq _ _ hI g0 (Or.inl rfl) ⟨rfl, (Or.inl rfl)⟩
    · exact hq _ _ hI g0 (Or.inr rfl) ⟨rfl, (Or.inr (by rw [← d_x1]; exact (qr693 c2 c8)))⟩
set_option maxHeartbeats 4000000 in
set_option maxRecDepth 20000 in
theorem m_X11_eatsWord {v0 : Nat} {v1 : Nat} {Q : Int32 → HS → Prop} {S : HS} (hI : IV S) (o_v0 : ob S v0 11)  (hw_v1 : v1 < 54)  (hG : RG S v0) (hO : fI S v0 9 = 5 → 0 < fI S v0 13) (hq : ∀ (r : Int32) (T : HS), IV T → Gr S T → FRI [(11, 8), (11, 9), (11, 10), (11, 11), (11, 12)] [] S T → bl r → (RG T v0) ∧ (fI T v0 9 = 5 → 0 < fI T v0 13) ∧ (fI T v0 9 = 5 ∨ ¬ fI S v0 9 = 5) ∧ (fI S v0 8 ≤ fI T v0 8 ∧ (fI T v0 9 = 4 → fI S v0 8 < fI T v0 8 ∨ fI S v0 9 = 4)) → Q r T) : P_X11_eatsWord v0 v1 Q S := by
  have g0 := gr_rf S
  have f0 := fri_rf [(11, 8), (11, 9), (11, 10), (11, 11), (11, 12)] [] S
  obtain ⟨kv1, d_kv1⟩ : ∃ z : Int32, z = fI S v0 8 := ⟨_, rfl⟩
  have r_kv1 : (0 : Int32) ≤ kv1 ∧ kv1 ≤ (900 : Int32) := by rw [d_kv1]; exact nu 25 rfl hI o_v0
  obtain ⟨iv2, hiv2⟩ : ∃ z : Int32, z = kv1 := ⟨_, rfl⟩
  have di_8 := hiv2.trans d_kv1
  obtain ⟨kv3, d_kv3⟩ : ∃ z : Int32, z = fI S v0 9 := ⟨_, rfl⟩
  obtain ⟨iv4, hiv4⟩ : ∃ z : Int32, z = kv3 := ⟨_, rfl⟩
  have di_9 := hiv4.trans d_kv3
  obtain ⟨kv5, d_kv5⟩ : ∃ z : Int32, z = fI S v0 13 := ⟨_, rfl⟩
  obtain ⟨iv6, hiv6⟩ : ∃ z : Int32, z = kv5 := ⟨_, rfl⟩
  have di_13 := hiv6.trans d_kv5
  have hO : iv4 = 5 → 0 < iv6 := by rw [di_9, di_13]; exact hO
  refine u_X11_eatsWord ?_
  refine u_X11_eatsWord_0 ?_
  refine ⟨o_v0, ?_⟩
  refine m_X11_isWord hI o_v0 hw_v1 (fun x7 S8 hI2 g9 b_x7 p_x7 => ?_)
  obtain ⟨z_S8, p_x7⟩ := p_x7
  subst z_S8
  intro _ _
  have bb_x7 : x7 = 0 ∨ x7 = 1 := b_x7
  have iw_x7 : x7 = 0 ∨ kv3 = 2 := by rw [d_kv3]; exact p_x7
  refine ⟨fun c11 => ?_, fun c11 => ?_⟩
  · refine ⟨b_x7, ?_⟩
    exact hq _ _ hI g0 f0 b_x7 ⟨hG, (by have t : kv3 = 5 → 0 < kv5 := (qr624 hiv4 hiv6 hO bb_x7 iw_x7 c11); rw [d_kv3, d_kv5] at t; exact t), (by have t : kv3 = 5 ∨ ¬ iv4 = 5 := (qr766 hiv4 bb_x7 iw_x7 c11); rw [di_9, d_kv3] at t; exact t), (by have t : iv2 ≤ kv1 ∧ (kv3 = 4 → iv2 < kv1 ∨ iv4 = 4) := (qr767 r_kv1 hiv2 hiv4 bb_x7 iw_x7 c11); rw [di_8, di_9, d_kv1, d_kv3] at t; exact t)⟩
  · obtain ⟨iv12, hiv12⟩ : ∃ z : Int32, z = kv5 := ⟨_, rfl⟩
    have d_iv12 := hiv12.trans d_kv5
    have do12_kv1 := d_kv1
    have do12_kv3 := d_kv3
    have do12_iv12 := d_iv12
    refine m_X11_goesOn hI o_v0 hG (by have t : kv3 = 5 → 0 < kv5 := (qr59 hiv4 hiv6 hO bb_x7 iw_x7 c11); rw [d_kv3, d_kv5] at t; exact t) (fun S14 hJ g15 fc16 p_S14 => ?_)
    obtain ⟨hG, pg0_S14, pg1_S14, pg2_S14⟩ := p_S14
    have hI := hJ
    have d_kv5 := d_kv5.trans (fri_at fc16 (by decide) (by decide) o_v0).symm
    have f0 := fri_tr (S := S) g0 f0 fc16 (by decide) (by decide)
    have o_v0 := gr_ob g15 o_v0
    have g0 := gr_tr (T := S) g0 g15
    obtain ⟨kv17, d_kv17⟩ : ∃ z : Int32, z = fI S14 v0 9 := ⟨_, rfl⟩
    have ph0_S14 : kv17 = 5 → 0 < kv5 := by rw [d_kv17, d_kv5]; exact pg0_S14
    have ph1_S14 : kv17 = 5 ∨ ¬ kv3 = 5 := by rw [do12_kv3, d_kv17]; exact pg1_S14
    obtain ⟨kv18, d_kv18⟩ : ∃ z : Int32, z = fI S14 v0 8 := ⟨_, rfl⟩
    have r_kv18 : (0 : Int32) ≤ kv18 ∧ kv18 ≤ (900 : Int32) := by rw [d_kv18]; exact nu 25 rfl hI o_v0
    have ph2_S14 : kv1 ≤ kv18 ∧ (kv17 = 4 → kv1 < kv18 ∨ kv3 = 4) := by rw [do12_kv1, do12_kv3, d_kv18, d_kv17]; exact pg2_S14
    intro _
    refine ⟨b_x7, ?_⟩
    exact hq _ _ hI g0 f0 b_x7 ⟨hG, (by have t : kv17 = 5 → 0 < kv5 := (qr505 hiv4 hiv6 hO bb_x7 iw_x7 c11 hiv12 ph0_S14 ph1_S14); rw [d_kv17, d_kv5] at t; exact t), (by have t : kv17 = 5 ∨ ¬ iv4 = 5 := (qr506 hiv4 bb_x7 iw_x7 c11 ph1_S14); rw [di_9, d_kv17] at t; exact t), (by have t : iv2 ≤ kv18 ∧ (kv17 = 4 → iv2 < kv18 ∨ iv4 = 4) := (qr507 r_kv1 hiv2 hiv4 bb_x7 iw_x7 c11 ph1_S14 r_kv18 ph2_S14); rw [di_8, di_9, d_kv18, d_kv17] at t; exact t)⟩
set_option maxHeartbeats 4000000 in
set_option maxRecDepth 20000 in
theorem m_X11_isName {v0 : Nat} {Q : Int32 → HS → Prop} {S : HS} (hI : IV S) (o_v0 : ob S v0 11)     (hq : ∀ (r : Int32) (T : HS), IV T → Gr S T → bl r → (S = T) → Q r T) : P_X11_isName v0 Q S := by
  have g0 := gr_rf S
  refine u_X11_isName ?_
  refine u_X11_isName_0 ?_
  refine ⟨o_v0, ?_⟩
  intro x1 ex1
  have d_x1 := ex1
  refine ⟨fun c2 => ?_, fun c2 => ?_⟩
  · exact hq _ _ hI g0 (Or.inl rfl) rfl
  · refine m_X11_isWord hI o_v0 (by decide) (fun x3 S4 hI2 g5 b_x3 p_x3 => ?_)
    obtain ⟨z_S4, p_x3⟩ := p_x3
    subst z_S4
    intro _ _
    have bb_x3 : x3 = 0 ∨ x3 = 1 := b_x3
    have iw_x3 : x3 = 0 ∨ x1 = 2 := by rw [d_x1]; exact p_x3
    refine ⟨fun c7 => ?_, fun c7 => ?_⟩
    · exact hq _ _ hI g0 (Or.inl rfl) rfl
    · refine m_X11_isWord hI o_v0 (by decide) (fun x8 S9 hI2 g10 b_x8 p_x8 => ?_)
      obtain ⟨z_S9, p_x8⟩ := p_x8
      subst z_S9
      intro _ _
      have bb_x8 : x8 = 0 ∨ x8 = 1 := b_x8
      have iw_x8 : x8 = 0 ∨ x1 = 2 := by rw [d_x1]; exact p_x8
      refine ⟨fun c12 => ?_, fun c12 => ?_⟩
      · exact hq _ _ hI g0 (Or.inl rfl) rfl
      · refine m_X11_isWord hI o_v0 (by decide) (fun x13 S14 hI2 g15 b_x13 p_x13 => ?_)
        obtain ⟨z_S14, p_x13⟩ := p_x13
        subst z_S14
        intro _ _
        have bb_x13 : x13 = 0 ∨ x13 = 1 := b_x13
        have iw_x13 : x13 = 0 ∨ x1 = 2 := by rw [d_x1]; exact p_x13
        refine ⟨fun c17 => ?_, fun c17 => ?_⟩
        · exact hq _ _ hI g0 (Or.inl rfl) rfl
        · refine m_X11_isWord hI o_v0 (by decide) (fun x18 S19 hI2 g20 b_x18 p_x18 => ?_)
          obtain ⟨z_S19, p_x18⟩ := p_x18
          subst z_S19
          intro _ _
          have bb_x18 : x18 = 0 ∨ x18 = 1 := b_x18
          have iw_x18 : x18 = 0 ∨ x1 = 2 := by rw [d_x1]; exact p_x18
          refine ⟨fun c22 => ?_, fun c22 => ?_⟩
          · refine m_X11_isWord hI o_v0 (by decide) (fun x23 S24 hI2 g25 b_x23 p_x23 => ?_)
            obtain ⟨z_S24, p_x23⟩ := p_x23
            subst z_S24
            intro _ _
            have bb_x23 : x23 = 0 ∨ x23 = 1 := b_x23
            have iw_x23 : x23 = 0 ∨ x1 = 2 := by rw [d_x1]; exact p_x23
            refine ⟨fun c27 => ?_, fun c27 => ?_⟩
            · exact hq _ _ hI g0 (Or.inl rfl) rfl
            · refine m_X11_isWord hI o_v0 (by decide) (fun x28 S29 hI2 g30 b_x28 p_x28 => ?_)
              obtain ⟨z_S29, p_x28⟩ := p_x28
              subst z_S29
              intro _ _
              have bb_x28 : x28 = 0 ∨ x28 = 1 := b_x28
              have iw_x28 : x28 = 0 ∨ x1 = 2 := by rw [d_x1]; exact p_x28
              refine ⟨fun c32 => ?_, fun c32 => ?_⟩
              · exact hq _ _ hI g0 (Or.inl rfl) rfl
              · refine m_X11_isWord hI o_v0 (by decide) (fun x33 S34 hI2 g35 b_x33 p_x33 => ?_)
                obtain ⟨z_S34, p_x33⟩ := p_x33
                subst z_S34
                intro _ _
                have bb_x33 : x33 = 0 ∨ x33 = 1 := b_x33
                have iw_x33 : x33 = 0 ∨ x1 = 2 := by rw [d_x1]; exact p_x33
                refine ⟨fun c37 => ?_, fun c37 => ?_⟩
                · exact hq _ _ hI g0 (Or.inl rfl) rfl
                · refine m_X11_isWord hI o_v0 (by decide) (fun x38 S39 hI2 g40 b_x38 p_x38 => ?_)
                  obtain ⟨z_S39, p_x38⟩ := p_x38
                  subst z_S39
                  intro _ _
                  have bb_x38 : x38 = 0 ∨ x38 = 1 := b_x38
                  have iw_x38 : x38 = 0 ∨ x1 = 2 := by rw [d_x1]; exact p_x38
                  refine ⟨fun c42 => ?_, fun c42 => ?_⟩
                  · exact hq _ _ hI g0 (Or.inl rfl) rfl
                  · refine m_X11_isWord hI o_v0 (by decide) (fun x43 S44 hI2 g45 b_x43 p_x43 => ?_)
                    obtain ⟨z_S44, p_x43⟩ := p_x43
                    subst z_S44
                    intro _ _
                    have bb_x43 : x43 = 0 ∨ x43 = 1 := b_x43
                    have iw_x43 : x43 = 0 ∨ x1 = 2 := by rw [d_x1]; exact p_x43
                    refine ⟨fun c47 => ?_, fun c47 => ?_⟩
                    · exact hq _ _ hI g0 (Or.inl rfl) rfl
                    · exact hq _ _ hI g0 (Or.inr rfl) rfl
          · exact hq _ _ hI g0 (Or.inl rfl) rfl
set_option maxHeartbeats 4000000 in
set_option maxRecDepth 20000 in
theorem m_X11_known {v0 : Nat} {v1 : Int32} {Q : Int32 → HS → Prop} {S : HS} (hI : IV S) (o_v0 : ob S v0 11)   (h1 : v1 = 0 ∨ v1 = 1) (hG : RG S v0) (hn : RN S v0) (hO : fI S v0 9 = 5 → 0 < fI S v0 13) (hq : ∀ (r : Int32) (T : HS), IV T → Gr S T → FRI [(11, 9), (11, 13), (11, 14)] [] S T → (RG T v0) ∧ (RN T v0) ∧ (KR T v0 v1 r) ∧ (fI T v0 9 = 5 → 0 < fI T v0 13) ∧ (fI T v0 9 = 5 ∨ ¬ fI S v0 9 = 5) ∧ (fI S v0 8 ≤ fI T v0 8 ∧ (fI T v0 9 = 4 → fI S v0 8 < fI T v0 8 ∨ fI S v0 9 = 4)) → Q r T) : P_X11_known v0 v1 Q S := by
  have g0 := gr_rf S
  have f0 := fri_rf [(11, 9), (11, 13), (11, 14)] [] S
  obtain ⟨kv1, d_kv1⟩ : ∃ z : Int32, z = fI S v0 8 := ⟨_, rfl⟩
  have r_kv1 : (0 : Int32) ≤ kv1 ∧ kv1 ≤ (900 : Int32) := by rw [d_kv1]; exact nu 25 rfl hI o_v0
  obtain ⟨iv2, hiv2⟩ : ∃ z : Int32, z = kv1 := ⟨_, rfl⟩
  have di_8 := hiv2.trans d_kv1
  obtain ⟨kv3, d_kv3⟩ : ∃ z : Int32, z = fI S v0 9 := ⟨_, rfl⟩
  obtain ⟨iv4, hiv4⟩ : ∃ z : Int32, z = kv3 := ⟨_, rfl⟩
  have di_9 := hiv4.trans d_kv3
  obtain ⟨kv5, d_kv5⟩ : ∃ z : Int32, z = fI S v0 13 := ⟨_, rfl⟩
  obtain ⟨iv6, hiv6⟩ : ∃ z : Int32, z = kv5 := ⟨_, rfl⟩
  have di_13 := hiv6.trans d_kv5
  have hO : iv4 = 5 → 0 < iv6 := by rw [di_9, di_13]; exact hO
  refine u_X11_known ?_
  refine u_X11_known_0 ?_
  refine ⟨o_v0, ?_⟩
  refine m_X11_isName hI o_v0 (fun x7 S8 hI2 g9 b_x7 p_x7 => ?_)
  subst p_x7
  intro _ _
  have bb_x7 : x7 = 0 ∨ x7 = 1 := b_x7
  refine ⟨fun c11 => ?_, fun c11 => ?_⟩
  · refine u_X11_known_12 ?_
    refine ⟨o_v0, ?_⟩
    obtain ⟨a12, ea12, o_a12, -⟩ := id hG
    refine ⟨a12, ea12, ?_⟩
    intro x13 ex13
    have dj_x13 := ex13
    refine ⟨o_a12, ?_⟩
    refine m_X10_find hI o_a12 (fun x14 S15 hI2 g16 p_x14 => ?_)
    obtain ⟨z_S15, p_x14⟩ := p_x14
    subst z_S15
    intro _
    obtain ⟨kv18, d_kv18⟩ : ∃ z : Int32, z = fI S a12 6 := ⟨_, rfl⟩
    have r_kv18 : (0 : Int32) ≤ kv18 ∧ kv18 ≤ (12 : Int32) := by rw [d_kv18]; exact nu 22 rfl hI o_a12
    have fn_x14 : x14 = -1 ∨ (0 ≤ x14 ∧ x14 < kv18) := by rw [d_kv18]; exact p_x14
    refine ⟨fun c19 => ?_, fun c19 => ?_⟩
    · refine u_X11_known_42 ?_
      refine ⟨o_v0, ?_⟩
      obtain ⟨iv20, hiv20⟩ : ∃ z : Int32, z = kv1 := ⟨_, rfl⟩
      have d_iv20 := hiv20.trans d_kv1
      have do20_iv20 := d_iv20
      have do20_kv3 := d_kv3
      have do20_kv5 := d_kv5
      refine m_X11_flaw hI o_v0 (qr629 bb_x7 c11 r_kv18 fn_x14 c19) hG (by have t : kv3 = 5 → 0 < kv5 := (qr601 hiv4 hiv6 hO bb_x7 c11 r_kv18 fn_x14 c19); rw [d_kv3, d_kv5] at t; exact t) (fun S22 hJ g23 fc24 p_S22 => ?_)
      obtain ⟨hG, pg0_S22, pg1_S22, pg2_S22, pg3_S22⟩ := p_S22
      have hn := rn_fr fc24 g23 hI o_v0 (by decide) hn
      have hI := hJ
      have d_kv1 := d_kv1.trans (fri_at fc24 (by decide) (by decide) o_v0).symm
      have d_kv18 := d_kv18.trans (fri_at fc24 (by decide) (by decide) o_a12).symm
      have ea12 := (frr_at fc24 (by decide) (by decide) o_v0).trans ea12
      have f0 := fri_tr (S := S) g0 f0 fc24 (by decide) (by decide)
      have o_a12 := gr_ob g23 o_a12
      have o_v0 := gr_ob g23 o_v0
      have g0 := gr_tr (T := S) g0 g23
      obtain ⟨kv25, d_kv25⟩ : ∃ z : Int32, z = fI S22 v0 9 := ⟨_, rfl⟩
      obtain ⟨kv26, d_kv26⟩ : ∃ z : Int32, z = fI S22 v0 13 := ⟨_, rfl⟩
      have ph0_S22 : kv25 = 5 → 0 < kv26 := by rw [d_kv25, d_kv26]; exact pg0_S22
      have ph1_S22 : kv25 = 5 ∨ ¬ kv3 = 5 := by rw [do20_kv3, d_kv25]; exact pg1_S22
      have ph2_S22 : iv20 ≤ kv1 ∧ (kv25 = 4 → iv20 < kv1 ∨ kv3 = 4) := by rw [do20_iv20, do20_kv3, d_kv1, d_kv25]; exact pg2_S22
      have ph3_S22 : kv25 = 5 := by rw [d_kv25]; exact pg3_S22
      intro _
      refine u_X11_known_47 ?_
      refine ⟨o_v0, ?_⟩
      intro x27 ex27
      have q_x27 : x27 = kv25 := ex27.trans d_kv25.symm
      have mo28 : x27 = 5 ∨ ¬ kv3 = 5 := ph1_S22.imp_left (fun z => q_x27.trans z)
      have d_x27 := ex27
      refine ⟨fun c29 => ?_, fun c29 => ?_⟩
      · refine ⟨a12, ea12, ?_⟩
        refine ⟨o_a12, ?_⟩
        obtain ⟨a31, ea31, o_a31, l_a31⟩ := shl 52 rfl hI o_a12
        refine ⟨a31, ea31, ?_⟩
        refine ⟨o_a31, ?_⟩
        refine ⟨(vin l_a31 (m := 12) (by decide) (qr630 hiv4 bb_x7 c11 r_kv18 fn_x14 c19 mo28 ph3_S22 q_x27 c29)), ?_⟩
        intro x32 ex32
        exact hq _ _ hI g0 f0 ⟨hG, hn, (Or.inl (by rw [← d_x27]; exact (qr631 hiv4 bb_x7 c11 r_kv18 fn_x14 c19 mo28 ph3_S22 q_x27 c29))), (by have t : x27 = 5 → 0 < kv26 := (qr632 hiv4 hiv6 hO bb_x7 c11 r_kv18 fn_x14 c19 ph0_S22 mo28 ph3_S22 q_x27 c29); rw [d_x27, d_kv26] at t; exact t), (by have t : x27 = 5 ∨ ¬ iv4 = 5 := (qr633 hiv4 bb_x7 c11 r_kv18 fn_x14 c19 mo28 ph3_S22 q_x27 c29); rw [di_9, d_x27] at t; exact t), (by have t : iv2 ≤ kv1 ∧ (x27 = 4 → iv2 < kv1 ∨ iv4 = 4) := (qr634 r_kv1 hiv2 hiv4 bb_x7 c11 r_kv18 fn_x14 c19 hiv20 mo28 ph2_S22 ph3_S22 q_x27 c29); rw [di_8, di_9, d_kv1, d_x27] at t; exact t)⟩
      · exact hq _ _ hI g0 f0 ⟨hG, hn, (Or.inl (by rw [← d_x27]; exact (qr635 hiv4 bb_x7 c11 r_kv18 fn_x14 c19 mo28 ph3_S22 q_x27 c29))), (by have t : x27 = 5 → 0 < kv26 := (qr636 hiv4 hiv6 hO bb_x7 c11 r_kv18 fn_x14 c19 ph0_S22 mo28 ph3_S22 q_x27 c29); rw [d_x27, d_kv26] at t; exact t), (by have t : x27 = 5 ∨ ¬ iv4 = 5 := (qr637 hiv4 bb_x7 c11 r_kv18 fn_x14 c19 mo28 ph3_S22 q_x27 c29); rw [di_9, d_x27] at t; exact t), (by have t : iv2 ≤ kv1 ∧ (x27 = 4 → iv2 < kv1 ∨ iv4 = 4) := (qr638 r_kv1 hiv2 hiv4 bb_x7 c11 r_kv18 fn_x14 c19 hiv20 mo28 ph2_S22 ph3_S22 q_x27 c29); rw [di_8, di_9, d_kv1, d_x27] at t; exact t)⟩
    · refine ⟨a12, ea12, ?_⟩
      refine ⟨o_a12, ?_⟩
      obtain ⟨a34, ea34, o_a34, l_a34⟩ := shl 51 rfl hI o_a12
      refine ⟨a34, ea34, ?_⟩
      refine ⟨o_a34, ?_⟩
      refine ⟨(vin l_a34 (m := 12) (by decide) (qr639 bb_x7 c11 r_kv18 fn_x14 c19)), ?_⟩
      intro x35 ex35
      refine ⟨fun c36 => ?_, fun c36 => ?_⟩
      · refine u_X11_known_47 ?_
        refine ⟨o_v0, ?_⟩
        intro x37 ex37
        have q_x37 : x37 = kv3 := ex37.trans d_kv3.symm
        have d_x37 := ex37
        refine ⟨fun c38 => ?_, fun c38 => ?_⟩
        · refine ⟨a12, ea12, ?_⟩
          refine ⟨o_a12, ?_⟩
          obtain ⟨a40, ea40, o_a40, l_a40⟩ := shl 52 rfl hI o_a12
          refine ⟨a40, ea40, ?_⟩
          refine ⟨o_a40, ?_⟩
          refine ⟨(vin l_a40 (m := 12) (by decide) (qr640 h1 hiv4 bb_x7 c11 r_kv18 fn_x14 c19 c36 q_x37 c38)), ?_⟩
          intro x41 ex41
          exact hq _ _ hI g0 f0 ⟨hG, hn, (kn_ok (n := 0) (y := x14) hG hn ea12 ea34 ea40 (qr641 h1 hiv4 bb_x7 c11 r_kv18 fn_x14 c19 c36 q_x37 c38) (by rw [← d_kv18]; exact (qr642 h1 hiv4 bb_x7 c11 r_kv18 fn_x14 c19 c36 q_x37 c38)) (ex35.symm.trans (qr643 h1 hiv4 bb_x7 c11 r_kv18 fn_x14 c19 c36 q_x37 c38)) ex41), (by have t : x37 = 5 → 0 < kv5 := (qr644 h1 hiv4 hiv6 hO bb_x7 c11 r_kv18 fn_x14 c19 c36 q_x37 c38); rw [d_x37, d_kv5] at t; exact t), (by have t : x37 = 5 ∨ ¬ iv4 = 5 := (qr645 h1 hiv4 bb_x7 c11 r_kv18 fn_x14 c19 c36 q_x37 c38); rw [di_9, d_x37] at t; exact t), (by have t : iv2 ≤ kv1 ∧ (x37 = 4 → iv2 < kv1 ∨ iv4 = 4) := (qr646 h1 r_kv1 hiv2 hiv4 bb_x7 c11 r_kv18 fn_x14 c19 c36 q_x37 c38); rw [di_8, di_9, d_kv1, d_x37] at t; exact t)⟩
        · exact hq _ _ hI g0 f0 ⟨hG, hn, (Or.inl (by rw [← d_x37]; exact (qr647 h1 hiv4 bb_x7 c11 r_kv18 fn_x14 c19 c36 q_x37 c38))), (by have t : x37 = 5 → 0 < kv5 := (qr648 h1 hiv4 hiv6 hO bb_x7 c11 r_kv18 fn_x14 c19 c36 q_x37 c38); rw [d_x37, d_kv5] at t; exact t), (by have t : x37 = 5 ∨ ¬ iv4 = 5 := (qr649 h1 hiv4 bb_x7 c11 r_kv18 fn_x14 c19 c36 q_x37 c38); rw [di_9, d_x37] at t; exact t), (by have t : iv2 ≤ kv1 ∧ (x37 = 4 → iv2 < kv1 ∨ iv4 = 4) := (qr650 h1 r_kv1 hiv2 hiv4 bb_x7 c11 r_kv18 fn_x14 c19 c36 q_x37 c38); rw [di_8, di_9, d_kv1, d_x37] at t; exact t)⟩
      · refine u_X11_known_42 ?_
        refine ⟨o_v0, ?_⟩
        obtain ⟨iv42, hiv42⟩ : ∃ z : Int32, z = kv1 := ⟨_, rfl⟩
        have d_iv42 := hiv42.trans d_kv1
        have do42_iv42 := d_iv42
        have do42_kv3 := d_kv3
        have do42_kv5 := d_kv5
        refine m_X11_flaw hI o_v0 (qr651 h1 bb_x7 c11 r_kv18 fn_x14 c19 c36) hG (by have t : kv3 = 5 → 0 < kv5 := (qr652 h1 hiv4 hiv6 hO bb_x7 c11 r_kv18 fn_x14 c19 c36); rw [d_kv3, d_kv5] at t; exact t) (fun S44 hJ g45 fc46 p_S44 => ?_)
        obtain ⟨hG, pg0_S44, pg1_S44, pg2_S44, pg3_S44⟩ := p_S44
        have hn := rn_fr fc46 g45 hI o_v0 (by decide) hn
        have hI := hJ
        have l_a34 := (gr_len g45 o_a34).trans l_a34
        have d_kv1 := d_kv1.trans (fri_at fc46 (by decide) (by decide) o_v0).symm
        have d_kv18 := d_kv18.trans (fri_at fc46 (by decide) (by decide) o_a12).symm
        have ea12 := (frr_at fc46 (by decide) (by decide) o_v0).trans ea12
        have ea34 := (frr_at fc46 (by decide) (by decide) o_a12).trans ea34
        have f0 := fri_tr (S := S) g0 f0 fc46 (by decide) (by decide)
        have o_a12 := gr_ob g45 o_a12
        have o_a34 := gr_ob g45 o_a34
        have o_v0 := gr_ob g45 o_v0
        have g0 := gr_tr (T := S) g0 g45
        obtain ⟨kv47, d_kv47⟩ : ∃ z : Int32, z = fI S44 v0 9 := ⟨_, rfl⟩
        obtain ⟨kv48, d_kv48⟩ : ∃ z : Int32, z = fI S44 v0 13 := ⟨_, rfl⟩
        have ph0_S44 : kv47 = 5 → 0 < kv48 := by rw [d_kv47, d_kv48]; exact pg0_S44
        have ph1_S44 : kv47 = 5 ∨ ¬ kv3 = 5 := by rw [do42_kv3, d_kv47]; exact pg1_S44
        have ph2_S44 : iv42 ≤ kv1 ∧ (kv47 = 4 → iv42 < kv1 ∨ kv3 = 4) := by rw [do42_iv42, do42_kv3, d_kv1, d_kv47]; exact pg2_S44
        have ph3_S44 : kv47 = 5 := by rw [d_kv47]; exact pg3_S44
        intro _
        refine u_X11_known_47 ?_
        refine ⟨o_v0, ?_⟩
        intro x49 ex49
        have q_x49 : x49 = kv47 := ex49.trans d_kv47.symm
        have mo50 : x49 = 5 ∨ ¬ kv3 = 5 := ph1_S44.imp_left (fun z => q_x49.trans z)
        have d_x49 := ex49
        refine ⟨fun c51 => ?_, fun c51 => ?_⟩
        · refine ⟨a12, ea12, ?_⟩
          refine ⟨o_a12, ?_⟩
          obtain ⟨a53, ea53, o_a53, l_a53⟩ := shl 52 rfl hI o_a12
          refine ⟨a53, ea53, ?_⟩
          refine ⟨o_a53, ?_⟩
          refine ⟨(vin l_a53 (m := 12) (by decide) (qr653 h1 hiv4 bb_x7 c11 r_kv18 fn_x14 c19 c36 mo50 ph3_S44 q_x49 c51)), ?_⟩
          intro x54 ex54
          exact hq _ _ hI g0 f0 ⟨hG, hn, (Or.inl (by rw [← d_x49]; exact (qr654 h1 hiv4 bb_x7 c11 r_kv18 fn_x14 c19 c36 mo50 ph3_S44 q_x49 c51))), (by have t : x49 = 5 → 0 < kv48 := (qr655 h1 hiv4 hiv6 hO bb_x7 c11 r_kv18 fn_x14 c19 c36 ph0_S44 mo50 ph3_S44 q_x49 c51); rw [d_x49, d_kv48] at t; exact t), (by have t : x49 = 5 ∨ ¬ iv4 = 5 := (qr656 h1 hiv4 bb_x7 c11 r_kv18 fn_x14 c19 c36 mo50 ph3_S44 q_x49 c51); rw [di_9, d_x49] at t; exact t), (by have t : iv2 ≤ kv1 ∧ (x49 = 4 → iv2 < kv1 ∨ iv4 = 4) := (qr657 h1 r_kv1 hiv2 hiv4 bb_x7 c11 r_kv18 fn_x14 c19 c36 hiv42 mo50 ph2_S44 ph3_S44 q_x49 c51); rw [di_8, di_9, d_kv1, d_x49] at t; exact t)⟩
        · exact hq _ _ hI g0 f0 ⟨hG, hn, (Or.inl (by rw [← d_x49]; exact (qr658 h1 hiv4 bb_x7 c11 r_kv18 fn_x14 c19 c36 mo50 ph3_S44 q_x49 c51))), (by have t : x49 = 5 → 0 < kv48 := (qr659 h1 hiv4 hiv6 hO bb_x7 c11 r_kv18 fn_x14 c19 c36 ph0_S44 mo50 ph3_S44 q_x49 c51); rw [d_x49, d_kv48] at t; exact t), (by have t : x49 = 5 ∨ ¬ iv4 = 5 := (qr660 h1 hiv4 bb_x7 c11 r_kv18 fn_x14 c19 c36 mo50 ph3_S44 q_x49 c51); rw [di_9, d_x49] at t; exact t), (by have t : iv2 ≤ kv1 ∧ (x49 = 4 → iv2 < kv1 ∨ iv4 = 4) := (qr661 h1 r_kv1 hiv2 hiv4 bb_x7 c11 r_kv18 fn_x14 c19 c36 hiv42 mo50 ph2_S44 ph3_S44 q_x49 c51); rw [di_8, di_9, d_kv1, d_x49] at t; exact t)⟩
  · obtain ⟨iv55, hiv55⟩ : ∃ z : Int32, z = kv1 := ⟨_, rfl⟩
    have d_iv55 := hiv55.trans d_kv1
    have do55_iv55 := d_iv55
    have do55_kv3 := d_kv3
    have do55_kv5 := d_kv5
    refine m_X11_flaw hI o_v0 (qr611 bb_x7 c11) hG (by have t : kv3 = 5 → 0 < kv5 := (qr612 hiv4 hiv6 hO bb_x7 c11); rw [d_kv3, d_kv5] at t; exact t) (fun S57 hJ g58 fc59 p_S57 => ?_)
    obtain ⟨hG, pg0_S57, pg1_S57, pg2_S57, pg3_S57⟩ := p_S57
    have hn := rn_fr fc59 g58 hI o_v0 (by decide) hn
    have hI := hJ
    have d_kv1 := d_kv1.trans (fri_at fc59 (by decide) (by decide) o_v0).symm
    have f0 := fri_tr (S := S) g0 f0 fc59 (by decide) (by decide)
    have o_v0 := gr_ob g58 o_v0
    have g0 := gr_tr (T := S) g0 g58
    obtain ⟨kv60, d_kv60⟩ : ∃ z : Int32, z = fI S57 v0 9 := ⟨_, rfl⟩
    obtain ⟨kv61, d_kv61⟩ : ∃ z : Int32, z = fI S57 v0 13 := ⟨_, rfl⟩
    have ph0_S57 : kv60 = 5 → 0 < kv61 := by rw [d_kv60, d_kv61]; exact pg0_S57
    have ph1_S57 : kv60 = 5 ∨ ¬ kv3 = 5 := by rw [do55_kv3, d_kv60]; exact pg1_S57
    have ph2_S57 : iv55 ≤ kv1 ∧ (kv60 = 4 → iv55 < kv1 ∨ kv3 = 4) := by rw [do55_iv55, do55_kv3, d_kv1, d_kv60]; exact pg2_S57
    have ph3_S57 : kv60 = 5 := by rw [d_kv60]; exact pg3_S57
    intro _
    refine u_X11_known_12 ?_
    refine ⟨o_v0, ?_⟩
    obtain ⟨a62, ea62, o_a62, -⟩ := id hG
    refine ⟨a62, ea62, ?_⟩
    intro x63 ex63
    have dj_x63 := ex63
    refine ⟨o_a62, ?_⟩
    refine m_X10_find hI o_a62 (fun x64 S65 hI2 g66 p_x64 => ?_)
    obtain ⟨z_S65, p_x64⟩ := p_x64
    subst z_S65
    intro _
    obtain ⟨kv68, d_kv68⟩ : ∃ z : Int32, z = fI S57 a62 6 := ⟨_, rfl⟩
    have r_kv68 : (0 : Int32) ≤ kv68 ∧ kv68 ≤ (12 : Int32) := by rw [d_kv68]; exact nu 22 rfl hI o_a62
    have fn_x64 : x64 = -1 ∨ (0 ≤ x64 ∧ x64 < kv68) := by rw [d_kv68]; exact p_x64
    refine ⟨fun c69 => ?_, fun c69 => ?_⟩
    · refine u_X11_known_42 ?_
      refine ⟨o_v0, ?_⟩
      obtain ⟨iv70, hiv70⟩ : ∃ z : Int32, z = kv1 := ⟨_, rfl⟩
      have d_iv70 := hiv70.trans d_kv1
      have do70_iv70 := d_iv70
      have do70_kv60 := d_kv60
      have do70_kv61 := d_kv61
      refine m_X11_flaw hI o_v0 (qr662 bb_x7 c11 r_kv68 fn_x64 c69) hG (by have t : kv60 = 5 → 0 < kv61 := (qr613 hiv4 hiv6 hO bb_x7 c11 ph0_S57 ph1_S57 ph3_S57 r_kv68 fn_x64 c69); rw [d_kv60, d_kv61] at t; exact t) (fun S72 hJ g73 fc74 p_S72 => ?_)
      obtain ⟨hG, pg0_S72, pg1_S72, pg2_S72, pg3_S72⟩ := p_S72
      have hn := rn_fr fc74 g73 hI o_v0 (by decide) hn
      have hI := hJ
      have d_kv1 := d_kv1.trans (fri_at fc74 (by decide) (by decide) o_v0).symm
      have d_kv68 := d_kv68.trans (fri_at fc74 (by decide) (by decide) o_a62).symm
      have ea62 := (frr_at fc74 (by decide) (by decide) o_v0).trans ea62
      have f0 := fri_tr (S := S57) g0 f0 fc74 (by decide) (by decide)
      have o_a62 := gr_ob g73 o_a62
      have o_v0 := gr_ob g73 o_v0
      have g0 := gr_tr (T := S57) g0 g73
      obtain ⟨kv75, d_kv75⟩ : ∃ z : Int32, z = fI S72 v0 9 := ⟨_, rfl⟩
      obtain ⟨kv76, d_kv76⟩ : ∃ z : Int32, z = fI S72 v0 13 := ⟨_, rfl⟩
      have ph0_S72 : kv75 = 5 → 0 < kv76 := by rw [d_kv75, d_kv76]; exact pg0_S72
      have ph1_S72 : kv75 = 5 ∨ ¬ kv60 = 5 := by rw [do70_kv60, d_kv75]; exact pg1_S72
      have mo77 : kv75 = 5 ∨ ¬ kv3 = 5 := ph1_S72.elim Or.inl (fun h => Or.inr (ph1_S57.resolve_left h))
      have ph2_S72 : iv70 ≤ kv1 ∧ (kv75 = 4 → iv70 < kv1 ∨ kv60 = 4) := by rw [do70_iv70, do70_kv60, d_kv1, d_kv75]; exact pg2_S72
      have ph3_S72 : kv75 = 5 := by rw [d_kv75]; exact pg3_S72
      intro _
      refine u_X11_known_47 ?_
      refine ⟨o_v0, ?_⟩
      intro x78 ex78
      have q_x78 : x78 = kv75 := ex78.trans d_kv75.symm
      have mo79 : x78 = 5 ∨ ¬ kv3 = 5 := mo77.imp_left (fun z => q_x78.trans z)
      have mo80 : x78 = 5 ∨ ¬ kv60 = 5 := ph1_S72.imp_left (fun z => q_x78.trans z)
      have d_x78 := ex78
      refine ⟨fun c81 => ?_, fun c81 => ?_⟩
      · refine ⟨a62, ea62, ?_⟩
        refine ⟨o_a62, ?_⟩
        obtain ⟨a83, ea83, o_a83, l_a83⟩ := shl 52 rfl hI o_a62
        refine ⟨a83, ea83, ?_⟩
        refine ⟨o_a83, ?_⟩
        refine ⟨(vin l_a83 (m := 12) (by decide) (qr663 hiv4 bb_x7 c11 mo79 ph3_S57 r_kv68 fn_x64 c69 mo80 ph3_S72 q_x78 c81)), ?_⟩
        intro x84 ex84
        exact hq _ _ hI g0 f0 ⟨hG, hn, (Or.inl (by rw [← d_x78]; exact (qr664 hiv4 bb_x7 c11 mo79 ph3_S57 r_kv68 fn_x64 c69 mo80 ph3_S72 q_x78 c81))), (by have t : x78 = 5 → 0 < kv76 := (qr665 hiv4 hiv6 hO bb_x7 c11 ph0_S57 mo79 ph3_S57 r_kv68 fn_x64 c69 ph0_S72 mo80 ph3_S72 q_x78 c81); rw [d_x78, d_kv76] at t; exact t), (by have t : x78 = 5 ∨ ¬ iv4 = 5 := (qr666 hiv4 bb_x7 c11 mo79 ph3_S57 r_kv68 fn_x64 c69 mo80 ph3_S72 q_x78 c81); rw [di_9, d_x78] at t; exact t), (by have t : iv2 ≤ kv1 ∧ (x78 = 4 → iv2 < kv1 ∨ iv4 = 4) := (qr667 r_kv1 hiv2 hiv4 bb_x7 c11 hiv55 mo79 ph2_S57 ph3_S57 r_kv68 fn_x64 c69 hiv70 mo80 ph2_S72 ph3_S72 q_x78 c81); rw [di_8, di_9, d_kv1, d_x78] at t; exact t)⟩
      · exact hq _ _ hI g0 f0 ⟨hG, hn, (Or.inl (by rw [← d_x78]; exact (qr668 hiv4 bb_x7 c11 mo79 ph3_S57 r_kv68 fn_x64 c69 mo80 ph3_S72 q_x78 c81))), (by have t : x78 = 5 → 0 < kv76 := (qr669 hiv4 hiv6 hO bb_x7 c11 ph0_S57 mo79 ph3_S57 r_kv68 fn_x64 c69 ph0_S72 mo80 ph3_S72 q_x78 c81); rw [d_x78, d_kv76] at t; exact t), (by have t : x78 = 5 ∨ ¬ iv4 = 5 := (qr670 hiv4 bb_x7 c11 mo79 ph3_S57 r_kv68 fn_x64 c69 mo80 ph3_S72 q_x78 c81); rw [di_9, d_x78] at t; exact t), (by have t : iv2 ≤ kv1 ∧ (x78 = 4 → iv2 < kv1 ∨ iv4 = 4) := (qr671 r_kv1 hiv2 hiv4 bb_x7 c11 hiv55 mo79 ph2_S57 ph3_S57 r_kv68 fn_x64 c69 hiv70 mo80 ph2_S72 ph3_S72 q_x78 c81); rw [di_8, di_9, d_kv1, d_x78] at t; exact t)⟩
    · refine ⟨a62, ea62, ?_⟩
      refine ⟨o_a62, ?_⟩
      obtain ⟨a86, ea86, o_a86, l_a86⟩ := shl 51 rfl hI o_a62
      refine ⟨a86, ea86, ?_⟩
      refine ⟨o_a86, ?_⟩
      refine ⟨(vin l_a86 (m := 12) (by decide) (qr672 bb_x7 c11 r_kv68 fn_x64 c69)), ?_⟩
      intro x87 ex87
      refine ⟨fun c88 => ?_, fun c88 => ?_⟩
      · refine u_X11_known_47 ?_
        refine ⟨o_v0, ?_⟩
        intro x89 ex89
        have q_x89 : x89 = kv60 := ex89.trans d_kv60.symm
        have mo90 : x89 = 5 ∨ ¬ kv3 = 5 := ph1_S57.imp_left (fun z => q_x89.trans z)
        have d_x89 := ex89
        refine ⟨fun c91 => ?_, fun c91 => ?_⟩
        · refine ⟨a62, ea62, ?_⟩
          refine ⟨o_a62, ?_⟩
          obtain ⟨a93, ea93, o_a93, l_a93⟩ := shl 52 rfl hI o_a62
          refine ⟨a93, ea93, ?_⟩
          refine ⟨o_a93, ?_⟩
          refine ⟨(vin l_a93 (m := 12) (by decide) (qr673 h1 hiv4 bb_x7 c11 mo90 ph3_S57 r_kv68 fn_x64 c69 c88 q_x89 c91)), ?_⟩
          intro x94 ex94
          exact hq _ _ hI g0 f0 ⟨hG, hn, (Or.inl (by rw [← d_x89]; exact (qr674 h1 hiv4 bb_x7 c11 mo90 ph3_S57 r_kv68 fn_x64 c69 c88 q_x89 c91))), (by have t : x89 = 5 → 0 < kv61 := (qr675 h1 hiv4 hiv6 hO bb_x7 c11 ph0_S57 mo90 ph3_S57 r_kv68 fn_x64 c69 c88 q_x89 c91); rw [d_x89, d_kv61] at t; exact t), (by have t : x89 = 5 ∨ ¬ iv4 = 5 := (qr676 h1 hiv4 bb_x7 c11 mo90 ph3_S57 r_kv68 fn_x64 c69 c88 q_x89 c91); rw [di_9, d_x89] at t; exact t), (by have t : iv2 ≤ kv1 ∧ (x89 = 4 → iv2 < kv1 ∨ iv4 = 4) := (qr677 h1 r_kv1 hiv2 hiv4 bb_x7 c11 hiv55 mo90 ph2_S57 ph3_S57 r_kv68 fn_x64 c69 c88 q_x89 c91); rw [di_8, di_9, d_kv1, d_x89] at t; exact t)⟩
        · exact hq _ _ hI g0 f0 ⟨hG, hn, (Or.inl (by rw [← d_x89]; exact (qr678 h1 hiv4 bb_x7 c11 mo90 ph3_S57 r_kv68 fn_x64 c69 c88 q_x89 c91))), (by have t : x89 = 5 → 0 < kv61 := (qr679 h1 hiv4 hiv6 hO bb_x7 c11 ph0_S57 mo90 ph3_S57 r_kv68 fn_x64 c69 c88 q_x89 c91); rw [d_x89, d_kv61] at t; exact t), (by have t : x89 = 5 ∨ ¬ iv4 = 5 := (qr680 h1 hiv4 bb_x7 c11 mo90 ph3_S57 r_kv68 fn_x64 c69 c88 q_x89 c91); rw [di_9, d_x89] at t; exact t), (by have t : iv2 ≤ kv1 ∧ (x89 = 4 → iv2 < kv1 ∨ iv4 = 4) := (qr681 h1 r_kv1 hiv2 hiv4 bb_x7 c11 hiv55 mo90 ph2_S57 ph3_S57 r_kv68 fn_x64 c69 c88 q_x89 c91); rw [di_8, di_9, d_kv1, d_x89] at t; exact t)⟩
      · refine u_X11_known_42 ?_
        refine ⟨o_v0, ?_⟩
        obtain ⟨iv95, hiv95⟩ : ∃ z : Int32, z = kv1 := ⟨_, rfl⟩
        have d_iv95 := hiv95.trans d_kv1
        have do95_iv95 := d_iv95
        have do95_kv60 := d_kv60
        have do95_kv61 := d_kv61
        refine m_X11_flaw hI o_v0 (qr682 h1 bb_x7 c11 r_kv68 fn_x64 c69 c88) hG (by have t : kv60 = 5 → 0 < kv61 := (qr683 h1 hiv4 hiv6 hO bb_x7 c11 ph0_S57 ph1_S57 ph3_S57 r_kv68 fn_x64 c69 c88); rw [d_kv60, d_kv61] at t; exact t) (fun S97 hJ g98 fc99 p_S97 => ?_)
        obtain ⟨hG, pg0_S97, pg1_S97, pg2_S97, pg3_S97⟩ := p_S97
        have hn := rn_fr fc99 g98 hI o_v0 (by decide) hn
        have hI := hJ
        have l_a86 := (gr_len g98 o_a86).trans l_a86
        have d_kv1 := d_kv1.trans (fri_at fc99 (by decide) (by decide) o_v0).symm
        have d_kv68 := d_kv68.trans (fri_at fc99 (by decide) (by decide) o_a62).symm
        have ea62 := (frr_at fc99 (by decide) (by decide) o_v0).trans ea62
        have ea86 := (frr_at fc99 (by decide) (by decide) o_a62).trans ea86
        have f0 := fri_tr (S := S57) g0 f0 fc99 (by decide) (by decide)
        have o_a62 := gr_ob g98 o_a62
        have o_a86 := gr_ob g98 o_a86
        have o_v0 := gr_ob g98 o_v0
        have g0 := gr_tr (T := S57) g0 g98
        obtain ⟨kv100, d_kv100⟩ : ∃ z : Int32, z = fI S97 v0 9 := ⟨_, rfl⟩
        obtain ⟨kv101, d_kv101⟩ : ∃ z : Int32, z = fI S97 v0 13 := ⟨_, rfl⟩
        have ph0_S97 : kv100 = 5 → 0 < kv101 := by rw [d_kv100, d_kv101]; exact pg0_S97
        have ph1_S97 : kv100 = 5 ∨ ¬ kv60 = 5 := by rw [do95_kv60, d_kv100]; exact pg1_S97
        have mo102 : kv100 = 5 ∨ ¬ kv3 = 5 := ph1_S97.elim Or.inl (fun h => Or.inr (ph1_S57.resolve_left h))
        have ph2_S97 : iv95 ≤ kv1 ∧ (kv100 = 4 → iv95 < kv1 ∨ kv60 = 4) := by rw [do95_iv95, do95_kv60, d_kv1, d_kv100]; exact pg2_S97
        have ph3_S97 : kv100 = 5 := by rw [d_kv100]; exact pg3_S97
        intro _
        refine u_X11_known_47 ?_
        refine ⟨o_v0, ?_⟩
        intro x103 ex103
        have q_x103 : x103 = kv100 := ex103.trans d_kv100.symm
        have mo104 : x103 = 5 ∨ ¬ kv3 = 5 := mo102.imp_left (fun z => q_x103.trans z)
        have mo105 : x103 = 5 ∨ ¬ kv60 = 5 := ph1_S97.imp_left (fun z => q_x103.trans z)
        have d_x103 := ex103
        refine ⟨fun c106 => ?_, fun c106 => ?_⟩
        · refine ⟨a62, ea62, ?_⟩
          refine ⟨o_a62, ?_⟩
          obtain ⟨a108, ea108, o_a108, l_a108⟩ := shl 52 rfl hI o_a62
          refine ⟨a108, ea108, ?_⟩
          refine ⟨o_a108, ?_⟩
          refine ⟨(vin l_a108 (m := 12) (by decide) (qr684 h1 hiv4 bb_x7 c11 mo104 ph3_S57 r_kv68 fn_x64 c69 c88 mo105 ph3_S97 q_x103 c106)), ?_⟩
          intro x109 ex109
          exact hq _ _ hI g0 f0 ⟨hG, hn, (Or.inl (by rw [← d_x103]; exact (qr685 h1 hiv4 bb_x7 c11 mo104 ph3_S57 r_kv68 fn_x64 c69 c88 mo105 ph3_S97 q_x103 c106))), (by have t : x103 = 5 → 0 < kv101 := (qr686 h1 hiv4 hiv6 hO bb_x7 c11 ph0_S57 mo104 ph3_S57 r_kv68 fn_x64 c69 c88 ph0_S97 mo105 ph3_S97 q_x103 c106); rw [d_x103, d_kv101] at t; exact t), (by have t : x103 = 5 ∨ ¬ iv4 = 5 := (qr687 h1 hiv4 bb_x7 c11 mo104 ph3_S57 r_kv68 fn_x64 c69 c88 mo105 ph3_S97 q_x103 c106); rw [di_9, d_x103] at t; exact t), (by have t : iv2 ≤ kv1 ∧ (x103 = 4 → iv2 < kv1 ∨ iv4 = 4) := (qr688 h1 r_kv1 hiv2 hiv4 bb_x7 c11 hiv55 mo104 ph2_S57 ph3_S57 r_kv68 fn_x64 c69 c88 hiv95 mo105 ph2_S97 ph3_S97 q_x103 c106); rw [di_8, di_9, d_kv1, d_x103] at t; exact t)⟩
        · exact hq _ _ hI g0 f0 ⟨hG, hn, (Or.inl (by rw [← d_x103]; exact (qr689 h1 hiv4 bb_x7 c11 mo104 ph3_S57 r_kv68 fn_x64 c69 c88 mo105 ph3_S97 q_x103 c106))), (by have t : x103 = 5 → 0 < kv101 := (qr690 h1 hiv4 hiv6 hO bb_x7 c11 ph0_S57 mo104 ph3_S57 r_kv68 fn_x64 c69 c88 ph0_S97 mo105 ph3_S97 q_x103 c106); rw [d_x103, d_kv101] at t; exact t), (by have t : x103 = 5 ∨ ¬ iv4 = 5 := (qr691 h1 hiv4 bb_x7 c11 mo104 ph3_S57 r_kv68 fn_x64 c69 c88 mo105 ph3_S97 q_x103 c106); rw [di_9, d_x103] at t; exact t), (by have t : iv2 ≤ kv1 ∧ (x103 = 4 → iv2 < kv1 ∨ iv4 = 4) := (qr692 h1 r_kv1 hiv2 hiv4 bb_x7 c11 hiv55 mo104 ph2_S57 ph3_S57 r_kv68 fn_x64 c69 c88 hiv95 mo105 ph2_S97 ph3_S97 q_x103 c106); rw [di_8, di_9, d_kv1, d_x103] at t; exact t)⟩
end
section
set_option maxHeartbeats 4000000 in
set_option maxRecDepth 20000 in
theorem m_X11_needs {v0 : Nat} {v1 : Nat} {Q : HS → Prop} {S : HS} (hI : IV S) (o_v0 : ob S v0 11)  (hw_v1 : v1 < 54)  (hG : RG S v0) (hO : fI S v0 9 = 5 → 0 < fI S v0 13) (hq : ∀ (T : HS), IV T → Gr S T → FRI [(11, 8), (11, 9), (11, 10), (11, 11), (11, 12), (11, 13), (11, 14)] [] S T → (RG T v0) ∧ (fI T v0 9 = 5 → 0 < fI T v0 13) ∧ (fI T v0 9 = 5 ∨ ¬ fI S v0 9 = 5) ∧ (fI S v0 8 ≤ fI T v0 8 ∧ (fI T v0 9 = 4 → fI S v0 8 < fI T v0 8 ∨ fI S v0 9 = 4)) → Q T) : P_X11_needs v0 v1 Q S := by
  have g0 := gr_rf S
  have f0 := fri_rf [(11, 8), (11, 9), (11, 10), (11, 11), (11, 12), (11, 13), (11, 14)] [] S
  obtain ⟨kv1, d_kv1⟩ : ∃ z : Int32, z = fI S v0 8 := ⟨_, rfl⟩
  have r_kv1 : (0 : Int32) ≤ kv1 ∧ kv1 ≤ (900 : Int32) := by rw [d_kv1]; exact nu 25 rfl hI o_v0
  obtain ⟨iv2, hiv2⟩ : ∃ z : Int32, z = kv1 := ⟨_, rfl⟩
  have di_8 := hiv2.trans d_kv1
  obtain ⟨kv3, d_kv3⟩ : ∃ z : Int32, z = fI S v0 9 := ⟨_, rfl⟩
  obtain ⟨iv4, hiv4⟩ : ∃ z : Int32, z = kv3 := ⟨_, rfl⟩
  have di_9 := hiv4.trans d_kv3
  obtain ⟨kv5, d_kv5⟩ : ∃ z : Int32, z = fI S v0 13 := ⟨_, rfl⟩
  obtain ⟨iv6, hiv6⟩ : ∃ z : Int32, z = kv5 := ⟨_, rfl⟩
  have di_13 := hiv6.trans d_kv5
  have hO : iv4 = 5 → 0 < iv6 := by rw [di_9, di_13]; exact hO
  refine u_X11_needs ?_
  refine u_X11_needs_0 ?_
  refine ⟨o_v0, ?_⟩
  refine m_X11_isWord hI o_v0 hw_v1 (fun x7 S8 hI2 g9 b_x7 p_x7 => ?_)
  obtain ⟨z_S8, p_x7⟩ := p_x7
  subst z_S8
  intro _ _
  have bb_x7 : x7 = 0 ∨ x7 = 1 := b_x7
  have iw_x7 : x7 = 0 ∨ kv3 = 2 := by rw [d_kv3]; exact p_x7
  refine ⟨fun c11 => ?_, fun c11 => ?_⟩
  · refine u_X11_needs_13 ?_
    refine ⟨o_v0, ?_⟩
    obtain ⟨iv12, hiv12⟩ : ∃ z : Int32, z = kv5 := ⟨_, rfl⟩
    have d_iv12 := hiv12.trans d_kv5
    have do12_kv1 := d_kv1
    have do12_kv3 := d_kv3
    have do12_iv12 := d_iv12
    refine m_X11_goesOn hI o_v0 hG (by have t : kv3 = 5 → 0 < kv5 := (qr59 hiv4 hiv6 hO bb_x7 iw_x7 c11); rw [d_kv3, d_kv5] at t; exact t) (fun S14 hJ g15 fc16 p_S14 => ?_)
    obtain ⟨hG, pg0_S14, pg1_S14, pg2_S14⟩ := p_S14
    have hI := hJ
    have d_kv5 := d_kv5.trans (fri_at fc16 (by decide) (by decide) o_v0).symm
    have f0 := fri_tr (S := S) g0 f0 fc16 (by decide) (by decide)
    have o_v0 := gr_ob g15 o_v0
    have g0 := gr_tr (T := S) g0 g15
    obtain ⟨kv17, d_kv17⟩ : ∃ z : Int32, z = fI S14 v0 9 := ⟨_, rfl⟩
    have ph0_S14 : kv17 = 5 → 0 < kv5 := by rw [d_kv17, d_kv5]; exact pg0_S14
    have ph1_S14 : kv17 = 5 ∨ ¬ kv3 = 5 := by rw [do12_kv3, d_kv17]; exact pg1_S14
    obtain ⟨kv18, d_kv18⟩ : ∃ z : Int32, z = fI S14 v0 8 := ⟨_, rfl⟩
    have r_kv18 : (0 : Int32) ≤ kv18 ∧ kv18 ≤ (900 : Int32) := by rw [d_kv18]; exact nu 25 rfl hI o_v0
    have ph2_S14 : kv1 ≤ kv18 ∧ (kv17 = 4 → kv1 < kv18 ∨ kv3 = 4) := by rw [do12_kv1, do12_kv3, d_kv18, d_kv17]; exact pg2_S14
    intro _
    exact hq _ hI g0 f0 ⟨hG, (by have t : kv17 = 5 → 0 < kv5 := (qr505 hiv4 hiv6 hO bb_x7 iw_x7 c11 hiv12 ph0_S14 ph1_S14); rw [d_kv17, d_kv5] at t; exact t), (by have t : kv17 = 5 ∨ ¬ iv4 = 5 := (qr506 hiv4 bb_x7 iw_x7 c11 ph1_S14); rw [di_9, d_kv17] at t; exact t), (by have t : iv2 ≤ kv18 ∧ (kv17 = 4 → iv2 < kv18 ∨ iv4 = 4) := (qr507 r_kv1 hiv2 hiv4 bb_x7 iw_x7 c11 ph1_S14 r_kv18 ph2_S14); rw [di_8, di_9, d_kv18, d_kv17] at t; exact t)⟩
  · obtain ⟨iv19, hiv19⟩ : ∃ z : Int32, z = kv1 := ⟨_, rfl⟩
    have d_iv19 := hiv19.trans d_kv1
    have do19_iv19 := d_iv19
    have do19_kv3 := d_kv3
    have do19_kv5 := d_kv5
    refine m_X11_flaw hI o_v0 (qr623 hiv4 bb_x7 iw_x7 c11) hG (by have t : kv3 = 5 → 0 < kv5 := (qr624 hiv4 hiv6 hO bb_x7 iw_x7 c11); rw [d_kv3, d_kv5] at t; exact t) (fun S21 hJ g22 fc23 p_S21 => ?_)
    obtain ⟨hG, pg0_S21, pg1_S21, pg2_S21, pg3_S21⟩ := p_S21
    have hI := hJ
    have d_kv1 := d_kv1.trans (fri_at fc23 (by decide) (by decide) o_v0).symm
    have f0 := fri_tr (S := S) g0 f0 fc23 (by decide) (by decide)
    have o_v0 := gr_ob g22 o_v0
    have g0 := gr_tr (T := S) g0 g22
    obtain ⟨kv24, d_kv24⟩ : ∃ z : Int32, z = fI S21 v0 9 := ⟨_, rfl⟩
    obtain ⟨kv25, d_kv25⟩ : ∃ z : Int32, z = fI S21 v0 13 := ⟨_, rfl⟩
    have ph0_S21 : kv24 = 5 → 0 < kv25 := by rw [d_kv24, d_kv25]; exact pg0_S21
    have ph1_S21 : kv24 = 5 ∨ ¬ kv3 = 5 := by rw [do19_kv3, d_kv24]; exact pg1_S21
    have ph2_S21 : iv19 ≤ kv1 ∧ (kv24 = 4 → iv19 < kv1 ∨ kv3 = 4) := by rw [do19_iv19, do19_kv3, d_kv1, d_kv24]; exact pg2_S21
    have ph3_S21 : kv24 = 5 := by rw [d_kv24]; exact pg3_S21
    intro _
    refine u_X11_needs_13 ?_
    refine ⟨o_v0, ?_⟩
    obtain ⟨iv26, hiv26⟩ : ∃ z : Int32, z = kv25 := ⟨_, rfl⟩
    have d_iv26 := hiv26.trans d_kv25
    have do26_kv1 := d_kv1
    have do26_kv24 := d_kv24
    have do26_iv26 := d_iv26
    refine m_X11_goesOn hI o_v0 hG (by have t : kv24 = 5 → 0 < kv25 := (qr625 hiv4 hiv6 hO bb_x7 iw_x7 c11 ph0_S21 ph1_S21 ph3_S21); rw [d_kv24, d_kv25] at t; exact t) (fun S28 hJ g29 fc30 p_S28 => ?_)
    obtain ⟨hG, pg0_S28, pg1_S28, pg2_S28⟩ := p_S28
    have hI := hJ
    have d_kv25 := d_kv25.trans (fri_at fc30 (by decide) (by decide) o_v0).symm
    have f0 := fri_tr (S := S21) g0 f0 fc30 (by decide) (by decide)
    have o_v0 := gr_ob g29 o_v0
    have g0 := gr_tr (T := S21) g0 g29
    obtain ⟨kv31, d_kv31⟩ : ∃ z : Int32, z = fI S28 v0 9 := ⟨_, rfl⟩
    have ph0_S28 : kv31 = 5 → 0 < kv25 := by rw [d_kv31, d_kv25]; exact pg0_S28
    have ph1_S28 : kv31 = 5 ∨ ¬ kv24 = 5 := by rw [do26_kv24, d_kv31]; exact pg1_S28
    have mo32 : kv31 = 5 ∨ ¬ kv3 = 5 := ph1_S28.elim Or.inl (fun h => Or.inr (ph1_S21.resolve_left h))
    obtain ⟨kv33, d_kv33⟩ : ∃ z : Int32, z = fI S28 v0 8 := ⟨_, rfl⟩
    have r_kv33 : (0 : Int32) ≤ kv33 ∧ kv33 ≤ (900 : Int32) := by rw [d_kv33]; exact nu 25 rfl hI o_v0
    have ph2_S28 : kv1 ≤ kv33 ∧ (kv31 = 4 → kv1 < kv33 ∨ kv24 = 4) := by rw [do26_kv1, do26_kv24, d_kv33, d_kv31]; exact pg2_S28
    intro _
    exact hq _ hI g0 f0 ⟨hG, (by have t : kv31 = 5 → 0 < kv25 := (qr626 hiv4 hiv6 hO bb_x7 iw_x7 c11 ph0_S21 mo32 ph3_S21 hiv26 ph0_S28 ph1_S28); rw [d_kv31, d_kv25] at t; exact t), (by have t : kv31 = 5 ∨ ¬ iv4 = 5 := (qr627 hiv4 bb_x7 iw_x7 c11 mo32 ph3_S21 ph1_S28); rw [di_9, d_kv31] at t; exact t), (by have t : iv2 ≤ kv33 ∧ (kv31 = 4 → iv2 < kv33 ∨ iv4 = 4) := (qr628 r_kv1 hiv2 hiv4 bb_x7 iw_x7 c11 hiv19 mo32 ph2_S21 ph3_S21 ph1_S28 r_kv33 ph2_S28); rw [di_8, di_9, d_kv33, d_kv31] at t; exact t)⟩
set_option maxHeartbeats 4000000 in
set_option maxRecDepth 20000 in
theorem m_X11_readFresh {v0 : Nat} {Q : Int64 → HS → Prop} {S : HS} (hI : IV S) (o_v0 : ob S v0 11)    (hG : RG S v0) (hO : fI S v0 9 = 5 → 0 < fI S v0 13) (hq : ∀ (r : Int64) (T : HS), IV T → Gr S T → FRI [(11, 8), (11, 9), (11, 10), (11, 11), (11, 12), (11, 13), (11, 14)] [] S T → (RG T v0) ∧ (fI T v0 9 = 5 → 0 < fI T v0 13) ∧ (fI T v0 9 = 5 ∨ ¬ fI S v0 9 = 5) ∧ (fI S v0 8 ≤ fI T v0 8 ∧ (fI T v0 9 = 4 → fI S v0 8 < fI T v0 8 ∨ fI S v0 9 = 4)) → Q r T) : P_X11_readFresh v0 Q S := by
  have g0 := gr_rf S
  have f0 := fri_rf [(11, 8), (11, 9), (11, 10), (11, 11), (11, 12), (11, 13), (11, 14)] [] S
  obtain ⟨kv1, d_kv1⟩ : ∃ z : Int32, z = fI S v0 8 := ⟨_, rfl⟩
  have r_kv1 : (0 : Int32) ≤ kv1 ∧ kv1 ≤ (900 : Int32) := by rw [d_kv1]; exact nu 25 rfl hI o_v0
  obtain ⟨iv2, hiv2⟩ : ∃ z : Int32, z = kv1 := ⟨_, rfl⟩
  have di_8 := hiv2.trans d_kv1
  obtain ⟨kv3, d_kv3⟩ : ∃ z : Int32, z = fI S v0 9 := ⟨_, rfl⟩
  obtain ⟨iv4, hiv4⟩ : ∃ z : Int32, z = kv3 := ⟨_, rfl⟩
  have di_9 := hiv4.trans d_kv3
  obtain ⟨kv5, d_kv5⟩ : ∃ z : Int32, z = fI S v0 13 := ⟨_, rfl⟩
  obtain ⟨iv6, hiv6⟩ : ∃ z : Int32, z = kv5 := ⟨_, rfl⟩
  have di_13 := hiv6.trans d_kv5
  have hO : iv4 = 5 → 0 < iv6 := by rw [di_9, di_13]; exact hO
  refine u_X11_readFresh ?_
  refine u_X11_readFresh_0 ?_
  refine ⟨o_v0, ?_⟩
  refine m_X11_isName hI o_v0 (fun x7 S8 hI2 g9 b_x7 p_x7 => ?_)
  subst p_x7
  intro _ _
  have bb_x7 : x7 = 0 ∨ x7 = 1 := b_x7
  refine ⟨fun c11 => ?_, fun c11 => ?_⟩
  · refine u_X11_readFresh_12 ?_
    refine ⟨o_v0, ?_⟩
    obtain ⟨a12, ea12, o_a12, -⟩ := id hG
    refine ⟨a12, ea12, ?_⟩
    intro x13 ex13
    have dj_x13 := ex13
    refine ⟨o_a12, ?_⟩
    refine m_X10_find hI o_a12 (fun x14 S15 hI2 g16 p_x14 => ?_)
    obtain ⟨z_S15, p_x14⟩ := p_x14
    subst z_S15
    intro _
    obtain ⟨kv18, d_kv18⟩ : ∃ z : Int32, z = fI S a12 6 := ⟨_, rfl⟩
    have r_kv18 : (0 : Int32) ≤ kv18 ∧ kv18 ≤ (12 : Int32) := by rw [d_kv18]; exact nu 22 rfl hI o_a12
    have fn_x14 : x14 = -1 ∨ (0 ≤ x14 ∧ x14 < kv18) := by rw [d_kv18]; exact p_x14
    refine ⟨fun c19 => ?_, fun c19 => ?_⟩
    · refine u_X11_readFresh_32 ?_
      refine ⟨o_v0, ?_⟩
      intro x20 ex20
      have q_x20 : x20 = x13 := ex20.trans dj_x13.symm
      have dj_x20 := ex20
      obtain ⟨iv21, hiv21⟩ : ∃ z : Int32, z = kv5 := ⟨_, rfl⟩
      have d_iv21 := hiv21.trans d_kv5
      have do21_kv1 := d_kv1
      have do21_kv3 := d_kv3
      have do21_iv21 := d_iv21
      refine m_X11_goesOn hI o_v0 hG (by have t : kv3 = 5 → 0 < kv5 := (qr601 hiv4 hiv6 hO bb_x7 c11 r_kv18 fn_x14 c19); rw [d_kv3, d_kv5] at t; exact t) (fun S23 hJ g24 fc25 p_S23 => ?_)
      obtain ⟨hG, pg0_S23, pg1_S23, pg2_S23⟩ := p_S23
      have hI := hJ
      have d_kv5 := d_kv5.trans (fri_at fc25 (by decide) (by decide) o_v0).symm
      have d_kv18 := d_kv18.trans (fri_at fc25 (by decide) (by decide) o_a12).symm
      have ea12 := (frr_at fc25 (by decide) (by decide) o_v0).trans ea12
      have f0 := fri_tr (S := S) g0 f0 fc25 (by decide) (by decide)
      have o_a12 := gr_ob g24 o_a12
      have o_v0 := gr_ob g24 o_v0
      have g0 := gr_tr (T := S) g0 g24
      obtain ⟨kv26, d_kv26⟩ : ∃ z : Int32, z = fI S23 v0 9 := ⟨_, rfl⟩
      have ph0_S23 : kv26 = 5 → 0 < kv5 := by rw [d_kv26, d_kv5]; exact pg0_S23
      have ph1_S23 : kv26 = 5 ∨ ¬ kv3 = 5 := by rw [do21_kv3, d_kv26]; exact pg1_S23
      obtain ⟨kv27, d_kv27⟩ : ∃ z : Int32, z = fI S23 v0 8 := ⟨_, rfl⟩
      have r_kv27 : (0 : Int32) ≤ kv27 ∧ kv27 ≤ (900 : Int32) := by rw [d_kv27]; exact nu 25 rfl hI o_v0
      have ph2_S23 : kv1 ≤ kv27 ∧ (kv26 = 4 → kv1 < kv27 ∨ kv3 = 4) := by rw [do21_kv1, do21_kv3, d_kv27, d_kv26]; exact pg2_S23
      intro _
      exact hq _ _ hI g0 f0 ⟨hG, (by have t : kv26 = 5 → 0 < kv5 := (qr602 hiv4 hiv6 hO bb_x7 c11 r_kv18 fn_x14 c19 hiv21 ph0_S23 ph1_S23); rw [d_kv26, d_kv5] at t; exact t), (by have t : kv26 = 5 ∨ ¬ iv4 = 5 := (qr603 hiv4 bb_x7 c11 r_kv18 fn_x14 c19 ph1_S23); rw [di_9, d_kv26] at t; exact t), (by have t : iv2 ≤ kv27 ∧ (kv26 = 4 → iv2 < kv27 ∨ iv4 = 4) := (qr604 r_kv1 hiv2 hiv4 bb_x7 c11 r_kv18 fn_x14 c19 ph1_S23 r_kv27 ph2_S23); rw [di_8, di_9, d_kv27, d_kv26] at t; exact t)⟩
    · obtain ⟨iv28, hiv28⟩ : ∃ z : Int32, z = kv1 := ⟨_, rfl⟩
      have d_iv28 := hiv28.trans d_kv1
      have do28_iv28 := d_iv28
      have do28_kv3 := d_kv3
      have do28_kv5 := d_kv5
      refine m_X11_flaw hI o_v0 (qr605 bb_x7 c11 r_kv18 fn_x14 c19) hG (by have t : kv3 = 5 → 0 < kv5 := (qr606 hiv4 hiv6 hO bb_x7 c11 r_kv18 fn_x14 c19); rw [d_kv3, d_kv5] at t; exact t) (fun S30 hJ g31 fc32 p_S30 => ?_)
      obtain ⟨hG, pg0_S30, pg1_S30, pg2_S30, pg3_S30⟩ := p_S30
      have hI := hJ
      have d_kv1 := d_kv1.trans (fri_at fc32 (by decide) (by decide) o_v0).symm
      have d_kv18 := d_kv18.trans (fri_at fc32 (by decide) (by decide) o_a12).symm
      have ea12 := (frr_at fc32 (by decide) (by decide) o_v0).trans ea12
      have f0 := fri_tr (S := S) g0 f0 fc32 (by decide) (by decide)
      have o_a12 := gr_ob g31 o_a12
      have o_v0 := gr_ob g31 o_v0
      have g0 := gr_tr (T := S) g0 g31
      obtain ⟨kv33, d_kv33⟩ : ∃ z : Int32, z = fI S30 v0 9 := ⟨_, rfl⟩
      obtain ⟨kv34, d_kv34⟩ : ∃ z : Int32, z = fI S30 v0 13 := ⟨_, rfl⟩
      have ph0_S30 : kv33 = 5 → 0 < kv34 := by rw [d_kv33, d_kv34]; exact pg0_S30
      have ph1_S30 : kv33 = 5 ∨ ¬ kv3 = 5 := by rw [do28_kv3, d_kv33]; exact pg1_S30
      have ph2_S30 : iv28 ≤ kv1 ∧ (kv33 = 4 → iv28 < kv1 ∨ kv3 = 4) := by rw [do28_iv28, do28_kv3, d_kv1, d_kv33]; exact pg2_S30
      have ph3_S30 : kv33 = 5 := by rw [d_kv33]; exact pg3_S30
      intro _
      refine u_X11_readFresh_32 ?_
      refine ⟨o_v0, ?_⟩
      intro x35 ex35
      have dj_x35 := ex35
      obtain ⟨iv36, hiv36⟩ : ∃ z : Int32, z = kv34 := ⟨_, rfl⟩
      have d_iv36 := hiv36.trans d_kv34
      have do36_kv1 := d_kv1
      have do36_kv33 := d_kv33
      have do36_iv36 := d_iv36
      refine m_X11_goesOn hI o_v0 hG (by have t : kv33 = 5 → 0 < kv34 := (qr607 hiv4 hiv6 hO bb_x7 c11 r_kv18 fn_x14 c19 ph0_S30 ph1_S30 ph3_S30); rw [d_kv33, d_kv34] at t; exact t) (fun S38 hJ g39 fc40 p_S38 => ?_)
      obtain ⟨hG, pg0_S38, pg1_S38, pg2_S38⟩ := p_S38
      have hI := hJ
      have d_kv18 := d_kv18.trans (fri_at fc40 (by decide) (by decide) o_a12).symm
      have d_kv34 := d_kv34.trans (fri_at fc40 (by decide) (by decide) o_v0).symm
      have ea12 := (frr_at fc40 (by decide) (by decide) o_v0).trans ea12
      have f0 := fri_tr (S := S30) g0 f0 fc40 (by decide) (by decide)
      have o_a12 := gr_ob g39 o_a12
      have o_v0 := gr_ob g39 o_v0
      have g0 := gr_tr (T := S30) g0 g39
      obtain ⟨kv41, d_kv41⟩ : ∃ z : Int32, z = fI S38 v0 9 := ⟨_, rfl⟩
      have ph0_S38 : kv41 = 5 → 0 < kv34 := by rw [d_kv41, d_kv34]; exact pg0_S38
      have ph1_S38 : kv41 = 5 ∨ ¬ kv33 = 5 := by rw [do36_kv33, d_kv41]; exact pg1_S38
      have mo42 : kv41 = 5 ∨ ¬ kv3 = 5 := ph1_S38.elim Or.inl (fun h => Or.inr (ph1_S30.resolve_left h))
      obtain ⟨kv43, d_kv43⟩ : ∃ z : Int32, z = fI S38 v0 8 := ⟨_, rfl⟩
      have r_kv43 : (0 : Int32) ≤ kv43 ∧ kv43 ≤ (900 : Int32) := by rw [d_kv43]; exact nu 25 rfl hI o_v0
      have ph2_S38 : kv1 ≤ kv43 ∧ (kv41 = 4 → kv1 < kv43 ∨ kv33 = 4) := by rw [do36_kv1, do36_kv33, d_kv43, d_kv41]; exact pg2_S38
      intro _
      exact hq _ _ hI g0 f0 ⟨hG, (by have t : kv41 = 5 → 0 < kv34 := (qr608 hiv4 hiv6 hO bb_x7 c11 r_kv18 fn_x14 c19 ph0_S30 mo42 ph3_S30 hiv36 ph0_S38 ph1_S38); rw [d_kv41, d_kv34] at t; exact t), (by have t : kv41 = 5 ∨ ¬ iv4 = 5 := (qr609 hiv4 bb_x7 c11 r_kv18 fn_x14 c19 mo42 ph3_S30 ph1_S38); rw [di_9, d_kv41] at t; exact t), (by have t : iv2 ≤ kv43 ∧ (kv41 = 4 → iv2 < kv43 ∨ iv4 = 4) := (qr610 r_kv1 hiv2 hiv4 bb_x7 c11 r_kv18 fn_x14 c19 hiv28 mo42 ph2_S30 ph3_S30 ph1_S38 r_kv43 ph2_S38); rw [di_8, di_9, d_kv43, d_kv41] at t; exact t)⟩
  · obtain ⟨iv44, hiv44⟩ : ∃ z : Int32, z = kv1 := ⟨_, rfl⟩
    have d_iv44 := hiv44.trans d_kv1
    have do44_iv44 := d_iv44
    have do44_kv3 := d_kv3
    have do44_kv5 := d_kv5
    refine m_X11_flaw hI o_v0 (qr611 bb_x7 c11) hG (by have t : kv3 = 5 → 0 < kv5 := (qr612 hiv4 hiv6 hO bb_x7 c11); rw [d_kv3, d_kv5] at t; exact t) (fun S46 hJ g47 fc48 p_S46 => ?_)
    obtain ⟨hG, pg0_S46, pg1_S46, pg2_S46, pg3_S46⟩ := p_S46
    have hI := hJ
    have d_kv1 := d_kv1.trans (fri_at fc48 (by decide) (by decide) o_v0).symm
    have f0 := fri_tr (S := S) g0 f0 fc48 (by decide) (by decide)
    have o_v0 := gr_ob g47 o_v0
    have g0 := gr_tr (T := S) g0 g47
    obtain ⟨kv49, d_kv49⟩ : ∃ z : Int32, z = fI S46 v0 9 := ⟨_, rfl⟩
    obtain ⟨kv50, d_kv50⟩ : ∃ z : Int32, z = fI S46 v0 13 := ⟨_, rfl⟩
    have ph0_S46 : kv49 = 5 → 0 < kv50 := by rw [d_kv49, d_kv50]; exact pg0_S46
    have ph1_S46 : kv49 = 5 ∨ ¬ kv3 = 5 := by rw [do44_kv3, d_kv49]; exact pg1_S46
    have ph2_S46 : iv44 ≤ kv1 ∧ (kv49 = 4 → iv44 < kv1 ∨ kv3 = 4) := by rw [do44_iv44, do44_kv3, d_kv1, d_kv49]; exact pg2_S46
    have ph3_S46 : kv49 = 5 := by rw [d_kv49]; exact pg3_S46
    intro _
    refine u_X11_readFresh_12 ?_
    refine ⟨o_v0, ?_⟩
    obtain ⟨a51, ea51, o_a51, -⟩ := id hG
    refine ⟨a51, ea51, ?_⟩
    intro x52 ex52
    have dj_x52 := ex52
    refine ⟨o_a51, ?_⟩
    refine m_X10_find hI o_a51 (fun x53 S54 hI2 g55 p_x53 => ?_)
    obtain ⟨z_S54, p_x53⟩ := p_x53
    subst z_S54
    intro _
    obtain ⟨kv57, d_kv57⟩ : ∃ z : Int32, z = fI S46 a51 6 := ⟨_, rfl⟩
    have r_kv57 : (0 : Int32) ≤ kv57 ∧ kv57 ≤ (12 : Int32) := by rw [d_kv57]; exact nu 22 rfl hI o_a51
    have fn_x53 : x53 = -1 ∨ (0 ≤ x53 ∧ x53 < kv57) := by rw [d_kv57]; exact p_x53
    refine ⟨fun c58 => ?_, fun c58 => ?_⟩
    · refine u_X11_readFresh_32 ?_
      refine ⟨o_v0, ?_⟩
      intro x59 ex59
      have q_x59 : x59 = x52 := ex59.trans dj_x52.symm
      have dj_x59 := ex59
      obtain ⟨iv60, hiv60⟩ : ∃ z : Int32, z = kv50 := ⟨_, rfl⟩
      have d_iv60 := hiv60.trans d_kv50
      have do60_kv1 := d_kv1
      have do60_kv49 := d_kv49
      have do60_iv60 := d_iv60
      refine m_X11_goesOn hI o_v0 hG (by have t : kv49 = 5 → 0 < kv50 := (qr613 hiv4 hiv6 hO bb_x7 c11 ph0_S46 ph1_S46 ph3_S46 r_kv57 fn_x53 c58); rw [d_kv49, d_kv50] at t; exact t) (fun S62 hJ g63 fc64 p_S62 => ?_)
      obtain ⟨hG, pg0_S62, pg1_S62, pg2_S62⟩ := p_S62
      have hI := hJ
      have d_kv50 := d_kv50.trans (fri_at fc64 (by decide) (by decide) o_v0).symm
      have d_kv57 := d_kv57.trans (fri_at fc64 (by decide) (by decide) o_a51).symm
      have ea51 := (frr_at fc64 (by decide) (by decide) o_v0).trans ea51
      have f0 := fri_tr (S := S46) g0 f0 fc64 (by decide) (by decide)
      have o_a51 := gr_ob g63 o_a51
      have o_v0 := gr_ob g63 o_v0
      have g0 := gr_tr (T := S46) g0 g63
      obtain ⟨kv65, d_kv65⟩ : ∃ z : Int32, z = fI S62 v0 9 := ⟨_, rfl⟩
      have ph0_S62 : kv65 = 5 → 0 < kv50 := by rw [d_kv65, d_kv50]; exact pg0_S62
      have ph1_S62 : kv65 = 5 ∨ ¬ kv49 = 5 := by rw [do60_kv49, d_kv65]; exact pg1_S62
      have mo66 : kv65 = 5 ∨ ¬ kv3 = 5 := ph1_S62.elim Or.inl (fun h => Or.inr (ph1_S46.resolve_left h))
      obtain ⟨kv67, d_kv67⟩ : ∃ z : Int32, z = fI S62 v0 8 := ⟨_, rfl⟩
      have r_kv67 : (0 : Int32) ≤ kv67 ∧ kv67 ≤ (900 : Int32) := by rw [d_kv67]; exact nu 25 rfl hI o_v0
      have ph2_S62 : kv1 ≤ kv67 ∧ (kv65 = 4 → kv1 < kv67 ∨ kv49 = 4) := by rw [do60_kv1, do60_kv49, d_kv67, d_kv65]; exact pg2_S62
      intro _
      exact hq _ _ hI g0 f0 ⟨hG, (by have t : kv65 = 5 → 0 < kv50 := (qr614 hiv4 hiv6 hO bb_x7 c11 ph0_S46 mo66 ph3_S46 r_kv57 fn_x53 c58 hiv60 ph0_S62 ph1_S62); rw [d_kv65, d_kv50] at t; exact t), (by have t : kv65 = 5 ∨ ¬ iv4 = 5 := (qr615 hiv4 bb_x7 c11 mo66 ph3_S46 r_kv57 fn_x53 c58 ph1_S62); rw [di_9, d_kv65] at t; exact t), (by have t : iv2 ≤ kv67 ∧ (kv65 = 4 → iv2 < kv67 ∨ iv4 = 4) := (qr616 r_kv1 hiv2 hiv4 bb_x7 c11 hiv44 mo66 ph2_S46 ph3_S46 r_kv57 fn_x53 c58 ph1_S62 r_kv67 ph2_S62); rw [di_8, di_9, d_kv67, d_kv65] at t; exact t)⟩
    · obtain ⟨iv68, hiv68⟩ : ∃ z : Int32, z = kv1 := ⟨_, rfl⟩
      have d_iv68 := hiv68.trans d_kv1
      have do68_iv68 := d_iv68
      have do68_kv49 := d_kv49
      have do68_kv50 := d_kv50
      refine m_X11_flaw hI o_v0 (qr617 bb_x7 c11 r_kv57 fn_x53 c58) hG (by have t : kv49 = 5 → 0 < kv50 := (qr618 hiv4 hiv6 hO bb_x7 c11 ph0_S46 ph1_S46 ph3_S46 r_kv57 fn_x53 c58); rw [d_kv49, d_kv50] at t; exact t) (fun S70 hJ g71 fc72 p_S70 => ?_)
      obtain ⟨hG, pg0_S70, pg1_S70, pg2_S70, pg3_S70⟩ := p_S70
      have hI := hJ
      have d_kv1 := d_kv1.trans (fri_at fc72 (by decide) (by decide) o_v0).symm
      have d_kv57 := d_kv57.trans (fri_at fc72 (by decide) (by decide) o_a51).symm
      have ea51 := (frr_at fc72 (by decide) (by decide) o_v0).trans ea51
      have f0 := fri_tr (S := S46) g0 f0 fc72 (by decide) (by decide)
      have o_a51 := gr_ob g71 o_a51
      have o_v0 := gr_ob g71 o_v0
      have g0 := gr_tr (T := S46) g0 g71
      obtain ⟨kv73, d_kv73⟩ : ∃ z : Int32, z = fI S70 v0 9 := ⟨_, rfl⟩
      obtain ⟨kv74, d_kv74⟩ : ∃ z : Int32, z = fI S70 v0 13 := ⟨_, rfl⟩
      have ph0_S70 : kv73 = 5 → 0 < kv74 := by rw [d_kv73, d_kv74]; exact pg0_S70
      have ph1_S70 : kv73 = 5 ∨ ¬ kv49 = 5 := by rw [do68_kv49, d_kv73]; exact pg1_S70
      have mo75 : kv73 = 5 ∨ ¬ kv3 = 5 := ph1_S70.elim Or.inl (fun h => Or.inr (ph1_S46.resolve_left h))
      have ph2_S70 : iv68 ≤ kv1 ∧ (kv73 = 4 → iv68 < kv1 ∨ kv49 = 4) := by rw [do68_iv68, do68_kv49, d_kv1, d_kv73]; exact pg2_S70
      have ph3_S70 : kv73 = 5 := by rw [d_kv73]; exact pg3_S70
      intro _
      refine u_X11_readFresh_32 ?_
      refine ⟨o_v0, ?_⟩
      intro x76 ex76
      have dj_x76 := ex76
      obtain ⟨iv77, hiv77⟩ : ∃ z : Int32, z = kv74 := ⟨_, rfl⟩
      have d_iv77 := hiv77.trans d_kv74
      have do77_kv1 := d_kv1
      have do77_kv73 := d_kv73
      have do77_iv77 := d_iv77
      refine m_X11_goesOn hI o_v0 hG (by have t : kv73 = 5 → 0 < kv74 := (qr619 hiv4 hiv6 hO bb_x7 c11 ph0_S46 mo75 ph3_S46 r_kv57 fn_x53 c58 ph0_S70 ph1_S70 ph3_S70); rw [d_kv73, d_kv74] at t; exact t) (fun S79 hJ g80 fc81 p_S79 => ?_)
      obtain ⟨hG, pg0_S79, pg1_S79, pg2_S79⟩ := p_S79
      have hI := hJ
      have d_kv57 := d_kv57.trans (fri_at fc81 (by decide) (by decide) o_a51).symm
      have d_kv74 := d_kv74.trans (fri_at fc81 (by decide) (by decide) o_v0).symm
      have ea51 := (frr_at fc81 (by decide) (by decide) o_v0).trans ea51
      have f0 := fri_tr (S := S70) g0 f0 fc81 (by decide) (by decide)
      have o_a51 := gr_ob g80 o_a51
      have o_v0 := gr_ob g80 o_v0
      have g0 := gr_tr (T := S70) g0 g80
      obtain ⟨kv82, d_kv82⟩ : ∃ z : Int32, z = fI S79 v0 9 := ⟨_, rfl⟩
      have ph0_S79 : kv82 = 5 → 0 < kv74 := by rw [d_kv82, d_kv74]; exact pg0_S79
      have ph1_S79 : kv82 = 5 ∨ ¬ kv73 = 5 := by rw [do77_kv73, d_kv82]; exact pg1_S79
      have mo83 : kv82 = 5 ∨ ¬ kv3 = 5 := ph1_S79.elim Or.inl (fun h => Or.inr (mo75.resolve_left h))
      have mo84 : kv82 = 5 ∨ ¬ kv49 = 5 := ph1_S79.elim Or.inl (fun h => Or.inr (ph1_S70.resolve_left h))
      obtain ⟨kv85, d_kv85⟩ : ∃ z : Int32, z = fI S79 v0 8 := ⟨_, rfl⟩
      have r_kv85 : (0 : Int32) ≤ kv85 ∧ kv85 ≤ (900 : Int32) := by rw [d_kv85]; exact nu 25 rfl hI o_v0
      have ph2_S79 : kv1 ≤ kv85 ∧ (kv82 = 4 → kv1 < kv85 ∨ kv73 = 4) := by rw [do77_kv1, do77_kv73, d_kv85, d_kv82]; exact pg2_S79
      intro _
      exact hq _ _ hI g0 f0 ⟨hG, (by have t : kv82 = 5 → 0 < kv74 := (qr620 hiv4 hiv6 hO bb_x7 c11 ph0_S46 mo83 ph3_S46 r_kv57 fn_x53 c58 ph0_S70 mo84 ph3_S70 hiv77 ph0_S79 ph1_S79); rw [d_kv82, d_kv74] at t; exact t), (by have t : kv82 = 5 ∨ ¬ iv4 = 5 := (qr621 hiv4 bb_x7 c11 mo83 ph3_S46 r_kv57 fn_x53 c58 mo84 ph3_S70 ph1_S79); rw [di_9, d_kv82] at t; exact t), (by have t : iv2 ≤ kv85 ∧ (kv82 = 4 → iv2 < kv85 ∨ iv4 = 4) := (qr622 r_kv1 hiv2 hiv4 bb_x7 c11 hiv44 mo83 ph2_S46 ph3_S46 r_kv57 fn_x53 c58 hiv68 mo84 ph2_S70 ph3_S70 ph1_S79 r_kv85 ph2_S79); rw [di_8, di_9, d_kv85, d_kv82] at t; exact t)⟩
set_option maxHeartbeats 4000000 in
set_option maxRecDepth 20000 in
theorem m_X11_readWhole {v0 : Nat} {v1 : Int32} {v2 : Int32} {Q : Int32 → HS → Prop} {S : HS} (hI : IV S) (o_v0 : ob S v0 11)    (hG : RG S v0) (hO : fI S v0 9 = 5 → 0 < fI S v0 13) (hq : ∀ (r : Int32) (T : HS), IV T → Gr S T → FRI [(11, 8), (11, 9), (11, 10), (11, 11), (11, 12), (11, 13), (11, 14)] [] S T → (RG T v0) ∧ (r = v1 ∨ (v1 ≤ r ∧ r ≤ v2)) ∧ (fI T v0 9 = 5 → 0 < fI T v0 13) ∧ (fI T v0 9 = 5 ∨ ¬ fI S v0 9 = 5) ∧ (fI S v0 8 ≤ fI T v0 8 ∧ (fI T v0 9 = 4 → fI S v0 8 < fI T v0 8 ∨ fI S v0 9 = 4)) → Q r T) : P_X11_readWhole v0 v1 v2 Q S := by
  have g0 := gr_rf S
  have f0 := fri_rf [(11, 8), (11, 9), (11, 10), (11, 11), (11, 12), (11, 13), (11, 14)] [] S
  obtain ⟨kv1, d_kv1⟩ : ∃ z : Int32, z = fI S v0 8 := ⟨_, rfl⟩
  have r_kv1 : (0 : Int32) ≤ kv1 ∧ kv1 ≤ (900 : Int32) := by rw [d_kv1]; exact nu 25 rfl hI o_v0
  obtain ⟨iv2, hiv2⟩ : ∃ z : Int32, z = kv1 := ⟨_, rfl⟩
  have di_8 := hiv2.trans d_kv1
  obtain ⟨kv3, d_kv3⟩ : ∃ z : Int32, z = fI S v0 9 := ⟨_, rfl⟩
  obtain ⟨iv4, hiv4⟩ : ∃ z : Int32, z = kv3 := ⟨_, rfl⟩
  have di_9 := hiv4.trans d_kv3
  obtain ⟨kv5, d_kv5⟩ : ∃ z : Int32, z = fI S v0 13 := ⟨_, rfl⟩
  obtain ⟨iv6, hiv6⟩ : ∃ z : Int32, z = kv5 := ⟨_, rfl⟩
  have di_13 := hiv6.trans d_kv5
  have hO : iv4 = 5 → 0 < iv6 := by rw [di_9, di_13]; exact hO
  refine u_X11_readWhole ?_
  refine u_X11_readWhole_0 ?_
  refine ⟨o_v0, ?_⟩
  intro x7 ex7
  have q_x7 : x7 = kv3 := ex7.trans d_kv3.symm
  have d_x7 := ex7
  refine ⟨fun c8 => ?_, fun c8 => ?_⟩
  · intro x9 ex9
    have d_x9 := ex9
    refine u_X11_in ?_
    refine u_X11_in_0 ?_
    refine ⟨fun c10 => ?_, fun c10 => ?_⟩
    · intro _ _
      refine ⟨fun c12 => absurd (show ¬ (0 : Int32) = 0 from c12) (by decide), fun c12 => ?_⟩
      obtain ⟨iv13, hiv13⟩ : ∃ z : Int32, z = kv1 := ⟨_, rfl⟩
      have d_iv13 := hiv13.trans d_kv1
      have do13_iv13 := d_iv13
      have do13_x7 := d_x7
      have do13_kv5 := d_kv5
      refine m_X11_flaw hI o_v0 (qr248 hiv4 q_x7 c8 c10) hG (by have t : x7 = 5 → 0 < kv5 := (qr249 hiv4 hiv6 hO q_x7 c8 c10); rw [d_x7, d_kv5] at t; exact t) (fun S15 hJ g16 fc17 p_S15 => ?_)
      obtain ⟨hG, pg0_S15, pg1_S15, pg2_S15, pg3_S15⟩ := p_S15
      have hI := hJ
      have d_kv1 := d_kv1.trans (fri_at fc17 (by decide) (by decide) o_v0).symm
      have d_x9 := d_x9.trans (fri_at fc17 (by decide) (by decide) o_v0).symm
      have f0 := fri_tr (S := S) g0 f0 fc17 (by decide) (by decide)
      have o_v0 := gr_ob g16 o_v0
      have g0 := gr_tr (T := S) g0 g16
      obtain ⟨kv18, d_kv18⟩ : ∃ z : Int32, z = fI S15 v0 9 := ⟨_, rfl⟩
      obtain ⟨kv19, d_kv19⟩ : ∃ z : Int32, z = fI S15 v0 13 := ⟨_, rfl⟩
      have ph0_S15 : kv18 = 5 → 0 < kv19 := by rw [d_kv18, d_kv19]; exact pg0_S15
      have ph1_S15 : kv18 = 5 ∨ ¬ x7 = 5 := by rw [do13_x7, d_kv18]; exact pg1_S15
      have ph2_S15 : iv13 ≤ kv1 ∧ (kv18 = 4 → iv13 < kv1 ∨ x7 = 4) := by rw [do13_iv13, do13_x7, d_kv1, d_kv18]; exact pg2_S15
      have ph3_S15 : kv18 = 5 := by rw [d_kv18]; exact pg3_S15
      intro _
      refine u_X11_readWhole_33 ?_
      refine ⟨o_v0, ?_⟩
      intro x20 ex20
      have q_x20 : x20 = kv18 := ex20.trans d_kv18.symm
      have mo21 : x20 = 5 ∨ ¬ x7 = 5 := ph1_S15.imp_left (fun z => q_x20.trans z)
      have d_x20 := ex20
      refine ⟨fun c22 => ?_, fun c22 => ?_⟩
      · intro x23 ex23
        have q_x23 : x23 = x9 := ex23.trans d_x9.symm
        have d_x23 := ex23
        refine u_X11_readWhole_49 ?_
        refine ⟨o_v0, ?_⟩
        obtain ⟨iv24, hiv24⟩ : ∃ z : Int32, z = kv19 := ⟨_, rfl⟩
        have d_iv24 := hiv24.trans d_kv19
        have do24_kv1 := d_kv1
        have do24_x20 := d_x20
        have do24_iv24 := d_iv24
        refine m_X11_goesOn hI o_v0 hG (by have t : x20 = 5 → 0 < kv19 := (qr250 hiv4 hiv6 hO q_x7 c8 c10 ph0_S15 mo21 ph3_S15 q_x20 c22 q_x23); rw [d_x20, d_kv19] at t; exact t) (fun S26 hJ g27 fc28 p_S26 => ?_)
        obtain ⟨hG, pg0_S26, pg1_S26, pg2_S26⟩ := p_S26
        have hI := hJ
        have d_kv19 := d_kv19.trans (fri_at fc28 (by decide) (by decide) o_v0).symm
        have f0 := fri_tr (S := S15) g0 f0 fc28 (by decide) (by decide)
        have o_v0 := gr_ob g27 o_v0
        have g0 := gr_tr (T := S15) g0 g27
        obtain ⟨kv29, d_kv29⟩ : ∃ z : Int32, z = fI S26 v0 9 := ⟨_, rfl⟩
        have ph0_S26 : kv29 = 5 → 0 < kv19 := by rw [d_kv29, d_kv19]; exact pg0_S26
        have ph1_S26 : kv29 = 5 ∨ ¬ x20 = 5 := by rw [do24_x20, d_kv29]; exact pg1_S26
        have mo30 : kv29 = 5 ∨ ¬ x7 = 5 := ph1_S26.elim Or.inl (fun h => Or.inr (mo21.resolve_left h))
        obtain ⟨kv31, d_kv31⟩ : ∃ z : Int32, z = fI S26 v0 8 := ⟨_, rfl⟩
        have r_kv31 : (0 : Int32) ≤ kv31 ∧ kv31 ≤ (900 : Int32) := by rw [d_kv31]; exact nu 25 rfl hI o_v0
        have ph2_S26 : kv1 ≤ kv31 ∧ (kv29 = 4 → kv1 < kv31 ∨ x20 = 4) := by rw [do24_kv1, do24_x20, d_kv31, d_kv29]; exact pg2_S26
        intro _
        exact hq _ _ hI g0 f0 ⟨hG, (qr251 hiv4 q_x7 c8 c10 mo30 ph3_S15 q_x20 c22 q_x23 ph1_S26), (by have t : kv29 = 5 → 0 < kv19 := (qr252 hiv4 hiv6 hO q_x7 c8 c10 ph0_S15 mo30 ph3_S15 q_x20 c22 q_x23 hiv24 ph0_S26 ph1_S26); rw [d_kv29, d_kv19] at t; exact t), (by have t : kv29 = 5 ∨ ¬ iv4 = 5 := (qr253 hiv4 q_x7 c8 c10 mo30 ph3_S15 q_x20 c22 q_x23 ph1_S26); rw [di_9, d_kv29] at t; exact t), (by have t : iv2 ≤ kv31 ∧ (kv29 = 4 → iv2 < kv31 ∨ iv4 = 4) := (qr254 r_kv1 hiv2 hiv4 q_x7 c8 c10 hiv13 mo30 ph2_S15 ph3_S15 q_x20 c22 q_x23 ph1_S26 r_kv31 ph2_S26); rw [di_8, di_9, d_kv31, d_kv29] at t; exact t)⟩
      · refine u_X11_readWhole_49 ?_
        refine ⟨o_v0, ?_⟩
        obtain ⟨iv32, hiv32⟩ : ∃ z : Int32, z = kv19 := ⟨_, rfl⟩
        have d_iv32 := hiv32.trans d_kv19
        have do32_kv1 := d_kv1
        have do32_x20 := d_x20
        have do32_iv32 := d_iv32
        refine m_X11_goesOn hI o_v0 hG (by have t : x20 = 5 → 0 < kv19 := (qr255 hiv4 hiv6 hO q_x7 c8 c10 ph0_S15 mo21 ph3_S15 q_x20 c22); rw [d_x20, d_kv19] at t; exact t) (fun S34 hJ g35 fc36 p_S34 => ?_)
        obtain ⟨hG, pg0_S34, pg1_S34, pg2_S34⟩ := p_S34
        have hI := hJ
        have d_kv19 := d_kv19.trans (fri_at fc36 (by decide) (by decide) o_v0).symm
        have f0 := fri_tr (S := S15) g0 f0 fc36 (by decide) (by decide)
        have o_v0 := gr_ob g35 o_v0
        have g0 := gr_tr (T := S15) g0 g35
        obtain ⟨kv37, d_kv37⟩ : ∃ z : Int32, z = fI S34 v0 9 := ⟨_, rfl⟩
        have ph0_S34 : kv37 = 5 → 0 < kv19 := by rw [d_kv37, d_kv19]; exact pg0_S34
        have ph1_S34 : kv37 = 5 ∨ ¬ x20 = 5 := by rw [do32_x20, d_kv37]; exact pg1_S34
        have mo38 : kv37 = 5 ∨ ¬ x7 = 5 := ph1_S34.elim Or.inl (fun h => Or.inr (mo21.resolve_left h))
        obtain ⟨kv39, d_kv39⟩ : ∃ z : Int32, z = fI S34 v0 8 := ⟨_, rfl⟩
        have r_kv39 : (0 : Int32) ≤ kv39 ∧ kv39 ≤ (900 : Int32) := by rw [d_kv39]; exact nu 25 rfl hI o_v0
        have ph2_S34 : kv1 ≤ kv39 ∧ (kv37 = 4 → kv1 < kv39 ∨ x20 = 4) := by rw [do32_kv1, do32_x20, d_kv39, d_kv37]; exact pg2_S34
        intro _
        exact hq _ _ hI g0 f0 ⟨hG, (qr256 hiv4 q_x7 c8 c10 mo38 ph3_S15 q_x20 c22 ph1_S34), (by have t : kv37 = 5 → 0 < kv19 := (qr257 hiv4 hiv6 hO q_x7 c8 c10 ph0_S15 mo38 ph3_S15 q_x20 c22 hiv32 ph0_S34 ph1_S34); rw [d_kv37, d_kv19] at t; exact t), (by have t : kv37 = 5 ∨ ¬ iv4 = 5 := (qr258 hiv4 q_x7 c8 c10 mo38 ph3_S15 q_x20 c22 ph1_S34); rw [di_9, d_kv37] at t; exact t), (by have t : iv2 ≤ kv39 ∧ (kv37 = 4 → iv2 < kv39 ∨ iv4 = 4) := (qr259 r_kv1 hiv2 hiv4 q_x7 c8 c10 hiv13 mo38 ph2_S15 ph3_S15 q_x20 c22 ph1_S34 r_kv39 ph2_S34); rw [di_8, di_9, d_kv39, d_kv37] at t; exact t)⟩
    · refine ⟨fun c40 => ?_, fun c40 => ?_⟩
      · intro _ _
        refine ⟨fun c42 => absurd (show ¬ (0 : Int32) = 0 from c42) (by decide), fun c42 => ?_⟩
        obtain ⟨iv43, hiv43⟩ : ∃ z : Int32, z = kv1 := ⟨_, rfl⟩
        have d_iv43 := hiv43.trans d_kv1
        have do43_iv43 := d_iv43
        have do43_x7 := d_x7
        have do43_kv5 := d_kv5
        refine m_X11_flaw hI o_v0 (qr260 hiv4 q_x7 c8 c10 c40) hG (by have t : x7 = 5 → 0 < kv5 := (qr261 hiv4 hiv6 hO q_x7 c8 c10 c40); rw [d_x7, d_kv5] at t; exact t) (fun S45 hJ g46 fc47 p_S45 => ?_)
        obtain ⟨hG, pg0_S45, pg1_S45, pg2_S45, pg3_S45⟩ := p_S45
        have hI := hJ
        have d_kv1 := d_kv1.trans (fri_at fc47 (by decide) (by decide) o_v0).symm
        have d_x9 := d_x9.trans (fri_at fc47 (by decide) (by decide) o_v0).symm
        have f0 := fri_tr (S := S) g0 f0 fc47 (by decide) (by decide)
        have o_v0 := gr_ob g46 o_v0
        have g0 := gr_tr (T := S) g0 g46
        obtain ⟨kv48, d_kv48⟩ : ∃ z : Int32, z = fI S45 v0 9 := ⟨_, rfl⟩
        obtain ⟨kv49, d_kv49⟩ : ∃ z : Int32, z = fI S45 v0 13 := ⟨_, rfl⟩
        have ph0_S45 : kv48 = 5 → 0 < kv49 := by rw [d_kv48, d_kv49]; exact pg0_S45
        have ph1_S45 : kv48 = 5 ∨ ¬ x7 = 5 := by rw [do43_x7, d_kv48]; exact pg1_S45
        have ph2_S45 : iv43 ≤ kv1 ∧ (kv48 = 4 → iv43 < kv1 ∨ x7 = 4) := by rw [do43_iv43, do43_x7, d_kv1, d_kv48]; exact pg2_S45
        have ph3_S45 : kv48 = 5 := by rw [d_kv48]; exact pg3_S45
        intro _
        refine u_X11_readWhole_33 ?_
        refine ⟨o_v0, ?_⟩
        intro x50 ex50
        have q_x50 : x50 = kv48 := ex50.trans d_kv48.symm
        have mo51 : x50 = 5 ∨ ¬ x7 = 5 := ph1_S45.imp_left (fun z => q_x50.trans z)
        have d_x50 := ex50
        refine ⟨fun c52 => ?_, fun c52 => ?_⟩
        · intro x53 ex53
          have q_x53 : x53 = x9 := ex53.trans d_x9.symm
          have d_x53 := ex53
          refine u_X11_readWhole_49 ?_
          refine ⟨o_v0, ?_⟩
          obtain ⟨iv54, hiv54⟩ : ∃ z : Int32, z = kv49 := ⟨_, rfl⟩
          have d_iv54 := hiv54.trans d_kv49
          have do54_kv1 := d_kv1
          have do54_x50 := d_x50
          have do54_iv54 := d_iv54
          refine m_X11_goesOn hI o_v0 hG (by have t : x50 = 5 → 0 < kv49 := (qr262 hiv4 hiv6 hO q_x7 c8 c10 c40 ph0_S45 mo51 ph3_S45 q_x50 c52 q_x53); rw [d_x50, d_kv49] at t; exact t) (fun S56 hJ g57 fc58 p_S56 => ?_)
          obtain ⟨hG, pg0_S56, pg1_S56, pg2_S56⟩ := p_S56
          have hI := hJ
          have d_kv49 := d_kv49.trans (fri_at fc58 (by decide) (by decide) o_v0).symm
          have f0 := fri_tr (S := S45) g0 f0 fc58 (by decide) (by decide)
          have o_v0 := gr_ob g57 o_v0
          have g0 := gr_tr (T := S45) g0 g57
          obtain ⟨kv59, d_kv59⟩ : ∃ z : Int32, z = fI S56 v0 9 := ⟨_, rfl⟩
          have ph0_S56 : kv59 = 5 → 0 < kv49 := by rw [d_kv59, d_kv49]; exact pg0_S56
          have ph1_S56 : kv59 = 5 ∨ ¬ x50 = 5 := by rw [do54_x50, d_kv59]; exact pg1_S56
          have mo60 : kv59 = 5 ∨ ¬ x7 = 5 := ph1_S56.elim Or.inl (fun h => Or.inr (mo51.resolve_left h))
          obtain ⟨kv61, d_kv61⟩ : ∃ z : Int32, z = fI S56 v0 8 := ⟨_, rfl⟩
          have r_kv61 : (0 : Int32) ≤ kv61 ∧ kv61 ≤ (900 : Int32) := by rw [d_kv61]; exact nu 25 rfl hI o_v0
          have ph2_S56 : kv1 ≤ kv61 ∧ (kv59 = 4 → kv1 < kv61 ∨ x50 = 4) := by rw [do54_kv1, do54_x50, d_kv61, d_kv59]; exact pg2_S56
          intro _
          exact hq _ _ hI g0 f0 ⟨hG, (qr263 hiv4 q_x7 c8 c10 c40 mo60 ph3_S45 q_x50 c52 q_x53 ph1_S56), (by have t : kv59 = 5 → 0 < kv49 := (qr264 hiv4 hiv6 hO q_x7 c8 c10 c40 ph0_S45 mo60 ph3_S45 q_x50 c52 q_x53 hiv54 ph0_S56 ph1_S56); rw [d_kv59, d_kv49] at t; exact t), (by have t : kv59 = 5 ∨ ¬ iv4 = 5 := (qr265 hiv4 q_x7 c8 c10 c40 mo60 ph3_S45 q_x50 c52 q_x53 ph1_S56); rw [di_9, d_kv59] at t; exact t), (by have t : iv2 ≤ kv61 ∧ (kv59 = 4 → iv2 < kv61 ∨ iv4 = 4) := (qr266 r_kv1 hiv2 hiv4 q_x7 c8 c10 c40 hiv43 mo60 ph2_S45 ph3_S45 q_x50 c52 q_x53 ph1_S56 r_kv61 ph2_S56); rw [di_8, di_9, d_kv61, d_kv59] at t; exact t)⟩
        · refine u_X11_readWhole_49 ?_
          refine ⟨o_v0, ?_⟩
          obtain ⟨iv62, hiv62⟩ : ∃ z : Int32, z = kv49 := ⟨_, rfl⟩
          have d_iv62 := hiv62.trans d_kv49
          have do62_kv1 := d_kv1
          have do62_x50 := d_x50
          have do62_iv62 := d_iv62
          refine m_X11_goesOn hI o_v0 hG (by have t : x50 = 5 → 0 < kv49 := (qr267 hiv4 hiv6 hO q_x7 c8 c10 c40 ph0_S45 mo51 ph3_S45 q_x50 c52); rw [d_x50, d_kv49] at t; exact t) (fun S64 hJ g65 fc66 p_S64 => ?_)
          obtain ⟨hG, pg0_S64, pg1_S64, pg2_S64⟩ := p_S64
          have hI := hJ
          have d_kv49 := d_kv49.trans (fri_at fc66 (by decide) (by decide) o_v0).symm
          have f0 := fri_tr (S := S45) g0 f0 fc66 (by decide) (by decide)
          have o_v0 := gr_ob g65 o_v0
          have g0 := gr_tr (T := S45) g0 g65
          obtain ⟨kv67, d_kv67⟩ : ∃ z : Int32, z = fI S64 v0 9 := ⟨_, rfl⟩
          have ph0_S64 : kv67 = 5 → 0 < kv49 := by rw [d_kv67, d_kv49]; exact pg0_S64
          have ph1_S64 : kv67 = 5 ∨ ¬ x50 = 5 := by rw [do62_x50, d_kv67]; exact pg1_S64
          have mo68 : kv67 = 5 ∨ ¬ x7 = 5 := ph1_S64.elim Or.inl (fun h => Or.inr (mo51.resolve_left h))
          obtain ⟨kv69, d_kv69⟩ : ∃ z : Int32, z = fI S64 v0 8 := ⟨_, rfl⟩
          have r_kv69 : (0 : Int32) ≤ kv69 ∧ kv69 ≤ (900 : Int32) := by rw [d_kv69]; exact nu 25 rfl hI o_v0
          have ph2_S64 : kv1 ≤ kv69 ∧ (kv67 = 4 → kv1 < kv69 ∨ x50 = 4) := by rw [do62_kv1, do62_x50, d_kv69, d_kv67]; exact pg2_S64
          intro _
          exact hq _ _ hI g0 f0 ⟨hG, (qr268 hiv4 q_x7 c8 c10 c40 mo68 ph3_S45 q_x50 c52 ph1_S64), (by have t : kv67 = 5 → 0 < kv49 := (qr269 hiv4 hiv6 hO q_x7 c8 c10 c40 ph0_S45 mo68 ph3_S45 q_x50 c52 hiv62 ph0_S64 ph1_S64); rw [d_kv67, d_kv49] at t; exact t), (by have t : kv67 = 5 ∨ ¬ iv4 = 5 := (qr270 hiv4 q_x7 c8 c10 c40 mo68 ph3_S45 q_x50 c52 ph1_S64); rw [di_9, d_kv67] at t; exact t), (by have t : iv2 ≤ kv69 ∧ (kv67 = 4 → iv2 < kv69 ∨ iv4 = 4) := (qr271 r_kv1 hiv2 hiv4 q_x7 c8 c10 c40 hiv43 mo68 ph2_S45 ph3_S45 q_x50 c52 ph1_S64 r_kv69 ph2_S64); rw [di_8, di_9, d_kv69, d_kv67] at t; exact t)⟩
      · intro _ _
        refine ⟨fun c71 => ?_, fun c71 => absurd (show (1 : Int32) = 0 from c71) (by decide)⟩
        refine u_X11_readWhole_33 ?_
        refine ⟨o_v0, ?_⟩
        intro x72 ex72
        have q_x72 : x72 = x7 := ex72.trans d_x7.symm
        have d_x72 := ex72
        refine ⟨fun c73 => ?_, fun c73 => ?_⟩
        · intro x74 ex74
          have q_x74 : x74 = x9 := ex74.trans d_x9.symm
          have d_x74 := ex74
          refine u_X11_readWhole_49 ?_
          refine ⟨o_v0, ?_⟩
          obtain ⟨iv75, hiv75⟩ : ∃ z : Int32, z = kv5 := ⟨_, rfl⟩
          have d_iv75 := hiv75.trans d_kv5
          have do75_kv1 := d_kv1
          have do75_x72 := d_x72
          have do75_iv75 := d_iv75
          refine m_X11_goesOn hI o_v0 hG (by have t : x72 = 5 → 0 < kv5 := (qr272 hiv4 hiv6 hO q_x7 c8 c10 c40 q_x72 c73 q_x74); rw [d_x72, d_kv5] at t; exact t) (fun S77 hJ g78 fc79 p_S77 => ?_)
          obtain ⟨hG, pg0_S77, pg1_S77, pg2_S77⟩ := p_S77
          have hI := hJ
          have d_kv5 := d_kv5.trans (fri_at fc79 (by decide) (by decide) o_v0).symm
          have f0 := fri_tr (S := S) g0 f0 fc79 (by decide) (by decide)
          have o_v0 := gr_ob g78 o_v0
          have g0 := gr_tr (T := S) g0 g78
          obtain ⟨kv80, d_kv80⟩ : ∃ z : Int32, z = fI S77 v0 9 := ⟨_, rfl⟩
          have ph0_S77 : kv80 = 5 → 0 < kv5 := by rw [d_kv80, d_kv5]; exact pg0_S77
          have ph1_S77 : kv80 = 5 ∨ ¬ x72 = 5 := by rw [do75_x72, d_kv80]; exact pg1_S77
          obtain ⟨kv81, d_kv81⟩ : ∃ z : Int32, z = fI S77 v0 8 := ⟨_, rfl⟩
          have r_kv81 : (0 : Int32) ≤ kv81 ∧ kv81 ≤ (900 : Int32) := by rw [d_kv81]; exact nu 25 rfl hI o_v0
          have ph2_S77 : kv1 ≤ kv81 ∧ (kv80 = 4 → kv1 < kv81 ∨ x72 = 4) := by rw [do75_kv1, do75_x72, d_kv81, d_kv80]; exact pg2_S77
          intro _
          exact hq _ _ hI g0 f0 ⟨hG, (qr273 hiv4 q_x7 c8 c10 c40 q_x72 c73 q_x74 ph1_S77), (by have t : kv80 = 5 → 0 < kv5 := (qr274 hiv4 hiv6 hO q_x7 c8 c10 c40 q_x72 c73 q_x74 hiv75 ph0_S77 ph1_S77); rw [d_kv80, d_kv5] at t; exact t), (by have t : kv80 = 5 ∨ ¬ iv4 = 5 := (qr275 hiv4 q_x7 c8 c10 c40 q_x72 c73 q_x74 ph1_S77); rw [di_9, d_kv80] at t; exact t), (by have t : iv2 ≤ kv81 ∧ (kv80 = 4 → iv2 < kv81 ∨ iv4 = 4) := (qr276 r_kv1 hiv2 hiv4 q_x7 c8 c10 c40 q_x72 c73 q_x74 ph1_S77 r_kv81 ph2_S77); rw [di_8, di_9, d_kv81, d_kv80] at t; exact t)⟩
        · refine u_X11_readWhole_49 ?_
          refine ⟨o_v0, ?_⟩
          obtain ⟨iv82, hiv82⟩ : ∃ z : Int32, z = kv5 := ⟨_, rfl⟩
          have d_iv82 := hiv82.trans d_kv5
          have do82_kv1 := d_kv1
          have do82_x72 := d_x72
          have do82_iv82 := d_iv82
          refine m_X11_goesOn hI o_v0 hG (by have t : x72 = 5 → 0 < kv5 := (qr277 hiv4 hiv6 hO q_x7 c8 c10 c40 q_x72 c73); rw [d_x72, d_kv5] at t; exact t) (fun S84 hJ g85 fc86 p_S84 => ?_)
          obtain ⟨hG, pg0_S84, pg1_S84, pg2_S84⟩ := p_S84
          have hI := hJ
          have d_kv5 := d_kv5.trans (fri_at fc86 (by decide) (by decide) o_v0).symm
          have f0 := fri_tr (S := S) g0 f0 fc86 (by decide) (by decide)
          have o_v0 := gr_ob g85 o_v0
          have g0 := gr_tr (T := S) g0 g85
          obtain ⟨kv87, d_kv87⟩ : ∃ z : Int32, z = fI S84 v0 9 := ⟨_, rfl⟩
          have ph0_S84 : kv87 = 5 → 0 < kv5 := by rw [d_kv87, d_kv5]; exact pg0_S84
          have ph1_S84 : kv87 = 5 ∨ ¬ x72 = 5 := by rw [do82_x72, d_kv87]; exact pg1_S84
          obtain ⟨kv88, d_kv88⟩ : ∃ z : Int32, z = fI S84 v0 8 := ⟨_, rfl⟩
          have r_kv88 : (0 : Int32) ≤ kv88 ∧ kv88 ≤ (900 : Int32) := by rw [d_kv88]; exact nu 25 rfl hI o_v0
          have ph2_S84 : kv1 ≤ kv88 ∧ (kv87 = 4 → kv1 < kv88 ∨ x72 = 4) := by rw [do82_kv1, do82_x72, d_kv88, d_kv87]; exact pg2_S84
          intro _
          exact hq _ _ hI g0 f0 ⟨hG, (qr278 hiv4 q_x7 c8 c10 c40 q_x72 c73 ph1_S84), (by have t : kv87 = 5 → 0 < kv5 := (qr279 hiv4 hiv6 hO q_x7 c8 c10 c40 q_x72 c73 hiv82 ph0_S84 ph1_S84); rw [d_kv87, d_kv5] at t; exact t), (by have t : kv87 = 5 ∨ ¬ iv4 = 5 := (qr280 hiv4 q_x7 c8 c10 c40 q_x72 c73 ph1_S84); rw [di_9, d_kv87] at t; exact t), (by have t : iv2 ≤ kv88 ∧ (kv87 = 4 → iv2 < kv88 ∨ iv4 = 4) := (qr281 r_kv1 hiv2 hiv4 q_x7 c8 c10 c40 q_x72 c73 ph1_S84 r_kv88 ph2_S84); rw [di_8, di_9, d_kv88, d_kv87] at t; exact t)⟩
  · obtain ⟨iv89, hiv89⟩ : ∃ z : Int32, z = kv1 := ⟨_, rfl⟩
    have d_iv89 := hiv89.trans d_kv1
    have do89_iv89 := d_iv89
    have do89_x7 := d_x7
    have do89_kv5 := d_kv5
    refine m_X11_flaw hI o_v0 (qr282 hiv4 q_x7 c8) hG (by have t : x7 = 5 → 0 < kv5 := (qr283 hiv4 hiv6 hO q_x7 c8); rw [d_x7, d_kv5] at t; exact t) (fun S91 hJ g92 fc93 p_S91 => ?_)
    obtain ⟨hG, pg0_S91, pg1_S91, pg2_S91, pg3_S91⟩ := p_S91
    have hI := hJ
    have d_kv1 := d_kv1.trans (fri_at fc93 (by decide) (by decide) o_v0).symm
    have f0 := fri_tr (S := S) g0 f0 fc93 (by decide) (by decide)
    have o_v0 := gr_ob g92 o_v0
    have g0 := gr_tr (T := S) g0 g92
    obtain ⟨kv94, d_kv94⟩ : ∃ z : Int32, z = fI S91 v0 9 := ⟨_, rfl⟩
    obtain ⟨kv95, d_kv95⟩ : ∃ z : Int32, z = fI S91 v0 13 := ⟨_, rfl⟩
    have ph0_S91 : kv94 = 5 → 0 < kv95 := by rw [d_kv94, d_kv95]; exact pg0_S91
    have ph1_S91 : kv94 = 5 ∨ ¬ x7 = 5 := by rw [do89_x7, d_kv94]; exact pg1_S91
    have ph2_S91 : iv89 ≤ kv1 ∧ (kv94 = 4 → iv89 < kv1 ∨ x7 = 4) := by rw [do89_iv89, do89_x7, d_kv1, d_kv94]; exact pg2_S91
    have ph3_S91 : kv94 = 5 := by rw [d_kv94]; exact pg3_S91
    intro _
    refine u_X11_readWhole_33 ?_
    refine ⟨o_v0, ?_⟩
    intro x96 ex96
    have q_x96 : x96 = kv94 := ex96.trans d_kv94.symm
    have mo97 : x96 = 5 ∨ ¬ x7 = 5 := ph1_S91.imp_left (fun z => q_x96.trans z)
    have d_x96 := ex96
    refine ⟨fun c98 => ?_, fun c98 => ?_⟩
    · intro x99 ex99
      have d_x99 := ex99
      refine u_X11_readWhole_49 ?_
      refine ⟨o_v0, ?_⟩
      obtain ⟨iv100, hiv100⟩ : ∃ z : Int32, z = kv95 := ⟨_, rfl⟩
      have d_iv100 := hiv100.trans d_kv95
      have do100_kv1 := d_kv1
      have do100_x96 := d_x96
      have do100_iv100 := d_iv100
      refine m_X11_goesOn hI o_v0 hG (by have t : x96 = 5 → 0 < kv95 := (qr284 hiv4 hiv6 hO q_x7 c8 ph0_S91 mo97 ph3_S91 q_x96 c98); rw [d_x96, d_kv95] at t; exact t) (fun S102 hJ g103 fc104 p_S102 => ?_)
      obtain ⟨hG, pg0_S102, pg1_S102, pg2_S102⟩ := p_S102
      have hI := hJ
      have d_kv95 := d_kv95.trans (fri_at fc104 (by decide) (by decide) o_v0).symm
      have f0 := fri_tr (S := S91) g0 f0 fc104 (by decide) (by decide)
      have o_v0 := gr_ob g103 o_v0
      have g0 := gr_tr (T := S91) g0 g103
      obtain ⟨kv105, d_kv105⟩ : ∃ z : Int32, z = fI S102 v0 9 := ⟨_, rfl⟩
      have ph0_S102 : kv105 = 5 → 0 < kv95 := by rw [d_kv105, d_kv95]; exact pg0_S102
      have ph1_S102 : kv105 = 5 ∨ ¬ x96 = 5 := by rw [do100_x96, d_kv105]; exact pg1_S102
      have mo106 : kv105 = 5 ∨ ¬ x7 = 5 := ph1_S102.elim Or.inl (fun h => Or.inr (mo97.resolve_left h))
      obtain ⟨kv107, d_kv107⟩ : ∃ z : Int32, z = fI S102 v0 8 := ⟨_, rfl⟩
      have r_kv107 : (0 : Int32) ≤ kv107 ∧ kv107 ≤ (900 : Int32) := by rw [d_kv107]; exact nu 25 rfl hI o_v0
      have ph2_S102 : kv1 ≤ kv107 ∧ (kv105 = 4 → kv1 < kv107 ∨ x96 = 4) := by rw [do100_kv1, do100_x96, d_kv107, d_kv105]; exact pg2_S102
      intro _
      exact hq _ _ hI g0 f0 ⟨hG, (qr285 hiv4 q_x7 c8 mo106 ph3_S91 q_x96 c98 ph1_S102), (by have t : kv105 = 5 → 0 < kv95 := (qr286 hiv4 hiv6 hO q_x7 c8 ph0_S91 mo106 ph3_S91 q_x96 c98 hiv100 ph0_S102 ph1_S102); rw [d_kv105, d_kv95] at t; exact t), (by have t : kv105 = 5 ∨ ¬ iv4 = 5 := (qr287 hiv4 q_x7 c8 mo106 ph3_S91 q_x96 c98 ph1_S102); rw [di_9, d_kv105] at t; exact t), (by have t : iv2 ≤ kv107 ∧ (kv105 = 4 → iv2 < kv107 ∨ iv4 = 4) := (qr288 r_kv1 hiv2 hiv4 q_x7 c8 hiv89 mo106 ph2_S91 ph3_S91 q_x96 c98 ph1_S102 r_kv107 ph2_S102); rw [di_8, di_9, d_kv107, d_kv105] at t; exact t)⟩
    · refine u_X11_readWhole_49 ?_
      refine ⟨o_v0, ?_⟩
      obtain ⟨iv108, hiv108⟩ : ∃ z : Int32, z = kv95 := ⟨_, rfl⟩
      have d_iv108 := hiv108.trans d_kv95
      have do108_kv1 := d_kv1
      have do108_x96 := d_x96
      have do108_iv108 := d_iv108
      refine m_X11_goesOn hI o_v0 hG (by have t : x96 = 5 → 0 < kv95 := (qr289 hiv4 hiv6 hO q_x7 c8 ph0_S91 mo97 ph3_S91 q_x96 c98); rw [d_x96, d_kv95] at t; exact t) (fun S110 hJ g111 fc112 p_S110 => ?_)
      obtain ⟨hG, pg0_S110, pg1_S110, pg2_S110⟩ := p_S110
      have hI := hJ
      have d_kv95 := d_kv95.trans (fri_at fc112 (by decide) (by decide) o_v0).symm
      have f0 := fri_tr (S := S91) g0 f0 fc112 (by decide) (by decide)
      have o_v0 := gr_ob g111 o_v0
      have g0 := gr_tr (T := S91) g0 g111
      obtain ⟨kv113, d_kv113⟩ : ∃ z : Int32, z = fI S110 v0 9 := ⟨_, rfl⟩
      have ph0_S110 : kv113 = 5 → 0 < kv95 := by rw [d_kv113, d_kv95]; exact pg0_S110
      have ph1_S110 : kv113 = 5 ∨ ¬ x96 = 5 := by rw [do108_x96, d_kv113]; exact pg1_S110
      have mo114 : kv113 = 5 ∨ ¬ x7 = 5 := ph1_S110.elim Or.inl (fun h => Or.inr (mo97.resolve_left h))
      obtain ⟨kv115, d_kv115⟩ : ∃ z : Int32, z = fI S110 v0 8 := ⟨_, rfl⟩
      have r_kv115 : (0 : Int32) ≤ kv115 ∧ kv115 ≤ (900 : Int32) := by rw [d_kv115]; exact nu 25 rfl hI o_v0
      have ph2_S110 : kv1 ≤ kv115 ∧ (kv113 = 4 → kv1 < kv115 ∨ x96 = 4) := by rw [do108_kv1, do108_x96, d_kv115, d_kv113]; exact pg2_S110
      intro _
      exact hq _ _ hI g0 f0 ⟨hG, (qr290 hiv4 q_x7 c8 mo114 ph3_S91 q_x96 c98 ph1_S110), (by have t : kv113 = 5 → 0 < kv95 := (qr291 hiv4 hiv6 hO q_x7 c8 ph0_S91 mo114 ph3_S91 q_x96 c98 hiv108 ph0_S110 ph1_S110); rw [d_kv113, d_kv95] at t; exact t), (by have t : kv113 = 5 ∨ ¬ iv4 = 5 := (qr292 hiv4 q_x7 c8 mo114 ph3_S91 q_x96 c98 ph1_S110); rw [di_9, d_kv113] at t; exact t), (by have t : iv2 ≤ kv115 ∧ (kv113 = 4 → iv2 < kv115 ∨ iv4 = 4) := (qr293 r_kv1 hiv2 hiv4 q_x7 c8 hiv89 mo114 ph2_S91 ph3_S91 q_x96 c98 ph1_S110 r_kv115 ph2_S110); rw [di_8, di_9, d_kv115, d_kv113] at t; exact t)⟩
end
section
set_option maxHeartbeats 4000000 in
set_option maxRecDepth 20000 in
theorem m_X11_readPlace {v0 : Nat} {Q : HS → Prop} {S : HS} (hI : IV S) (o_v0 : ob S v0 11)    (hG : RG S v0) (hn : RN S v0) (hO : fI S v0 9 = 5 → 0 < fI S v0 13) (hq : ∀ (T : HS), IV T → Gr S T → FRI [(10, 2), (10, 6), (11, 8), (11, 9), (11, 10), (11, 11), (11, 12), (11, 13), (11, 14)] [] S T → (RG T v0) ∧ (RN T v0) ∧ (fI T v0 9 = 5 → 0 < fI T v0 13) ∧ (fI T v0 9 = 5 ∨ ¬ fI S v0 9 = 5) ∧ (fI S v0 8 ≤ fI T v0 8 ∧ (fI T v0 9 = 4 → fI S v0 8 < fI T v0 8 ∨ fI S v0 9 = 4)) → Q T) : P_X11_readPlace v0 Q S := by
  have g0 := gr_rf S
  have f0 := fri_rf [(10, 2), (10, 6), (11, 8), (11, 9), (11, 10), (11, 11), (11, 12), (11, 13), (11, 14)] [] S
  obtain ⟨kv1, d_kv1⟩ : ∃ z : Int32, z = fI S v0 8 := ⟨_, rfl⟩
  have r_kv1 : (0 : Int32) ≤ kv1 ∧ kv1 ≤ (900 : Int32) := by rw [d_kv1]; exact nu 25 rfl hI o_v0
  obtain ⟨iv2, hiv2⟩ : ∃ z : Int32, z = kv1 := ⟨_, rfl⟩
  have di_8 := hiv2.trans d_kv1
  obtain ⟨kv3, d_kv3⟩ : ∃ z : Int32, z = fI S v0 9 := ⟨_, rfl⟩
  obtain ⟨iv4, hiv4⟩ : ∃ z : Int32, z = kv3 := ⟨_, rfl⟩
  have di_9 := hiv4.trans d_kv3
  obtain ⟨kv5, d_kv5⟩ : ∃ z : Int32, z = fI S v0 13 := ⟨_, rfl⟩
  obtain ⟨iv6, hiv6⟩ : ∃ z : Int32, z = kv5 := ⟨_, rfl⟩
  have di_13 := hiv6.trans d_kv5
  have hO : iv4 = 5 → 0 < iv6 := by rw [di_9, di_13]; exact hO
  obtain ⟨a7, ea7, o_a7, -⟩ := id hG
  obtain ⟨kv8, d_kv8⟩ : ∃ z : Int32, z = fI S a7 6 := ⟨_, rfl⟩
  have r_kv8 : (0 : Int32) ≤ kv8 ∧ kv8 ≤ (12 : Int32) := by rw [d_kv8]; exact nu 22 rfl hI o_a7
  obtain ⟨kv9, d_kv9⟩ : ∃ z : Int32, z = fI S a7 2 := ⟨_, rfl⟩
  have r_kv9 : (0 : Int32) ≤ kv9 ∧ kv9 ≤ (8 : Int32) := by rw [d_kv9]; exact nu 18 rfl hI o_a7
  obtain ⟨kv10, d_kv10⟩ : ∃ z : Int32, z = fI S a7 4 := ⟨_, rfl⟩
  have r_kv10 : (0 : Int32) ≤ kv10 ∧ kv10 ≤ (4 : Int32) := by rw [d_kv10]; exact nu 20 rfl hI o_a7
  have hnf : kv8 = kv9 + kv10 := by rw [d_kv8, d_kv9, d_kv10]; exact hn _ ea7
  refine u_X11_readPlace ?_
  refine u_X11_readPlace_0 ?_
  refine ⟨o_v0, ?_⟩
  refine ⟨a7, ea7, ?_⟩
  refine ⟨o_a7, ?_⟩
  intro x12 ex12
  have r_x12 : (0 : Int32) ≤ x12 ∧ x12 ≤ (8 : Int32) := by rw [ex12]; exact nu 18 rfl hI o_a7
  have q_x12 : x12 = kv9 := ex12.trans d_kv9.symm
  have d_x12 := ex12
  have do12_kv1 := d_kv1
  have do12_kv3 := d_kv3
  have do12_kv5 := d_kv5
  refine m_X11_begins hI o_v0 hG (by have t : kv3 = 5 → 0 < kv5 := (qr1 hiv4 hiv6 hO); rw [d_kv3, d_kv5] at t; exact t) (fun S14 hJ g15 fc16 p_S14 => ?_)
  obtain ⟨hG, pg0_S14, pg1_S14, pg2_S14, pg3_S14⟩ := p_S14
  have hn := rn_fr fc16 g15 hI o_v0 (by decide) hn
  have hI := hJ
  have d_kv8 := d_kv8.trans (fri_at fc16 (by decide) (by decide) o_a7).symm
  have d_x12 := d_x12.trans (fri_at fc16 (by decide) (by decide) o_a7).symm
  have d_kv10 := d_kv10.trans (fri_at fc16 (by decide) (by decide) o_a7).symm
  have ea7 := (frr_at fc16 (by decide) (by decide) o_v0).trans ea7
  have f0 := fri_tr (S := S) g0 f0 fc16 (by decide) (by decide)
  have o_a7 := gr_ob g15 o_a7
  have o_v0 := gr_ob g15 o_v0
  have g0 := gr_tr (T := S) g0 g15
  obtain ⟨kv17, d_kv17⟩ : ∃ z : Int32, z = fI S14 v0 9 := ⟨_, rfl⟩
  obtain ⟨kv18, d_kv18⟩ : ∃ z : Int32, z = fI S14 v0 13 := ⟨_, rfl⟩
  have ph0_S14 : kv17 = 5 → 0 < kv18 := by rw [d_kv17, d_kv18]; exact pg0_S14
  have ph1_S14 : kv17 = 5 ∨ ¬ kv3 = 5 := by rw [do12_kv3, d_kv17]; exact pg1_S14
  obtain ⟨kv19, d_kv19⟩ : ∃ z : Int32, z = fI S14 v0 8 := ⟨_, rfl⟩
  have r_kv19 : (0 : Int32) ≤ kv19 ∧ kv19 ≤ (900 : Int32) := by rw [d_kv19]; exact nu 25 rfl hI o_v0
  have ph2_S14 : kv1 ≤ kv19 ∧ (kv17 = 4 → kv1 < kv19 ∨ kv3 = 4) := by rw [do12_kv1, do12_kv3, d_kv19, d_kv17]; exact pg2_S14
  have ph3_S14 : kv17 = 5 ∨ ¬ x12 = (8 : Int32) := by rw [d_kv17]; exact pg3_S14
  intro _
  have do19_kv19 := d_kv19
  have do19_kv17 := d_kv17
  have do19_kv18 := d_kv18
  refine m_X11_readFresh hI o_v0 hG (by have t : kv17 = 5 → 0 < kv18 := (qr526 hiv4 hiv6 hO r_kv8 r_kv9 r_kv10 hnf r_x12 q_x12 ph0_S14 ph1_S14 ph3_S14); rw [d_kv17, d_kv18] at t; exact t) (fun x20 S21 hJ g22 fc23 p_x20 => ?_)
  obtain ⟨hG, pg0_S21, pg1_S21, pg2_S21⟩ := p_x20
  have hn := rn_fr fc23 g22 hI o_v0 (by decide) hn
  have hI := hJ
  have d_kv8 := d_kv8.trans (fri_at fc23 (by decide) (by decide) o_a7).symm
  have d_x12 := d_x12.trans (fri_at fc23 (by decide) (by decide) o_a7).symm
  have d_kv10 := d_kv10.trans (fri_at fc23 (by decide) (by decide) o_a7).symm
  have ea7 := (frr_at fc23 (by decide) (by decide) o_v0).trans ea7
  have f0 := fri_tr (S := S14) g0 f0 fc23 (by decide) (by decide)
  have o_a7 := gr_ob g22 o_a7
  have o_v0 := gr_ob g22 o_v0
  have g0 := gr_tr (T := S14) g0 g22
  obtain ⟨kv24, d_kv24⟩ : ∃ z : Int32, z = fI S21 v0 9 := ⟨_, rfl⟩
  obtain ⟨kv25, d_kv25⟩ : ∃ z : Int32, z = fI S21 v0 13 := ⟨_, rfl⟩
  have ph0_S21 : kv24 = 5 → 0 < kv25 := by rw [d_kv24, d_kv25]; exact pg0_S21
  have ph1_S21 : kv24 = 5 ∨ ¬ kv17 = 5 := by rw [do19_kv17, d_kv24]; exact pg1_S21
  have mo26 : kv24 = 5 ∨ ¬ kv3 = 5 := ph1_S21.elim Or.inl (fun h => Or.inr (ph1_S14.resolve_left h))
  have mo27 : kv24 = 5 ∨ ¬ x12 = (8 : Int32) := ph1_S21.elim Or.inl (fun h => Or.inr (ph3_S14.resolve_left h))
  obtain ⟨kv28, d_kv28⟩ : ∃ z : Int32, z = fI S21 v0 8 := ⟨_, rfl⟩
  have r_kv28 : (0 : Int32) ≤ kv28 ∧ kv28 ≤ (900 : Int32) := by rw [d_kv28]; exact nu 25 rfl hI o_v0
  have ph2_S21 : kv19 ≤ kv28 ∧ (kv24 = 4 → kv19 < kv28 ∨ kv17 = 4) := by rw [do19_kv19, do19_kv17, d_kv28, d_kv24]; exact pg2_S21
  intro _
  obtain ⟨iv29, hiv29⟩ : ∃ z : Int32, z = kv25 := ⟨_, rfl⟩
  have d_iv29 := hiv29.trans d_kv25
  have do29_kv28 := d_kv28
  have do29_kv24 := d_kv24
  have do29_iv29 := d_iv29
  refine m_X11_eatsWord hI o_v0 (by decide) hG (by have t : kv24 = 5 → 0 < kv25 := (qr527 hiv4 hiv6 hO r_kv8 r_kv9 r_kv10 hnf r_x12 q_x12 ph0_S14 mo26 mo27 ph0_S21 ph1_S21); rw [d_kv24, d_kv25] at t; exact t) (fun x30 S31 hJ g32 fc33 b_x30 p_x30 => ?_)
  obtain ⟨hG, pg0_S31, pg1_S31, pg2_S31⟩ := p_x30
  have hn := rn_fr fc33 g32 hI o_v0 (by decide) hn
  have hI := hJ
  have d_kv8 := d_kv8.trans (fri_at fc33 (by decide) (by decide) o_a7).symm
  have d_x12 := d_x12.trans (fri_at fc33 (by decide) (by decide) o_a7).symm
  have d_kv10 := d_kv10.trans (fri_at fc33 (by decide) (by decide) o_a7).symm
  have d_kv25 := d_kv25.trans (fri_at fc33 (by decide) (by decide) o_v0).symm
  have ea7 := (frr_at fc33 (by decide) (by decide) o_v0).trans ea7
  have f0 := fri_tr (S := S21) g0 f0 fc33 (by decide) (by decide)
  have o_a7 := gr_ob g32 o_a7
  have o_v0 := gr_ob g32 o_v0
  have g0 := gr_tr (T := S21) g0 g32
  obtain ⟨kv34, d_kv34⟩ : ∃ z : Int32, z = fI S31 v0 9 := ⟨_, rfl⟩
  have ph0_S31 : kv34 = 5 → 0 < kv25 := by rw [d_kv34, d_kv25]; exact pg0_S31
  have ph1_S31 : kv34 = 5 ∨ ¬ kv24 = 5 := by rw [do29_kv24, d_kv34]; exact pg1_S31
  have mo35 : kv34 = 5 ∨ ¬ kv3 = 5 := ph1_S31.elim Or.inl (fun h => Or.inr (mo26.resolve_left h))
  have mo36 : kv34 = 5 ∨ ¬ x12 = (8 : Int32) := ph1_S31.elim Or.inl (fun h => Or.inr (mo27.resolve_left h))
  have mo37 : kv34 = 5 ∨ ¬ kv17 = 5 := ph1_S31.elim Or.inl (fun h => Or.inr (ph1_S21.resolve_left h))
  obtain ⟨kv38, d_kv38⟩ : ∃ z : Int32, z = fI S31 v0 8 := ⟨_, rfl⟩
  have r_kv38 : (0 : Int32) ≤ kv38 ∧ kv38 ≤ (900 : Int32) := by rw [d_kv38]; exact nu 25 rfl hI o_v0
  have ph2_S31 : kv28 ≤ kv38 ∧ (kv34 = 4 → kv28 < kv38 ∨ kv24 = 4) := by rw [do29_kv28, do29_kv24, d_kv38, d_kv34]; exact pg2_S31
  intro _ _
  have bb_x30 : x30 = 0 ∨ x30 = 1 := b_x30
  refine ⟨fun c39 => ?_, fun c39 => ?_⟩
  · refine u_X11_readPlace_48 ?_
    refine u_X11_readPlace_50 ?_
    refine ⟨o_v0, ?_⟩
    intro x40 ex40
    have q_x40 : x40 = kv34 := ex40.trans d_kv34.symm
    have mo41 : x40 = 5 ∨ ¬ kv3 = 5 := mo35.imp_left (fun z => q_x40.trans z)
    have mo42 : x40 = 5 ∨ ¬ x12 = (8 : Int32) := mo36.imp_left (fun z => q_x40.trans z)
    have mo43 : x40 = 5 ∨ ¬ kv17 = 5 := mo37.imp_left (fun z => q_x40.trans z)
    have mo44 : x40 = 5 ∨ ¬ kv24 = 5 := ph1_S31.imp_left (fun z => q_x40.trans z)
    have d_x40 := ex40
    refine ⟨fun c45 => ?_, fun c45 => ?_⟩
    · refine ⟨a7, ea7, ?_⟩
      refine ⟨o_a7, ?_⟩
      intro x47 ex47
      have r_x47 : (0 : Int32) ≤ x47 ∧ x47 ≤ (8 : Int32) := by rw [ex47]; exact nu 18 rfl hI o_a7
      have q_x47 : x47 = x12 := ex47.trans d_x12.symm
      have d_x47 := ex47
      refine u_X11_names ?_
      refine u_X11_names_0 ?_
      refine ⟨o_v0, ?_⟩
      refine ⟨a7, ea7, ?_⟩
      refine ⟨o_a7, ?_⟩
      obtain ⟨a49, ea49, o_a49, l_a49⟩ := shl 50 rfl hI o_a7
      refine ⟨a49, ea49, ?_⟩
      refine ⟨a7, ea7, ?_⟩
      refine ⟨o_a7, ?_⟩
      intro x51 ex51
      have r_x51 : (0 : Int32) ≤ x51 ∧ x51 ≤ (12 : Int32) := by rw [ex51]; exact nu 22 rfl hI o_a7
      have q_x51 : x51 = kv8 := ex51.trans d_kv8.symm
      have d_x51 := ex51
      refine ⟨o_a49, ?_⟩
      have i52 : vp_in x51 (hN _ a49) := (vin l_a49 (m := 12) (by decide) (qr528 hiv4 r_kv8 r_kv9 r_kv10 hnf r_x12 q_x12 mo41 mo42 mo43 mo44 bb_x30 c39 q_x40 c45 r_x47 q_x47 r_x51 q_x51))
      refine ⟨i52, ?_⟩
      intro S53 eS53
      have hIn : IV S53 := by rw [eS53]; exact iv10_aJ hI o_a7 (by decide) ea49
      have hG := rg_J eS53 hG
      have hn := rn_J eS53 hn
      have hI := hIn
      have f0 := fr_J eS53 f0
      have d_x51 := rd_J eS53 d_x51
      have d_x47 := rd_J eS53 d_x47
      have d_kv10 := rd_J eS53 d_kv10
      have d_kv25 := rd_J eS53 d_kv25
      have d_x40 := rd_J eS53 d_x40
      have d_kv38 := rd_J eS53 d_kv38
      have ea7 := rf_J eS53 ea7
      have ea49 := rf_J eS53 ea49
      have l_a49 := ln_J eS53 l_a49
      have g0 := gr_J eS53 g0
      have o_a49 := ob_J eS53 o_a49
      have o_a7 := ob_J eS53 o_a7
      have o_v0 := ob_J eS53 o_v0
      refine ⟨a7, ea7, ?_⟩
      refine ⟨o_a7, ?_⟩
      obtain ⟨a55, ea55, o_a55, l_a55⟩ := shl 51 rfl hI o_a7
      refine ⟨a55, ea55, ?_⟩
      refine ⟨a7, ea7, ?_⟩
      refine ⟨o_a7, ?_⟩
      intro x57 ex57
      have r_x57 : (0 : Int32) ≤ x57 ∧ x57 ≤ (12 : Int32) := by rw [ex57]; exact nu 22 rfl hI o_a7
      have q_x57 : x57 = x51 := ex57.trans d_x51.symm
      have d_x57 := ex57
      refine ⟨o_a55, ?_⟩
      have i58 : vp_in x57 (hN _ a55) := (vin l_a55 (m := 12) (by decide) (qr529 hiv4 r_kv8 r_kv9 r_kv10 hnf r_x12 q_x12 mo41 mo42 mo43 mo44 bb_x30 c39 q_x40 c45 r_x47 q_x47 r_x51 q_x51 r_x57 q_x57))
      refine ⟨i58, ?_⟩
      intro S59 eS59
      have hIn : IV S59 := by rw [eS59]; exact iv10_aI hI o_a7 (rg_nw hG ea7) ea55 o_a55 (by decide)
      have hG := rg_a (jj := 29) (x := x57) eS59 hI ea7 o_a7 ea55 o_a55 (by decide) (h1_no (by decide)) (fun _ => by rw [← d_x47, ← d_kv10]; exact (qr530 hiv4 r_kv8 r_kv9 r_kv10 hnf r_x12 q_x12 mo41 mo42 mo43 mo44 bb_x30 c39 q_x40 c45 r_x47 q_x47 r_x51 q_x51 r_x57 q_x57)) hG
      have hn := rn_11 eS59 hI o_v0 o_a55 (by decide) hn
      have hI := hIn
      have f0 := fr_A eS59 g0 f0 o_a55 (by decide)
      have d_x57 := rd_Ik eS59 o_a55 o_a7 (by decide) d_x57
      have d_x47 := rd_Ik eS59 o_a55 o_a7 (by decide) d_x47
      have d_kv10 := rd_Ik eS59 o_a55 o_a7 (by decide) d_kv10
      have d_kv25 := rd_Ik eS59 o_a55 o_v0 (by decide) d_kv25
      have d_x40 := rd_Ik eS59 o_a55 o_v0 (by decide) d_x40
      have d_kv38 := rd_Ik eS59 o_a55 o_v0 (by decide) d_kv38
      have ea7 := rf_I eS59 ea7
      have ea49 := rf_I eS59 ea49
      have ea55 := rf_I eS59 ea55
      have l_a49 := ln_I eS59 l_a49
      have l_a55 := ln_I eS59 l_a55
      have g0 := gr_I eS59 g0
      have o_a49 := ob_I eS59 o_a49
      have o_a55 := ob_I eS59 o_a55
      have o_a7 := ob_I eS59 o_a7
      have o_v0 := ob_I eS59 o_v0
      have el60 : fI S59 a55 x57.toNatClampNeg = (0 : Int32) := by rw [eS59]; exact u2_self _ _ _ _
      refine ⟨a7, ea7, ?_⟩
      refine ⟨o_a7, ?_⟩
      obtain ⟨a62, ea62, o_a62, l_a62⟩ := shl 52 rfl hI o_a7
      refine ⟨a62, ea62, ?_⟩
      refine ⟨a7, ea7, ?_⟩
      refine ⟨o_a7, ?_⟩
      intro x64 ex64
      have r_x64 : (0 : Int32) ≤ x64 ∧ x64 ≤ (12 : Int32) := by rw [ex64]; exact nu 22 rfl hI o_a7
      have q_x64 : x64 = x57 := ex64.trans d_x57.symm
      have d_x64 := ex64
      refine ⟨o_a62, ?_⟩
      have i65 : vp_in x64 (hN _ a62) := (vin l_a62 (m := 12) (by decide) (qr531 hiv4 r_kv8 r_kv9 r_kv10 hnf r_x12 q_x12 mo41 mo42 mo43 mo44 bb_x30 c39 q_x40 c45 r_x47 q_x47 r_x51 q_x51 r_x57 q_x57 r_x64 q_x64))
      refine ⟨i65, ?_⟩
      intro S66 eS66
      have hIn : IV S66 := by rw [eS66]; exact iv10_aI hI o_a7 (rg_nw hG ea7) ea62 o_a62 (by decide)
      have hG := rg_a (jj := 30) (x := x64) eS66 hI ea7 o_a7 ea62 o_a62 (by decide) (h1_no (by decide)) (fun _ => by rw [← d_x47, ← d_kv10]; exact (qr532 hiv4 r_kv8 r_kv9 r_kv10 hnf r_x12 q_x12 mo41 mo42 mo43 mo44 bb_x30 c39 q_x40 c45 r_x47 q_x47 r_x51 q_x51 r_x57 q_x57 r_x64 q_x64)) hG
      have hn := rn_11 eS66 hI o_v0 o_a62 (by decide) hn
      have el60 := el_ar eS66 (ow_ne hI o_a7 (by decide) o_a7 (by decide) ea62 ea55 (by decide)) el60
      have hI := hIn
      have f0 := fr_A eS66 g0 f0 o_a62 (by decide)
      have d_x64 := rd_Ik eS66 o_a62 o_a7 (by decide) d_x64
      have d_x47 := rd_Ik eS66 o_a62 o_a7 (by decide) d_x47
      have d_kv10 := rd_Ik eS66 o_a62 o_a7 (by decide) d_kv10
      have d_kv25 := rd_Ik eS66 o_a62 o_v0 (by decide) d_kv25
      have d_x40 := rd_Ik eS66 o_a62 o_v0 (by decide) d_x40
      have d_kv38 := rd_Ik eS66 o_a62 o_v0 (by decide) d_kv38
      have ea7 := rf_I eS66 ea7
      have ea49 := rf_I eS66 ea49
      have ea55 := rf_I eS66 ea55
      have ea62 := rf_I eS66 ea62
      have l_a49 := ln_I eS66 l_a49
      have l_a55 := ln_I eS66 l_a55
      have l_a62 := ln_I eS66 l_a62
      have g0 := gr_I eS66 g0
      have o_a49 := ob_I eS66 o_a49
      have o_a55 := ob_I eS66 o_a55
      have o_a62 := ob_I eS66 o_a62
      have o_a7 := ob_I eS66 o_a7
      have o_v0 := ob_I eS66 o_v0
      have el67 : fI S66 a62 x64.toNatClampNeg = x47 := by rw [eS66]; exact u2_self _ _ _ _
      refine ⟨a7, ea7, ?_⟩
      refine ⟨o_a7, ?_⟩
      intro x69 ex69
      have r_x69 : (0 : Int32) ≤ x69 ∧ x69 ≤ (12 : Int32) := by rw [ex69]; exact nu 22 rfl hI o_a7
      have q_x69 : x69 = x64 := ex69.trans d_x64.symm
      have d_x69 := ex69
      intro x70 ex70
      intro S71 eS71
      have hIn : IV S71 := by rw [eS71]; exact iv10_sI hI o_a7 (rg_nw hG ea7) (nu_one (lo := (0 : Int32)) (hi := (12 : Int32)) (by decide) (qr533 hiv4 r_kv8 r_kv9 r_kv10 hnf r_x12 q_x12 mo41 mo42 mo43 mo44 bb_x30 c39 q_x40 c45 r_x47 q_x47 r_x51 q_x51 r_x57 q_x57 r_x64 q_x64 r_x69 q_x69 ex70))
      have hG := rg_c eS71 hI ea7 o_a7 (by decide) hG
      have el60 := el_ob eS71 o_a7 o_a55 (by decide) el60
      have el67 := el_ob eS71 o_a7 o_a62 (by decide) el67
      have hI := hIn
      have f0 := fr_I eS71 g0 f0 o_a7 (by decide)
      have d_x47 := rd_Ij eS71 (by decide) d_x47
      have d_kv10 := rd_Ij eS71 (by decide) d_kv10
      have d_kv25 := rd_Ik eS71 o_a7 o_v0 (by decide) d_kv25
      have d_x40 := rd_Ik eS71 o_a7 o_v0 (by decide) d_x40
      have d_kv38 := rd_Ik eS71 o_a7 o_v0 (by decide) d_kv38
      have d_x70 := rd_Is eS71 (rfl : x70 = x70)
      have ea7 := rf_I eS71 ea7
      have ea49 := rf_I eS71 ea49
      have ea55 := rf_I eS71 ea55
      have ea62 := rf_I eS71 ea62
      have l_a49 := ln_I eS71 l_a49
      have l_a55 := ln_I eS71 l_a55
      have l_a62 := ln_I eS71 l_a62
      have g0 := gr_I eS71 g0
      have o_a49 := ob_I eS71 o_a49
      have o_a55 := ob_I eS71 o_a55
      have o_a62 := ob_I eS71 o_a62
      have o_a7 := ob_I eS71 o_a7
      have o_v0 := ob_I eS71 o_v0
      intro _
      refine ⟨a7, ea7, ?_⟩
      refine ⟨o_a7, ?_⟩
      obtain ⟨a73, ea73, o_a73, l_a73⟩ := shl 40 rfl hI o_a7
      refine ⟨a73, ea73, ?_⟩
      refine ⟨a7, ea7, ?_⟩
      refine ⟨o_a7, ?_⟩
      intro x75 ex75
      have r_x75 : (0 : Int32) ≤ x75 ∧ x75 ≤ (8 : Int32) := by rw [ex75]; exact nu 18 rfl hI o_a7
      have q_x75 : x75 = x47 := ex75.trans d_x47.symm
      have d_x75 := ex75
      refine ⟨o_a73, ?_⟩
      have i76 : vp_in x75 (hN _ a73) := (vin l_a73 (m := 8) (by decide) (qr534 hiv4 r_kv8 r_kv9 r_kv10 hnf r_x12 q_x12 mo41 mo42 mo43 mo44 bb_x30 c39 q_x40 c45 r_x47 q_x47 r_x51 q_x51 r_x57 q_x57 r_x64 q_x64 r_x69 q_x69 ex70 r_x75 q_x75))
      refine ⟨i76, ?_⟩
      intro S77 eS77
      have hIn : IV S77 := by rw [eS77]; exact iv10_aI hI o_a7 (rg_nw hG ea7) ea73 o_a73 (by decide)
      have hG := rg_a (jj := 18) (x := x75) eS77 hI ea7 o_a7 ea73 o_a73 (by decide) (h1_no (by decide)) (h2_no (y := 0) (by decide)) hG
      have el60 := el_ar eS77 (ow_ne hI o_a7 (by decide) o_a7 (by decide) ea73 ea55 (by decide)) el60
      have el67 := el_ar eS77 (ow_ne hI o_a7 (by decide) o_a7 (by decide) ea73 ea62 (by decide)) el67
      have hI := hIn
      have f0 := fr_A eS77 g0 f0 o_a73 (by decide)
      have d_x75 := rd_Ik eS77 o_a73 o_a7 (by decide) d_x75
      have d_kv10 := rd_Ik eS77 o_a73 o_a7 (by decide) d_kv10
      have d_kv25 := rd_Ik eS77 o_a73 o_v0 (by decide) d_kv25
      have d_x40 := rd_Ik eS77 o_a73 o_v0 (by decide) d_x40
      have d_kv38 := rd_Ik eS77 o_a73 o_v0 (by decide) d_kv38
      have d_x70 := rd_Ik eS77 o_a73 o_a7 (by decide) d_x70
      have ea7 := rf_I eS77 ea7
      have ea49 := rf_I eS77 ea49
      have ea55 := rf_I eS77 ea55
      have ea62 := rf_I eS77 ea62
      have ea73 := rf_I eS77 ea73
      have l_a49 := ln_I eS77 l_a49
      have l_a55 := ln_I eS77 l_a55
      have l_a62 := ln_I eS77 l_a62
      have l_a73 := ln_I eS77 l_a73
      have g0 := gr_I eS77 g0
      have o_a49 := ob_I eS77 o_a49
      have o_a55 := ob_I eS77 o_a55
      have o_a62 := ob_I eS77 o_a62
      have o_a7 := ob_I eS77 o_a7
      have o_a73 := ob_I eS77 o_a73
      have o_v0 := ob_I eS77 o_v0
      refine ⟨a7, ea7, ?_⟩
      refine ⟨o_a7, ?_⟩
      obtain ⟨a79, ea79, o_a79, l_a79⟩ := shl 34 rfl hI o_a7
      refine ⟨a79, ea79, ?_⟩
      refine ⟨a7, ea7, ?_⟩
      refine ⟨o_a7, ?_⟩
      intro x81 ex81
      have r_x81 : (0 : Int32) ≤ x81 ∧ x81 ≤ (8 : Int32) := by rw [ex81]; exact nu 18 rfl hI o_a7
      have q_x81 : x81 = x75 := ex81.trans d_x75.symm
      have d_x81 := ex81
      refine ⟨o_a79, ?_⟩
      have i82 : vp_in x81 (hN _ a79) := (vin l_a79 (m := 8) (by decide) (qr535 hiv4 r_kv8 r_kv9 r_kv10 hnf r_x12 q_x12 mo41 mo42 mo43 mo44 bb_x30 c39 q_x40 c45 r_x47 q_x47 r_x51 q_x51 r_x57 q_x57 r_x64 q_x64 r_x69 q_x69 ex70 r_x75 q_x75 r_x81 q_x81))
      refine ⟨i82, ?_⟩
      intro S83 eS83
      have hIn : IV S83 := by rw [eS83]; exact iv10_aI hI o_a7 (rg_nw hG ea7) ea79 o_a79 (by decide)
      have hG := rg_a (jj := 12) (x := x81) eS83 hI ea7 o_a7 ea79 o_a79 (by decide) (h1_no (by decide)) (h2_no (y := 0) (by decide)) hG
      have el60 := el_ar eS83 (ow_ne hI o_a7 (by decide) o_a7 (by decide) ea79 ea55 (by decide)) el60
      have el67 := el_ar eS83 (ow_ne hI o_a7 (by decide) o_a7 (by decide) ea79 ea62 (by decide)) el67
      have hI := hIn
      have f0 := fr_A eS83 g0 f0 o_a79 (by decide)
      have d_x81 := rd_Ik eS83 o_a79 o_a7 (by decide) d_x81
      have d_kv10 := rd_Ik eS83 o_a79 o_a7 (by decide) d_kv10
      have d_kv25 := rd_Ik eS83 o_a79 o_v0 (by decide) d_kv25
      have d_x40 := rd_Ik eS83 o_a79 o_v0 (by decide) d_x40
      have d_kv38 := rd_Ik eS83 o_a79 o_v0 (by decide) d_kv38
      have d_x70 := rd_Ik eS83 o_a79 o_a7 (by decide) d_x70
      have ea7 := rf_I eS83 ea7
      have ea49 := rf_I eS83 ea49
      have ea55 := rf_I eS83 ea55
      have ea62 := rf_I eS83 ea62
      have ea73 := rf_I eS83 ea73
      have ea79 := rf_I eS83 ea79
      have l_a49 := ln_I eS83 l_a49
      have l_a55 := ln_I eS83 l_a55
      have l_a62 := ln_I eS83 l_a62
      have l_a73 := ln_I eS83 l_a73
      have l_a79 := ln_I eS83 l_a79
      have g0 := gr_I eS83 g0
      have o_a49 := ob_I eS83 o_a49
      have o_a55 := ob_I eS83 o_a55
      have o_a62 := ob_I eS83 o_a62
      have o_a7 := ob_I eS83 o_a7
      have o_a73 := ob_I eS83 o_a73
      have o_a79 := ob_I eS83 o_a79
      have o_v0 := ob_I eS83 o_v0
      refine ⟨a7, ea7, ?_⟩
      refine ⟨o_a7, ?_⟩
      intro x85 ex85
      have r_x85 : (0 : Int32) ≤ x85 ∧ x85 ≤ (8 : Int32) := by rw [ex85]; exact nu 18 rfl hI o_a7
      have q_x85 : x85 = x81 := ex85.trans d_x81.symm
      have d_x85 := ex85
      intro x86 ex86
      intro S87 eS87
      have hIn : IV S87 := by rw [eS87]; exact iv10_sI hI o_a7 (rg_nw hG ea7) (nu_one (lo := (0 : Int32)) (hi := (8 : Int32)) (by decide) (qr536 hiv4 r_kv8 r_kv9 r_kv10 hnf r_x12 q_x12 mo41 mo42 mo43 mo44 bb_x30 c39 q_x40 c45 r_x47 q_x47 r_x51 q_x51 r_x57 q_x57 r_x64 q_x64 r_x69 q_x69 ex70 r_x75 q_x75 r_x81 q_x81 r_x85 q_x85 ex86))
      have hG := rg_inc (c := 2) (y := x85) eS87 hI ea7 o_a7 d_x85.symm (qr537 hiv4 r_kv8 r_kv9 r_kv10 hnf r_x12 q_x12 mo41 mo42 mo43 mo44 bb_x30 c39 q_x40 c45 r_x47 q_x47 r_x51 q_x51 r_x57 q_x57 r_x64 q_x64 r_x69 q_x69 ex70 r_x75 q_x75 r_x81 q_x81 r_x85 q_x85 ex86) (qr538 hiv4 r_kv8 r_kv9 r_kv10 hnf r_x12 q_x12 mo41 mo42 mo43 mo44 bb_x30 c39 q_x40 c45 r_x47 q_x47 r_x51 q_x51 r_x57 q_x57 r_x64 q_x64 r_x69 q_x69 ex70 r_x75 q_x75 r_x81 q_x81 r_x85 q_x85 ex86) hn_2 (hs_2 eS87 d_x85.symm d_kv10.symm (qr537 hiv4 r_kv8 r_kv9 r_kv10 hnf r_x12 q_x12 mo41 mo42 mo43 mo44 bb_x30 c39 q_x40 c45 r_x47 q_x47 r_x51 q_x51 r_x57 q_x57 r_x64 q_x64 r_x69 q_x69 ex70 r_x75 q_x75 r_x81 q_x81 r_x85 q_x85 ex86) (qr538 hiv4 r_kv8 r_kv9 r_kv10 hnf r_x12 q_x12 mo41 mo42 mo43 mo44 bb_x30 c39 q_x40 c45 r_x47 q_x47 r_x51 q_x51 r_x57 q_x57 r_x64 q_x64 r_x69 q_x69 ex70 r_x75 q_x75 r_x81 q_x81 r_x85 q_x85 ex86) (qr539 hiv4 r_kv8 r_kv9 r_kv10 hnf r_x12 q_x12 mo41 mo42 mo43 mo44 bb_x30 c39 q_x40 c45 r_x47 q_x47 r_x51 q_x51 r_x57 q_x57 r_x64 q_x64 r_x69 q_x69 ex70 r_x75 q_x75 r_x81 q_x81 r_x85 q_x85 ex86) ea55 ea62 el60 (el67.trans (qr540 hiv4 r_kv8 r_kv9 r_kv10 hnf r_x12 q_x12 mo41 mo42 mo43 mo44 bb_x30 c39 q_x40 c45 r_x47 q_x47 r_x51 q_x51 r_x57 q_x57 r_x64 q_x64 r_x69 q_x69 ex70 r_x75 q_x75 r_x81 q_x81 r_x85 q_x85 ex86)) (qr541 hiv4 r_kv8 r_kv9 r_kv10 hnf r_x12 q_x12 mo41 mo42 mo43 mo44 bb_x30 c39 q_x40 c45 r_x47 q_x47 r_x51 q_x51 r_x57 q_x57 r_x64 q_x64 r_x69 q_x69 ex70 r_x75 q_x75 r_x81 q_x81 r_x85 q_x85 ex86) (qr542 hiv4 r_kv8 r_kv9 r_kv10 hnf r_x12 q_x12 mo41 mo42 mo43 mo44 bb_x30 c39 q_x40 c45 r_x47 q_x47 r_x51 q_x51 r_x57 q_x57 r_x64 q_x64 r_x69 q_x69 ex70 r_x75 q_x75 r_x81 q_x81 r_x85 q_x85 ex86)) hG
      have el60 := el_ob eS87 o_a7 o_a55 (by decide) el60
      have el67 := el_ob eS87 o_a7 o_a62 (by decide) el67
      have hI := hIn
      have f0 := fr_I eS87 g0 f0 o_a7 (by decide)
      have d_kv10 := rd_Ij eS87 (by decide) d_kv10
      have d_kv25 := rd_Ik eS87 o_a7 o_v0 (by decide) d_kv25
      have d_x40 := rd_Ik eS87 o_a7 o_v0 (by decide) d_x40
      have d_kv38 := rd_Ik eS87 o_a7 o_v0 (by decide) d_kv38
      have d_x70 := rd_Ij eS87 (by decide) d_x70
      have d_x86 := rd_Is eS87 (rfl : x86 = x86)
      have ea7 := rf_I eS87 ea7
      have ea49 := rf_I eS87 ea49
      have ea55 := rf_I eS87 ea55
      have ea62 := rf_I eS87 ea62
      have ea73 := rf_I eS87 ea73
      have ea79 := rf_I eS87 ea79
      have l_a49 := ln_I eS87 l_a49
      have l_a55 := ln_I eS87 l_a55
      have l_a62 := ln_I eS87 l_a62
      have l_a73 := ln_I eS87 l_a73
      have l_a79 := ln_I eS87 l_a79
      have g0 := gr_I eS87 g0
      have o_a49 := ob_I eS87 o_a49
      have o_a55 := ob_I eS87 o_a55
      have o_a62 := ob_I eS87 o_a62
      have o_a7 := ob_I eS87 o_a7
      have o_a73 := ob_I eS87 o_a73
      have o_a79 := ob_I eS87 o_a79
      have o_v0 := ob_I eS87 o_v0
      have hn : RN S87 v0 := fun z ez => by obtain rfl : a7 = z := Option.some.inj (ea7.symm.trans ez); rw [← d_x70, ← d_x86, ← d_kv10]; exact (qr543 hiv4 r_kv8 r_kv9 r_kv10 hnf r_x12 q_x12 mo41 mo42 mo43 mo44 bb_x30 c39 q_x40 c45 r_x47 q_x47 r_x51 q_x51 r_x57 q_x57 r_x64 q_x64 r_x69 q_x69 ex70 r_x75 q_x75 r_x81 q_x81 r_x85 q_x85 ex86)
      exact hq _ hI g0 f0 ⟨hG, hn, (by have t : x40 = 5 → 0 < kv25 := (qr544 hiv4 hiv6 hO r_kv8 r_kv9 r_kv10 hnf r_x12 q_x12 ph0_S14 mo41 mo42 ph0_S21 mo43 hiv29 ph0_S31 mo44 bb_x30 c39 q_x40 c45 r_x47 q_x47 r_x51 q_x51 r_x57 q_x57 r_x64 q_x64 r_x69 q_x69 ex70 r_x75 q_x75 r_x81 q_x81 r_x85 q_x85 ex86); rw [d_x40, d_kv25] at t; exact t), (by have t : x40 = 5 ∨ ¬ iv4 = 5 := (qr545 hiv4 r_kv8 r_kv9 r_kv10 hnf r_x12 q_x12 mo41 mo42 mo43 mo44 bb_x30 c39 q_x40 c45 r_x47 q_x47 r_x51 q_x51 r_x57 q_x57 r_x64 q_x64 r_x69 q_x69 ex70 r_x75 q_x75 r_x81 q_x81 r_x85 q_x85 ex86); rw [di_9, d_x40] at t; exact t), (by have t : iv2 ≤ kv38 ∧ (x40 = 4 → iv2 < kv38 ∨ iv4 = 4) := (qr546 r_kv1 hiv2 hiv4 r_kv8 r_kv9 r_kv10 hnf r_x12 q_x12 mo41 r_kv19 ph2_S14 mo42 mo43 r_kv28 ph2_S21 mo44 r_kv38 ph2_S31 bb_x30 c39 q_x40 c45 r_x47 q_x47 r_x51 q_x51 r_x57 q_x57 r_x64 q_x64 r_x69 q_x69 ex70 r_x75 q_x75 r_x81 q_x81 r_x85 q_x85 ex86); rw [di_8, di_9, d_kv38, d_x40] at t; exact t)⟩
    · exact hq _ hI g0 f0 ⟨hG, hn, (by have t : x40 = 5 → 0 < kv25 := (qr547 hiv4 hiv6 hO r_kv8 r_kv9 r_kv10 hnf r_x12 q_x12 ph0_S14 mo41 mo42 ph0_S21 mo43 hiv29 ph0_S31 mo44 bb_x30 c39 q_x40 c45); rw [d_x40, d_kv25] at t; exact t), (by have t : x40 = 5 ∨ ¬ iv4 = 5 := (qr548 hiv4 r_kv8 r_kv9 r_kv10 hnf r_x12 q_x12 mo41 mo42 mo43 mo44 bb_x30 c39 q_x40 c45); rw [di_9, d_x40] at t; exact t), (by have t : iv2 ≤ kv38 ∧ (x40 = 4 → iv2 < kv38 ∨ iv4 = 4) := (qr549 r_kv1 hiv2 hiv4 r_kv8 r_kv9 r_kv10 hnf r_x12 q_x12 mo41 r_kv19 ph2_S14 mo42 mo43 r_kv28 ph2_S21 mo44 r_kv38 ph2_S31 bb_x30 c39 q_x40 c45); rw [di_8, di_9, d_kv38, d_x40] at t; exact t)⟩
  · obtain ⟨iv88, hiv88⟩ : ∃ z : Int32, z = kv25 := ⟨_, rfl⟩
    have d_iv88 := hiv88.trans d_kv25
    have do88_kv38 := d_kv38
    have do88_kv34 := d_kv34
    have do88_iv88 := d_iv88
    refine m_X11_eatsWord hI o_v0 (by decide) hG (by have t : kv34 = 5 → 0 < kv25 := (qr550 hiv4 hiv6 hO r_kv8 r_kv9 r_kv10 hnf r_x12 q_x12 ph0_S14 mo35 mo36 ph0_S21 mo37 hiv29 ph0_S31 ph1_S31 bb_x30 c39); rw [d_kv34, d_kv25] at t; exact t) (fun x89 S90 hJ g91 fc92 b_x89 p_x89 => ?_)
    obtain ⟨hG, pg0_S90, pg1_S90, pg2_S90⟩ := p_x89
    have hn := rn_fr fc92 g91 hI o_v0 (by decide) hn
    have hI := hJ
    have d_kv8 := d_kv8.trans (fri_at fc92 (by decide) (by decide) o_a7).symm
    have d_x12 := d_x12.trans (fri_at fc92 (by decide) (by decide) o_a7).symm
    have d_kv10 := d_kv10.trans (fri_at fc92 (by decide) (by decide) o_a7).symm
    have d_kv25 := d_kv25.trans (fri_at fc92 (by decide) (by decide) o_v0).symm
    have ea7 := (frr_at fc92 (by decide) (by decide) o_v0).trans ea7
    have f0 := fri_tr (S := S31) g0 f0 fc92 (by decide) (by decide)
    have o_a7 := gr_ob g91 o_a7
    have o_v0 := gr_ob g91 o_v0
    have g0 := gr_tr (T := S31) g0 g91
    obtain ⟨kv93, d_kv93⟩ : ∃ z : Int32, z = fI S90 v0 9 := ⟨_, rfl⟩
    have ph0_S90 : kv93 = 5 → 0 < kv25 := by rw [d_kv93, d_kv25]; exact pg0_S90
    have ph1_S90 : kv93 = 5 ∨ ¬ kv34 = 5 := by rw [do88_kv34, d_kv93]; exact pg1_S90
    have mo94 : kv93 = 5 ∨ ¬ kv3 = 5 := ph1_S90.elim Or.inl (fun h => Or.inr (mo35.resolve_left h))
    have mo95 : kv93 = 5 ∨ ¬ x12 = (8 : Int32) := ph1_S90.elim Or.inl (fun h => Or.inr (mo36.resolve_left h))
    have mo96 : kv93 = 5 ∨ ¬ kv17 = 5 := ph1_S90.elim Or.inl (fun h => Or.inr (mo37.resolve_left h))
    have mo97 : kv93 = 5 ∨ ¬ kv24 = 5 := ph1_S90.elim Or.inl (fun h => Or.inr (ph1_S31.resolve_left h))
    obtain ⟨kv98, d_kv98⟩ : ∃ z : Int32, z = fI S90 v0 8 := ⟨_, rfl⟩
    have r_kv98 : (0 : Int32) ≤ kv98 ∧ kv98 ≤ (900 : Int32) := by rw [d_kv98]; exact nu 25 rfl hI o_v0
    have ph2_S90 : kv38 ≤ kv98 ∧ (kv93 = 4 → kv38 < kv98 ∨ kv34 = 4) := by rw [do88_kv38, do88_kv34, d_kv98, d_kv93]; exact pg2_S90
    intro _ _
    have bb_x89 : x89 = 0 ∨ x89 = 1 := b_x89
    refine ⟨fun c99 => ?_, fun c99 => ?_⟩
    · refine u_X11_readPlace_48 ?_
      refine u_X11_readPlace_50 ?_
      refine ⟨o_v0, ?_⟩
      intro x100 ex100
      have q_x100 : x100 = kv93 := ex100.trans d_kv93.symm
      have mo101 : x100 = 5 ∨ ¬ kv3 = 5 := mo94.imp_left (fun z => q_x100.trans z)
      have mo102 : x100 = 5 ∨ ¬ x12 = (8 : Int32) := mo95.imp_left (fun z => q_x100.trans z)
      have mo103 : x100 = 5 ∨ ¬ kv17 = 5 := mo96.imp_left (fun z => q_x100.trans z)
      have mo104 : x100 = 5 ∨ ¬ kv24 = 5 := mo97.imp_left (fun z => q_x100.trans z)
      have mo105 : x100 = 5 ∨ ¬ kv34 = 5 := ph1_S90.imp_left (fun z => q_x100.trans z)
      have d_x100 := ex100
      refine ⟨fun c106 => ?_, fun c106 => ?_⟩
      · refine ⟨a7, ea7, ?_⟩
        refine ⟨o_a7, ?_⟩
        intro x108 ex108
        have r_x108 : (0 : Int32) ≤ x108 ∧ x108 ≤ (8 : Int32) := by rw [ex108]; exact nu 18 rfl hI o_a7
        have q_x108 : x108 = x12 := ex108.trans d_x12.symm
        have d_x108 := ex108
        refine u_X11_names ?_
        refine u_X11_names_0 ?_
        refine ⟨o_v0, ?_⟩
        refine ⟨a7, ea7, ?_⟩
        refine ⟨o_a7, ?_⟩
        obtain ⟨a110, ea110, o_a110, l_a110⟩ := shl 50 rfl hI o_a7
        refine ⟨a110, ea110, ?_⟩
        refine ⟨a7, ea7, ?_⟩
        refine ⟨o_a7, ?_⟩
        intro x112 ex112
        have r_x112 : (0 : Int32) ≤ x112 ∧ x112 ≤ (12 : Int32) := by rw [ex112]; exact nu 22 rfl hI o_a7
        have q_x112 : x112 = kv8 := ex112.trans d_kv8.symm
        have d_x112 := ex112
        refine ⟨o_a110, ?_⟩
        have i113 : vp_in x112 (hN _ a110) := (vin l_a110 (m := 12) (by decide) (qr551 hiv4 r_kv8 r_kv9 r_kv10 hnf r_x12 q_x12 mo101 mo102 mo103 mo104 bb_x30 c39 mo105 bb_x89 c99 q_x100 c106 r_x108 q_x108 r_x112 q_x112))
        refine ⟨i113, ?_⟩
        intro S114 eS114
        have hIn : IV S114 := by rw [eS114]; exact iv10_aJ hI o_a7 (by decide) ea110
        have hG := rg_J eS114 hG
        have hn := rn_J eS114 hn
        have hI := hIn
        have f0 := fr_J eS114 f0
        have d_x112 := rd_J eS114 d_x112
        have d_x108 := rd_J eS114 d_x108
        have d_kv10 := rd_J eS114 d_kv10
        have d_kv25 := rd_J eS114 d_kv25
        have d_x100 := rd_J eS114 d_x100
        have d_kv98 := rd_J eS114 d_kv98
        have ea7 := rf_J eS114 ea7
        have ea110 := rf_J eS114 ea110
        have l_a110 := ln_J eS114 l_a110
        have g0 := gr_J eS114 g0
        have o_a110 := ob_J eS114 o_a110
        have o_a7 := ob_J eS114 o_a7
        have o_v0 := ob_J eS114 o_v0
        refine ⟨a7, ea7, ?_⟩
        refine ⟨o_a7, ?_⟩
        obtain ⟨a116, ea116, o_a116, l_a116⟩ := shl 51 rfl hI o_a7
        refine ⟨a116, ea116, ?_⟩
        refine ⟨a7, ea7, ?_⟩
        refine ⟨o_a7, ?_⟩
        intro x118 ex118
        have r_x118 : (0 : Int32) ≤ x118 ∧ x118 ≤ (12 : Int32) := by rw [ex118]; exact nu 22 rfl hI o_a7
        have q_x118 : x118 = x112 := ex118.trans d_x112.symm
        have d_x118 := ex118
        refine ⟨o_a116, ?_⟩
        have i119 : vp_in x118 (hN _ a116) := (vin l_a116 (m := 12) (by decide) (qr552 hiv4 r_kv8 r_kv9 r_kv10 hnf r_x12 q_x12 mo101 mo102 mo103 mo104 bb_x30 c39 mo105 bb_x89 c99 q_x100 c106 r_x108 q_x108 r_x112 q_x112 r_x118 q_x118))
        refine ⟨i119, ?_⟩
        intro S120 eS120
        have hIn : IV S120 := by rw [eS120]; exact iv10_aI hI o_a7 (rg_nw hG ea7) ea116 o_a116 (by decide)
        have hG := rg_a (jj := 29) (x := x118) eS120 hI ea7 o_a7 ea116 o_a116 (by decide) (h1_no (by decide)) (fun _ => by rw [← d_x108, ← d_kv10]; exact (qr553 hiv4 r_kv8 r_kv9 r_kv10 hnf r_x12 q_x12 mo101 mo102 mo103 mo104 bb_x30 c39 mo105 bb_x89 c99 q_x100 c106 r_x108 q_x108 r_x112 q_x112 r_x118 q_x118)) hG
        have hn := rn_11 eS120 hI o_v0 o_a116 (by decide) hn
        have hI := hIn
        have f0 := fr_A eS120 g0 f0 o_a116 (by decide)
        have d_x118 := rd_Ik eS120 o_a116 o_a7 (by decide) d_x118
        have d_x108 := rd_Ik eS120 o_a116 o_a7 (by decide) d_x108
        have d_kv10 := rd_Ik eS120 o_a116 o_a7 (by decide) d_kv10
        have d_kv25 := rd_Ik eS120 o_a116 o_v0 (by decide) d_kv25
        have d_x100 := rd_Ik eS120 o_a116 o_v0 (by decide) d_x100
        have d_kv98 := rd_Ik eS120 o_a116 o_v0 (by decide) d_kv98
        have ea7 := rf_I eS120 ea7
        have ea110 := rf_I eS120 ea110
        have ea116 := rf_I eS120 ea116
        have l_a110 := ln_I eS120 l_a110
        have l_a116 := ln_I eS120 l_a116
        have g0 := gr_I eS120 g0
        have o_a110 := ob_I eS120 o_a110
        have o_a116 := ob_I eS120 o_a116
        have o_a7 := ob_I eS120 o_a7
        have o_v0 := ob_I eS120 o_v0
        have el121 : fI S120 a116 x118.toNatClampNeg = (0 : Int32) := by rw [eS120]; exact u2_self _ _ _ _
        refine ⟨a7, ea7, ?_⟩
        refine ⟨o_a7, ?_⟩
        obtain ⟨a123, ea123, o_a123, l_a123⟩ := shl 52 rfl hI o_a7
        refine ⟨a123, ea123, ?_⟩
        refine ⟨a7, ea7, ?_⟩
        refine ⟨o_a7, ?_⟩
        intro x125 ex125
        have r_x125 : (0 : Int32) ≤ x125 ∧ x125 ≤ (12 : Int32) := by rw [ex125]; exact nu 22 rfl hI o_a7
        have q_x125 : x125 = x118 := ex125.trans d_x118.symm
        have d_x125 := ex125
        refine ⟨o_a123, ?_⟩
        have i126 : vp_in x125 (hN _ a123) := (vin l_a123 (m := 12) (by decide) (qr554 hiv4 r_kv8 r_kv9 r_kv10 hnf r_x12 q_x12 mo101 mo102 mo103 mo104 bb_x30 c39 mo105 bb_x89 c99 q_x100 c106 r_x108 q_x108 r_x112 q_x112 r_x118 q_x118 r_x125 q_x125))
        refine ⟨i126, ?_⟩
        intro S127 eS127
        have hIn : IV S127 := by rw [eS127]; exact iv10_aI hI o_a7 (rg_nw hG ea7) ea123 o_a123 (by decide)
        have hG := rg_a (jj := 30) (x := x125) eS127 hI ea7 o_a7 ea123 o_a123 (by decide) (h1_no (by decide)) (fun _ => by rw [← d_x108, ← d_kv10]; exact (qr555 hiv4 r_kv8 r_kv9 r_kv10 hnf r_x12 q_x12 mo101 mo102 mo103 mo104 bb_x30 c39 mo105 bb_x89 c99 q_x100 c106 r_x108 q_x108 r_x112 q_x112 r_x118 q_x118 r_x125 q_x125)) hG
        have hn := rn_11 eS127 hI o_v0 o_a123 (by decide) hn
        have el121 := el_ar eS127 (ow_ne hI o_a7 (by decide) o_a7 (by decide) ea123 ea116 (by decide)) el121
        have hI := hIn
        have f0 := fr_A eS127 g0 f0 o_a123 (by decide)
        have d_x125 := rd_Ik eS127 o_a123 o_a7 (by decide) d_x125
        have d_x108 := rd_Ik eS127 o_a123 o_a7 (by decide) d_x108
        have d_kv10 := rd_Ik eS127 o_a123 o_a7 (by decide) d_kv10
        have d_kv25 := rd_Ik eS127 o_a123 o_v0 (by decide) d_kv25
        have d_x100 := rd_Ik eS127 o_a123 o_v0 (by decide) d_x100
        have d_kv98 := rd_Ik eS127 o_a123 o_v0 (by decide) d_kv98
        have ea7 := rf_I eS127 ea7
        have ea110 := rf_I eS127 ea110
        have ea116 := rf_I eS127 ea116
        have ea123 := rf_I eS127 ea123
        have l_a110 := ln_I eS127 l_a110
        have l_a116 := ln_I eS127 l_a116
        have l_a123 := ln_I eS127 l_a123
        have g0 := gr_I eS127 g0
        have o_a110 := ob_I eS127 o_a110
        have o_a116 := ob_I eS127 o_a116
        have o_a123 := ob_I eS127 o_a123
        have o_a7 := ob_I eS127 o_a7
        have o_v0 := ob_I eS127 o_v0
        have el128 : fI S127 a123 x125.toNatClampNeg = x108 := by rw [eS127]; exact u2_self _ _ _ _
        refine ⟨a7, ea7, ?_⟩
        refine ⟨o_a7, ?_⟩
        intro x130 ex130
        have r_x130 : (0 : Int32) ≤ x130 ∧ x130 ≤ (12 : Int32) := by rw [ex130]; exact nu 22 rfl hI o_a7
        have q_x130 : x130 = x125 := ex130.trans d_x125.symm
        have d_x130 := ex130
        intro x131 ex131
        intro S132 eS132
        have hIn : IV S132 := by rw [eS132]; exact iv10_sI hI o_a7 (rg_nw hG ea7) (nu_one (lo := (0 : Int32)) (hi := (12 : Int32)) (by decide) (qr556 hiv4 r_kv8 r_kv9 r_kv10 hnf r_x12 q_x12 mo101 mo102 mo103 mo104 bb_x30 c39 mo105 bb_x89 c99 q_x100 c106 r_x108 q_x108 r_x112 q_x112 r_x118 q_x118 r_x125 q_x125 r_x130 q_x130 ex131))
        have hG := rg_c eS132 hI ea7 o_a7 (by decide) hG
        have el121 := el_ob eS132 o_a7 o_a116 (by decide) el121
        have el128 := el_ob eS132 o_a7 o_a123 (by decide) el128
        have hI := hIn
        have f0 := fr_I eS132 g0 f0 o_a7 (by decide)
        have d_x108 := rd_Ij eS132 (by decide) d_x108
        have d_kv10 := rd_Ij eS132 (by decide) d_kv10
        have d_kv25 := rd_Ik eS132 o_a7 o_v0 (by decide) d_kv25
        have d_x100 := rd_Ik eS132 o_a7 o_v0 (by decide) d_x100
        have d_kv98 := rd_Ik eS132 o_a7 o_v0 (by decide) d_kv98
        have d_x131 := rd_Is eS132 (rfl : x131 = x131)
        have ea7 := rf_I eS132 ea7
        have ea110 := rf_I eS132 ea110
        have ea116 := rf_I eS132 ea116
        have ea123 := rf_I eS132 ea123
        have l_a110 := ln_I eS132 l_a110
        have l_a116 := ln_I eS132 l_a116
        have l_a123 := ln_I eS132 l_a123
        have g0 := gr_I eS132 g0
        have o_a110 := ob_I eS132 o_a110
        have o_a116 := ob_I eS132 o_a116
        have o_a123 := ob_I eS132 o_a123
        have o_a7 := ob_I eS132 o_a7
        have o_v0 := ob_I eS132 o_v0
        intro _
        refine ⟨a7, ea7, ?_⟩
        refine ⟨o_a7, ?_⟩
        obtain ⟨a134, ea134, o_a134, l_a134⟩ := shl 40 rfl hI o_a7
        refine ⟨a134, ea134, ?_⟩
        refine ⟨a7, ea7, ?_⟩
        refine ⟨o_a7, ?_⟩
        intro x136 ex136
        have r_x136 : (0 : Int32) ≤ x136 ∧ x136 ≤ (8 : Int32) := by rw [ex136]; exact nu 18 rfl hI o_a7
        have q_x136 : x136 = x108 := ex136.trans d_x108.symm
        have d_x136 := ex136
        refine ⟨o_a134, ?_⟩
        have i137 : vp_in x136 (hN _ a134) := (vin l_a134 (m := 8) (by decide) (qr557 hiv4 r_kv8 r_kv9 r_kv10 hnf r_x12 q_x12 mo101 mo102 mo103 mo104 bb_x30 c39 mo105 bb_x89 c99 q_x100 c106 r_x108 q_x108 r_x112 q_x112 r_x118 q_x118 r_x125 q_x125 r_x130 q_x130 ex131 r_x136 q_x136))
        refine ⟨i137, ?_⟩
        intro S138 eS138
        have hIn : IV S138 := by rw [eS138]; exact iv10_aI hI o_a7 (rg_nw hG ea7) ea134 o_a134 (by decide)
        have hG := rg_a (jj := 18) (x := x136) eS138 hI ea7 o_a7 ea134 o_a134 (by decide) (h1_no (by decide)) (h2_no (y := 0) (by decide)) hG
        have el121 := el_ar eS138 (ow_ne hI o_a7 (by decide) o_a7 (by decide) ea134 ea116 (by decide)) el121
        have el128 := el_ar eS138 (ow_ne hI o_a7 (by decide) o_a7 (by decide) ea134 ea123 (by decide)) el128
        have hI := hIn
        have f0 := fr_A eS138 g0 f0 o_a134 (by decide)
        have d_x136 := rd_Ik eS138 o_a134 o_a7 (by decide) d_x136
        have d_kv10 := rd_Ik eS138 o_a134 o_a7 (by decide) d_kv10
        have d_kv25 := rd_Ik eS138 o_a134 o_v0 (by decide) d_kv25
        have d_x100 := rd_Ik eS138 o_a134 o_v0 (by decide) d_x100
        have d_kv98 := rd_Ik eS138 o_a134 o_v0 (by decide) d_kv98
        have d_x131 := rd_Ik eS138 o_a134 o_a7 (by decide) d_x131
        have ea7 := rf_I eS138 ea7
        have ea110 := rf_I eS138 ea110
        have ea116 := rf_I eS138 ea116
        have ea123 := rf_I eS138 ea123
        have ea134 := rf_I eS138 ea134
        have l_a110 := ln_I eS138 l_a110
        have l_a116 := ln_I eS138 l_a116
        have l_a123 := ln_I eS138 l_a123
        have l_a134 := ln_I eS138 l_a134
        have g0 := gr_I eS138 g0
        have o_a110 := ob_I eS138 o_a110
        have o_a116 := ob_I eS138 o_a116
        have o_a123 := ob_I eS138 o_a123
        have o_a134 := ob_I eS138 o_a134
        have o_a7 := ob_I eS138 o_a7
        have o_v0 := ob_I eS138 o_v0
        refine ⟨a7, ea7, ?_⟩
        refine ⟨o_a7, ?_⟩
        obtain ⟨a140, ea140, o_a140, l_a140⟩ := shl 34 rfl hI o_a7
        refine ⟨a140, ea140, ?_⟩
        refine ⟨a7, ea7, ?_⟩
        refine ⟨o_a7, ?_⟩
        intro x142 ex142
        have r_x142 : (0 : Int32) ≤ x142 ∧ x142 ≤ (8 : Int32) := by rw [ex142]; exact nu 18 rfl hI o_a7
        have q_x142 : x142 = x136 := ex142.trans d_x136.symm
        have d_x142 := ex142
        refine ⟨o_a140, ?_⟩
        have i143 : vp_in x142 (hN _ a140) := (vin l_a140 (m := 8) (by decide) (qr558 hiv4 r_kv8 r_kv9 r_kv10 hnf r_x12 q_x12 mo101 mo102 mo103 mo104 bb_x30 c39 mo105 bb_x89 c99 q_x100 c106 r_x108 q_x108 r_x112 q_x112 r_x118 q_x118 r_x125 q_x125 r_x130 q_x130 ex131 r_x136 q_x136 r_x142 q_x142))
        refine ⟨i143, ?_⟩
        intro S144 eS144
        have hIn : IV S144 := by rw [eS144]; exact iv10_aI hI o_a7 (rg_nw hG ea7) ea140 o_a140 (by decide)
        have hG := rg_a (jj := 12) (x := x142) eS144 hI ea7 o_a7 ea140 o_a140 (by decide) (h1_no (by decide)) (h2_no (y := 0) (by decide)) hG
        have el121 := el_ar eS144 (ow_ne hI o_a7 (by decide) o_a7 (by decide) ea140 ea116 (by decide)) el121
        have el128 := el_ar eS144 (ow_ne hI o_a7 (by decide) o_a7 (by decide) ea140 ea123 (by decide)) el128
        have hI := hIn
        have f0 := fr_A eS144 g0 f0 o_a140 (by decide)
        have d_x142 := rd_Ik eS144 o_a140 o_a7 (by decide) d_x142
        have d_kv10 := rd_Ik eS144 o_a140 o_a7 (by decide) d_kv10
        have d_kv25 := rd_Ik eS144 o_a140 o_v0 (by decide) d_kv25
        have d_x100 := rd_Ik eS144 o_a140 o_v0 (by decide) d_x100
        have d_kv98 := rd_Ik eS144 o_a140 o_v0 (by decide) d_kv98
        have d_x131 := rd_Ik eS144 o_a140 o_a7 (by decide) d_x131
        have ea7 := rf_I eS144 ea7
        have ea110 := rf_I eS144 ea110
        have ea116 := rf_I eS144 ea116
        have ea123 := rf_I eS144 ea123
        have ea134 := rf_I eS144 ea134
        have ea140 := rf_I eS144 ea140
        have l_a110 := ln_I eS144 l_a110
        have l_a116 := ln_I eS144 l_a116
        have l_a123 := ln_I eS144 l_a123
        have l_a134 := ln_I eS144 l_a134
        have l_a140 := ln_I eS144 l_a140
        have g0 := gr_I eS144 g0
        have o_a110 := ob_I eS144 o_a110
        have o_a116 := ob_I eS144 o_a116
        have o_a123 := ob_I eS144 o_a123
        have o_a134 := ob_I eS144 o_a134
        have o_a140 := ob_I eS144 o_a140
        have o_a7 := ob_I eS144 o_a7
        have o_v0 := ob_I eS144 o_v0
        refine ⟨a7, ea7, ?_⟩
        refine ⟨o_a7, ?_⟩
        intro x146 ex146
        have r_x146 : (0 : Int32) ≤ x146 ∧ x146 ≤ (8 : Int32) := by rw [ex146]; exact nu 18 rfl hI o_a7
        have q_x146 : x146 = x142 := ex146.trans d_x142.symm
        have d_x146 := ex146
        intro x147 ex147
        intro S148 eS148
        have hIn : IV S148 := by rw [eS148]; exact iv10_sI hI o_a7 (rg_nw hG ea7) (nu_one (lo := (0 : Int32)) (hi := (8 : Int32)) (by decide) (qr559 hiv4 r_kv8 r_kv9 r_kv10 hnf r_x12 q_x12 mo101 mo102 mo103 mo104 bb_x30 c39 mo105 bb_x89 c99 q_x100 c106 r_x108 q_x108 r_x112 q_x112 r_x118 q_x118 r_x125 q_x125 r_x130 q_x130 ex131 r_x136 q_x136 r_x142 q_x142 r_x146 q_x146 ex147))
        have hG := rg_inc (c := 2) (y := x146) eS148 hI ea7 o_a7 d_x146.symm (qr560 hiv4 r_kv8 r_kv9 r_kv10 hnf r_x12 q_x12 mo101 mo102 mo103 mo104 bb_x30 c39 mo105 bb_x89 c99 q_x100 c106 r_x108 q_x108 r_x112 q_x112 r_x118 q_x118 r_x125 q_x125 r_x130 q_x130 ex131 r_x136 q_x136 r_x142 q_x142 r_x146 q_x146 ex147) (qr561 hiv4 r_kv8 r_kv9 r_kv10 hnf r_x12 q_x12 mo101 mo102 mo103 mo104 bb_x30 c39 mo105 bb_x89 c99 q_x100 c106 r_x108 q_x108 r_x112 q_x112 r_x118 q_x118 r_x125 q_x125 r_x130 q_x130 ex131 r_x136 q_x136 r_x142 q_x142 r_x146 q_x146 ex147) hn_2 (hs_2 eS148 d_x146.symm d_kv10.symm (qr560 hiv4 r_kv8 r_kv9 r_kv10 hnf r_x12 q_x12 mo101 mo102 mo103 mo104 bb_x30 c39 mo105 bb_x89 c99 q_x100 c106 r_x108 q_x108 r_x112 q_x112 r_x118 q_x118 r_x125 q_x125 r_x130 q_x130 ex131 r_x136 q_x136 r_x142 q_x142 r_x146 q_x146 ex147) (qr561 hiv4 r_kv8 r_kv9 r_kv10 hnf r_x12 q_x12 mo101 mo102 mo103 mo104 bb_x30 c39 mo105 bb_x89 c99 q_x100 c106 r_x108 q_x108 r_x112 q_x112 r_x118 q_x118 r_x125 q_x125 r_x130 q_x130 ex131 r_x136 q_x136 r_x142 q_x142 r_x146 q_x146 ex147) (qr562 hiv4 r_kv8 r_kv9 r_kv10 hnf r_x12 q_x12 mo101 mo102 mo103 mo104 bb_x30 c39 mo105 bb_x89 c99 q_x100 c106 r_x108 q_x108 r_x112 q_x112 r_x118 q_x118 r_x125 q_x125 r_x130 q_x130 ex131 r_x136 q_x136 r_x142 q_x142 r_x146 q_x146 ex147) ea116 ea123 el121 (el128.trans (qr563 hiv4 r_kv8 r_kv9 r_kv10 hnf r_x12 q_x12 mo101 mo102 mo103 mo104 bb_x30 c39 mo105 bb_x89 c99 q_x100 c106 r_x108 q_x108 r_x112 q_x112 r_x118 q_x118 r_x125 q_x125 r_x130 q_x130 ex131 r_x136 q_x136 r_x142 q_x142 r_x146 q_x146 ex147)) (qr564 hiv4 r_kv8 r_kv9 r_kv10 hnf r_x12 q_x12 mo101 mo102 mo103 mo104 bb_x30 c39 mo105 bb_x89 c99 q_x100 c106 r_x108 q_x108 r_x112 q_x112 r_x118 q_x118 r_x125 q_x125 r_x130 q_x130 ex131 r_x136 q_x136 r_x142 q_x142 r_x146 q_x146 ex147) (qr565 hiv4 r_kv8 r_kv9 r_kv10 hnf r_x12 q_x12 mo101 mo102 mo103 mo104 bb_x30 c39 mo105 bb_x89 c99 q_x100 c106 r_x108 q_x108 r_x112 q_x112 r_x118 q_x118 r_x125 q_x125 r_x130 q_x130 ex131 r_x136 q_x136 r_x142 q_x142 r_x146 q_x146 ex147)) hG
        have el121 := el_ob eS148 o_a7 o_a116 (by decide) el121
        have el128 := el_ob eS148 o_a7 o_a123 (by decide) el128
        have hI := hIn
        have f0 := fr_I eS148 g0 f0 o_a7 (by decide)
        have d_kv10 := rd_Ij eS148 (by decide) d_kv10
        have d_kv25 := rd_Ik eS148 o_a7 o_v0 (by decide) d_kv25
        have d_x100 := rd_Ik eS148 o_a7 o_v0 (by decide) d_x100
        have d_kv98 := rd_Ik eS148 o_a7 o_v0 (by decide) d_kv98
        have d_x131 := rd_Ij eS148 (by decide) d_x131
        have d_x147 := rd_Is eS148 (rfl : x147 = x147)
        have ea7 := rf_I eS148 ea7
        have ea110 := rf_I eS148 ea110
        have ea116 := rf_I eS148 ea116
        have ea123 := rf_I eS148 ea123
        have ea134 := rf_I eS148 ea134
        have ea140 := rf_I eS148 ea140
        have l_a110 := ln_I eS148 l_a110
        have l_a116 := ln_I eS148 l_a116
        have l_a123 := ln_I eS148 l_a123
        have l_a134 := ln_I eS148 l_a134
        have l_a140 := ln_I eS148 l_a140
        have g0 := gr_I eS148 g0
        have o_a110 := ob_I eS148 o_a110
        have o_a116 := ob_I eS148 o_a116
        have o_a123 := ob_I eS148 o_a123
        have o_a134 := ob_I eS148 o_a134
        have o_a140 := ob_I eS148 o_a140
        have o_a7 := ob_I eS148 o_a7
        have o_v0 := ob_I eS148 o_v0
        have hn : RN S148 v0 := fun z ez => by obtain rfl : a7 = z := Option.some.inj (ea7.symm.trans ez); rw [← d_x131, ← d_x147, ← d_kv10]; exact (qr566 hiv4 r_kv8 r_kv9 r_kv10 hnf r_x12 q_x12 mo101 mo102 mo103 mo104 bb_x30 c39 mo105 bb_x89 c99 q_x100 c106 r_x108 q_x108 r_x112 q_x112 r_x118 q_x118 r_x125 q_x125 r_x130 q_x130 ex131 r_x136 q_x136 r_x142 q_x142 r_x146 q_x146 ex147)
        exact hq _ hI g0 f0 ⟨hG, hn, (by have t : x100 = 5 → 0 < kv25 := (qr567 hiv4 hiv6 hO r_kv8 r_kv9 r_kv10 hnf r_x12 q_x12 ph0_S14 mo101 mo102 ph0_S21 mo103 hiv29 ph0_S31 mo104 bb_x30 c39 hiv88 ph0_S90 mo105 bb_x89 c99 q_x100 c106 r_x108 q_x108 r_x112 q_x112 r_x118 q_x118 r_x125 q_x125 r_x130 q_x130 ex131 r_x136 q_x136 r_x142 q_x142 r_x146 q_x146 ex147); rw [d_x100, d_kv25] at t; exact t), (by have t : x100 = 5 ∨ ¬ iv4 = 5 := (qr568 hiv4 r_kv8 r_kv9 r_kv10 hnf r_x12 q_x12 mo101 mo102 mo103 mo104 bb_x30 c39 mo105 bb_x89 c99 q_x100 c106 r_x108 q_x108 r_x112 q_x112 r_x118 q_x118 r_x125 q_x125 r_x130 q_x130 ex131 r_x136 q_x136 r_x142 q_x142 r_x146 q_x146 ex147); rw [di_9, d_x100] at t; exact t), (by have t : iv2 ≤ kv98 ∧ (x100 = 4 → iv2 < kv98 ∨ iv4 = 4) := (qr569 r_kv1 hiv2 hiv4 r_kv8 r_kv9 r_kv10 hnf r_x12 q_x12 mo101 r_kv19 ph2_S14 mo102 mo103 r_kv28 ph2_S21 mo104 r_kv38 ph2_S31 bb_x30 c39 mo105 r_kv98 ph2_S90 bb_x89 c99 q_x100 c106 r_x108 q_x108 r_x112 q_x112 r_x118 q_x118 r_x125 q_x125 r_x130 q_x130 ex131 r_x136 q_x136 r_x142 q_x142 r_x146 q_x146 ex147); rw [di_8, di_9, d_kv98, d_x100] at t; exact t)⟩
      · exact hq _ hI g0 f0 ⟨hG, hn, (by have t : x100 = 5 → 0 < kv25 := (qr570 hiv4 hiv6 hO r_kv8 r_kv9 r_kv10 hnf r_x12 q_x12 ph0_S14 mo101 mo102 ph0_S21 mo103 hiv29 ph0_S31 mo104 bb_x30 c39 hiv88 ph0_S90 mo105 bb_x89 c99 q_x100 c106); rw [d_x100, d_kv25] at t; exact t), (by have t : x100 = 5 ∨ ¬ iv4 = 5 := (qr571 hiv4 r_kv8 r_kv9 r_kv10 hnf r_x12 q_x12 mo101 mo102 mo103 mo104 bb_x30 c39 mo105 bb_x89 c99 q_x100 c106); rw [di_9, d_x100] at t; exact t), (by have t : iv2 ≤ kv98 ∧ (x100 = 4 → iv2 < kv98 ∨ iv4 = 4) := (qr572 r_kv1 hiv2 hiv4 r_kv8 r_kv9 r_kv10 hnf r_x12 q_x12 mo101 r_kv19 ph2_S14 mo102 mo103 r_kv28 ph2_S21 mo104 r_kv38 ph2_S31 bb_x30 c39 mo105 r_kv98 ph2_S90 bb_x89 c99 q_x100 c106); rw [di_8, di_9, d_kv98, d_x100] at t; exact t)⟩
    · have do148_kv98 := d_kv98
      have do148_kv93 := d_kv93
      have do148_kv25 := d_kv25
      refine m_X11_readWhole hI o_v0 hG (by have t : kv93 = 5 → 0 < kv25 := (qr573 hiv4 hiv6 hO r_kv8 r_kv9 r_kv10 hnf r_x12 q_x12 ph0_S14 mo94 mo95 ph0_S21 mo96 hiv29 ph0_S31 mo97 bb_x30 c39 hiv88 ph0_S90 ph1_S90 bb_x89 c99); rw [d_kv93, d_kv25] at t; exact t) (fun x149 S150 hJ g151 fc152 p_x149 => ?_)
      obtain ⟨hG, p_x149, pg0_S150, pg1_S150, pg2_S150⟩ := p_x149
      have hn := rn_fr fc152 g151 hI o_v0 (by decide) hn
      have hI := hJ
      have d_kv8 := d_kv8.trans (fri_at fc152 (by decide) (by decide) o_a7).symm
      have d_x12 := d_x12.trans (fri_at fc152 (by decide) (by decide) o_a7).symm
      have d_kv10 := d_kv10.trans (fri_at fc152 (by decide) (by decide) o_a7).symm
      have ea7 := (frr_at fc152 (by decide) (by decide) o_v0).trans ea7
      have f0 := fri_tr (S := S90) g0 f0 fc152 (by decide) (by decide)
      have o_a7 := gr_ob g151 o_a7
      have o_v0 := gr_ob g151 o_v0
      have g0 := gr_tr (T := S90) g0 g151
      obtain ⟨kv153, d_kv153⟩ : ∃ z : Int32, z = fI S150 v0 9 := ⟨_, rfl⟩
      obtain ⟨kv154, d_kv154⟩ : ∃ z : Int32, z = fI S150 v0 13 := ⟨_, rfl⟩
      have ph0_S150 : kv153 = 5 → 0 < kv154 := by rw [d_kv153, d_kv154]; exact pg0_S150
      have ph1_S150 : kv153 = 5 ∨ ¬ kv93 = 5 := by rw [do148_kv93, d_kv153]; exact pg1_S150
      have mo155 : kv153 = 5 ∨ ¬ kv3 = 5 := ph1_S150.elim Or.inl (fun h => Or.inr (mo94.resolve_left h))
      have mo156 : kv153 = 5 ∨ ¬ x12 = (8 : Int32) := ph1_S150.elim Or.inl (fun h => Or.inr (mo95.resolve_left h))
      have mo157 : kv153 = 5 ∨ ¬ kv17 = 5 := ph1_S150.elim Or.inl (fun h => Or.inr (mo96.resolve_left h))
      have mo158 : kv153 = 5 ∨ ¬ kv24 = 5 := ph1_S150.elim Or.inl (fun h => Or.inr (mo97.resolve_left h))
      have mo159 : kv153 = 5 ∨ ¬ kv34 = 5 := ph1_S150.elim Or.inl (fun h => Or.inr (ph1_S90.resolve_left h))
      obtain ⟨kv160, d_kv160⟩ : ∃ z : Int32, z = fI S150 v0 8 := ⟨_, rfl⟩
      have r_kv160 : (0 : Int32) ≤ kv160 ∧ kv160 ≤ (900 : Int32) := by rw [d_kv160]; exact nu 25 rfl hI o_v0
      have ph2_S150 : kv98 ≤ kv160 ∧ (kv153 = 4 → kv98 < kv160 ∨ kv93 = 4) := by rw [do148_kv98, do148_kv93, d_kv160, d_kv153]; exact pg2_S150
      intro _
      refine u_X11_readPlace_50 ?_
      refine ⟨o_v0, ?_⟩
      intro x161 ex161
      have q_x161 : x161 = kv153 := ex161.trans d_kv153.symm
      have mo162 : x161 = 5 ∨ ¬ kv3 = 5 := mo155.imp_left (fun z => q_x161.trans z)
      have mo163 : x161 = 5 ∨ ¬ x12 = (8 : Int32) := mo156.imp_left (fun z => q_x161.trans z)
      have mo164 : x161 = 5 ∨ ¬ kv17 = 5 := mo157.imp_left (fun z => q_x161.trans z)
      have mo165 : x161 = 5 ∨ ¬ kv24 = 5 := mo158.imp_left (fun z => q_x161.trans z)
      have mo166 : x161 = 5 ∨ ¬ kv34 = 5 := mo159.imp_left (fun z => q_x161.trans z)
      have mo167 : x161 = 5 ∨ ¬ kv93 = 5 := ph1_S150.imp_left (fun z => q_x161.trans z)
      have d_x161 := ex161
      refine ⟨fun c168 => ?_, fun c168 => ?_⟩
      · refine ⟨a7, ea7, ?_⟩
        refine ⟨o_a7, ?_⟩
        intro x170 ex170
        have r_x170 : (0 : Int32) ≤ x170 ∧ x170 ≤ (8 : Int32) := by rw [ex170]; exact nu 18 rfl hI o_a7
        have q_x170 : x170 = x12 := ex170.trans d_x12.symm
        have d_x170 := ex170
        refine u_X11_names ?_
        refine u_X11_names_0 ?_
        refine ⟨o_v0, ?_⟩
        refine ⟨a7, ea7, ?_⟩
        refine ⟨o_a7, ?_⟩
        obtain ⟨a172, ea172, o_a172, l_a172⟩ := shl 50 rfl hI o_a7
        refine ⟨a172, ea172, ?_⟩
        refine ⟨a7, ea7, ?_⟩
        refine ⟨o_a7, ?_⟩
        intro x174 ex174
        have r_x174 : (0 : Int32) ≤ x174 ∧ x174 ≤ (12 : Int32) := by rw [ex174]; exact nu 22 rfl hI o_a7
        have q_x174 : x174 = kv8 := ex174.trans d_kv8.symm
        have d_x174 := ex174
        refine ⟨o_a172, ?_⟩
        have i175 : vp_in x174 (hN _ a172) := (vin l_a172 (m := 12) (by decide) (qr574 hiv4 r_kv8 r_kv9 r_kv10 hnf r_x12 q_x12 mo162 mo163 mo164 mo165 bb_x30 c39 mo166 bb_x89 c99 mo167 q_x161 c168 r_x170 q_x170 r_x174 q_x174))
        refine ⟨i175, ?_⟩
        intro S176 eS176
        have hIn : IV S176 := by rw [eS176]; exact iv10_aJ hI o_a7 (by decide) ea172
        have hG := rg_J eS176 hG
        have hn := rn_J eS176 hn
        have hI := hIn
        have f0 := fr_J eS176 f0
        have d_x174 := rd_J eS176 d_x174
        have d_x170 := rd_J eS176 d_x170
        have d_kv10 := rd_J eS176 d_kv10
        have d_x161 := rd_J eS176 d_x161
        have d_kv154 := rd_J eS176 d_kv154
        have d_kv160 := rd_J eS176 d_kv160
        have ea7 := rf_J eS176 ea7
        have ea172 := rf_J eS176 ea172
        have l_a172 := ln_J eS176 l_a172
        have g0 := gr_J eS176 g0
        have o_a172 := ob_J eS176 o_a172
        have o_a7 := ob_J eS176 o_a7
        have o_v0 := ob_J eS176 o_v0
        refine ⟨a7, ea7, ?_⟩
        refine ⟨o_a7, ?_⟩
        obtain ⟨a178, ea178, o_a178, l_a178⟩ := shl 51 rfl hI o_a7
        refine ⟨a178, ea178, ?_⟩
        refine ⟨a7, ea7, ?_⟩
        refine ⟨o_a7, ?_⟩
        intro x180 ex180
        have r_x180 : (0 : Int32) ≤ x180 ∧ x180 ≤ (12 : Int32) := by rw [ex180]; exact nu 22 rfl hI o_a7
        have q_x180 : x180 = x174 := ex180.trans d_x174.symm
        have d_x180 := ex180
        refine ⟨o_a178, ?_⟩
        have i181 : vp_in x180 (hN _ a178) := (vin l_a178 (m := 12) (by decide) (qr575 hiv4 r_kv8 r_kv9 r_kv10 hnf r_x12 q_x12 mo162 mo163 mo164 mo165 bb_x30 c39 mo166 bb_x89 c99 mo167 q_x161 c168 r_x170 q_x170 r_x174 q_x174 r_x180 q_x180))
        refine ⟨i181, ?_⟩
        intro S182 eS182
        have hIn : IV S182 := by rw [eS182]; exact iv10_aI hI o_a7 (rg_nw hG ea7) ea178 o_a178 (by decide)
        have hG := rg_a (jj := 29) (x := x180) eS182 hI ea7 o_a7 ea178 o_a178 (by decide) (h1_no (by decide)) (fun _ => by rw [← d_x170, ← d_kv10]; exact (qr576 hiv4 r_kv8 r_kv9 r_kv10 hnf r_x12 q_x12 mo162 mo163 mo164 mo165 bb_x30 c39 mo166 bb_x89 c99 mo167 q_x161 c168 r_x170 q_x170 r_x174 q_x174 r_x180 q_x180)) hG
        have hn := rn_11 eS182 hI o_v0 o_a178 (by decide) hn
        have hI := hIn
        have f0 := fr_A eS182 g0 f0 o_a178 (by decide)
        have d_x180 := rd_Ik eS182 o_a178 o_a7 (by decide) d_x180
        have d_x170 := rd_Ik eS182 o_a178 o_a7 (by decide) d_x170
        have d_kv10 := rd_Ik eS182 o_a178 o_a7 (by decide) d_kv10
        have d_x161 := rd_Ik eS182 o_a178 o_v0 (by decide) d_x161
        have d_kv154 := rd_Ik eS182 o_a178 o_v0 (by decide) d_kv154
        have d_kv160 := rd_Ik eS182 o_a178 o_v0 (by decide) d_kv160
        have ea7 := rf_I eS182 ea7
        have ea172 := rf_I eS182 ea172
        have ea178 := rf_I eS182 ea178
        have l_a172 := ln_I eS182 l_a172
        have l_a178 := ln_I eS182 l_a178
        have g0 := gr_I eS182 g0
        have o_a172 := ob_I eS182 o_a172
        have o_a178 := ob_I eS182 o_a178
        have o_a7 := ob_I eS182 o_a7
        have o_v0 := ob_I eS182 o_v0
        have el183 : fI S182 a178 x180.toNatClampNeg = (0 : Int32) := by rw [eS182]; exact u2_self _ _ _ _
        refine ⟨a7, ea7, ?_⟩
        refine ⟨o_a7, ?_⟩
        obtain ⟨a185, ea185, o_a185, l_a185⟩ := shl 52 rfl hI o_a7
        refine ⟨a185, ea185, ?_⟩
        refine ⟨a7, ea7, ?_⟩
        refine ⟨o_a7, ?_⟩
        intro x187 ex187
        have r_x187 : (0 : Int32) ≤ x187 ∧ x187 ≤ (12 : Int32) := by rw [ex187]; exact nu 22 rfl hI o_a7
        have q_x187 : x187 = x180 := ex187.trans d_x180.symm
        have d_x187 := ex187
        refine ⟨o_a185, ?_⟩
        have i188 : vp_in x187 (hN _ a185) := (vin l_a185 (m := 12) (by decide) (qr577 hiv4 r_kv8 r_kv9 r_kv10 hnf r_x12 q_x12 mo162 mo163 mo164 mo165 bb_x30 c39 mo166 bb_x89 c99 mo167 q_x161 c168 r_x170 q_x170 r_x174 q_x174 r_x180 q_x180 r_x187 q_x187))
        refine ⟨i188, ?_⟩
        intro S189 eS189
        have hIn : IV S189 := by rw [eS189]; exact iv10_aI hI o_a7 (rg_nw hG ea7) ea185 o_a185 (by decide)
        have hG := rg_a (jj := 30) (x := x187) eS189 hI ea7 o_a7 ea185 o_a185 (by decide) (h1_no (by decide)) (fun _ => by rw [← d_x170, ← d_kv10]; exact (qr578 hiv4 r_kv8 r_kv9 r_kv10 hnf r_x12 q_x12 mo162 mo163 mo164 mo165 bb_x30 c39 mo166 bb_x89 c99 mo167 q_x161 c168 r_x170 q_x170 r_x174 q_x174 r_x180 q_x180 r_x187 q_x187)) hG
        have hn := rn_11 eS189 hI o_v0 o_a185 (by decide) hn
        have el183 := el_ar eS189 (ow_ne hI o_a7 (by decide) o_a7 (by decide) ea185 ea178 (by decide)) el183
        have hI := hIn
        have f0 := fr_A eS189 g0 f0 o_a185 (by decide)
        have d_x187 := rd_Ik eS189 o_a185 o_a7 (by decide) d_x187
        have d_x170 := rd_Ik eS189 o_a185 o_a7 (by decide) d_x170
        have d_kv10 := rd_Ik eS189 o_a185 o_a7 (by decide) d_kv10
        have d_x161 := rd_Ik eS189 o_a185 o_v0 (by decide) d_x161
        have d_kv154 := rd_Ik eS189 o_a185 o_v0 (by decide) d_kv154
        have d_kv160 := rd_Ik eS189 o_a185 o_v0 (by decide) d_kv160
        have ea7 := rf_I eS189 ea7
        have ea172 := rf_I eS189 ea172
        have ea178 := rf_I eS189 ea178
        have ea185 := rf_I eS189 ea185
        have l_a172 := ln_I eS189 l_a172
        have l_a178 := ln_I eS189 l_a178
        have l_a185 := ln_I eS189 l_a185
        have g0 := gr_I eS189 g0
        have o_a172 := ob_I eS189 o_a172
        have o_a178 := ob_I eS189 o_a178
        have o_a185 := ob_I eS189 o_a185
        have o_a7 := ob_I eS189 o_a7
        have o_v0 := ob_I eS189 o_v0
        have el190 : fI S189 a185 x187.toNatClampNeg = x170 := by rw [eS189]; exact u2_self _ _ _ _
        refine ⟨a7, ea7, ?_⟩
        refine ⟨o_a7, ?_⟩
        intro x192 ex192
        have r_x192 : (0 : Int32) ≤ x192 ∧ x192 ≤ (12 : Int32) := by rw [ex192]; exact nu 22 rfl hI o_a7
        have q_x192 : x192 = x187 := ex192.trans d_x187.symm
        have d_x192 := ex192
        intro x193 ex193
        intro S194 eS194
        have hIn : IV S194 := by rw [eS194]; exact iv10_sI hI o_a7 (rg_nw hG ea7) (nu_one (lo := (0 : Int32)) (hi := (12 : Int32)) (by decide) (qr579 hiv4 r_kv8 r_kv9 r_kv10 hnf r_x12 q_x12 mo162 mo163 mo164 mo165 bb_x30 c39 mo166 bb_x89 c99 mo167 q_x161 c168 r_x170 q_x170 r_x174 q_x174 r_x180 q_x180 r_x187 q_x187 r_x192 q_x192 ex193))
        have hG := rg_c eS194 hI ea7 o_a7 (by decide) hG
        have el183 := el_ob eS194 o_a7 o_a178 (by decide) el183
        have el190 := el_ob eS194 o_a7 o_a185 (by decide) el190
        have hI := hIn
        have f0 := fr_I eS194 g0 f0 o_a7 (by decide)
        have d_x170 := rd_Ij eS194 (by decide) d_x170
        have d_kv10 := rd_Ij eS194 (by decide) d_kv10
        have d_x161 := rd_Ik eS194 o_a7 o_v0 (by decide) d_x161
        have d_kv154 := rd_Ik eS194 o_a7 o_v0 (by decide) d_kv154
        have d_kv160 := rd_Ik eS194 o_a7 o_v0 (by decide) d_kv160
        have d_x193 := rd_Is eS194 (rfl : x193 = x193)
        have ea7 := rf_I eS194 ea7
        have ea172 := rf_I eS194 ea172
        have ea178 := rf_I eS194 ea178
        have ea185 := rf_I eS194 ea185
        have l_a172 := ln_I eS194 l_a172
        have l_a178 := ln_I eS194 l_a178
        have l_a185 := ln_I eS194 l_a185
        have g0 := gr_I eS194 g0
        have o_a172 := ob_I eS194 o_a172
        have o_a178 := ob_I eS194 o_a178
        have o_a185 := ob_I eS194 o_a185
        have o_a7 := ob_I eS194 o_a7
        have o_v0 := ob_I eS194 o_v0
        intro _
        refine ⟨a7, ea7, ?_⟩
        refine ⟨o_a7, ?_⟩
        obtain ⟨a196, ea196, o_a196, l_a196⟩ := shl 40 rfl hI o_a7
        refine ⟨a196, ea196, ?_⟩
        refine ⟨a7, ea7, ?_⟩
        refine ⟨o_a7, ?_⟩
        intro x198 ex198
        have r_x198 : (0 : Int32) ≤ x198 ∧ x198 ≤ (8 : Int32) := by rw [ex198]; exact nu 18 rfl hI o_a7
        have q_x198 : x198 = x170 := ex198.trans d_x170.symm
        have d_x198 := ex198
        refine ⟨o_a196, ?_⟩
        have i199 : vp_in x198 (hN _ a196) := (vin l_a196 (m := 8) (by decide) (qr580 hiv4 r_kv8 r_kv9 r_kv10 hnf r_x12 q_x12 mo162 mo163 mo164 mo165 bb_x30 c39 mo166 bb_x89 c99 mo167 q_x161 c168 r_x170 q_x170 r_x174 q_x174 r_x180 q_x180 r_x187 q_x187 r_x192 q_x192 ex193 r_x198 q_x198))
        refine ⟨i199, ?_⟩
        intro S200 eS200
        have hIn : IV S200 := by rw [eS200]; exact iv10_aI hI o_a7 (rg_nw hG ea7) ea196 o_a196 (by decide)
        have hG := rg_a (jj := 18) (x := x198) eS200 hI ea7 o_a7 ea196 o_a196 (by decide) (h1_no (by decide)) (h2_no (y := 0) (by decide)) hG
        have el183 := el_ar eS200 (ow_ne hI o_a7 (by decide) o_a7 (by decide) ea196 ea178 (by decide)) el183
        have el190 := el_ar eS200 (ow_ne hI o_a7 (by decide) o_a7 (by decide) ea196 ea185 (by decide)) el190
        have hI := hIn
        have f0 := fr_A eS200 g0 f0 o_a196 (by decide)
        have d_x198 := rd_Ik eS200 o_a196 o_a7 (by decide) d_x198
        have d_kv10 := rd_Ik eS200 o_a196 o_a7 (by decide) d_kv10
        have d_x161 := rd_Ik eS200 o_a196 o_v0 (by decide) d_x161
        have d_kv154 := rd_Ik eS200 o_a196 o_v0 (by decide) d_kv154
        have d_kv160 := rd_Ik eS200 o_a196 o_v0 (by decide) d_kv160
        have d_x193 := rd_Ik eS200 o_a196 o_a7 (by decide) d_x193
        have ea7 := rf_I eS200 ea7
        have ea172 := rf_I eS200 ea172
        have ea178 := rf_I eS200 ea178
        have ea185 := rf_I eS200 ea185
        have ea196 := rf_I eS200 ea196
        have l_a172 := ln_I eS200 l_a172
        have l_a178 := ln_I eS200 l_a178
        have l_a185 := ln_I eS200 l_a185
        have l_a196 := ln_I eS200 l_a196
        have g0 := gr_I eS200 g0
        have o_a172 := ob_I eS200 o_a172
        have o_a178 := ob_I eS200 o_a178
        have o_a185 := ob_I eS200 o_a185
        have o_a196 := ob_I eS200 o_a196
        have o_a7 := ob_I eS200 o_a7
        have o_v0 := ob_I eS200 o_v0
        refine ⟨a7, ea7, ?_⟩
        refine ⟨o_a7, ?_⟩
        obtain ⟨a202, ea202, o_a202, l_a202⟩ := shl 34 rfl hI o_a7
        refine ⟨a202, ea202, ?_⟩
        refine ⟨a7, ea7, ?_⟩
        refine ⟨o_a7, ?_⟩
        intro x204 ex204
        have r_x204 : (0 : Int32) ≤ x204 ∧ x204 ≤ (8 : Int32) := by rw [ex204]; exact nu 18 rfl hI o_a7
        have q_x204 : x204 = x198 := ex204.trans d_x198.symm
        have d_x204 := ex204
        refine ⟨o_a202, ?_⟩
        have i205 : vp_in x204 (hN _ a202) := (vin l_a202 (m := 8) (by decide) (qr581 hiv4 r_kv8 r_kv9 r_kv10 hnf r_x12 q_x12 mo162 mo163 mo164 mo165 bb_x30 c39 mo166 bb_x89 c99 mo167 q_x161 c168 r_x170 q_x170 r_x174 q_x174 r_x180 q_x180 r_x187 q_x187 r_x192 q_x192 ex193 r_x198 q_x198 r_x204 q_x204))
        refine ⟨i205, ?_⟩
        intro S206 eS206
        have hIn : IV S206 := by rw [eS206]; exact iv10_aI hI o_a7 (rg_nw hG ea7) ea202 o_a202 (by decide)
        have hG := rg_a (jj := 12) (x := x204) eS206 hI ea7 o_a7 ea202 o_a202 (by decide) (h1_no (by decide)) (h2_no (y := 0) (by decide)) hG
        have el183 := el_ar eS206 (ow_ne hI o_a7 (by decide) o_a7 (by decide) ea202 ea178 (by decide)) el183
        have el190 := el_ar eS206 (ow_ne hI o_a7 (by decide) o_a7 (by decide) ea202 ea185 (by decide)) el190
        have hI := hIn
        have f0 := fr_A eS206 g0 f0 o_a202 (by decide)
        have d_x204 := rd_Ik eS206 o_a202 o_a7 (by decide) d_x204
        have d_kv10 := rd_Ik eS206 o_a202 o_a7 (by decide) d_kv10
        have d_x161 := rd_Ik eS206 o_a202 o_v0 (by decide) d_x161
        have d_kv154 := rd_Ik eS206 o_a202 o_v0 (by decide) d_kv154
        have d_kv160 := rd_Ik eS206 o_a202 o_v0 (by decide) d_kv160
        have d_x193 := rd_Ik eS206 o_a202 o_a7 (by decide) d_x193
        have ea7 := rf_I eS206 ea7
        have ea172 := rf_I eS206 ea172
        have ea178 := rf_I eS206 ea178
        have ea185 := rf_I eS206 ea185
        have ea196 := rf_I eS206 ea196
        have ea202 := rf_I eS206 ea202
        have l_a172 := ln_I eS206 l_a172
        have l_a178 := ln_I eS206 l_a178
        have l_a185 := ln_I eS206 l_a185
        have l_a196 := ln_I eS206 l_a196
        have l_a202 := ln_I eS206 l_a202
        have g0 := gr_I eS206 g0
        have o_a172 := ob_I eS206 o_a172
        have o_a178 := ob_I eS206 o_a178
        have o_a185 := ob_I eS206 o_a185
        have o_a196 := ob_I eS206 o_a196
        have o_a202 := ob_I eS206 o_a202
        have o_a7 := ob_I eS206 o_a7
        have o_v0 := ob_I eS206 o_v0
        refine ⟨a7, ea7, ?_⟩
        refine ⟨o_a7, ?_⟩
        intro x208 ex208
        have r_x208 : (0 : Int32) ≤ x208 ∧ x208 ≤ (8 : Int32) := by rw [ex208]; exact nu 18 rfl hI o_a7
        have q_x208 : x208 = x204 := ex208.trans d_x204.symm
        have d_x208 := ex208
        intro x209 ex209
        intro S210 eS210
        have hIn : IV S210 := by rw [eS210]; exact iv10_sI hI o_a7 (rg_nw hG ea7) (nu_one (lo := (0 : Int32)) (hi := (8 : Int32)) (by decide) (qr582 hiv4 r_kv8 r_kv9 r_kv10 hnf r_x12 q_x12 mo162 mo163 mo164 mo165 bb_x30 c39 mo166 bb_x89 c99 mo167 q_x161 c168 r_x170 q_x170 r_x174 q_x174 r_x180 q_x180 r_x187 q_x187 r_x192 q_x192 ex193 r_x198 q_x198 r_x204 q_x204 r_x208 q_x208 ex209))
        have hG := rg_inc (c := 2) (y := x208) eS210 hI ea7 o_a7 d_x208.symm (qr583 hiv4 r_kv8 r_kv9 r_kv10 hnf r_x12 q_x12 mo162 mo163 mo164 mo165 bb_x30 c39 mo166 bb_x89 c99 mo167 q_x161 c168 r_x170 q_x170 r_x174 q_x174 r_x180 q_x180 r_x187 q_x187 r_x192 q_x192 ex193 r_x198 q_x198 r_x204 q_x204 r_x208 q_x208 ex209) (qr584 hiv4 r_kv8 r_kv9 r_kv10 hnf r_x12 q_x12 mo162 mo163 mo164 mo165 bb_x30 c39 mo166 bb_x89 c99 mo167 q_x161 c168 r_x170 q_x170 r_x174 q_x174 r_x180 q_x180 r_x187 q_x187 r_x192 q_x192 ex193 r_x198 q_x198 r_x204 q_x204 r_x208 q_x208 ex209) hn_2 (hs_2 eS210 d_x208.symm d_kv10.symm (qr583 hiv4 r_kv8 r_kv9 r_kv10 hnf r_x12 q_x12 mo162 mo163 mo164 mo165 bb_x30 c39 mo166 bb_x89 c99 mo167 q_x161 c168 r_x170 q_x170 r_x174 q_x174 r_x180 q_x180 r_x187 q_x187 r_x192 q_x192 ex193 r_x198 q_x198 r_x204 q_x204 r_x208 q_x208 ex209) (qr584 hiv4 r_kv8 r_kv9 r_kv10 hnf r_x12 q_x12 mo162 mo163 mo164 mo165 bb_x30 c39 mo166 bb_x89 c99 mo167 q_x161 c168 r_x170 q_x170 r_x174 q_x174 r_x180 q_x180 r_x187 q_x187 r_x192 q_x192 ex193 r_x198 q_x198 r_x204 q_x204 r_x208 q_x208 ex209) (qr585 hiv4 r_kv8 r_kv9 r_kv10 hnf r_x12 q_x12 mo162 mo163 mo164 mo165 bb_x30 c39 mo166 bb_x89 c99 mo167 q_x161 c168 r_x170 q_x170 r_x174 q_x174 r_x180 q_x180 r_x187 q_x187 r_x192 q_x192 ex193 r_x198 q_x198 r_x204 q_x204 r_x208 q_x208 ex209) ea178 ea185 el183 (el190.trans (qr586 hiv4 r_kv8 r_kv9 r_kv10 hnf r_x12 q_x12 mo162 mo163 mo164 mo165 bb_x30 c39 mo166 bb_x89 c99 mo167 q_x161 c168 r_x170 q_x170 r_x174 q_x174 r_x180 q_x180 r_x187 q_x187 r_x192 q_x192 ex193 r_x198 q_x198 r_x204 q_x204 r_x208 q_x208 ex209)) (qr587 hiv4 r_kv8 r_kv9 r_kv10 hnf r_x12 q_x12 mo162 mo163 mo164 mo165 bb_x30 c39 mo166 bb_x89 c99 mo167 q_x161 c168 r_x170 q_x170 r_x174 q_x174 r_x180 q_x180 r_x187 q_x187 r_x192 q_x192 ex193 r_x198 q_x198 r_x204 q_x204 r_x208 q_x208 ex209) (qr588 hiv4 r_kv8 r_kv9 r_kv10 hnf r_x12 q_x12 mo162 mo163 mo164 mo165 bb_x30 c39 mo166 bb_x89 c99 mo167 q_x161 c168 r_x170 q_x170 r_x174 q_x174 r_x180 q_x180 r_x187 q_x187 r_x192 q_x192 ex193 r_x198 q_x198 r_x204 q_x204 r_x208 q_x208 ex209)) hG
        have el183 := el_ob eS210 o_a7 o_a178 (by decide) el183
        have el190 := el_ob eS210 o_a7 o_a185 (by decide) el190
        have hI := hIn
        have f0 := fr_I eS210 g0 f0 o_a7 (by decide)
        have d_kv10 := rd_Ij eS210 (by decide) d_kv10
        have d_x161 := rd_Ik eS210 o_a7 o_v0 (by decide) d_x161
        have d_kv154 := rd_Ik eS210 o_a7 o_v0 (by decide) d_kv154
        have d_kv160 := rd_Ik eS210 o_a7 o_v0 (by decide) d_kv160
        have d_x193 := rd_Ij eS210 (by decide) d_x193
        have d_x209 := rd_Is eS210 (rfl : x209 = x209)
        have ea7 := rf_I eS210 ea7
        have ea172 := rf_I eS210 ea172
        have ea178 := rf_I eS210 ea178
        have ea185 := rf_I eS210 ea185
        have ea196 := rf_I eS210 ea196
        have ea202 := rf_I eS210 ea202
        have l_a172 := ln_I eS210 l_a172
        have l_a178 := ln_I eS210 l_a178
        have l_a185 := ln_I eS210 l_a185
        have l_a196 := ln_I eS210 l_a196
        have l_a202 := ln_I eS210 l_a202
        have g0 := gr_I eS210 g0
        have o_a172 := ob_I eS210 o_a172
        have o_a178 := ob_I eS210 o_a178
        have o_a185 := ob_I eS210 o_a185
        have o_a196 := ob_I eS210 o_a196
        have o_a202 := ob_I eS210 o_a202
        have o_a7 := ob_I eS210 o_a7
        have o_v0 := ob_I eS210 o_v0
        have hn : RN S210 v0 := fun z ez => by obtain rfl : a7 = z := Option.some.inj (ea7.symm.trans ez); rw [← d_x193, ← d_x209, ← d_kv10]; exact (qr589 hiv4 r_kv8 r_kv9 r_kv10 hnf r_x12 q_x12 mo162 mo163 mo164 mo165 bb_x30 c39 mo166 bb_x89 c99 mo167 q_x161 c168 r_x170 q_x170 r_x174 q_x174 r_x180 q_x180 r_x187 q_x187 r_x192 q_x192 ex193 r_x198 q_x198 r_x204 q_x204 r_x208 q_x208 ex209)
        exact hq _ hI g0 f0 ⟨hG, hn, (by have t : x161 = 5 → 0 < kv154 := (qr590 hiv4 hiv6 hO r_kv8 r_kv9 r_kv10 hnf r_x12 q_x12 ph0_S14 mo162 mo163 ph0_S21 mo164 hiv29 ph0_S31 mo165 bb_x30 c39 hiv88 ph0_S90 mo166 bb_x89 c99 ph0_S150 mo167 q_x161 c168 r_x170 q_x170 r_x174 q_x174 r_x180 q_x180 r_x187 q_x187 r_x192 q_x192 ex193 r_x198 q_x198 r_x204 q_x204 r_x208 q_x208 ex209); rw [d_x161, d_kv154] at t; exact t), (by have t : x161 = 5 ∨ ¬ iv4 = 5 := (qr591 hiv4 r_kv8 r_kv9 r_kv10 hnf r_x12 q_x12 mo162 mo163 mo164 mo165 bb_x30 c39 mo166 bb_x89 c99 mo167 q_x161 c168 r_x170 q_x170 r_x174 q_x174 r_x180 q_x180 r_x187 q_x187 r_x192 q_x192 ex193 r_x198 q_x198 r_x204 q_x204 r_x208 q_x208 ex209); rw [di_9, d_x161] at t; exact t), (by have t : iv2 ≤ kv160 ∧ (x161 = 4 → iv2 < kv160 ∨ iv4 = 4) := (qr592 r_kv1 hiv2 hiv4 r_kv8 r_kv9 r_kv10 hnf r_x12 q_x12 mo162 r_kv19 ph2_S14 mo163 mo164 r_kv28 ph2_S21 mo165 r_kv38 ph2_S31 bb_x30 c39 mo166 r_kv98 ph2_S90 bb_x89 c99 mo167 r_kv160 ph2_S150 q_x161 c168 r_x170 q_x170 r_x174 q_x174 r_x180 q_x180 r_x187 q_x187 r_x192 q_x192 ex193 r_x198 q_x198 r_x204 q_x204 r_x208 q_x208 ex209); rw [di_8, di_9, d_kv160, d_x161] at t; exact t)⟩
      · exact hq _ hI g0 f0 ⟨hG, hn, (by have t : x161 = 5 → 0 < kv154 := (qr593 hiv4 hiv6 hO r_kv8 r_kv9 r_kv10 hnf r_x12 q_x12 ph0_S14 mo162 mo163 ph0_S21 mo164 hiv29 ph0_S31 mo165 bb_x30 c39 hiv88 ph0_S90 mo166 bb_x89 c99 ph0_S150 mo167 q_x161 c168); rw [d_x161, d_kv154] at t; exact t), (by have t : x161 = 5 ∨ ¬ iv4 = 5 := (qr594 hiv4 r_kv8 r_kv9 r_kv10 hnf r_x12 q_x12 mo162 mo163 mo164 mo165 bb_x30 c39 mo166 bb_x89 c99 mo167 q_x161 c168); rw [di_9, d_x161] at t; exact t), (by have t : iv2 ≤ kv160 ∧ (x161 = 4 → iv2 < kv160 ∨ iv4 = 4) := (qr595 r_kv1 hiv2 hiv4 r_kv8 r_kv9 r_kv10 hnf r_x12 q_x12 mo162 r_kv19 ph2_S14 mo163 mo164 r_kv28 ph2_S21 mo165 r_kv38 ph2_S31 bb_x30 c39 mo166 r_kv98 ph2_S90 bb_x89 c99 mo167 r_kv160 ph2_S150 q_x161 c168); rw [di_8, di_9, d_kv160, d_x161] at t; exact t)⟩
end
section
set_option maxHeartbeats 4000000 in
set_option maxRecDepth 20000 in
theorem m_X11_readPart {v0 : Nat} {v1 : Nat} {v2 : Int32} {v3 : Int32} {Q : Int32 → HS → Prop} {S : HS} (hI : IV S) (o_v0 : ob S v0 11)  (hw_v1 : v1 < 54)  (hG : RG S v0) (hO : fI S v0 9 = 5 → 0 < fI S v0 13) (hq : ∀ (r : Int32) (T : HS), IV T → Gr S T → FRI [(11, 8), (11, 9), (11, 10), (11, 11), (11, 12), (11, 13), (11, 14)] [] S T → (RG T v0) ∧ (r = v2 ∨ (v2 ≤ r ∧ r ≤ v3)) ∧ (fI T v0 9 = 5 → 0 < fI T v0 13) ∧ (fI T v0 9 = 5 ∨ ¬ fI S v0 9 = 5) ∧ (fI S v0 8 ≤ fI T v0 8 ∧ (fI T v0 9 = 4 → fI S v0 8 < fI T v0 8 ∨ fI S v0 9 = 4)) → Q r T) : P_X11_readPart v0 v1 v2 v3 Q S := by
  have g0 := gr_rf S
  have f0 := fri_rf [(11, 8), (11, 9), (11, 10), (11, 11), (11, 12), (11, 13), (11, 14)] [] S
  obtain ⟨kv1, d_kv1⟩ : ∃ z : Int32, z = fI S v0 8 := ⟨_, rfl⟩
  have r_kv1 : (0 : Int32) ≤ kv1 ∧ kv1 ≤ (900 : Int32) := by rw [d_kv1]; exact nu 25 rfl hI o_v0
  obtain ⟨iv2, hiv2⟩ : ∃ z : Int32, z = kv1 := ⟨_, rfl⟩
  have di_8 := hiv2.trans d_kv1
  obtain ⟨kv3, d_kv3⟩ : ∃ z : Int32, z = fI S v0 9 := ⟨_, rfl⟩
  obtain ⟨iv4, hiv4⟩ : ∃ z : Int32, z = kv3 := ⟨_, rfl⟩
  have di_9 := hiv4.trans d_kv3
  obtain ⟨kv5, d_kv5⟩ : ∃ z : Int32, z = fI S v0 13 := ⟨_, rfl⟩
  obtain ⟨iv6, hiv6⟩ : ∃ z : Int32, z = kv5 := ⟨_, rfl⟩
  have di_13 := hiv6.trans d_kv5
  have hO : iv4 = 5 → 0 < iv6 := by rw [di_9, di_13]; exact hO
  refine u_X11_readPart ?_
  refine u_X11_readPart_0 ?_
  refine ⟨o_v0, ?_⟩
  have do6_kv1 := d_kv1
  have do6_kv3 := d_kv3
  have do6_kv5 := d_kv5
  refine m_X11_needs hI o_v0 hw_v1 hG (by have t : kv3 = 5 → 0 < kv5 := (qr1 hiv4 hiv6 hO); rw [d_kv3, d_kv5] at t; exact t) (fun S8 hJ g9 fc10 p_S8 => ?_)
  obtain ⟨hG, pg0_S8, pg1_S8, pg2_S8⟩ := p_S8
  have hI := hJ
  have f0 := fri_tr (S := S) g0 f0 fc10 (by decide) (by decide)
  have o_v0 := gr_ob g9 o_v0
  have g0 := gr_tr (T := S) g0 g9
  obtain ⟨kv11, d_kv11⟩ : ∃ z : Int32, z = fI S8 v0 9 := ⟨_, rfl⟩
  obtain ⟨kv12, d_kv12⟩ : ∃ z : Int32, z = fI S8 v0 13 := ⟨_, rfl⟩
  have ph0_S8 : kv11 = 5 → 0 < kv12 := by rw [d_kv11, d_kv12]; exact pg0_S8
  have ph1_S8 : kv11 = 5 ∨ ¬ kv3 = 5 := by rw [do6_kv3, d_kv11]; exact pg1_S8
  obtain ⟨kv13, d_kv13⟩ : ∃ z : Int32, z = fI S8 v0 8 := ⟨_, rfl⟩
  have r_kv13 : (0 : Int32) ≤ kv13 ∧ kv13 ≤ (900 : Int32) := by rw [d_kv13]; exact nu 25 rfl hI o_v0
  have ph2_S8 : kv1 ≤ kv13 ∧ (kv11 = 4 → kv1 < kv13 ∨ kv3 = 4) := by rw [do6_kv1, do6_kv3, d_kv13, d_kv11]; exact pg2_S8
  intro _
  have do13_kv13 := d_kv13
  have do13_kv11 := d_kv11
  have do13_kv12 := d_kv12
  refine m_X11_readWhole hI o_v0 hG (by have t : kv11 = 5 → 0 < kv12 := (qr596 hiv4 hiv6 hO ph0_S8 ph1_S8); rw [d_kv11, d_kv12] at t; exact t) (fun x14 S15 hJ g16 fc17 p_x14 => ?_)
  obtain ⟨hG, p_x14, pg0_S15, pg1_S15, pg2_S15⟩ := p_x14
  have hI := hJ
  have f0 := fri_tr (S := S8) g0 f0 fc17 (by decide) (by decide)
  have o_v0 := gr_ob g16 o_v0
  have g0 := gr_tr (T := S8) g0 g16
  obtain ⟨kv18, d_kv18⟩ : ∃ z : Int32, z = fI S15 v0 9 := ⟨_, rfl⟩
  obtain ⟨kv19, d_kv19⟩ : ∃ z : Int32, z = fI S15 v0 13 := ⟨_, rfl⟩
  have ph0_S15 : kv18 = 5 → 0 < kv19 := by rw [d_kv18, d_kv19]; exact pg0_S15
  have ph1_S15 : kv18 = 5 ∨ ¬ kv11 = 5 := by rw [do13_kv11, d_kv18]; exact pg1_S15
  have mo20 : kv18 = 5 ∨ ¬ kv3 = 5 := ph1_S15.elim Or.inl (fun h => Or.inr (ph1_S8.resolve_left h))
  obtain ⟨kv21, d_kv21⟩ : ∃ z : Int32, z = fI S15 v0 8 := ⟨_, rfl⟩
  have r_kv21 : (0 : Int32) ≤ kv21 ∧ kv21 ≤ (900 : Int32) := by rw [d_kv21]; exact nu 25 rfl hI o_v0
  have ph2_S15 : kv13 ≤ kv21 ∧ (kv18 = 4 → kv13 < kv21 ∨ kv11 = 4) := by rw [do13_kv13, do13_kv11, d_kv21, d_kv18]; exact pg2_S15
  intro _
  exact hq _ _ hI g0 f0 ⟨hG, (qr597 p_x14), (by have t : kv18 = 5 → 0 < kv19 := (qr598 hiv4 hiv6 hO ph0_S8 mo20 ph0_S15 ph1_S15); rw [d_kv18, d_kv19] at t; exact t), (by have t : kv18 = 5 ∨ ¬ iv4 = 5 := (qr599 hiv4 mo20 ph1_S15); rw [di_9, d_kv18] at t; exact t), (by have t : iv2 ≤ kv21 ∧ (kv18 = 4 → iv2 < kv21 ∨ iv4 = 4) := (qr600 r_kv1 hiv2 hiv4 mo20 r_kv13 ph2_S8 ph1_S15 r_kv21 ph2_S15); rw [di_8, di_9, d_kv21, d_kv18] at t; exact t)⟩
set_option maxHeartbeats 4000000 in
set_option maxRecDepth 20000 in
theorem m_X11_readSide {v0 : Nat} {Q : Int32 → HS → Prop} {S : HS} (hI : IV S) (o_v0 : ob S v0 11)    (hG : RG S v0) (hO : fI S v0 9 = 5 → 0 < fI S v0 13) (hq : ∀ (r : Int32) (T : HS), IV T → Gr S T → FRI [(11, 8), (11, 9), (11, 10), (11, 11), (11, 12), (11, 13), (11, 14)] [] S T → (RG T v0) ∧ (fI T v0 9 = 5 → 0 < fI T v0 13) ∧ (fI T v0 9 = 5 ∨ ¬ fI S v0 9 = 5) ∧ (fI S v0 8 ≤ fI T v0 8 ∧ (fI T v0 9 = 4 → fI S v0 8 < fI T v0 8 ∨ fI S v0 9 = 4)) → Q r T) : P_X11_readSide v0 Q S := by
  have g0 := gr_rf S
  have f0 := fri_rf [(11, 8), (11, 9), (11, 10), (11, 11), (11, 12), (11, 13), (11, 14)] [] S
  obtain ⟨kv1, d_kv1⟩ : ∃ z : Int32, z = fI S v0 8 := ⟨_, rfl⟩
  have r_kv1 : (0 : Int32) ≤ kv1 ∧ kv1 ≤ (900 : Int32) := by rw [d_kv1]; exact nu 25 rfl hI o_v0
  obtain ⟨iv2, hiv2⟩ : ∃ z : Int32, z = kv1 := ⟨_, rfl⟩
  have di_8 := hiv2.trans d_kv1
  obtain ⟨kv3, d_kv3⟩ : ∃ z : Int32, z = fI S v0 9 := ⟨_, rfl⟩
  obtain ⟨iv4, hiv4⟩ : ∃ z : Int32, z = kv3 := ⟨_, rfl⟩
  have di_9 := hiv4.trans d_kv3
  obtain ⟨kv5, d_kv5⟩ : ∃ z : Int32, z = fI S v0 13 := ⟨_, rfl⟩
  obtain ⟨iv6, hiv6⟩ : ∃ z : Int32, z = kv5 := ⟨_, rfl⟩
  have di_13 := hiv6.trans d_kv5
  have hO : iv4 = 5 → 0 < iv6 := by rw [di_9, di_13]; exact hO
  refine u_X11_readSide ?_
  refine u_X11_readSide_0 ?_
  refine ⟨o_v0, ?_⟩
  refine m_X11_isWord hI o_v0 (by decide) (fun x7 S8 hI2 g9 b_x7 p_x7 => ?_)
  obtain ⟨z_S8, p_x7⟩ := p_x7
  subst z_S8
  intro _ _
  have bb_x7 : x7 = 0 ∨ x7 = 1 := b_x7
  have iw_x7 : x7 = 0 ∨ kv3 = 2 := by rw [d_kv3]; exact p_x7
  refine ⟨fun c11 => ?_, fun c11 => ?_⟩
  · refine m_X11_isWord hI o_v0 (by decide) (fun x12 S13 hI2 g14 b_x12 p_x12 => ?_)
    obtain ⟨z_S13, p_x12⟩ := p_x12
    subst z_S13
    intro _ _
    have bb_x12 : x12 = 0 ∨ x12 = 1 := b_x12
    have iw_x12 : x12 = 0 ∨ kv3 = 2 := by rw [d_kv3]; exact p_x12
    refine ⟨fun c16 => ?_, fun c16 => ?_⟩
    · refine m_X11_isWord hI o_v0 (by decide) (fun x17 S18 hI2 g19 b_x17 p_x17 => ?_)
      obtain ⟨z_S18, p_x17⟩ := p_x17
      subst z_S18
      intro _ _
      have bb_x17 : x17 = 0 ∨ x17 = 1 := b_x17
      have iw_x17 : x17 = 0 ∨ kv3 = 2 := by rw [d_kv3]; exact p_x17
      refine ⟨fun c21 => ?_, fun c21 => ?_⟩
      · refine m_X11_isWord hI o_v0 (by decide) (fun x22 S23 hI2 g24 b_x22 p_x22 => ?_)
        obtain ⟨z_S23, p_x22⟩ := p_x22
        subst z_S23
        intro _ _
        have bb_x22 : x22 = 0 ∨ x22 = 1 := b_x22
        have iw_x22 : x22 = 0 ∨ kv3 = 2 := by rw [d_kv3]; exact p_x22
        refine ⟨fun c26 => ?_, fun c26 => ?_⟩
        · refine u_X11_readSide_53 ?_
          refine ⟨fun c27 => absurd (show ¬ (-1 : Int32) = (-1 : Int32) from c27) (by decide), fun c27 => ?_⟩
          refine ⟨o_v0, ?_⟩
          obtain ⟨iv28, hiv28⟩ : ∃ z : Int32, z = kv1 := ⟨_, rfl⟩
          have d_iv28 := hiv28.trans d_kv1
          have do28_iv28 := d_iv28
          have do28_kv3 := d_kv3
          have do28_kv5 := d_kv5
          refine m_X11_flaw hI o_v0 (qr490 hiv4 bb_x7 iw_x7 c11 bb_x12 iw_x12 c16 bb_x17 iw_x17 c21 bb_x22 iw_x22 c26) hG (by have t : kv3 = 5 → 0 < kv5 := (qr491 hiv4 hiv6 hO bb_x7 iw_x7 c11 bb_x12 iw_x12 c16 bb_x17 iw_x17 c21 bb_x22 iw_x22 c26); rw [d_kv3, d_kv5] at t; exact t) (fun S30 hJ g31 fc32 p_S30 => ?_)
          obtain ⟨hG, pg0_S30, pg1_S30, pg2_S30, pg3_S30⟩ := p_S30
          have hI := hJ
          have d_kv1 := d_kv1.trans (fri_at fc32 (by decide) (by decide) o_v0).symm
          have f0 := fri_tr (S := S) g0 f0 fc32 (by decide) (by decide)
          have o_v0 := gr_ob g31 o_v0
          have g0 := gr_tr (T := S) g0 g31
          obtain ⟨kv33, d_kv33⟩ : ∃ z : Int32, z = fI S30 v0 9 := ⟨_, rfl⟩
          obtain ⟨kv34, d_kv34⟩ : ∃ z : Int32, z = fI S30 v0 13 := ⟨_, rfl⟩
          have ph0_S30 : kv33 = 5 → 0 < kv34 := by rw [d_kv33, d_kv34]; exact pg0_S30
          have ph1_S30 : kv33 = 5 ∨ ¬ kv3 = 5 := by rw [do28_kv3, d_kv33]; exact pg1_S30
          have ph2_S30 : iv28 ≤ kv1 ∧ (kv33 = 4 → iv28 < kv1 ∨ kv3 = 4) := by rw [do28_iv28, do28_kv3, d_kv1, d_kv33]; exact pg2_S30
          have ph3_S30 : kv33 = 5 := by rw [d_kv33]; exact pg3_S30
          intro _
          refine u_X11_readSide_64 ?_
          refine ⟨o_v0, ?_⟩
          obtain ⟨iv35, hiv35⟩ : ∃ z : Int32, z = kv34 := ⟨_, rfl⟩
          have d_iv35 := hiv35.trans d_kv34
          have do35_kv1 := d_kv1
          have do35_kv33 := d_kv33
          have do35_iv35 := d_iv35
          refine m_X11_goesOn hI o_v0 hG (by have t : kv33 = 5 → 0 < kv34 := (qr492 hiv4 hiv6 hO bb_x7 iw_x7 c11 bb_x12 iw_x12 c16 bb_x17 iw_x17 c21 bb_x22 iw_x22 c26 ph0_S30 ph1_S30 ph3_S30); rw [d_kv33, d_kv34] at t; exact t) (fun S37 hJ g38 fc39 p_S37 => ?_)
          obtain ⟨hG, pg0_S37, pg1_S37, pg2_S37⟩ := p_S37
          have hI := hJ
          have d_kv34 := d_kv34.trans (fri_at fc39 (by decide) (by decide) o_v0).symm
          have f0 := fri_tr (S := S30) g0 f0 fc39 (by decide) (by decide)
          have o_v0 := gr_ob g38 o_v0
          have g0 := gr_tr (T := S30) g0 g38
          obtain ⟨kv40, d_kv40⟩ : ∃ z : Int32, z = fI S37 v0 9 := ⟨_, rfl⟩
          have ph0_S37 : kv40 = 5 → 0 < kv34 := by rw [d_kv40, d_kv34]; exact pg0_S37
          have ph1_S37 : kv40 = 5 ∨ ¬ kv33 = 5 := by rw [do35_kv33, d_kv40]; exact pg1_S37
          have mo41 : kv40 = 5 ∨ ¬ kv3 = 5 := ph1_S37.elim Or.inl (fun h => Or.inr (ph1_S30.resolve_left h))
          obtain ⟨kv42, d_kv42⟩ : ∃ z : Int32, z = fI S37 v0 8 := ⟨_, rfl⟩
          have r_kv42 : (0 : Int32) ≤ kv42 ∧ kv42 ≤ (900 : Int32) := by rw [d_kv42]; exact nu 25 rfl hI o_v0
          have ph2_S37 : kv1 ≤ kv42 ∧ (kv40 = 4 → kv1 < kv42 ∨ kv33 = 4) := by rw [do35_kv1, do35_kv33, d_kv42, d_kv40]; exact pg2_S37
          intro _
          exact hq _ _ hI g0 f0 ⟨hG, (by have t : kv40 = 5 → 0 < kv34 := (qr493 hiv4 hiv6 hO bb_x7 iw_x7 c11 bb_x12 iw_x12 c16 bb_x17 iw_x17 c21 bb_x22 iw_x22 c26 ph0_S30 mo41 ph3_S30 hiv35 ph0_S37 ph1_S37); rw [d_kv40, d_kv34] at t; exact t), (by have t : kv40 = 5 ∨ ¬ iv4 = 5 := (qr494 hiv4 bb_x7 iw_x7 c11 bb_x12 iw_x12 c16 bb_x17 iw_x17 c21 bb_x22 iw_x22 c26 mo41 ph3_S30 ph1_S37); rw [di_9, d_kv40] at t; exact t), (by have t : iv2 ≤ kv42 ∧ (kv40 = 4 → iv2 < kv42 ∨ iv4 = 4) := (qr495 r_kv1 hiv2 hiv4 bb_x7 iw_x7 c11 bb_x12 iw_x12 c16 bb_x17 iw_x17 c21 bb_x22 iw_x22 c26 hiv28 mo41 ph2_S30 ph3_S30 ph1_S37 r_kv42 ph2_S37); rw [di_8, di_9, d_kv42, d_kv40] at t; exact t)⟩
        · refine u_X11_readSide_53 ?_
          refine ⟨fun c43 => ?_, fun c43 => absurd (show (3 : Int32) = (-1 : Int32) from c43) (by decide)⟩
          refine u_X11_readSide_64 ?_
          refine ⟨o_v0, ?_⟩
          obtain ⟨iv44, hiv44⟩ : ∃ z : Int32, z = kv5 := ⟨_, rfl⟩
          have d_iv44 := hiv44.trans d_kv5
          have do44_kv1 := d_kv1
          have do44_kv3 := d_kv3
          have do44_iv44 := d_iv44
          refine m_X11_goesOn hI o_v0 hG (by have t : kv3 = 5 → 0 < kv5 := (qr50 hiv4 hiv6 hO bb_x7 iw_x7 c11 bb_x12 iw_x12 c16 bb_x17 iw_x17 c21 bb_x22 iw_x22 c26); rw [d_kv3, d_kv5] at t; exact t) (fun S46 hJ g47 fc48 p_S46 => ?_)
          obtain ⟨hG, pg0_S46, pg1_S46, pg2_S46⟩ := p_S46
          have hI := hJ
          have d_kv5 := d_kv5.trans (fri_at fc48 (by decide) (by decide) o_v0).symm
          have f0 := fri_tr (S := S) g0 f0 fc48 (by decide) (by decide)
          have o_v0 := gr_ob g47 o_v0
          have g0 := gr_tr (T := S) g0 g47
          obtain ⟨kv49, d_kv49⟩ : ∃ z : Int32, z = fI S46 v0 9 := ⟨_, rfl⟩
          have ph0_S46 : kv49 = 5 → 0 < kv5 := by rw [d_kv49, d_kv5]; exact pg0_S46
          have ph1_S46 : kv49 = 5 ∨ ¬ kv3 = 5 := by rw [do44_kv3, d_kv49]; exact pg1_S46
          obtain ⟨kv50, d_kv50⟩ : ∃ z : Int32, z = fI S46 v0 8 := ⟨_, rfl⟩
          have r_kv50 : (0 : Int32) ≤ kv50 ∧ kv50 ≤ (900 : Int32) := by rw [d_kv50]; exact nu 25 rfl hI o_v0
          have ph2_S46 : kv1 ≤ kv50 ∧ (kv49 = 4 → kv1 < kv50 ∨ kv3 = 4) := by rw [do44_kv1, do44_kv3, d_kv50, d_kv49]; exact pg2_S46
          intro _
          exact hq _ _ hI g0 f0 ⟨hG, (by have t : kv49 = 5 → 0 < kv5 := (qr496 hiv4 hiv6 hO bb_x7 iw_x7 c11 bb_x12 iw_x12 c16 bb_x17 iw_x17 c21 bb_x22 iw_x22 c26 hiv44 ph0_S46 ph1_S46); rw [d_kv49, d_kv5] at t; exact t), (by have t : kv49 = 5 ∨ ¬ iv4 = 5 := (qr497 hiv4 bb_x7 iw_x7 c11 bb_x12 iw_x12 c16 bb_x17 iw_x17 c21 bb_x22 iw_x22 c26 ph1_S46); rw [di_9, d_kv49] at t; exact t), (by have t : iv2 ≤ kv50 ∧ (kv49 = 4 → iv2 < kv50 ∨ iv4 = 4) := (qr498 r_kv1 hiv2 hiv4 bb_x7 iw_x7 c11 bb_x12 iw_x12 c16 bb_x17 iw_x17 c21 bb_x22 iw_x22 c26 ph1_S46 r_kv50 ph2_S46); rw [di_8, di_9, d_kv50, d_kv49] at t; exact t)⟩
      · refine u_X11_readSide_53 ?_
        refine ⟨fun c51 => ?_, fun c51 => absurd (show (2 : Int32) = (-1 : Int32) from c51) (by decide)⟩
        refine u_X11_readSide_64 ?_
        refine ⟨o_v0, ?_⟩
        obtain ⟨iv52, hiv52⟩ : ∃ z : Int32, z = kv5 := ⟨_, rfl⟩
        have d_iv52 := hiv52.trans d_kv5
        have do52_kv1 := d_kv1
        have do52_kv3 := d_kv3
        have do52_iv52 := d_iv52
        refine m_X11_goesOn hI o_v0 hG (by have t : kv3 = 5 → 0 < kv5 := (qr53 hiv4 hiv6 hO bb_x7 iw_x7 c11 bb_x12 iw_x12 c16 bb_x17 iw_x17 c21); rw [d_kv3, d_kv5] at t; exact t) (fun S54 hJ g55 fc56 p_S54 => ?_)
        obtain ⟨hG, pg0_S54, pg1_S54, pg2_S54⟩ := p_S54
        have hI := hJ
        have d_kv5 := d_kv5.trans (fri_at fc56 (by decide) (by decide) o_v0).symm
        have f0 := fri_tr (S := S) g0 f0 fc56 (by decide) (by decide)
        have o_v0 := gr_ob g55 o_v0
        have g0 := gr_tr (T := S) g0 g55
        obtain ⟨kv57, d_kv57⟩ : ∃ z : Int32, z = fI S54 v0 9 := ⟨_, rfl⟩
        have ph0_S54 : kv57 = 5 → 0 < kv5 := by rw [d_kv57, d_kv5]; exact pg0_S54
        have ph1_S54 : kv57 = 5 ∨ ¬ kv3 = 5 := by rw [do52_kv3, d_kv57]; exact pg1_S54
        obtain ⟨kv58, d_kv58⟩ : ∃ z : Int32, z = fI S54 v0 8 := ⟨_, rfl⟩
        have r_kv58 : (0 : Int32) ≤ kv58 ∧ kv58 ≤ (900 : Int32) := by rw [d_kv58]; exact nu 25 rfl hI o_v0
        have ph2_S54 : kv1 ≤ kv58 ∧ (kv57 = 4 → kv1 < kv58 ∨ kv3 = 4) := by rw [do52_kv1, do52_kv3, d_kv58, d_kv57]; exact pg2_S54
        intro _
        exact hq _ _ hI g0 f0 ⟨hG, (by have t : kv57 = 5 → 0 < kv5 := (qr499 hiv4 hiv6 hO bb_x7 iw_x7 c11 bb_x12 iw_x12 c16 bb_x17 iw_x17 c21 hiv52 ph0_S54 ph1_S54); rw [d_kv57, d_kv5] at t; exact t), (by have t : kv57 = 5 ∨ ¬ iv4 = 5 := (qr500 hiv4 bb_x7 iw_x7 c11 bb_x12 iw_x12 c16 bb_x17 iw_x17 c21 ph1_S54); rw [di_9, d_kv57] at t; exact t), (by have t : iv2 ≤ kv58 ∧ (kv57 = 4 → iv2 < kv58 ∨ iv4 = 4) := (qr501 r_kv1 hiv2 hiv4 bb_x7 iw_x7 c11 bb_x12 iw_x12 c16 bb_x17 iw_x17 c21 ph1_S54 r_kv58 ph2_S54); rw [di_8, di_9, d_kv58, d_kv57] at t; exact t)⟩
    · refine u_X11_readSide_53 ?_
      refine ⟨fun c59 => ?_, fun c59 => absurd (show (1 : Int32) = (-1 : Int32) from c59) (by decide)⟩
      refine u_X11_readSide_64 ?_
      refine ⟨o_v0, ?_⟩
      obtain ⟨iv60, hiv60⟩ : ∃ z : Int32, z = kv5 := ⟨_, rfl⟩
      have d_iv60 := hiv60.trans d_kv5
      have do60_kv1 := d_kv1
      have do60_kv3 := d_kv3
      have do60_iv60 := d_iv60
      refine m_X11_goesOn hI o_v0 hG (by have t : kv3 = 5 → 0 < kv5 := (qr56 hiv4 hiv6 hO bb_x7 iw_x7 c11 bb_x12 iw_x12 c16); rw [d_kv3, d_kv5] at t; exact t) (fun S62 hJ g63 fc64 p_S62 => ?_)
      obtain ⟨hG, pg0_S62, pg1_S62, pg2_S62⟩ := p_S62
      have hI := hJ
      have d_kv5 := d_kv5.trans (fri_at fc64 (by decide) (by decide) o_v0).symm
      have f0 := fri_tr (S := S) g0 f0 fc64 (by decide) (by decide)
      have o_v0 := gr_ob g63 o_v0
      have g0 := gr_tr (T := S) g0 g63
      obtain ⟨kv65, d_kv65⟩ : ∃ z : Int32, z = fI S62 v0 9 := ⟨_, rfl⟩
      have ph0_S62 : kv65 = 5 → 0 < kv5 := by rw [d_kv65, d_kv5]; exact pg0_S62
      have ph1_S62 : kv65 = 5 ∨ ¬ kv3 = 5 := by rw [do60_kv3, d_kv65]; exact pg1_S62
      obtain ⟨kv66, d_kv66⟩ : ∃ z : Int32, z = fI S62 v0 8 := ⟨_, rfl⟩
      have r_kv66 : (0 : Int32) ≤ kv66 ∧ kv66 ≤ (900 : Int32) := by rw [d_kv66]; exact nu 25 rfl hI o_v0
      have ph2_S62 : kv1 ≤ kv66 ∧ (kv65 = 4 → kv1 < kv66 ∨ kv3 = 4) := by rw [do60_kv1, do60_kv3, d_kv66, d_kv65]; exact pg2_S62
      intro _
      exact hq _ _ hI g0 f0 ⟨hG, (by have t : kv65 = 5 → 0 < kv5 := (qr502 hiv4 hiv6 hO bb_x7 iw_x7 c11 bb_x12 iw_x12 c16 hiv60 ph0_S62 ph1_S62); rw [d_kv65, d_kv5] at t; exact t), (by have t : kv65 = 5 ∨ ¬ iv4 = 5 := (qr503 hiv4 bb_x7 iw_x7 c11 bb_x12 iw_x12 c16 ph1_S62); rw [di_9, d_kv65] at t; exact t), (by have t : iv2 ≤ kv66 ∧ (kv65 = 4 → iv2 < kv66 ∨ iv4 = 4) := (qr504 r_kv1 hiv2 hiv4 bb_x7 iw_x7 c11 bb_x12 iw_x12 c16 ph1_S62 r_kv66 ph2_S62); rw [di_8, di_9, d_kv66, d_kv65] at t; exact t)⟩
  · refine u_X11_readSide_53 ?_
    refine ⟨fun c67 => ?_, fun c67 => absurd (show (0 : Int32) = (-1 : Int32) from c67) (by decide)⟩
    refine u_X11_readSide_64 ?_
    refine ⟨o_v0, ?_⟩
    obtain ⟨iv68, hiv68⟩ : ∃ z : Int32, z = kv5 := ⟨_, rfl⟩
    have d_iv68 := hiv68.trans d_kv5
    have do68_kv1 := d_kv1
    have do68_kv3 := d_kv3
    have do68_iv68 := d_iv68
    refine m_X11_goesOn hI o_v0 hG (by have t : kv3 = 5 → 0 < kv5 := (qr59 hiv4 hiv6 hO bb_x7 iw_x7 c11); rw [d_kv3, d_kv5] at t; exact t) (fun S70 hJ g71 fc72 p_S70 => ?_)
    obtain ⟨hG, pg0_S70, pg1_S70, pg2_S70⟩ := p_S70
    have hI := hJ
    have d_kv5 := d_kv5.trans (fri_at fc72 (by decide) (by decide) o_v0).symm
    have f0 := fri_tr (S := S) g0 f0 fc72 (by decide) (by decide)
    have o_v0 := gr_ob g71 o_v0
    have g0 := gr_tr (T := S) g0 g71
    obtain ⟨kv73, d_kv73⟩ : ∃ z : Int32, z = fI S70 v0 9 := ⟨_, rfl⟩
    have ph0_S70 : kv73 = 5 → 0 < kv5 := by rw [d_kv73, d_kv5]; exact pg0_S70
    have ph1_S70 : kv73 = 5 ∨ ¬ kv3 = 5 := by rw [do68_kv3, d_kv73]; exact pg1_S70
    obtain ⟨kv74, d_kv74⟩ : ∃ z : Int32, z = fI S70 v0 8 := ⟨_, rfl⟩
    have r_kv74 : (0 : Int32) ≤ kv74 ∧ kv74 ≤ (900 : Int32) := by rw [d_kv74]; exact nu 25 rfl hI o_v0
    have ph2_S70 : kv1 ≤ kv74 ∧ (kv73 = 4 → kv1 < kv74 ∨ kv3 = 4) := by rw [do68_kv1, do68_kv3, d_kv74, d_kv73]; exact pg2_S70
    intro _
    exact hq _ _ hI g0 f0 ⟨hG, (by have t : kv73 = 5 → 0 < kv5 := (qr505 hiv4 hiv6 hO bb_x7 iw_x7 c11 hiv68 ph0_S70 ph1_S70); rw [d_kv73, d_kv5] at t; exact t), (by have t : kv73 = 5 ∨ ¬ iv4 = 5 := (qr506 hiv4 bb_x7 iw_x7 c11 ph1_S70); rw [di_9, d_kv73] at t; exact t), (by have t : iv2 ≤ kv74 ∧ (kv73 = 4 → iv2 < kv74 ∨ iv4 = 4) := (qr507 r_kv1 hiv2 hiv4 bb_x7 iw_x7 c11 ph1_S70 r_kv74 ph2_S70); rw [di_8, di_9, d_kv74, d_kv73] at t; exact t)⟩
set_option maxHeartbeats 4000000 in
set_option maxRecDepth 20000 in
theorem m_X11_readRain {v0 : Nat} {Q : HS → Prop} {S : HS} (hI : IV S) (o_v0 : ob S v0 11)    (hG : RG S v0) (hn : RN S v0) (hO : fI S v0 9 = 5 → 0 < fI S v0 13) (hq : ∀ (T : HS), IV T → Gr S T → FRI [(10, 1), (11, 8), (11, 9), (11, 10), (11, 11), (11, 12), (11, 13), (11, 14)] [] S T → (RG T v0) ∧ (RN T v0) ∧ (fI T v0 9 = 5 → 0 < fI T v0 13) ∧ (fI T v0 9 = 5 ∨ ¬ fI S v0 9 = 5) ∧ (fI S v0 8 ≤ fI T v0 8 ∧ (fI T v0 9 = 4 → fI S v0 8 < fI T v0 8 ∨ fI S v0 9 = 4)) → Q T) : P_X11_readRain v0 Q S := by
  have g0 := gr_rf S
  have f0 := fri_rf [(10, 1), (11, 8), (11, 9), (11, 10), (11, 11), (11, 12), (11, 13), (11, 14)] [] S
  obtain ⟨kv1, d_kv1⟩ : ∃ z : Int32, z = fI S v0 8 := ⟨_, rfl⟩
  have r_kv1 : (0 : Int32) ≤ kv1 ∧ kv1 ≤ (900 : Int32) := by rw [d_kv1]; exact nu 25 rfl hI o_v0
  obtain ⟨iv2, hiv2⟩ : ∃ z : Int32, z = kv1 := ⟨_, rfl⟩
  have di_8 := hiv2.trans d_kv1
  obtain ⟨kv3, d_kv3⟩ : ∃ z : Int32, z = fI S v0 9 := ⟨_, rfl⟩
  obtain ⟨iv4, hiv4⟩ : ∃ z : Int32, z = kv3 := ⟨_, rfl⟩
  have di_9 := hiv4.trans d_kv3
  obtain ⟨kv5, d_kv5⟩ : ∃ z : Int32, z = fI S v0 13 := ⟨_, rfl⟩
  obtain ⟨iv6, hiv6⟩ : ∃ z : Int32, z = kv5 := ⟨_, rfl⟩
  have di_13 := hiv6.trans d_kv5
  have hO : iv4 = 5 → 0 < iv6 := by rw [di_9, di_13]; exact hO
  obtain ⟨a7, ea7, o_a7, -⟩ := id hG
  obtain ⟨kv8, d_kv8⟩ : ∃ z : Int32, z = fI S a7 6 := ⟨_, rfl⟩
  have r_kv8 : (0 : Int32) ≤ kv8 ∧ kv8 ≤ (12 : Int32) := by rw [d_kv8]; exact nu 22 rfl hI o_a7
  obtain ⟨kv9, d_kv9⟩ : ∃ z : Int32, z = fI S a7 2 := ⟨_, rfl⟩
  have r_kv9 : (0 : Int32) ≤ kv9 ∧ kv9 ≤ (8 : Int32) := by rw [d_kv9]; exact nu 18 rfl hI o_a7
  obtain ⟨kv10, d_kv10⟩ : ∃ z : Int32, z = fI S a7 4 := ⟨_, rfl⟩
  have r_kv10 : (0 : Int32) ≤ kv10 ∧ kv10 ≤ (4 : Int32) := by rw [d_kv10]; exact nu 20 rfl hI o_a7
  have hnf : kv8 = kv9 + kv10 := by rw [d_kv8, d_kv9, d_kv10]; exact hn _ ea7
  refine u_X11_readRain ?_
  refine u_X11_readRain_0 ?_
  refine ⟨o_v0, ?_⟩
  refine ⟨a7, ea7, ?_⟩
  refine ⟨o_a7, ?_⟩
  intro x12 ex12
  have r_x12 : (0 : Int32) ≤ x12 ∧ x12 ≤ (6 : Int32) := by rw [ex12]; exact nu 17 rfl hI o_a7
  have d_x12 := ex12
  have do12_kv1 := d_kv1
  have do12_kv3 := d_kv3
  have do12_kv5 := d_kv5
  refine m_X11_begins hI o_v0 hG (by have t : kv3 = 5 → 0 < kv5 := (qr1 hiv4 hiv6 hO); rw [d_kv3, d_kv5] at t; exact t) (fun S14 hJ g15 fc16 p_S14 => ?_)
  obtain ⟨hG, pg0_S14, pg1_S14, pg2_S14, pg3_S14⟩ := p_S14
  have hn := rn_fr fc16 g15 hI o_v0 (by decide) hn
  have hI := hJ
  have d_kv8 := d_kv8.trans (fri_at fc16 (by decide) (by decide) o_a7).symm
  have d_kv9 := d_kv9.trans (fri_at fc16 (by decide) (by decide) o_a7).symm
  have d_kv10 := d_kv10.trans (fri_at fc16 (by decide) (by decide) o_a7).symm
  have d_x12 := d_x12.trans (fri_at fc16 (by decide) (by decide) o_a7).symm
  have ea7 := (frr_at fc16 (by decide) (by decide) o_v0).trans ea7
  have f0 := fri_tr (S := S) g0 f0 fc16 (by decide) (by decide)
  have o_a7 := gr_ob g15 o_a7
  have o_v0 := gr_ob g15 o_v0
  have g0 := gr_tr (T := S) g0 g15
  obtain ⟨kv17, d_kv17⟩ : ∃ z : Int32, z = fI S14 v0 9 := ⟨_, rfl⟩
  obtain ⟨kv18, d_kv18⟩ : ∃ z : Int32, z = fI S14 v0 13 := ⟨_, rfl⟩
  have ph0_S14 : kv17 = 5 → 0 < kv18 := by rw [d_kv17, d_kv18]; exact pg0_S14
  have ph1_S14 : kv17 = 5 ∨ ¬ kv3 = 5 := by rw [do12_kv3, d_kv17]; exact pg1_S14
  obtain ⟨kv19, d_kv19⟩ : ∃ z : Int32, z = fI S14 v0 8 := ⟨_, rfl⟩
  have r_kv19 : (0 : Int32) ≤ kv19 ∧ kv19 ≤ (900 : Int32) := by rw [d_kv19]; exact nu 25 rfl hI o_v0
  have ph2_S14 : kv1 ≤ kv19 ∧ (kv17 = 4 → kv1 < kv19 ∨ kv3 = 4) := by rw [do12_kv1, do12_kv3, d_kv19, d_kv17]; exact pg2_S14
  have ph3_S14 : kv17 = 5 ∨ ¬ x12 = (6 : Int32) := by rw [d_kv17]; exact pg3_S14
  intro _
  have do19_kv19 := d_kv19
  have do19_kv17 := d_kv17
  have do19_kv18 := d_kv18
  refine m_X11_readPart hI o_v0 (by decide) hG (by have t : kv17 = 5 → 0 < kv18 := (qr508 hiv4 hiv6 hO r_x12 ph0_S14 ph1_S14 ph3_S14); rw [d_kv17, d_kv18] at t; exact t) (fun x20 S21 hJ g22 fc23 p_x20 => ?_)
  obtain ⟨hG, p_x20, pg0_S21, pg1_S21, pg2_S21⟩ := p_x20
  have hn := rn_fr fc23 g22 hI o_v0 (by decide) hn
  have hI := hJ
  have d_kv8 := d_kv8.trans (fri_at fc23 (by decide) (by decide) o_a7).symm
  have d_kv9 := d_kv9.trans (fri_at fc23 (by decide) (by decide) o_a7).symm
  have d_kv10 := d_kv10.trans (fri_at fc23 (by decide) (by decide) o_a7).symm
  have d_x12 := d_x12.trans (fri_at fc23 (by decide) (by decide) o_a7).symm
  have ea7 := (frr_at fc23 (by decide) (by decide) o_v0).trans ea7
  have f0 := fri_tr (S := S14) g0 f0 fc23 (by decide) (by decide)
  have o_a7 := gr_ob g22 o_a7
  have o_v0 := gr_ob g22 o_v0
  have g0 := gr_tr (T := S14) g0 g22
  obtain ⟨kv24, d_kv24⟩ : ∃ z : Int32, z = fI S21 v0 9 := ⟨_, rfl⟩
  obtain ⟨kv25, d_kv25⟩ : ∃ z : Int32, z = fI S21 v0 13 := ⟨_, rfl⟩
  have ph0_S21 : kv24 = 5 → 0 < kv25 := by rw [d_kv24, d_kv25]; exact pg0_S21
  have ph1_S21 : kv24 = 5 ∨ ¬ kv17 = 5 := by rw [do19_kv17, d_kv24]; exact pg1_S21
  have mo26 : kv24 = 5 ∨ ¬ kv3 = 5 := ph1_S21.elim Or.inl (fun h => Or.inr (ph1_S14.resolve_left h))
  have mo27 : kv24 = 5 ∨ ¬ x12 = (6 : Int32) := ph1_S21.elim Or.inl (fun h => Or.inr (ph3_S14.resolve_left h))
  obtain ⟨kv28, d_kv28⟩ : ∃ z : Int32, z = fI S21 v0 8 := ⟨_, rfl⟩
  have r_kv28 : (0 : Int32) ≤ kv28 ∧ kv28 ≤ (900 : Int32) := by rw [d_kv28]; exact nu 25 rfl hI o_v0
  have ph2_S21 : kv19 ≤ kv28 ∧ (kv24 = 4 → kv19 < kv28 ∨ kv17 = 4) := by rw [do19_kv19, do19_kv17, d_kv28, d_kv24]; exact pg2_S21
  intro _
  have do28_kv28 := d_kv28
  have do28_kv24 := d_kv24
  have do28_kv25 := d_kv25
  refine m_X11_readPart hI o_v0 (by decide) hG (by have t : kv24 = 5 → 0 < kv25 := (qr509 hiv4 hiv6 hO r_x12 ph0_S14 mo26 mo27 ph0_S21 ph1_S21); rw [d_kv24, d_kv25] at t; exact t) (fun x29 S30 hJ g31 fc32 p_x29 => ?_)
  obtain ⟨hG, p_x29, pg0_S30, pg1_S30, pg2_S30⟩ := p_x29
  have hn := rn_fr fc32 g31 hI o_v0 (by decide) hn
  have hI := hJ
  have d_kv8 := d_kv8.trans (fri_at fc32 (by decide) (by decide) o_a7).symm
  have d_kv9 := d_kv9.trans (fri_at fc32 (by decide) (by decide) o_a7).symm
  have d_kv10 := d_kv10.trans (fri_at fc32 (by decide) (by decide) o_a7).symm
  have d_x12 := d_x12.trans (fri_at fc32 (by decide) (by decide) o_a7).symm
  have ea7 := (frr_at fc32 (by decide) (by decide) o_v0).trans ea7
  have f0 := fri_tr (S := S21) g0 f0 fc32 (by decide) (by decide)
  have o_a7 := gr_ob g31 o_a7
  have o_v0 := gr_ob g31 o_v0
  have g0 := gr_tr (T := S21) g0 g31
  obtain ⟨kv33, d_kv33⟩ : ∃ z : Int32, z = fI S30 v0 9 := ⟨_, rfl⟩
  obtain ⟨kv34, d_kv34⟩ : ∃ z : Int32, z = fI S30 v0 13 := ⟨_, rfl⟩
  have ph0_S30 : kv33 = 5 → 0 < kv34 := by rw [d_kv33, d_kv34]; exact pg0_S30
  have ph1_S30 : kv33 = 5 ∨ ¬ kv24 = 5 := by rw [do28_kv24, d_kv33]; exact pg1_S30
  have mo35 : kv33 = 5 ∨ ¬ kv3 = 5 := ph1_S30.elim Or.inl (fun h => Or.inr (mo26.resolve_left h))
  have mo36 : kv33 = 5 ∨ ¬ x12 = (6 : Int32) := ph1_S30.elim Or.inl (fun h => Or.inr (mo27.resolve_left h))
  have mo37 : kv33 = 5 ∨ ¬ kv17 = 5 := ph1_S30.elim Or.inl (fun h => Or.inr (ph1_S21.resolve_left h))
  obtain ⟨kv38, d_kv38⟩ : ∃ z : Int32, z = fI S30 v0 8 := ⟨_, rfl⟩
  have r_kv38 : (0 : Int32) ≤ kv38 ∧ kv38 ≤ (900 : Int32) := by rw [d_kv38]; exact nu 25 rfl hI o_v0
  have ph2_S30 : kv28 ≤ kv38 ∧ (kv33 = 4 → kv28 < kv38 ∨ kv24 = 4) := by rw [do28_kv28, do28_kv24, d_kv38, d_kv33]; exact pg2_S30
  intro _
  have do38_kv38 := d_kv38
  have do38_kv33 := d_kv33
  have do38_kv34 := d_kv34
  refine m_X11_needs hI o_v0 (by decide) hG (by have t : kv33 = 5 → 0 < kv34 := (qr510 hiv4 hiv6 hO r_x12 ph0_S14 mo35 mo36 ph0_S21 mo37 ph0_S30 ph1_S30); rw [d_kv33, d_kv34] at t; exact t) (fun S40 hJ g41 fc42 p_S40 => ?_)
  obtain ⟨hG, pg0_S40, pg1_S40, pg2_S40⟩ := p_S40
  have hn := rn_fr fc42 g41 hI o_v0 (by decide) hn
  have hI := hJ
  have d_kv8 := d_kv8.trans (fri_at fc42 (by decide) (by decide) o_a7).symm
  have d_kv9 := d_kv9.trans (fri_at fc42 (by decide) (by decide) o_a7).symm
  have d_kv10 := d_kv10.trans (fri_at fc42 (by decide) (by decide) o_a7).symm
  have d_x12 := d_x12.trans (fri_at fc42 (by decide) (by decide) o_a7).symm
  have ea7 := (frr_at fc42 (by decide) (by decide) o_v0).trans ea7
  have f0 := fri_tr (S := S30) g0 f0 fc42 (by decide) (by decide)
  have o_a7 := gr_ob g41 o_a7
  have o_v0 := gr_ob g41 o_v0
  have g0 := gr_tr (T := S30) g0 g41
  obtain ⟨kv43, d_kv43⟩ : ∃ z : Int32, z = fI S40 v0 9 := ⟨_, rfl⟩
  obtain ⟨kv44, d_kv44⟩ : ∃ z : Int32, z = fI S40 v0 13 := ⟨_, rfl⟩
  have ph0_S40 : kv43 = 5 → 0 < kv44 := by rw [d_kv43, d_kv44]; exact pg0_S40
  have ph1_S40 : kv43 = 5 ∨ ¬ kv33 = 5 := by rw [do38_kv33, d_kv43]; exact pg1_S40
  have mo45 : kv43 = 5 ∨ ¬ kv3 = 5 := ph1_S40.elim Or.inl (fun h => Or.inr (mo35.resolve_left h))
  have mo46 : kv43 = 5 ∨ ¬ x12 = (6 : Int32) := ph1_S40.elim Or.inl (fun h => Or.inr (mo36.resolve_left h))
  have mo47 : kv43 = 5 ∨ ¬ kv17 = 5 := ph1_S40.elim Or.inl (fun h => Or.inr (mo37.resolve_left h))
  have mo48 : kv43 = 5 ∨ ¬ kv24 = 5 := ph1_S40.elim Or.inl (fun h => Or.inr (ph1_S30.resolve_left h))
  obtain ⟨kv49, d_kv49⟩ : ∃ z : Int32, z = fI S40 v0 8 := ⟨_, rfl⟩
  have r_kv49 : (0 : Int32) ≤ kv49 ∧ kv49 ≤ (900 : Int32) := by rw [d_kv49]; exact nu 25 rfl hI o_v0
  have ph2_S40 : kv38 ≤ kv49 ∧ (kv43 = 4 → kv38 < kv49 ∨ kv33 = 4) := by rw [do38_kv38, do38_kv33, d_kv49, d_kv43]; exact pg2_S40
  intro _
  have do49_kv49 := d_kv49
  have do49_kv43 := d_kv43
  have do49_kv44 := d_kv44
  refine m_X11_readSide hI o_v0 hG (by have t : kv43 = 5 → 0 < kv44 := (qr511 hiv4 hiv6 hO r_x12 ph0_S14 mo45 mo46 ph0_S21 mo47 ph0_S30 mo48 ph0_S40 ph1_S40); rw [d_kv43, d_kv44] at t; exact t) (fun x50 S51 hJ g52 fc53 p_x50 => ?_)
  obtain ⟨hG, pg0_S51, pg1_S51, pg2_S51⟩ := p_x50
  have hn := rn_fr fc53 g52 hI o_v0 (by decide) hn
  have hI := hJ
  have d_kv8 := d_kv8.trans (fri_at fc53 (by decide) (by decide) o_a7).symm
  have d_kv9 := d_kv9.trans (fri_at fc53 (by decide) (by decide) o_a7).symm
  have d_kv10 := d_kv10.trans (fri_at fc53 (by decide) (by decide) o_a7).symm
  have d_x12 := d_x12.trans (fri_at fc53 (by decide) (by decide) o_a7).symm
  have ea7 := (frr_at fc53 (by decide) (by decide) o_v0).trans ea7
  have f0 := fri_tr (S := S40) g0 f0 fc53 (by decide) (by decide)
  have o_a7 := gr_ob g52 o_a7
  have o_v0 := gr_ob g52 o_v0
  have g0 := gr_tr (T := S40) g0 g52
  obtain ⟨kv54, d_kv54⟩ : ∃ z : Int32, z = fI S51 v0 9 := ⟨_, rfl⟩
  obtain ⟨kv55, d_kv55⟩ : ∃ z : Int32, z = fI S51 v0 13 := ⟨_, rfl⟩
  have ph0_S51 : kv54 = 5 → 0 < kv55 := by rw [d_kv54, d_kv55]; exact pg0_S51
  have ph1_S51 : kv54 = 5 ∨ ¬ kv43 = 5 := by rw [do49_kv43, d_kv54]; exact pg1_S51
  have mo56 : kv54 = 5 ∨ ¬ kv3 = 5 := ph1_S51.elim Or.inl (fun h => Or.inr (mo45.resolve_left h))
  have mo57 : kv54 = 5 ∨ ¬ x12 = (6 : Int32) := ph1_S51.elim Or.inl (fun h => Or.inr (mo46.resolve_left h))
  have mo58 : kv54 = 5 ∨ ¬ kv17 = 5 := ph1_S51.elim Or.inl (fun h => Or.inr (mo47.resolve_left h))
  have mo59 : kv54 = 5 ∨ ¬ kv24 = 5 := ph1_S51.elim Or.inl (fun h => Or.inr (mo48.resolve_left h))
  have mo60 : kv54 = 5 ∨ ¬ kv33 = 5 := ph1_S51.elim Or.inl (fun h => Or.inr (ph1_S40.resolve_left h))
  obtain ⟨kv61, d_kv61⟩ : ∃ z : Int32, z = fI S51 v0 8 := ⟨_, rfl⟩
  have r_kv61 : (0 : Int32) ≤ kv61 ∧ kv61 ≤ (900 : Int32) := by rw [d_kv61]; exact nu 25 rfl hI o_v0
  have ph2_S51 : kv49 ≤ kv61 ∧ (kv54 = 4 → kv49 < kv61 ∨ kv43 = 4) := by rw [do49_kv49, do49_kv43, d_kv61, d_kv54]; exact pg2_S51
  intro _
  have do61_kv61 := d_kv61
  have do61_kv54 := d_kv54
  have do61_kv55 := d_kv55
  refine m_X11_readWhole hI o_v0 hG (by have t : kv54 = 5 → 0 < kv55 := (qr512 hiv4 hiv6 hO r_x12 ph0_S14 mo56 mo57 ph0_S21 mo58 ph0_S30 mo59 ph0_S40 mo60 ph0_S51 ph1_S51); rw [d_kv54, d_kv55] at t; exact t) (fun x62 S63 hJ g64 fc65 p_x62 => ?_)
  obtain ⟨hG, p_x62, pg0_S63, pg1_S63, pg2_S63⟩ := p_x62
  have hn := rn_fr fc65 g64 hI o_v0 (by decide) hn
  have hI := hJ
  have d_kv8 := d_kv8.trans (fri_at fc65 (by decide) (by decide) o_a7).symm
  have d_kv9 := d_kv9.trans (fri_at fc65 (by decide) (by decide) o_a7).symm
  have d_kv10 := d_kv10.trans (fri_at fc65 (by decide) (by decide) o_a7).symm
  have d_x12 := d_x12.trans (fri_at fc65 (by decide) (by decide) o_a7).symm
  have ea7 := (frr_at fc65 (by decide) (by decide) o_v0).trans ea7
  have f0 := fri_tr (S := S51) g0 f0 fc65 (by decide) (by decide)
  have o_a7 := gr_ob g64 o_a7
  have o_v0 := gr_ob g64 o_v0
  have g0 := gr_tr (T := S51) g0 g64
  obtain ⟨kv66, d_kv66⟩ : ∃ z : Int32, z = fI S63 v0 9 := ⟨_, rfl⟩
  obtain ⟨kv67, d_kv67⟩ : ∃ z : Int32, z = fI S63 v0 13 := ⟨_, rfl⟩
  have ph0_S63 : kv66 = 5 → 0 < kv67 := by rw [d_kv66, d_kv67]; exact pg0_S63
  have ph1_S63 : kv66 = 5 ∨ ¬ kv54 = 5 := by rw [do61_kv54, d_kv66]; exact pg1_S63
  have mo68 : kv66 = 5 ∨ ¬ kv3 = 5 := ph1_S63.elim Or.inl (fun h => Or.inr (mo56.resolve_left h))
  have mo69 : kv66 = 5 ∨ ¬ x12 = (6 : Int32) := ph1_S63.elim Or.inl (fun h => Or.inr (mo57.resolve_left h))
  have mo70 : kv66 = 5 ∨ ¬ kv17 = 5 := ph1_S63.elim Or.inl (fun h => Or.inr (mo58.resolve_left h))
  have mo71 : kv66 = 5 ∨ ¬ kv24 = 5 := ph1_S63.elim Or.inl (fun h => Or.inr (mo59.resolve_left h))
  have mo72 : kv66 = 5 ∨ ¬ kv33 = 5 := ph1_S63.elim Or.inl (fun h => Or.inr (mo60.resolve_left h))
  have mo73 : kv66 = 5 ∨ ¬ kv43 = 5 := ph1_S63.elim Or.inl (fun h => Or.inr (ph1_S51.resolve_left h))
  obtain ⟨kv74, d_kv74⟩ : ∃ z : Int32, z = fI S63 v0 8 := ⟨_, rfl⟩
  have r_kv74 : (0 : Int32) ≤ kv74 ∧ kv74 ≤ (900 : Int32) := by rw [d_kv74]; exact nu 25 rfl hI o_v0
  have ph2_S63 : kv61 ≤ kv74 ∧ (kv66 = 4 → kv61 < kv74 ∨ kv54 = 4) := by rw [do61_kv61, do61_kv54, d_kv74, d_kv66]; exact pg2_S63
  intro _
  have do74_kv74 := d_kv74
  have do74_kv66 := d_kv66
  have do74_kv67 := d_kv67
  refine m_X11_readPart hI o_v0 (by decide) hG (by have t : kv66 = 5 → 0 < kv67 := (qr513 hiv4 hiv6 hO r_x12 ph0_S14 mo68 mo69 ph0_S21 mo70 ph0_S30 mo71 ph0_S40 mo72 ph0_S51 mo73 ph0_S63 ph1_S63); rw [d_kv66, d_kv67] at t; exact t) (fun x75 S76 hJ g77 fc78 p_x75 => ?_)
  obtain ⟨hG, p_x75, pg0_S76, pg1_S76, pg2_S76⟩ := p_x75
  have hn := rn_fr fc78 g77 hI o_v0 (by decide) hn
  have hI := hJ
  have d_kv8 := d_kv8.trans (fri_at fc78 (by decide) (by decide) o_a7).symm
  have d_kv9 := d_kv9.trans (fri_at fc78 (by decide) (by decide) o_a7).symm
  have d_kv10 := d_kv10.trans (fri_at fc78 (by decide) (by decide) o_a7).symm
  have d_x12 := d_x12.trans (fri_at fc78 (by decide) (by decide) o_a7).symm
  have ea7 := (frr_at fc78 (by decide) (by decide) o_v0).trans ea7
  have f0 := fri_tr (S := S63) g0 f0 fc78 (by decide) (by decide)
  have o_a7 := gr_ob g77 o_a7
  have o_v0 := gr_ob g77 o_v0
  have g0 := gr_tr (T := S63) g0 g77
  obtain ⟨kv79, d_kv79⟩ : ∃ z : Int32, z = fI S76 v0 9 := ⟨_, rfl⟩
  obtain ⟨kv80, d_kv80⟩ : ∃ z : Int32, z = fI S76 v0 13 := ⟨_, rfl⟩
  have ph0_S76 : kv79 = 5 → 0 < kv80 := by rw [d_kv79, d_kv80]; exact pg0_S76
  have ph1_S76 : kv79 = 5 ∨ ¬ kv66 = 5 := by rw [do74_kv66, d_kv79]; exact pg1_S76
  have mo81 : kv79 = 5 ∨ ¬ kv3 = 5 := ph1_S76.elim Or.inl (fun h => Or.inr (mo68.resolve_left h))
  have mo82 : kv79 = 5 ∨ ¬ x12 = (6 : Int32) := ph1_S76.elim Or.inl (fun h => Or.inr (mo69.resolve_left h))
  have mo83 : kv79 = 5 ∨ ¬ kv17 = 5 := ph1_S76.elim Or.inl (fun h => Or.inr (mo70.resolve_left h))
  have mo84 : kv79 = 5 ∨ ¬ kv24 = 5 := ph1_S76.elim Or.inl (fun h => Or.inr (mo71.resolve_left h))
  have mo85 : kv79 = 5 ∨ ¬ kv33 = 5 := ph1_S76.elim Or.inl (fun h => Or.inr (mo72.resolve_left h))
  have mo86 : kv79 = 5 ∨ ¬ kv43 = 5 := ph1_S76.elim Or.inl (fun h => Or.inr (mo73.resolve_left h))
  have mo87 : kv79 = 5 ∨ ¬ kv54 = 5 := ph1_S76.elim Or.inl (fun h => Or.inr (ph1_S63.resolve_left h))
  obtain ⟨kv88, d_kv88⟩ : ∃ z : Int32, z = fI S76 v0 8 := ⟨_, rfl⟩
  have r_kv88 : (0 : Int32) ≤ kv88 ∧ kv88 ≤ (900 : Int32) := by rw [d_kv88]; exact nu 25 rfl hI o_v0
  have ph2_S76 : kv74 ≤ kv88 ∧ (kv79 = 4 → kv74 < kv88 ∨ kv66 = 4) := by rw [do74_kv74, do74_kv66, d_kv88, d_kv79]; exact pg2_S76
  intro _
  intro x89 ex89
  have q_x89 : x89 = kv79 := ex89.trans d_kv79.symm
  have mo90 : x89 = 5 ∨ ¬ kv3 = 5 := mo81.imp_left (fun z => q_x89.trans z)
  have mo91 : x89 = 5 ∨ ¬ x12 = (6 : Int32) := mo82.imp_left (fun z => q_x89.trans z)
  have mo92 : x89 = 5 ∨ ¬ kv17 = 5 := mo83.imp_left (fun z => q_x89.trans z)
  have mo93 : x89 = 5 ∨ ¬ kv24 = 5 := mo84.imp_left (fun z => q_x89.trans z)
  have mo94 : x89 = 5 ∨ ¬ kv33 = 5 := mo85.imp_left (fun z => q_x89.trans z)
  have mo95 : x89 = 5 ∨ ¬ kv43 = 5 := mo86.imp_left (fun z => q_x89.trans z)
  have mo96 : x89 = 5 ∨ ¬ kv54 = 5 := mo87.imp_left (fun z => q_x89.trans z)
  have mo97 : x89 = 5 ∨ ¬ kv66 = 5 := ph1_S76.imp_left (fun z => q_x89.trans z)
  have d_x89 := ex89
  refine ⟨fun c98 => ?_, fun c98 => ?_⟩
  · refine ⟨a7, ea7, ?_⟩
    refine ⟨o_a7, ?_⟩
    obtain ⟨a100, ea100, o_a100, l_a100⟩ := shl 29 rfl hI o_a7
    refine ⟨a100, ea100, ?_⟩
    refine ⟨a7, ea7, ?_⟩
    refine ⟨o_a7, ?_⟩
    intro x102 ex102
    have r_x102 : (0 : Int32) ≤ x102 ∧ x102 ≤ (6 : Int32) := by rw [ex102]; exact nu 17 rfl hI o_a7
    have q_x102 : x102 = x12 := ex102.trans d_x12.symm
    have d_x102 := ex102
    refine ⟨o_a100, ?_⟩
    have i103 : vp_in x102 (hN _ a100) := (vin l_a100 (m := 6) (by decide) (qr514 hiv4 r_x12 mo90 mo91 mo92 mo93 mo94 mo95 mo96 mo97 q_x89 c98 r_x102 q_x102))
    refine ⟨i103, ?_⟩
    intro S104 eS104
    have hIn : IV S104 := by rw [eS104]; exact iv10_aI hI o_a7 (rg_nw hG ea7) ea100 o_a100 (by decide)
    have hG := rg_a (jj := 7) (x := x102) eS104 hI ea7 o_a7 ea100 o_a100 (by decide) (h1_no (by decide)) (h2_no (y := 0) (by decide)) hG
    have hn := rn_11 eS104 hI o_v0 o_a100 (by decide) hn
    have hI := hIn
    have f0 := fr_A eS104 g0 f0 o_a100 (by decide)
    have d_kv8 := rd_Ik eS104 o_a100 o_a7 (by decide) d_kv8
    have d_kv9 := rd_Ik eS104 o_a100 o_a7 (by decide) d_kv9
    have d_kv10 := rd_Ik eS104 o_a100 o_a7 (by decide) d_kv10
    have d_x102 := rd_Ik eS104 o_a100 o_a7 (by decide) d_x102
    have d_x89 := rd_Ik eS104 o_a100 o_v0 (by decide) d_x89
    have d_kv80 := rd_Ik eS104 o_a100 o_v0 (by decide) d_kv80
    have d_kv88 := rd_Ik eS104 o_a100 o_v0 (by decide) d_kv88
    have ea7 := rf_I eS104 ea7
    have ea100 := rf_I eS104 ea100
    have l_a100 := ln_I eS104 l_a100
    have g0 := gr_I eS104 g0
    have o_a100 := ob_I eS104 o_a100
    have o_a7 := ob_I eS104 o_a7
    have o_v0 := ob_I eS104 o_v0
    refine ⟨a7, ea7, ?_⟩
    refine ⟨o_a7, ?_⟩
    obtain ⟨a106, ea106, o_a106, l_a106⟩ := shl 30 rfl hI o_a7
    refine ⟨a106, ea106, ?_⟩
    refine ⟨a7, ea7, ?_⟩
    refine ⟨o_a7, ?_⟩
    intro x108 ex108
    have r_x108 : (0 : Int32) ≤ x108 ∧ x108 ≤ (6 : Int32) := by rw [ex108]; exact nu 17 rfl hI o_a7
    have q_x108 : x108 = x102 := ex108.trans d_x102.symm
    have d_x108 := ex108
    refine ⟨o_a106, ?_⟩
    have i109 : vp_in x108 (hN _ a106) := (vin l_a106 (m := 6) (by decide) (qr515 hiv4 r_x12 mo90 mo91 mo92 mo93 mo94 mo95 mo96 mo97 q_x89 c98 r_x102 q_x102 r_x108 q_x108))
    refine ⟨i109, ?_⟩
    intro S110 eS110
    have hIn : IV S110 := by rw [eS110]; exact iv10_aI hI o_a7 (rg_nw hG ea7) ea106 o_a106 (by decide)
    have hG := rg_a (jj := 8) (x := x108) eS110 hI ea7 o_a7 ea106 o_a106 (by decide) (h1_no (by decide)) (h2_no (y := 0) (by decide)) hG
    have hn := rn_11 eS110 hI o_v0 o_a106 (by decide) hn
    have hI := hIn
    have f0 := fr_A eS110 g0 f0 o_a106 (by decide)
    have d_kv8 := rd_Ik eS110 o_a106 o_a7 (by decide) d_kv8
    have d_kv9 := rd_Ik eS110 o_a106 o_a7 (by decide) d_kv9
    have d_kv10 := rd_Ik eS110 o_a106 o_a7 (by decide) d_kv10
    have d_x108 := rd_Ik eS110 o_a106 o_a7 (by decide) d_x108
    have d_x89 := rd_Ik eS110 o_a106 o_v0 (by decide) d_x89
    have d_kv80 := rd_Ik eS110 o_a106 o_v0 (by decide) d_kv80
    have d_kv88 := rd_Ik eS110 o_a106 o_v0 (by decide) d_kv88
    have ea7 := rf_I eS110 ea7
    have ea100 := rf_I eS110 ea100
    have ea106 := rf_I eS110 ea106
    have l_a100 := ln_I eS110 l_a100
    have l_a106 := ln_I eS110 l_a106
    have g0 := gr_I eS110 g0
    have o_a100 := ob_I eS110 o_a100
    have o_a106 := ob_I eS110 o_a106
    have o_a7 := ob_I eS110 o_a7
    have o_v0 := ob_I eS110 o_v0
    refine ⟨a7, ea7, ?_⟩
    refine ⟨o_a7, ?_⟩
    obtain ⟨a112, ea112, o_a112, l_a112⟩ := shl 31 rfl hI o_a7
    refine ⟨a112, ea112, ?_⟩
    refine ⟨a7, ea7, ?_⟩
    refine ⟨o_a7, ?_⟩
    intro x114 ex114
    have r_x114 : (0 : Int32) ≤ x114 ∧ x114 ≤ (6 : Int32) := by rw [ex114]; exact nu 17 rfl hI o_a7
    have q_x114 : x114 = x108 := ex114.trans d_x108.symm
    have d_x114 := ex114
    refine ⟨o_a112, ?_⟩
    have i115 : vp_in x114 (hN _ a112) := (vin l_a112 (m := 6) (by decide) (qr516 hiv4 r_x12 mo90 mo91 mo92 mo93 mo94 mo95 mo96 mo97 q_x89 c98 r_x102 q_x102 r_x108 q_x108 r_x114 q_x114))
    refine ⟨i115, ?_⟩
    intro S116 eS116
    have hIn : IV S116 := by rw [eS116]; exact iv10_aI hI o_a7 (rg_nw hG ea7) ea112 o_a112 (by decide)
    have hG := rg_a (jj := 9) (x := x114) eS116 hI ea7 o_a7 ea112 o_a112 (by decide) (h1_no (by decide)) (h2_no (y := 0) (by decide)) hG
    have hn := rn_11 eS116 hI o_v0 o_a112 (by decide) hn
    have hI := hIn
    have f0 := fr_A eS116 g0 f0 o_a112 (by decide)
    have d_kv8 := rd_Ik eS116 o_a112 o_a7 (by decide) d_kv8
    have d_kv9 := rd_Ik eS116 o_a112 o_a7 (by decide) d_kv9
    have d_kv10 := rd_Ik eS116 o_a112 o_a7 (by decide) d_kv10
    have d_x114 := rd_Ik eS116 o_a112 o_a7 (by decide) d_x114
    have d_x89 := rd_Ik eS116 o_a112 o_v0 (by decide) d_x89
    have d_kv80 := rd_Ik eS116 o_a112 o_v0 (by decide) d_kv80
    have d_kv88 := rd_Ik eS116 o_a112 o_v0 (by decide) d_kv88
    have ea7 := rf_I eS116 ea7
    have ea100 := rf_I eS116 ea100
    have ea106 := rf_I eS116 ea106
    have ea112 := rf_I eS116 ea112
    have l_a100 := ln_I eS116 l_a100
    have l_a106 := ln_I eS116 l_a106
    have l_a112 := ln_I eS116 l_a112
    have g0 := gr_I eS116 g0
    have o_a100 := ob_I eS116 o_a100
    have o_a106 := ob_I eS116 o_a106
    have o_a112 := ob_I eS116 o_a112
    have o_a7 := ob_I eS116 o_a7
    have o_v0 := ob_I eS116 o_v0
    refine ⟨a7, ea7, ?_⟩
    refine ⟨o_a7, ?_⟩
    obtain ⟨a118, ea118, o_a118, l_a118⟩ := shl 32 rfl hI o_a7
    refine ⟨a118, ea118, ?_⟩
    refine ⟨a7, ea7, ?_⟩
    refine ⟨o_a7, ?_⟩
    intro x120 ex120
    have r_x120 : (0 : Int32) ≤ x120 ∧ x120 ≤ (6 : Int32) := by rw [ex120]; exact nu 17 rfl hI o_a7
    have q_x120 : x120 = x114 := ex120.trans d_x114.symm
    have d_x120 := ex120
    refine ⟨o_a118, ?_⟩
    have i121 : vp_in x120 (hN _ a118) := (vin l_a118 (m := 6) (by decide) (qr517 hiv4 r_x12 mo90 mo91 mo92 mo93 mo94 mo95 mo96 mo97 q_x89 c98 r_x102 q_x102 r_x108 q_x108 r_x114 q_x114 r_x120 q_x120))
    refine ⟨i121, ?_⟩
    intro S122 eS122
    have hIn : IV S122 := by rw [eS122]; exact iv10_aI hI o_a7 (rg_nw hG ea7) ea118 o_a118 (by decide)
    have hG := rg_a (jj := 10) (x := x120) eS122 hI ea7 o_a7 ea118 o_a118 (by decide) (h1_no (by decide)) (h2_no (y := 0) (by decide)) hG
    have hn := rn_11 eS122 hI o_v0 o_a118 (by decide) hn
    have hI := hIn
    have f0 := fr_A eS122 g0 f0 o_a118 (by decide)
    have d_kv8 := rd_Ik eS122 o_a118 o_a7 (by decide) d_kv8
    have d_kv9 := rd_Ik eS122 o_a118 o_a7 (by decide) d_kv9
    have d_kv10 := rd_Ik eS122 o_a118 o_a7 (by decide) d_kv10
    have d_x120 := rd_Ik eS122 o_a118 o_a7 (by decide) d_x120
    have d_x89 := rd_Ik eS122 o_a118 o_v0 (by decide) d_x89
    have d_kv80 := rd_Ik eS122 o_a118 o_v0 (by decide) d_kv80
    have d_kv88 := rd_Ik eS122 o_a118 o_v0 (by decide) d_kv88
    have ea7 := rf_I eS122 ea7
    have ea100 := rf_I eS122 ea100
    have ea106 := rf_I eS122 ea106
    have ea112 := rf_I eS122 ea112
    have ea118 := rf_I eS122 ea118
    have l_a100 := ln_I eS122 l_a100
    have l_a106 := ln_I eS122 l_a106
    have l_a112 := ln_I eS122 l_a112
    have l_a118 := ln_I eS122 l_a118
    have g0 := gr_I eS122 g0
    have o_a100 := ob_I eS122 o_a100
    have o_a106 := ob_I eS122 o_a106
    have o_a112 := ob_I eS122 o_a112
    have o_a118 := ob_I eS122 o_a118
    have o_a7 := ob_I eS122 o_a7
    have o_v0 := ob_I eS122 o_v0
    refine ⟨a7, ea7, ?_⟩
    refine ⟨o_a7, ?_⟩
    obtain ⟨a124, ea124, o_a124, l_a124⟩ := shl 33 rfl hI o_a7
    refine ⟨a124, ea124, ?_⟩
    refine ⟨a7, ea7, ?_⟩
    refine ⟨o_a7, ?_⟩
    intro x126 ex126
    have r_x126 : (0 : Int32) ≤ x126 ∧ x126 ≤ (6 : Int32) := by rw [ex126]; exact nu 17 rfl hI o_a7
    have q_x126 : x126 = x120 := ex126.trans d_x120.symm
    have d_x126 := ex126
    refine ⟨o_a124, ?_⟩
    have i127 : vp_in x126 (hN _ a124) := (vin l_a124 (m := 6) (by decide) (qr518 hiv4 r_x12 mo90 mo91 mo92 mo93 mo94 mo95 mo96 mo97 q_x89 c98 r_x102 q_x102 r_x108 q_x108 r_x114 q_x114 r_x120 q_x120 r_x126 q_x126))
    refine ⟨i127, ?_⟩
    intro S128 eS128
    have hIn : IV S128 := by rw [eS128]; exact iv10_aI hI o_a7 (rg_nw hG ea7) ea124 o_a124 (by decide)
    have hG := rg_a (jj := 11) (x := x126) eS128 hI ea7 o_a7 ea124 o_a124 (by decide) (h1_no (by decide)) (h2_no (y := 0) (by decide)) hG
    have hn := rn_11 eS128 hI o_v0 o_a124 (by decide) hn
    have hI := hIn
    have f0 := fr_A eS128 g0 f0 o_a124 (by decide)
    have d_kv8 := rd_Ik eS128 o_a124 o_a7 (by decide) d_kv8
    have d_kv9 := rd_Ik eS128 o_a124 o_a7 (by decide) d_kv9
    have d_kv10 := rd_Ik eS128 o_a124 o_a7 (by decide) d_kv10
    have d_x126 := rd_Ik eS128 o_a124 o_a7 (by decide) d_x126
    have d_x89 := rd_Ik eS128 o_a124 o_v0 (by decide) d_x89
    have d_kv80 := rd_Ik eS128 o_a124 o_v0 (by decide) d_kv80
    have d_kv88 := rd_Ik eS128 o_a124 o_v0 (by decide) d_kv88
    have ea7 := rf_I eS128 ea7
    have ea100 := rf_I eS128 ea100
    have ea106 := rf_I eS128 ea106
    have ea112 := rf_I eS128 ea112
    have ea118 := rf_I eS128 ea118
    have ea124 := rf_I eS128 ea124
    have l_a100 := ln_I eS128 l_a100
    have l_a106 := ln_I eS128 l_a106
    have l_a112 := ln_I eS128 l_a112
    have l_a118 := ln_I eS128 l_a118
    have l_a124 := ln_I eS128 l_a124
    have g0 := gr_I eS128 g0
    have o_a100 := ob_I eS128 o_a100
    have o_a106 := ob_I eS128 o_a106
    have o_a112 := ob_I eS128 o_a112
    have o_a118 := ob_I eS128 o_a118
    have o_a124 := ob_I eS128 o_a124
    have o_a7 := ob_I eS128 o_a7
    have o_v0 := ob_I eS128 o_v0
    refine ⟨a7, ea7, ?_⟩
    refine ⟨o_a7, ?_⟩
    intro x130 ex130
    have r_x130 : (0 : Int32) ≤ x130 ∧ x130 ≤ (6 : Int32) := by rw [ex130]; exact nu 17 rfl hI o_a7
    have q_x130 : x130 = x126 := ex130.trans d_x126.symm
    have d_x130 := ex130
    intro x131 ex131
    intro S132 eS132
    have hIn : IV S132 := by rw [eS132]; exact iv10_sI hI o_a7 (rg_nw hG ea7) (nu_one (lo := (0 : Int32)) (hi := (6 : Int32)) (by decide) (qr519 hiv4 r_x12 mo90 mo91 mo92 mo93 mo94 mo95 mo96 mo97 q_x89 c98 r_x102 q_x102 r_x108 q_x108 r_x114 q_x114 r_x120 q_x120 r_x126 q_x126 r_x130 q_x130 ex131))
    have hG := rg_c eS132 hI ea7 o_a7 (by decide) hG
    have hn := rn_c eS132 (by decide) hn
    have hI := hIn
    have f0 := fr_I eS132 g0 f0 o_a7 (by decide)
    have d_kv8 := rd_Ij eS132 (by decide) d_kv8
    have d_kv9 := rd_Ij eS132 (by decide) d_kv9
    have d_kv10 := rd_Ij eS132 (by decide) d_kv10
    have d_x89 := rd_Ik eS132 o_a7 o_v0 (by decide) d_x89
    have d_kv80 := rd_Ik eS132 o_a7 o_v0 (by decide) d_kv80
    have d_kv88 := rd_Ik eS132 o_a7 o_v0 (by decide) d_kv88
    have d_x131 := rd_Is eS132 (rfl : x131 = x131)
    have ea7 := rf_I eS132 ea7
    have ea100 := rf_I eS132 ea100
    have ea106 := rf_I eS132 ea106
    have ea112 := rf_I eS132 ea112
    have ea118 := rf_I eS132 ea118
    have ea124 := rf_I eS132 ea124
    have l_a100 := ln_I eS132 l_a100
    have l_a106 := ln_I eS132 l_a106
    have l_a112 := ln_I eS132 l_a112
    have l_a118 := ln_I eS132 l_a118
    have l_a124 := ln_I eS132 l_a124
    have g0 := gr_I eS132 g0
    have o_a100 := ob_I eS132 o_a100
    have o_a106 := ob_I eS132 o_a106
    have o_a112 := ob_I eS132 o_a112
    have o_a118 := ob_I eS132 o_a118
    have o_a124 := ob_I eS132 o_a124
    have o_a7 := ob_I eS132 o_a7
    have o_v0 := ob_I eS132 o_v0
    exact hq _ hI g0 f0 ⟨hG, hn, (by have t : x89 = 5 → 0 < kv80 := (qr520 hiv4 hiv6 hO r_x12 ph0_S14 mo90 mo91 ph0_S21 mo92 ph0_S30 mo93 ph0_S40 mo94 ph0_S51 mo95 ph0_S63 mo96 ph0_S76 mo97 q_x89 c98 r_x102 q_x102 r_x108 q_x108 r_x114 q_x114 r_x120 q_x120 r_x126 q_x126 r_x130 q_x130 ex131); rw [d_x89, d_kv80] at t; exact t), (by have t : x89 = 5 ∨ ¬ iv4 = 5 := (qr521 hiv4 r_x12 mo90 mo91 mo92 mo93 mo94 mo95 mo96 mo97 q_x89 c98 r_x102 q_x102 r_x108 q_x108 r_x114 q_x114 r_x120 q_x120 r_x126 q_x126 r_x130 q_x130 ex131); rw [di_9, d_x89] at t; exact t), (by have t : iv2 ≤ kv88 ∧ (x89 = 4 → iv2 < kv88 ∨ iv4 = 4) := (qr522 r_kv1 hiv2 hiv4 r_x12 mo90 r_kv19 ph2_S14 mo91 mo92 r_kv28 ph2_S21 mo93 r_kv38 ph2_S30 mo94 r_kv49 ph2_S40 mo95 r_kv61 ph2_S51 mo96 r_kv74 ph2_S63 mo97 r_kv88 ph2_S76 q_x89 c98 r_x102 q_x102 r_x108 q_x108 r_x114 q_x114 r_x120 q_x120 r_x126 q_x126 r_x130 q_x130 ex131); rw [di_8, di_9, d_kv88, d_x89] at t; exact t)⟩
  · exact hq _ hI g0 f0 ⟨hG, hn, (by have t : x89 = 5 → 0 < kv80 := (qr523 hiv4 hiv6 hO r_x12 ph0_S14 mo90 mo91 ph0_S21 mo92 ph0_S30 mo93 ph0_S40 mo94 ph0_S51 mo95 ph0_S63 mo96 ph0_S76 mo97 q_x89 c98); rw [d_x89, d_kv80] at t; exact t), (by have t : x89 = 5 ∨ ¬ iv4 = 5 := (qr524 hiv4 r_x12 mo90 mo91 mo92 mo93 mo94 mo95 mo96 mo97 q_x89 c98); rw [di_9, d_x89] at t; exact t), (by have t : iv2 ≤ kv88 ∧ (x89 = 4 → iv2 < kv88 ∨ iv4 = 4) := (qr525 r_kv1 hiv2 hiv4 r_x12 mo90 r_kv19 ph2_S14 mo91 mo92 r_kv28 ph2_S21 mo93 r_kv38 ph2_S30 mo94 r_kv49 ph2_S40 mo95 r_kv61 ph2_S51 mo96 r_kv74 ph2_S63 mo97 r_kv88 ph2_S76 q_x89 c98); rw [di_8, di_9, d_kv88, d_x89] at t; exact t)⟩
end
section
set_option maxHeartbeats 4000000 in
set_option maxRecDepth 20000 in
theorem m_X11_readRoad {v0 : Nat} {Q : HS → Prop} {S : HS} (hI : IV S) (o_v0 : ob S v0 11)    (hG : RG S v0) (hn : RN S v0) (hO : fI S v0 9 = 5 → 0 < fI S v0 13) (hq : ∀ (T : HS), IV T → Gr S T → FRI [(10, 3), (11, 8), (11, 9), (11, 10), (11, 11), (11, 12), (11, 13), (11, 14)] [] S T → (RG T v0) ∧ (RN T v0) ∧ (fI T v0 9 = 5 → 0 < fI T v0 13) ∧ (fI T v0 9 = 5 ∨ ¬ fI S v0 9 = 5) ∧ (fI S v0 8 ≤ fI T v0 8 ∧ (fI T v0 9 = 4 → fI S v0 8 < fI T v0 8 ∨ fI S v0 9 = 4)) → Q T) : P_X11_readRoad v0 Q S := by
  have g0 := gr_rf S
  have f0 := fri_rf [(10, 3), (11, 8), (11, 9), (11, 10), (11, 11), (11, 12), (11, 13), (11, 14)] [] S
  obtain ⟨kv1, d_kv1⟩ : ∃ z : Int32, z = fI S v0 8 := ⟨_, rfl⟩
  have r_kv1 : (0 : Int32) ≤ kv1 ∧ kv1 ≤ (900 : Int32) := by rw [d_kv1]; exact nu 25 rfl hI o_v0
  obtain ⟨iv2, hiv2⟩ : ∃ z : Int32, z = kv1 := ⟨_, rfl⟩
  have di_8 := hiv2.trans d_kv1
  obtain ⟨kv3, d_kv3⟩ : ∃ z : Int32, z = fI S v0 9 := ⟨_, rfl⟩
  obtain ⟨iv4, hiv4⟩ : ∃ z : Int32, z = kv3 := ⟨_, rfl⟩
  have di_9 := hiv4.trans d_kv3
  obtain ⟨kv5, d_kv5⟩ : ∃ z : Int32, z = fI S v0 13 := ⟨_, rfl⟩
  obtain ⟨iv6, hiv6⟩ : ∃ z : Int32, z = kv5 := ⟨_, rfl⟩
  have di_13 := hiv6.trans d_kv5
  have hO : iv4 = 5 → 0 < iv6 := by rw [di_9, di_13]; exact hO
  obtain ⟨a7, ea7, o_a7, -⟩ := id hG
  obtain ⟨kv8, d_kv8⟩ : ∃ z : Int32, z = fI S a7 6 := ⟨_, rfl⟩
  have r_kv8 : (0 : Int32) ≤ kv8 ∧ kv8 ≤ (12 : Int32) := by rw [d_kv8]; exact nu 22 rfl hI o_a7
  obtain ⟨kv9, d_kv9⟩ : ∃ z : Int32, z = fI S a7 2 := ⟨_, rfl⟩
  have r_kv9 : (0 : Int32) ≤ kv9 ∧ kv9 ≤ (8 : Int32) := by rw [d_kv9]; exact nu 18 rfl hI o_a7
  obtain ⟨kv10, d_kv10⟩ : ∃ z : Int32, z = fI S a7 4 := ⟨_, rfl⟩
  have r_kv10 : (0 : Int32) ≤ kv10 ∧ kv10 ≤ (4 : Int32) := by rw [d_kv10]; exact nu 20 rfl hI o_a7
  have hnf : kv8 = kv9 + kv10 := by rw [d_kv8, d_kv9, d_kv10]; exact hn _ ea7
  refine u_X11_readRoad ?_
  refine u_X11_readRoad_0 ?_
  refine ⟨o_v0, ?_⟩
  refine ⟨a7, ea7, ?_⟩
  refine ⟨o_a7, ?_⟩
  intro x12 ex12
  have r_x12 : (0 : Int32) ≤ x12 ∧ x12 ≤ (12 : Int32) := by rw [ex12]; exact nu 19 rfl hI o_a7
  have d_x12 := ex12
  have do12_kv1 := d_kv1
  have do12_kv3 := d_kv3
  have do12_kv5 := d_kv5
  refine m_X11_begins hI o_v0 hG (by have t : kv3 = 5 → 0 < kv5 := (qr1 hiv4 hiv6 hO); rw [d_kv3, d_kv5] at t; exact t) (fun S14 hJ g15 fc16 p_S14 => ?_)
  obtain ⟨hG, pg0_S14, pg1_S14, pg2_S14, pg3_S14⟩ := p_S14
  have hn := rn_fr fc16 g15 hI o_v0 (by decide) hn
  have hI := hJ
  have d_kv8 := d_kv8.trans (fri_at fc16 (by decide) (by decide) o_a7).symm
  have d_kv9 := d_kv9.trans (fri_at fc16 (by decide) (by decide) o_a7).symm
  have d_kv10 := d_kv10.trans (fri_at fc16 (by decide) (by decide) o_a7).symm
  have d_x12 := d_x12.trans (fri_at fc16 (by decide) (by decide) o_a7).symm
  have ea7 := (frr_at fc16 (by decide) (by decide) o_v0).trans ea7
  have f0 := fri_tr (S := S) g0 f0 fc16 (by decide) (by decide)
  have o_a7 := gr_ob g15 o_a7
  have o_v0 := gr_ob g15 o_v0
  have g0 := gr_tr (T := S) g0 g15
  obtain ⟨kv17, d_kv17⟩ : ∃ z : Int32, z = fI S14 v0 9 := ⟨_, rfl⟩
  obtain ⟨kv18, d_kv18⟩ : ∃ z : Int32, z = fI S14 v0 13 := ⟨_, rfl⟩
  have ph0_S14 : kv17 = 5 → 0 < kv18 := by rw [d_kv17, d_kv18]; exact pg0_S14
  have ph1_S14 : kv17 = 5 ∨ ¬ kv3 = 5 := by rw [do12_kv3, d_kv17]; exact pg1_S14
  obtain ⟨kv19, d_kv19⟩ : ∃ z : Int32, z = fI S14 v0 8 := ⟨_, rfl⟩
  have r_kv19 : (0 : Int32) ≤ kv19 ∧ kv19 ≤ (900 : Int32) := by rw [d_kv19]; exact nu 25 rfl hI o_v0
  have ph2_S14 : kv1 ≤ kv19 ∧ (kv17 = 4 → kv1 < kv19 ∨ kv3 = 4) := by rw [do12_kv1, do12_kv3, d_kv19, d_kv17]; exact pg2_S14
  have ph3_S14 : kv17 = 5 ∨ ¬ x12 = (12 : Int32) := by rw [d_kv17]; exact pg3_S14
  intro _
  obtain ⟨iv20, hiv20⟩ : ∃ z : Int32, z = kv19 := ⟨_, rfl⟩
  have d_iv20 := hiv20.trans d_kv19
  have do20_iv20 := d_iv20
  have do20_kv17 := d_kv17
  have do20_kv18 := d_kv18
  refine m_X11_known hI o_v0 (qr359) hG hn (by have t : kv17 = 5 → 0 < kv18 := (qr360 hiv4 hiv6 hO r_x12 ph0_S14 ph1_S14 ph3_S14); rw [d_kv17, d_kv18] at t; exact t) (fun x21 S22 hJ g23 fc24 p_x21 => ?_)
  obtain ⟨hG, hn, p_x21, pg0_S22, pg1_S22, pg2_S22⟩ := p_x21
  have hI := hJ
  have d_kv8 := d_kv8.trans (fri_at fc24 (by decide) (by decide) o_a7).symm
  have d_kv9 := d_kv9.trans (fri_at fc24 (by decide) (by decide) o_a7).symm
  have d_kv10 := d_kv10.trans (fri_at fc24 (by decide) (by decide) o_a7).symm
  have d_x12 := d_x12.trans (fri_at fc24 (by decide) (by decide) o_a7).symm
  have d_kv19 := d_kv19.trans (fri_at fc24 (by decide) (by decide) o_v0).symm
  have ea7 := (frr_at fc24 (by decide) (by decide) o_v0).trans ea7
  have f0 := fri_tr (S := S14) g0 f0 fc24 (by decide) (by decide)
  have o_a7 := gr_ob g23 o_a7
  have o_v0 := gr_ob g23 o_v0
  have g0 := gr_tr (T := S14) g0 g23
  obtain ⟨kv25, d_kv25⟩ : ∃ z : Int32, z = fI S22 v0 9 := ⟨_, rfl⟩
  obtain ⟨kv26, d_kv26⟩ : ∃ z : Int32, z = fI S22 v0 13 := ⟨_, rfl⟩
  have ph0_S22 : kv25 = 5 → 0 < kv26 := by rw [d_kv25, d_kv26]; exact pg0_S22
  have ph1_S22 : kv25 = 5 ∨ ¬ kv17 = 5 := by rw [do20_kv17, d_kv25]; exact pg1_S22
  have mo27 : kv25 = 5 ∨ ¬ kv3 = 5 := ph1_S22.elim Or.inl (fun h => Or.inr (ph1_S14.resolve_left h))
  have mo28 : kv25 = 5 ∨ ¬ x12 = (12 : Int32) := ph1_S22.elim Or.inl (fun h => Or.inr (ph3_S14.resolve_left h))
  have ph2_S22 : iv20 ≤ kv19 ∧ (kv25 = 4 → iv20 < kv19 ∨ kv17 = 4) := by rw [do20_iv20, do20_kv17, d_kv19, d_kv25]; exact pg2_S22
  intro _
  have kk_x21 : kv25 = 5 ∨ (0 ≤ x21 ∧ x21 < kv9) := by rw [d_kv25, d_kv9]; exact kr0 p_x21 ea7
  obtain ⟨iv29, hiv29⟩ : ∃ z : Int32, z = kv26 := ⟨_, rfl⟩
  have d_iv29 := hiv29.trans d_kv26
  have do29_kv19 := d_kv19
  have do29_kv25 := d_kv25
  have do29_iv29 := d_iv29
  refine m_X11_goesOn hI o_v0 hG (by have t : kv25 = 5 → 0 < kv26 := (qr361 hiv4 hiv6 hO r_kv8 r_kv9 r_kv10 hnf r_x12 ph0_S14 mo27 mo28 ph0_S22 ph1_S22 kk_x21); rw [d_kv25, d_kv26] at t; exact t) (fun S31 hJ g32 fc33 p_S31 => ?_)
  obtain ⟨hG, pg0_S31, pg1_S31, pg2_S31⟩ := p_S31
  have hn := rn_fr fc33 g32 hI o_v0 (by decide) hn
  have hI := hJ
  have d_kv8 := d_kv8.trans (fri_at fc33 (by decide) (by decide) o_a7).symm
  have d_kv9 := d_kv9.trans (fri_at fc33 (by decide) (by decide) o_a7).symm
  have d_kv10 := d_kv10.trans (fri_at fc33 (by decide) (by decide) o_a7).symm
  have d_x12 := d_x12.trans (fri_at fc33 (by decide) (by decide) o_a7).symm
  have d_kv26 := d_kv26.trans (fri_at fc33 (by decide) (by decide) o_v0).symm
  have ea7 := (frr_at fc33 (by decide) (by decide) o_v0).trans ea7
  have f0 := fri_tr (S := S22) g0 f0 fc33 (by decide) (by decide)
  have o_a7 := gr_ob g32 o_a7
  have o_v0 := gr_ob g32 o_v0
  have g0 := gr_tr (T := S22) g0 g32
  obtain ⟨kv34, d_kv34⟩ : ∃ z : Int32, z = fI S31 v0 9 := ⟨_, rfl⟩
  have ph0_S31 : kv34 = 5 → 0 < kv26 := by rw [d_kv34, d_kv26]; exact pg0_S31
  have ph1_S31 : kv34 = 5 ∨ ¬ kv25 = 5 := by rw [do29_kv25, d_kv34]; exact pg1_S31
  have mo35 : kv34 = 5 ∨ ¬ kv3 = 5 := ph1_S31.elim Or.inl (fun h => Or.inr (mo27.resolve_left h))
  have mo36 : kv34 = 5 ∨ ¬ x12 = (12 : Int32) := ph1_S31.elim Or.inl (fun h => Or.inr (mo28.resolve_left h))
  have mo37 : kv34 = 5 ∨ ¬ kv17 = 5 := ph1_S31.elim Or.inl (fun h => Or.inr (ph1_S22.resolve_left h))
  have mo38 : kv34 = 5 ∨ (0 ≤ x21 ∧ x21 < kv9) := ph1_S31.elim Or.inl (fun h => Or.inr (kk_x21.resolve_left h))
  obtain ⟨kv39, d_kv39⟩ : ∃ z : Int32, z = fI S31 v0 8 := ⟨_, rfl⟩
  have r_kv39 : (0 : Int32) ≤ kv39 ∧ kv39 ≤ (900 : Int32) := by rw [d_kv39]; exact nu 25 rfl hI o_v0
  have ph2_S31 : kv19 ≤ kv39 ∧ (kv34 = 4 → kv19 < kv39 ∨ kv25 = 4) := by rw [do29_kv19, do29_kv25, d_kv39, d_kv34]; exact pg2_S31
  intro _
  have do39_kv39 := d_kv39
  have do39_kv34 := d_kv34
  have do39_kv26 := d_kv26
  refine m_X11_readSide hI o_v0 hG (by have t : kv34 = 5 → 0 < kv26 := (qr362 hiv4 hiv6 hO r_kv8 r_kv9 r_kv10 hnf r_x12 ph0_S14 mo35 mo36 ph0_S22 mo37 mo38 hiv29 ph0_S31 ph1_S31); rw [d_kv34, d_kv26] at t; exact t) (fun x40 S41 hJ g42 fc43 p_x40 => ?_)
  obtain ⟨hG, pg0_S41, pg1_S41, pg2_S41⟩ := p_x40
  have hn := rn_fr fc43 g42 hI o_v0 (by decide) hn
  have hI := hJ
  have d_kv8 := d_kv8.trans (fri_at fc43 (by decide) (by decide) o_a7).symm
  have d_kv9 := d_kv9.trans (fri_at fc43 (by decide) (by decide) o_a7).symm
  have d_kv10 := d_kv10.trans (fri_at fc43 (by decide) (by decide) o_a7).symm
  have d_x12 := d_x12.trans (fri_at fc43 (by decide) (by decide) o_a7).symm
  have ea7 := (frr_at fc43 (by decide) (by decide) o_v0).trans ea7
  have f0 := fri_tr (S := S31) g0 f0 fc43 (by decide) (by decide)
  have o_a7 := gr_ob g42 o_a7
  have o_v0 := gr_ob g42 o_v0
  have g0 := gr_tr (T := S31) g0 g42
  obtain ⟨kv44, d_kv44⟩ : ∃ z : Int32, z = fI S41 v0 9 := ⟨_, rfl⟩
  obtain ⟨kv45, d_kv45⟩ : ∃ z : Int32, z = fI S41 v0 13 := ⟨_, rfl⟩
  have ph0_S41 : kv44 = 5 → 0 < kv45 := by rw [d_kv44, d_kv45]; exact pg0_S41
  have ph1_S41 : kv44 = 5 ∨ ¬ kv34 = 5 := by rw [do39_kv34, d_kv44]; exact pg1_S41
  have mo46 : kv44 = 5 ∨ ¬ kv3 = 5 := ph1_S41.elim Or.inl (fun h => Or.inr (mo35.resolve_left h))
  have mo47 : kv44 = 5 ∨ ¬ x12 = (12 : Int32) := ph1_S41.elim Or.inl (fun h => Or.inr (mo36.resolve_left h))
  have mo48 : kv44 = 5 ∨ ¬ kv17 = 5 := ph1_S41.elim Or.inl (fun h => Or.inr (mo37.resolve_left h))
  have mo49 : kv44 = 5 ∨ (0 ≤ x21 ∧ x21 < kv9) := ph1_S41.elim Or.inl (fun h => Or.inr (mo38.resolve_left h))
  have mo50 : kv44 = 5 ∨ ¬ kv25 = 5 := ph1_S41.elim Or.inl (fun h => Or.inr (ph1_S31.resolve_left h))
  obtain ⟨kv51, d_kv51⟩ : ∃ z : Int32, z = fI S41 v0 8 := ⟨_, rfl⟩
  have r_kv51 : (0 : Int32) ≤ kv51 ∧ kv51 ≤ (900 : Int32) := by rw [d_kv51]; exact nu 25 rfl hI o_v0
  have ph2_S41 : kv39 ≤ kv51 ∧ (kv44 = 4 → kv39 < kv51 ∨ kv34 = 4) := by rw [do39_kv39, do39_kv34, d_kv51, d_kv44]; exact pg2_S41
  intro _
  have do51_kv51 := d_kv51
  have do51_kv44 := d_kv44
  have do51_kv45 := d_kv45
  refine m_X11_readWhole hI o_v0 hG (by have t : kv44 = 5 → 0 < kv45 := (qr363 hiv4 hiv6 hO r_kv8 r_kv9 r_kv10 hnf r_x12 ph0_S14 mo46 mo47 ph0_S22 mo48 mo49 hiv29 ph0_S31 mo50 ph0_S41 ph1_S41); rw [d_kv44, d_kv45] at t; exact t) (fun x52 S53 hJ g54 fc55 p_x52 => ?_)
  obtain ⟨hG, p_x52, pg0_S53, pg1_S53, pg2_S53⟩ := p_x52
  have hn := rn_fr fc55 g54 hI o_v0 (by decide) hn
  have hI := hJ
  have d_kv8 := d_kv8.trans (fri_at fc55 (by decide) (by decide) o_a7).symm
  have d_kv9 := d_kv9.trans (fri_at fc55 (by decide) (by decide) o_a7).symm
  have d_kv10 := d_kv10.trans (fri_at fc55 (by decide) (by decide) o_a7).symm
  have d_x12 := d_x12.trans (fri_at fc55 (by decide) (by decide) o_a7).symm
  have ea7 := (frr_at fc55 (by decide) (by decide) o_v0).trans ea7
  have f0 := fri_tr (S := S41) g0 f0 fc55 (by decide) (by decide)
  have o_a7 := gr_ob g54 o_a7
  have o_v0 := gr_ob g54 o_v0
  have g0 := gr_tr (T := S41) g0 g54
  obtain ⟨kv56, d_kv56⟩ : ∃ z : Int32, z = fI S53 v0 9 := ⟨_, rfl⟩
  obtain ⟨kv57, d_kv57⟩ : ∃ z : Int32, z = fI S53 v0 13 := ⟨_, rfl⟩
  have ph0_S53 : kv56 = 5 → 0 < kv57 := by rw [d_kv56, d_kv57]; exact pg0_S53
  have ph1_S53 : kv56 = 5 ∨ ¬ kv44 = 5 := by rw [do51_kv44, d_kv56]; exact pg1_S53
  have mo58 : kv56 = 5 ∨ ¬ kv3 = 5 := ph1_S53.elim Or.inl (fun h => Or.inr (mo46.resolve_left h))
  have mo59 : kv56 = 5 ∨ ¬ x12 = (12 : Int32) := ph1_S53.elim Or.inl (fun h => Or.inr (mo47.resolve_left h))
  have mo60 : kv56 = 5 ∨ ¬ kv17 = 5 := ph1_S53.elim Or.inl (fun h => Or.inr (mo48.resolve_left h))
  have mo61 : kv56 = 5 ∨ (0 ≤ x21 ∧ x21 < kv9) := ph1_S53.elim Or.inl (fun h => Or.inr (mo49.resolve_left h))
  have mo62 : kv56 = 5 ∨ ¬ kv25 = 5 := ph1_S53.elim Or.inl (fun h => Or.inr (mo50.resolve_left h))
  have mo63 : kv56 = 5 ∨ ¬ kv34 = 5 := ph1_S53.elim Or.inl (fun h => Or.inr (ph1_S41.resolve_left h))
  obtain ⟨kv64, d_kv64⟩ : ∃ z : Int32, z = fI S53 v0 8 := ⟨_, rfl⟩
  have r_kv64 : (0 : Int32) ≤ kv64 ∧ kv64 ≤ (900 : Int32) := by rw [d_kv64]; exact nu 25 rfl hI o_v0
  have ph2_S53 : kv51 ≤ kv64 ∧ (kv56 = 4 → kv51 < kv64 ∨ kv44 = 4) := by rw [do51_kv51, do51_kv44, d_kv64, d_kv56]; exact pg2_S53
  intro _
  obtain ⟨iv65, hiv65⟩ : ∃ z : Int32, z = kv64 := ⟨_, rfl⟩
  have d_iv65 := hiv65.trans d_kv64
  have do65_iv65 := d_iv65
  have do65_kv56 := d_kv56
  have do65_kv57 := d_kv57
  refine m_X11_known hI o_v0 (qr359) hG hn (by have t : kv56 = 5 → 0 < kv57 := (qr364 hiv4 hiv6 hO r_kv8 r_kv9 r_kv10 hnf r_x12 ph0_S14 mo58 mo59 ph0_S22 mo60 mo61 hiv29 ph0_S31 mo62 ph0_S41 mo63 ph0_S53 ph1_S53); rw [d_kv56, d_kv57] at t; exact t) (fun x66 S67 hJ g68 fc69 p_x66 => ?_)
  obtain ⟨hG, hn, p_x66, pg0_S67, pg1_S67, pg2_S67⟩ := p_x66
  have hI := hJ
  have d_kv8 := d_kv8.trans (fri_at fc69 (by decide) (by decide) o_a7).symm
  have d_kv9 := d_kv9.trans (fri_at fc69 (by decide) (by decide) o_a7).symm
  have d_kv10 := d_kv10.trans (fri_at fc69 (by decide) (by decide) o_a7).symm
  have d_x12 := d_x12.trans (fri_at fc69 (by decide) (by decide) o_a7).symm
  have d_kv64 := d_kv64.trans (fri_at fc69 (by decide) (by decide) o_v0).symm
  have ea7 := (frr_at fc69 (by decide) (by decide) o_v0).trans ea7
  have f0 := fri_tr (S := S53) g0 f0 fc69 (by decide) (by decide)
  have o_a7 := gr_ob g68 o_a7
  have o_v0 := gr_ob g68 o_v0
  have g0 := gr_tr (T := S53) g0 g68
  obtain ⟨kv70, d_kv70⟩ : ∃ z : Int32, z = fI S67 v0 9 := ⟨_, rfl⟩
  obtain ⟨kv71, d_kv71⟩ : ∃ z : Int32, z = fI S67 v0 13 := ⟨_, rfl⟩
  have ph0_S67 : kv70 = 5 → 0 < kv71 := by rw [d_kv70, d_kv71]; exact pg0_S67
  have ph1_S67 : kv70 = 5 ∨ ¬ kv56 = 5 := by rw [do65_kv56, d_kv70]; exact pg1_S67
  have mo72 : kv70 = 5 ∨ ¬ kv3 = 5 := ph1_S67.elim Or.inl (fun h => Or.inr (mo58.resolve_left h))
  have mo73 : kv70 = 5 ∨ ¬ x12 = (12 : Int32) := ph1_S67.elim Or.inl (fun h => Or.inr (mo59.resolve_left h))
  have mo74 : kv70 = 5 ∨ ¬ kv17 = 5 := ph1_S67.elim Or.inl (fun h => Or.inr (mo60.resolve_left h))
  have mo75 : kv70 = 5 ∨ (0 ≤ x21 ∧ x21 < kv9) := ph1_S67.elim Or.inl (fun h => Or.inr (mo61.resolve_left h))
  have mo76 : kv70 = 5 ∨ ¬ kv25 = 5 := ph1_S67.elim Or.inl (fun h => Or.inr (mo62.resolve_left h))
  have mo77 : kv70 = 5 ∨ ¬ kv34 = 5 := ph1_S67.elim Or.inl (fun h => Or.inr (mo63.resolve_left h))
  have mo78 : kv70 = 5 ∨ ¬ kv44 = 5 := ph1_S67.elim Or.inl (fun h => Or.inr (ph1_S53.resolve_left h))
  have ph2_S67 : iv65 ≤ kv64 ∧ (kv70 = 4 → iv65 < kv64 ∨ kv56 = 4) := by rw [do65_iv65, do65_kv56, d_kv64, d_kv70]; exact pg2_S67
  intro _
  have kk_x66 : kv70 = 5 ∨ (0 ≤ x66 ∧ x66 < kv9) := by rw [d_kv70, d_kv9]; exact kr0 p_x66 ea7
  intro x79 ex79
  have q_x79 : x79 = kv70 := ex79.trans d_kv70.symm
  have mo80 : x79 = 5 ∨ ¬ kv3 = 5 := mo72.imp_left (fun z => q_x79.trans z)
  have mo81 : x79 = 5 ∨ ¬ x12 = (12 : Int32) := mo73.imp_left (fun z => q_x79.trans z)
  have mo82 : x79 = 5 ∨ ¬ kv17 = 5 := mo74.imp_left (fun z => q_x79.trans z)
  have mo83 : x79 = 5 ∨ (0 ≤ x21 ∧ x21 < kv9) := mo75.imp_left (fun z => q_x79.trans z)
  have mo84 : x79 = 5 ∨ ¬ kv25 = 5 := mo76.imp_left (fun z => q_x79.trans z)
  have mo85 : x79 = 5 ∨ ¬ kv34 = 5 := mo77.imp_left (fun z => q_x79.trans z)
  have mo86 : x79 = 5 ∨ ¬ kv44 = 5 := mo78.imp_left (fun z => q_x79.trans z)
  have mo87 : x79 = 5 ∨ ¬ kv56 = 5 := ph1_S67.imp_left (fun z => q_x79.trans z)
  have mo88 : x79 = 5 ∨ (0 ≤ x66 ∧ x66 < kv9) := kk_x66.imp_left (fun z => q_x79.trans z)
  have d_x79 := ex79
  refine ⟨fun c89 => ?_, fun c89 => ?_⟩
  · refine u_X11_readRoad_62 ?_
    refine ⟨o_v0, ?_⟩
    obtain ⟨iv90, hiv90⟩ : ∃ z : Int32, z = kv71 := ⟨_, rfl⟩
    have d_iv90 := hiv90.trans d_kv71
    have do90_kv64 := d_kv64
    have do90_x79 := d_x79
    have do90_iv90 := d_iv90
    refine m_X11_goesOn hI o_v0 hG (by have t : x79 = 5 → 0 < kv71 := (qr365 hiv4 hiv6 hO r_kv8 r_kv9 r_kv10 hnf r_x12 ph0_S14 mo80 mo81 ph0_S22 mo82 mo83 hiv29 ph0_S31 mo84 ph0_S41 mo85 ph0_S53 mo86 ph0_S67 mo87 mo88 q_x79 c89); rw [d_x79, d_kv71] at t; exact t) (fun S92 hJ g93 fc94 p_S92 => ?_)
    obtain ⟨hG, pg0_S92, pg1_S92, pg2_S92⟩ := p_S92
    have hn := rn_fr fc94 g93 hI o_v0 (by decide) hn
    have hI := hJ
    have d_kv8 := d_kv8.trans (fri_at fc94 (by decide) (by decide) o_a7).symm
    have d_kv9 := d_kv9.trans (fri_at fc94 (by decide) (by decide) o_a7).symm
    have d_kv10 := d_kv10.trans (fri_at fc94 (by decide) (by decide) o_a7).symm
    have d_x12 := d_x12.trans (fri_at fc94 (by decide) (by decide) o_a7).symm
    have d_kv71 := d_kv71.trans (fri_at fc94 (by decide) (by decide) o_v0).symm
    have ea7 := (frr_at fc94 (by decide) (by decide) o_v0).trans ea7
    have f0 := fri_tr (S := S67) g0 f0 fc94 (by decide) (by decide)
    have o_a7 := gr_ob g93 o_a7
    have o_v0 := gr_ob g93 o_v0
    have g0 := gr_tr (T := S67) g0 g93
    obtain ⟨kv95, d_kv95⟩ : ∃ z : Int32, z = fI S92 v0 9 := ⟨_, rfl⟩
    have ph0_S92 : kv95 = 5 → 0 < kv71 := by rw [d_kv95, d_kv71]; exact pg0_S92
    have ph1_S92 : kv95 = 5 ∨ ¬ x79 = 5 := by rw [do90_x79, d_kv95]; exact pg1_S92
    have mo96 : kv95 = 5 ∨ ¬ kv3 = 5 := ph1_S92.elim Or.inl (fun h => Or.inr (mo80.resolve_left h))
    have mo97 : kv95 = 5 ∨ ¬ x12 = (12 : Int32) := ph1_S92.elim Or.inl (fun h => Or.inr (mo81.resolve_left h))
    have mo98 : kv95 = 5 ∨ ¬ kv17 = 5 := ph1_S92.elim Or.inl (fun h => Or.inr (mo82.resolve_left h))
    have mo99 : kv95 = 5 ∨ (0 ≤ x21 ∧ x21 < kv9) := ph1_S92.elim Or.inl (fun h => Or.inr (mo83.resolve_left h))
    have mo100 : kv95 = 5 ∨ ¬ kv25 = 5 := ph1_S92.elim Or.inl (fun h => Or.inr (mo84.resolve_left h))
    have mo101 : kv95 = 5 ∨ ¬ kv34 = 5 := ph1_S92.elim Or.inl (fun h => Or.inr (mo85.resolve_left h))
    have mo102 : kv95 = 5 ∨ ¬ kv44 = 5 := ph1_S92.elim Or.inl (fun h => Or.inr (mo86.resolve_left h))
    have mo103 : kv95 = 5 ∨ ¬ kv56 = 5 := ph1_S92.elim Or.inl (fun h => Or.inr (mo87.resolve_left h))
    have mo104 : kv95 = 5 ∨ (0 ≤ x66 ∧ x66 < kv9) := ph1_S92.elim Or.inl (fun h => Or.inr (mo88.resolve_left h))
    obtain ⟨kv105, d_kv105⟩ : ∃ z : Int32, z = fI S92 v0 8 := ⟨_, rfl⟩
    have r_kv105 : (0 : Int32) ≤ kv105 ∧ kv105 ≤ (900 : Int32) := by rw [d_kv105]; exact nu 25 rfl hI o_v0
    have ph2_S92 : kv64 ≤ kv105 ∧ (kv95 = 4 → kv64 < kv105 ∨ x79 = 4) := by rw [do90_kv64, do90_x79, d_kv105, d_kv95]; exact pg2_S92
    intro _
    obtain ⟨iv106, hiv106⟩ : ∃ z : Int32, z = kv71 := ⟨_, rfl⟩
    have d_iv106 := hiv106.trans d_kv71
    have do106_kv105 := d_kv105
    have do106_kv95 := d_kv95
    have do106_iv106 := d_iv106
    refine m_X11_eatsWord hI o_v0 (by decide) hG (by have t : kv95 = 5 → 0 < kv71 := (qr366 hiv4 hiv6 hO r_kv8 r_kv9 r_kv10 hnf r_x12 ph0_S14 mo96 mo97 ph0_S22 mo98 mo99 hiv29 ph0_S31 mo100 ph0_S41 mo101 ph0_S53 mo102 ph0_S67 mo103 mo104 q_x79 c89 hiv90 ph0_S92 ph1_S92); rw [d_kv95, d_kv71] at t; exact t) (fun x107 S108 hJ g109 fc110 b_x107 p_x107 => ?_)
    obtain ⟨hG, pg0_S108, pg1_S108, pg2_S108⟩ := p_x107
    have hn := rn_fr fc110 g109 hI o_v0 (by decide) hn
    have hI := hJ
    have d_kv8 := d_kv8.trans (fri_at fc110 (by decide) (by decide) o_a7).symm
    have d_kv9 := d_kv9.trans (fri_at fc110 (by decide) (by decide) o_a7).symm
    have d_kv10 := d_kv10.trans (fri_at fc110 (by decide) (by decide) o_a7).symm
    have d_x12 := d_x12.trans (fri_at fc110 (by decide) (by decide) o_a7).symm
    have d_kv71 := d_kv71.trans (fri_at fc110 (by decide) (by decide) o_v0).symm
    have ea7 := (frr_at fc110 (by decide) (by decide) o_v0).trans ea7
    have f0 := fri_tr (S := S92) g0 f0 fc110 (by decide) (by decide)
    have o_a7 := gr_ob g109 o_a7
    have o_v0 := gr_ob g109 o_v0
    have g0 := gr_tr (T := S92) g0 g109
    obtain ⟨kv111, d_kv111⟩ : ∃ z : Int32, z = fI S108 v0 9 := ⟨_, rfl⟩
    have ph0_S108 : kv111 = 5 → 0 < kv71 := by rw [d_kv111, d_kv71]; exact pg0_S108
    have ph1_S108 : kv111 = 5 ∨ ¬ kv95 = 5 := by rw [do106_kv95, d_kv111]; exact pg1_S108
    have mo112 : kv111 = 5 ∨ ¬ kv3 = 5 := ph1_S108.elim Or.inl (fun h => Or.inr (mo96.resolve_left h))
    have mo113 : kv111 = 5 ∨ ¬ x12 = (12 : Int32) := ph1_S108.elim Or.inl (fun h => Or.inr (mo97.resolve_left h))
    have mo114 : kv111 = 5 ∨ ¬ kv17 = 5 := ph1_S108.elim Or.inl (fun h => Or.inr (mo98.resolve_left h))
    have mo115 : kv111 = 5 ∨ (0 ≤ x21 ∧ x21 < kv9) := ph1_S108.elim Or.inl (fun h => Or.inr (mo99.resolve_left h))
    have mo116 : kv111 = 5 ∨ ¬ kv25 = 5 := ph1_S108.elim Or.inl (fun h => Or.inr (mo100.resolve_left h))
    have mo117 : kv111 = 5 ∨ ¬ kv34 = 5 := ph1_S108.elim Or.inl (fun h => Or.inr (mo101.resolve_left h))
    have mo118 : kv111 = 5 ∨ ¬ kv44 = 5 := ph1_S108.elim Or.inl (fun h => Or.inr (mo102.resolve_left h))
    have mo119 : kv111 = 5 ∨ ¬ kv56 = 5 := ph1_S108.elim Or.inl (fun h => Or.inr (mo103.resolve_left h))
    have mo120 : kv111 = 5 ∨ (0 ≤ x66 ∧ x66 < kv9) := ph1_S108.elim Or.inl (fun h => Or.inr (mo104.resolve_left h))
    have mo121 : kv111 = 5 ∨ ¬ x79 = 5 := ph1_S108.elim Or.inl (fun h => Or.inr (ph1_S92.resolve_left h))
    obtain ⟨kv122, d_kv122⟩ : ∃ z : Int32, z = fI S108 v0 8 := ⟨_, rfl⟩
    have r_kv122 : (0 : Int32) ≤ kv122 ∧ kv122 ≤ (900 : Int32) := by rw [d_kv122]; exact nu 25 rfl hI o_v0
    have ph2_S108 : kv105 ≤ kv122 ∧ (kv111 = 4 → kv105 < kv122 ∨ kv95 = 4) := by rw [do106_kv105, do106_kv95, d_kv122, d_kv111]; exact pg2_S108
    intro _ _
    have bb_x107 : x107 = 0 ∨ x107 = 1 := b_x107
    refine ⟨fun c123 => ?_, fun c123 => ?_⟩
    · refine u_X11_readRoad_85 ?_
      refine ⟨o_v0, ?_⟩
      intro x124 ex124
      have q_x124 : x124 = kv111 := ex124.trans d_kv111.symm
      have mo125 : x124 = 5 ∨ ¬ kv3 = 5 := mo112.imp_left (fun z => q_x124.trans z)
      have mo126 : x124 = 5 ∨ ¬ x12 = (12 : Int32) := mo113.imp_left (fun z => q_x124.trans z)
      have mo127 : x124 = 5 ∨ ¬ kv17 = 5 := mo114.imp_left (fun z => q_x124.trans z)
      have mo128 : x124 = 5 ∨ (0 ≤ x21 ∧ x21 < kv9) := mo115.imp_left (fun z => q_x124.trans z)
      have mo129 : x124 = 5 ∨ ¬ kv25 = 5 := mo116.imp_left (fun z => q_x124.trans z)
      have mo130 : x124 = 5 ∨ ¬ kv34 = 5 := mo117.imp_left (fun z => q_x124.trans z)
      have mo131 : x124 = 5 ∨ ¬ kv44 = 5 := mo118.imp_left (fun z => q_x124.trans z)
      have mo132 : x124 = 5 ∨ ¬ kv56 = 5 := mo119.imp_left (fun z => q_x124.trans z)
      have mo133 : x124 = 5 ∨ (0 ≤ x66 ∧ x66 < kv9) := mo120.imp_left (fun z => q_x124.trans z)
      have mo134 : x124 = 5 ∨ ¬ x79 = 5 := mo121.imp_left (fun z => q_x124.trans z)
      have mo135 : x124 = 5 ∨ ¬ kv95 = 5 := ph1_S108.imp_left (fun z => q_x124.trans z)
      have d_x124 := ex124
      refine ⟨fun c136 => ?_, fun c136 => ?_⟩
      · refine ⟨a7, ea7, ?_⟩
        refine ⟨o_a7, ?_⟩
        intro x138 ex138
        have r_x138 : (0 : Int32) ≤ x138 ∧ x138 ≤ (12 : Int32) := by rw [ex138]; exact nu 19 rfl hI o_a7
        have q_x138 : x138 = x12 := ex138.trans d_x12.symm
        have d_x138 := ex138
        refine ⟨a7, ea7, ?_⟩
        refine ⟨o_a7, ?_⟩
        obtain ⟨a140, ea140, o_a140, l_a140⟩ := shl 35 rfl hI o_a7
        refine ⟨a140, ea140, ?_⟩
        refine ⟨o_a140, ?_⟩
        have i141 : vp_in x138 (hN _ a140) := (vin l_a140 (m := 12) (by decide) (qr367 hiv4 r_kv8 r_kv9 r_kv10 hnf r_x12 mo125 mo126 mo127 mo128 mo129 mo130 mo131 mo132 mo133 q_x79 c89 mo134 mo135 bb_x107 c123 q_x124 c136 r_x138 q_x138))
        refine ⟨i141, ?_⟩
        intro S142 eS142
        have hIn : IV S142 := by rw [eS142]; exact iv10_aI hI o_a7 (rg_nw hG ea7) ea140 o_a140 (by decide)
        have hG := rg_a (jj := 13) (x := x138) eS142 hI ea7 o_a7 ea140 o_a140 (by decide) (h1_one (c := 3) (lo := 0) (hi := 7) (hf := 2) (by decide) d_x138.symm) (h2_no (y := 0) (by decide)) hG
        have hn := rn_11 eS142 hI o_v0 o_a140 (by decide) hn
        have hI := hIn
        have f0 := fr_A eS142 g0 f0 o_a140 (by decide)
        have d_kv8 := rd_Ik eS142 o_a140 o_a7 (by decide) d_kv8
        have d_kv9 := rd_Ik eS142 o_a140 o_a7 (by decide) d_kv9
        have d_kv10 := rd_Ik eS142 o_a140 o_a7 (by decide) d_kv10
        have d_x138 := rd_Ik eS142 o_a140 o_a7 (by decide) d_x138
        have d_kv71 := rd_Ik eS142 o_a140 o_v0 (by decide) d_kv71
        have d_x124 := rd_Ik eS142 o_a140 o_v0 (by decide) d_x124
        have d_kv122 := rd_Ik eS142 o_a140 o_v0 (by decide) d_kv122
        have ea7 := rf_I eS142 ea7
        have ea140 := rf_I eS142 ea140
        have l_a140 := ln_I eS142 l_a140
        have g0 := gr_I eS142 g0
        have o_a140 := ob_I eS142 o_a140
        have o_a7 := ob_I eS142 o_a7
        have o_v0 := ob_I eS142 o_v0
        have el143 : fI S142 a140 x138.toNatClampNeg = x21 := by rw [eS142]; exact u2_self _ _ _ _
        refine ⟨a7, ea7, ?_⟩
        refine ⟨o_a7, ?_⟩
        obtain ⟨a145, ea145, o_a145, l_a145⟩ := shl 36 rfl hI o_a7
        refine ⟨a145, ea145, ?_⟩
        refine ⟨o_a145, ?_⟩
        have i146 : vp_in x138 (hN _ a145) := (vin l_a145 (m := 12) (by decide) (qr367 hiv4 r_kv8 r_kv9 r_kv10 hnf r_x12 mo125 mo126 mo127 mo128 mo129 mo130 mo131 mo132 mo133 q_x79 c89 mo134 mo135 bb_x107 c123 q_x124 c136 r_x138 q_x138))
        refine ⟨i146, ?_⟩
        intro S147 eS147
        have hIn : IV S147 := by rw [eS147]; exact iv10_aI hI o_a7 (rg_nw hG ea7) ea145 o_a145 (by decide)
        have hG := rg_a (jj := 14) (x := x138) eS147 hI ea7 o_a7 ea145 o_a145 (by decide) (h1_one (c := 3) (lo := 0) (hi := 7) (hf := 2) (by decide) d_x138.symm) (h2_no (y := 0) (by decide)) hG
        have hn := rn_11 eS147 hI o_v0 o_a145 (by decide) hn
        have el143 := el_ar eS147 (ow_ne hI o_a7 (by decide) o_a7 (by decide) ea145 ea140 (by decide)) el143
        have hI := hIn
        have f0 := fr_A eS147 g0 f0 o_a145 (by decide)
        have d_kv8 := rd_Ik eS147 o_a145 o_a7 (by decide) d_kv8
        have d_kv9 := rd_Ik eS147 o_a145 o_a7 (by decide) d_kv9
        have d_kv10 := rd_Ik eS147 o_a145 o_a7 (by decide) d_kv10
        have d_x138 := rd_Ik eS147 o_a145 o_a7 (by decide) d_x138
        have d_kv71 := rd_Ik eS147 o_a145 o_v0 (by decide) d_kv71
        have d_x124 := rd_Ik eS147 o_a145 o_v0 (by decide) d_x124
        have d_kv122 := rd_Ik eS147 o_a145 o_v0 (by decide) d_kv122
        have ea7 := rf_I eS147 ea7
        have ea140 := rf_I eS147 ea140
        have ea145 := rf_I eS147 ea145
        have l_a140 := ln_I eS147 l_a140
        have l_a145 := ln_I eS147 l_a145
        have g0 := gr_I eS147 g0
        have o_a140 := ob_I eS147 o_a140
        have o_a145 := ob_I eS147 o_a145
        have o_a7 := ob_I eS147 o_a7
        have o_v0 := ob_I eS147 o_v0
        have el148 : fI S147 a145 x138.toNatClampNeg = x66 := by rw [eS147]; exact u2_self _ _ _ _
        refine ⟨a7, ea7, ?_⟩
        refine ⟨o_a7, ?_⟩
        obtain ⟨a150, ea150, o_a150, l_a150⟩ := shl 37 rfl hI o_a7
        refine ⟨a150, ea150, ?_⟩
        refine ⟨o_a150, ?_⟩
        have i151 : vp_in x138 (hN _ a150) := (vin l_a150 (m := 12) (by decide) (qr367 hiv4 r_kv8 r_kv9 r_kv10 hnf r_x12 mo125 mo126 mo127 mo128 mo129 mo130 mo131 mo132 mo133 q_x79 c89 mo134 mo135 bb_x107 c123 q_x124 c136 r_x138 q_x138))
        refine ⟨i151, ?_⟩
        intro S152 eS152
        have hIn : IV S152 := by rw [eS152]; exact iv10_aI hI o_a7 (rg_nw hG ea7) ea150 o_a150 (by decide)
        have hG := rg_a (jj := 15) (x := x138) eS152 hI ea7 o_a7 ea150 o_a150 (by decide) (h1_no (by decide)) (h2_no (y := 0) (by decide)) hG
        have hn := rn_11 eS152 hI o_v0 o_a150 (by decide) hn
        have el143 := el_ar eS152 (ow_ne hI o_a7 (by decide) o_a7 (by decide) ea150 ea140 (by decide)) el143
        have el148 := el_ar eS152 (ow_ne hI o_a7 (by decide) o_a7 (by decide) ea150 ea145 (by decide)) el148
        have hI := hIn
        have f0 := fr_A eS152 g0 f0 o_a150 (by decide)
        have d_kv8 := rd_Ik eS152 o_a150 o_a7 (by decide) d_kv8
        have d_kv9 := rd_Ik eS152 o_a150 o_a7 (by decide) d_kv9
        have d_kv10 := rd_Ik eS152 o_a150 o_a7 (by decide) d_kv10
        have d_x138 := rd_Ik eS152 o_a150 o_a7 (by decide) d_x138
        have d_kv71 := rd_Ik eS152 o_a150 o_v0 (by decide) d_kv71
        have d_x124 := rd_Ik eS152 o_a150 o_v0 (by decide) d_x124
        have d_kv122 := rd_Ik eS152 o_a150 o_v0 (by decide) d_kv122
        have ea7 := rf_I eS152 ea7
        have ea140 := rf_I eS152 ea140
        have ea145 := rf_I eS152 ea145
        have ea150 := rf_I eS152 ea150
        have l_a140 := ln_I eS152 l_a140
        have l_a145 := ln_I eS152 l_a145
        have l_a150 := ln_I eS152 l_a150
        have g0 := gr_I eS152 g0
        have o_a140 := ob_I eS152 o_a140
        have o_a145 := ob_I eS152 o_a145
        have o_a150 := ob_I eS152 o_a150
        have o_a7 := ob_I eS152 o_a7
        have o_v0 := ob_I eS152 o_v0
        refine ⟨a7, ea7, ?_⟩
        refine ⟨o_a7, ?_⟩
        obtain ⟨a154, ea154, o_a154, l_a154⟩ := shl 38 rfl hI o_a7
        refine ⟨a154, ea154, ?_⟩
        refine ⟨o_a154, ?_⟩
        have i155 : vp_in x138 (hN _ a154) := (vin l_a154 (m := 12) (by decide) (qr367 hiv4 r_kv8 r_kv9 r_kv10 hnf r_x12 mo125 mo126 mo127 mo128 mo129 mo130 mo131 mo132 mo133 q_x79 c89 mo134 mo135 bb_x107 c123 q_x124 c136 r_x138 q_x138))
        refine ⟨i155, ?_⟩
        intro S156 eS156
        have hIn : IV S156 := by rw [eS156]; exact iv10_aI hI o_a7 (rg_nw hG ea7) ea154 o_a154 (by decide)
        have hG := rg_a (jj := 16) (x := x138) eS156 hI ea7 o_a7 ea154 o_a154 (by decide) (h1_one (c := 3) (lo := 1) (hi := 60) (hf := 99) (by decide) d_x138.symm) (h2_no (y := 0) (by decide)) hG
        have hn := rn_11 eS156 hI o_v0 o_a154 (by decide) hn
        have el143 := el_ar eS156 (ow_ne hI o_a7 (by decide) o_a7 (by decide) ea154 ea140 (by decide)) el143
        have el148 := el_ar eS156 (ow_ne hI o_a7 (by decide) o_a7 (by decide) ea154 ea145 (by decide)) el148
        have hI := hIn
        have f0 := fr_A eS156 g0 f0 o_a154 (by decide)
        have d_kv8 := rd_Ik eS156 o_a154 o_a7 (by decide) d_kv8
        have d_kv9 := rd_Ik eS156 o_a154 o_a7 (by decide) d_kv9
        have d_kv10 := rd_Ik eS156 o_a154 o_a7 (by decide) d_kv10
        have d_x138 := rd_Ik eS156 o_a154 o_a7 (by decide) d_x138
        have d_kv71 := rd_Ik eS156 o_a154 o_v0 (by decide) d_kv71
        have d_x124 := rd_Ik eS156 o_a154 o_v0 (by decide) d_x124
        have d_kv122 := rd_Ik eS156 o_a154 o_v0 (by decide) d_kv122
        have ea7 := rf_I eS156 ea7
        have ea140 := rf_I eS156 ea140
        have ea145 := rf_I eS156 ea145
        have ea150 := rf_I eS156 ea150
        have ea154 := rf_I eS156 ea154
        have l_a140 := ln_I eS156 l_a140
        have l_a145 := ln_I eS156 l_a145
        have l_a150 := ln_I eS156 l_a150
        have l_a154 := ln_I eS156 l_a154
        have g0 := gr_I eS156 g0
        have o_a140 := ob_I eS156 o_a140
        have o_a145 := ob_I eS156 o_a145
        have o_a150 := ob_I eS156 o_a150
        have o_a154 := ob_I eS156 o_a154
        have o_a7 := ob_I eS156 o_a7
        have o_v0 := ob_I eS156 o_v0
        have el157 : fI S156 a154 x138.toNatClampNeg = x52 := by rw [eS156]; exact u2_self _ _ _ _
        refine ⟨a7, ea7, ?_⟩
        refine ⟨o_a7, ?_⟩
        obtain ⟨a159, ea159, o_a159, l_a159⟩ := shl 39 rfl hI o_a7
        refine ⟨a159, ea159, ?_⟩
        refine ⟨o_a159, ?_⟩
        have i160 : vp_in x138 (hN _ a159) := (vin l_a159 (m := 12) (by decide) (qr367 hiv4 r_kv8 r_kv9 r_kv10 hnf r_x12 mo125 mo126 mo127 mo128 mo129 mo130 mo131 mo132 mo133 q_x79 c89 mo134 mo135 bb_x107 c123 q_x124 c136 r_x138 q_x138))
        refine ⟨i160, ?_⟩
        intro S161 eS161
        have hIn : IV S161 := by rw [eS161]; exact iv10_aI hI o_a7 (rg_nw hG ea7) ea159 o_a159 (by decide)
        have hG := rg_a (jj := 17) (x := x138) eS161 hI ea7 o_a7 ea159 o_a159 (by decide) (h1_no (by decide)) (h2_no (y := 0) (by decide)) hG
        have hn := rn_11 eS161 hI o_v0 o_a159 (by decide) hn
        have el143 := el_ar eS161 (ow_ne hI o_a7 (by decide) o_a7 (by decide) ea159 ea140 (by decide)) el143
        have el148 := el_ar eS161 (ow_ne hI o_a7 (by decide) o_a7 (by decide) ea159 ea145 (by decide)) el148
        have el157 := el_ar eS161 (ow_ne hI o_a7 (by decide) o_a7 (by decide) ea159 ea154 (by decide)) el157
        have hI := hIn
        have f0 := fr_A eS161 g0 f0 o_a159 (by decide)
        have d_kv8 := rd_Ik eS161 o_a159 o_a7 (by decide) d_kv8
        have d_kv9 := rd_Ik eS161 o_a159 o_a7 (by decide) d_kv9
        have d_kv10 := rd_Ik eS161 o_a159 o_a7 (by decide) d_kv10
        have d_x138 := rd_Ik eS161 o_a159 o_a7 (by decide) d_x138
        have d_kv71 := rd_Ik eS161 o_a159 o_v0 (by decide) d_kv71
        have d_x124 := rd_Ik eS161 o_a159 o_v0 (by decide) d_x124
        have d_kv122 := rd_Ik eS161 o_a159 o_v0 (by decide) d_kv122
        have ea7 := rf_I eS161 ea7
        have ea140 := rf_I eS161 ea140
        have ea145 := rf_I eS161 ea145
        have ea150 := rf_I eS161 ea150
        have ea154 := rf_I eS161 ea154
        have ea159 := rf_I eS161 ea159
        have l_a140 := ln_I eS161 l_a140
        have l_a145 := ln_I eS161 l_a145
        have l_a150 := ln_I eS161 l_a150
        have l_a154 := ln_I eS161 l_a154
        have l_a159 := ln_I eS161 l_a159
        have g0 := gr_I eS161 g0
        have o_a140 := ob_I eS161 o_a140
        have o_a145 := ob_I eS161 o_a145
        have o_a150 := ob_I eS161 o_a150
        have o_a154 := ob_I eS161 o_a154
        have o_a159 := ob_I eS161 o_a159
        have o_a7 := ob_I eS161 o_a7
        have o_v0 := ob_I eS161 o_v0
        refine ⟨a7, ea7, ?_⟩
        refine ⟨o_a7, ?_⟩
        intro x163 ex163
        have r_x163 : (0 : Int32) ≤ x163 ∧ x163 ≤ (12 : Int32) := by rw [ex163]; exact nu 19 rfl hI o_a7
        have q_x163 : x163 = x138 := ex163.trans d_x138.symm
        have d_x163 := ex163
        intro x164 ex164
        intro S165 eS165
        have hIn : IV S165 := by rw [eS165]; exact iv10_sI hI o_a7 (rg_nw hG ea7) (nu_one (lo := (0 : Int32)) (hi := (12 : Int32)) (by decide) (qr368 hiv4 r_kv8 r_kv9 r_kv10 hnf r_x12 mo125 mo126 mo127 mo128 mo129 mo130 mo131 mo132 mo133 q_x79 c89 mo134 mo135 bb_x107 c123 q_x124 c136 r_x138 q_x138 r_x163 q_x163 ex164))
        have hG := rg_inc (c := 3) (y := x163) eS165 hI ea7 o_a7 d_x163.symm (qr369 hiv4 r_kv8 r_kv9 r_kv10 hnf r_x12 mo125 mo126 mo127 mo128 mo129 mo130 mo131 mo132 mo133 q_x79 c89 mo134 mo135 bb_x107 c123 q_x124 c136 r_x138 q_x138 r_x163 q_x163 ex164) (qr370 hiv4 r_kv8 r_kv9 r_kv10 hnf r_x12 mo125 mo126 mo127 mo128 mo129 mo130 mo131 mo132 mo133 q_x79 c89 mo134 mo135 bb_x107 c123 q_x124 c136 r_x138 q_x138 r_x163 q_x163 ex164) (hn_3 ea140 (by rw [show x163 = x138 from (qr371 hiv4 r_kv8 r_kv9 r_kv10 hnf r_x12 mo125 mo126 mo127 mo128 mo129 mo130 mo131 mo132 mo133 q_x79 c89 mo134 mo135 bb_x107 c123 q_x124 c136 r_x138 q_x138 r_x163 q_x163 ex164), el143]; exact ⟨(qr372 hiv4 r_kv8 r_kv9 r_kv10 hnf r_x12 mo125 mo126 mo127 mo128 mo129 mo130 mo131 mo132 mo133 q_x79 c89 mo134 mo135 bb_x107 c123 q_x124 c136 r_x138 q_x138 r_x163 q_x163 ex164), (qr373 hiv4 r_kv8 r_kv9 r_kv10 hnf r_x12 mo125 mo126 mo127 mo128 mo129 mo130 mo131 mo132 mo133 q_x79 c89 mo134 mo135 bb_x107 c123 q_x124 c136 r_x138 q_x138 r_x163 q_x163 ex164), Or.inr (by rw [← d_kv9]; exact (qr374 hiv4 r_kv8 r_kv9 r_kv10 hnf r_x12 mo125 mo126 mo127 mo128 mo129 mo130 mo131 mo132 mo133 q_x79 c89 mo134 mo135 bb_x107 c123 q_x124 c136 r_x138 q_x138 r_x163 q_x163 ex164))⟩) ea145 (by rw [show x163 = x138 from (qr371 hiv4 r_kv8 r_kv9 r_kv10 hnf r_x12 mo125 mo126 mo127 mo128 mo129 mo130 mo131 mo132 mo133 q_x79 c89 mo134 mo135 bb_x107 c123 q_x124 c136 r_x138 q_x138 r_x163 q_x163 ex164), el148]; exact ⟨(qr375 hiv4 r_kv8 r_kv9 r_kv10 hnf r_x12 mo125 mo126 mo127 mo128 mo129 mo130 mo131 mo132 mo133 q_x79 c89 mo134 mo135 bb_x107 c123 q_x124 c136 r_x138 q_x138 r_x163 q_x163 ex164), (qr376 hiv4 r_kv8 r_kv9 r_kv10 hnf r_x12 mo125 mo126 mo127 mo128 mo129 mo130 mo131 mo132 mo133 q_x79 c89 mo134 mo135 bb_x107 c123 q_x124 c136 r_x138 q_x138 r_x163 q_x163 ex164), Or.inr (by rw [← d_kv9]; exact (qr377 hiv4 r_kv8 r_kv9 r_kv10 hnf r_x12 mo125 mo126 mo127 mo128 mo129 mo130 mo131 mo132 mo133 q_x79 c89 mo134 mo135 bb_x107 c123 q_x124 c136 r_x138 q_x138 r_x163 q_x163 ex164))⟩) ea154 (by rw [show x163 = x138 from (qr371 hiv4 r_kv8 r_kv9 r_kv10 hnf r_x12 mo125 mo126 mo127 mo128 mo129 mo130 mo131 mo132 mo133 q_x79 c89 mo134 mo135 bb_x107 c123 q_x124 c136 r_x138 q_x138 r_x163 q_x163 ex164), el157]; exact ⟨(qr378 hiv4 r_kv8 r_kv9 r_kv10 hnf r_x12 mo125 mo126 mo127 mo128 mo129 mo130 mo131 p_x52 mo132 mo133 q_x79 c89 mo134 mo135 bb_x107 c123 q_x124 c136 r_x138 q_x138 r_x163 q_x163 ex164), (qr379 hiv4 r_kv8 r_kv9 r_kv10 hnf r_x12 mo125 mo126 mo127 mo128 mo129 mo130 mo131 p_x52 mo132 mo133 q_x79 c89 mo134 mo135 bb_x107 c123 q_x124 c136 r_x138 q_x138 r_x163 q_x163 ex164), Or.inl rfl⟩)) (fun z _ hz => Or.inl (by rw [eS165] at hz; exact hs_no2 (by decide) z hz)) hG
        have hn := rn_c eS165 (by decide) hn
        have el143 := el_ob eS165 o_a7 o_a140 (by decide) el143
        have el148 := el_ob eS165 o_a7 o_a145 (by decide) el148
        have el157 := el_ob eS165 o_a7 o_a154 (by decide) el157
        have hI := hIn
        have f0 := fr_I eS165 g0 f0 o_a7 (by decide)
        have d_kv8 := rd_Ij eS165 (by decide) d_kv8
        have d_kv9 := rd_Ij eS165 (by decide) d_kv9
        have d_kv10 := rd_Ij eS165 (by decide) d_kv10
        have d_kv71 := rd_Ik eS165 o_a7 o_v0 (by decide) d_kv71
        have d_x124 := rd_Ik eS165 o_a7 o_v0 (by decide) d_x124
        have d_kv122 := rd_Ik eS165 o_a7 o_v0 (by decide) d_kv122
        have d_x164 := rd_Is eS165 (rfl : x164 = x164)
        have ea7 := rf_I eS165 ea7
        have ea140 := rf_I eS165 ea140
        have ea145 := rf_I eS165 ea145
        have ea150 := rf_I eS165 ea150
        have ea154 := rf_I eS165 ea154
        have ea159 := rf_I eS165 ea159
        have l_a140 := ln_I eS165 l_a140
        have l_a145 := ln_I eS165 l_a145
        have l_a150 := ln_I eS165 l_a150
        have l_a154 := ln_I eS165 l_a154
        have l_a159 := ln_I eS165 l_a159
        have g0 := gr_I eS165 g0
        have o_a140 := ob_I eS165 o_a140
        have o_a145 := ob_I eS165 o_a145
        have o_a150 := ob_I eS165 o_a150
        have o_a154 := ob_I eS165 o_a154
        have o_a159 := ob_I eS165 o_a159
        have o_a7 := ob_I eS165 o_a7
        have o_v0 := ob_I eS165 o_v0
        exact hq _ hI g0 f0 ⟨hG, hn, (by have t : x124 = 5 → 0 < kv71 := (qr380 hiv4 hiv6 hO r_kv8 r_kv9 r_kv10 hnf r_x12 ph0_S14 mo125 mo126 ph0_S22 mo127 mo128 hiv29 ph0_S31 mo129 ph0_S41 mo130 ph0_S53 mo131 ph0_S67 mo132 mo133 q_x79 c89 hiv90 ph0_S92 mo134 hiv106 ph0_S108 mo135 bb_x107 c123 q_x124 c136 r_x138 q_x138 r_x163 q_x163 ex164); rw [d_x124, d_kv71] at t; exact t), (by have t : x124 = 5 ∨ ¬ iv4 = 5 := (qr381 hiv4 r_kv8 r_kv9 r_kv10 hnf r_x12 mo125 mo126 mo127 mo128 mo129 mo130 mo131 mo132 mo133 q_x79 c89 mo134 mo135 bb_x107 c123 q_x124 c136 r_x138 q_x138 r_x163 q_x163 ex164); rw [di_9, d_x124] at t; exact t), (by have t : iv2 ≤ kv122 ∧ (x124 = 4 → iv2 < kv122 ∨ iv4 = 4) := (qr382 r_kv1 hiv2 hiv4 r_kv8 r_kv9 r_kv10 hnf r_x12 mo125 r_kv19 ph2_S14 mo126 hiv20 mo127 ph2_S22 mo128 mo129 r_kv39 ph2_S31 mo130 r_kv51 ph2_S41 mo131 r_kv64 ph2_S53 hiv65 mo132 ph2_S67 mo133 q_x79 c89 mo134 r_kv105 ph2_S92 mo135 r_kv122 ph2_S108 bb_x107 c123 q_x124 c136 r_x138 q_x138 r_x163 q_x163 ex164); rw [di_8, di_9, d_kv122, d_x124] at t; exact t)⟩
      · exact hq _ hI g0 f0 ⟨hG, hn, (by have t : x124 = 5 → 0 < kv71 := (qr383 hiv4 hiv6 hO r_kv8 r_kv9 r_kv10 hnf r_x12 ph0_S14 mo125 mo126 ph0_S22 mo127 mo128 hiv29 ph0_S31 mo129 ph0_S41 mo130 ph0_S53 mo131 ph0_S67 mo132 mo133 q_x79 c89 hiv90 ph0_S92 mo134 hiv106 ph0_S108 mo135 bb_x107 c123 q_x124 c136); rw [d_x124, d_kv71] at t; exact t), (by have t : x124 = 5 ∨ ¬ iv4 = 5 := (qr384 hiv4 r_kv8 r_kv9 r_kv10 hnf r_x12 mo125 mo126 mo127 mo128 mo129 mo130 mo131 mo132 mo133 q_x79 c89 mo134 mo135 bb_x107 c123 q_x124 c136); rw [di_9, d_x124] at t; exact t), (by have t : iv2 ≤ kv122 ∧ (x124 = 4 → iv2 < kv122 ∨ iv4 = 4) := (qr385 r_kv1 hiv2 hiv4 r_kv8 r_kv9 r_kv10 hnf r_x12 mo125 r_kv19 ph2_S14 mo126 hiv20 mo127 ph2_S22 mo128 mo129 r_kv39 ph2_S31 mo130 r_kv51 ph2_S41 mo131 r_kv64 ph2_S53 hiv65 mo132 ph2_S67 mo133 q_x79 c89 mo134 r_kv105 ph2_S92 mo135 r_kv122 ph2_S108 bb_x107 c123 q_x124 c136); rw [di_8, di_9, d_kv122, d_x124] at t; exact t)⟩
    · have do165_kv122 := d_kv122
      have do165_kv111 := d_kv111
      have do165_kv71 := d_kv71
      refine m_X11_readWhole hI o_v0 hG (by have t : kv111 = 5 → 0 < kv71 := (qr386 hiv4 hiv6 hO r_kv8 r_kv9 r_kv10 hnf r_x12 ph0_S14 mo112 mo113 ph0_S22 mo114 mo115 hiv29 ph0_S31 mo116 ph0_S41 mo117 ph0_S53 mo118 ph0_S67 mo119 mo120 q_x79 c89 hiv90 ph0_S92 mo121 hiv106 ph0_S108 ph1_S108 bb_x107 c123); rw [d_kv111, d_kv71] at t; exact t) (fun x166 S167 hJ g168 fc169 p_x166 => ?_)
      obtain ⟨hG, p_x166, pg0_S167, pg1_S167, pg2_S167⟩ := p_x166
      have hn := rn_fr fc169 g168 hI o_v0 (by decide) hn
      have hI := hJ
      have d_kv8 := d_kv8.trans (fri_at fc169 (by decide) (by decide) o_a7).symm
      have d_kv9 := d_kv9.trans (fri_at fc169 (by decide) (by decide) o_a7).symm
      have d_kv10 := d_kv10.trans (fri_at fc169 (by decide) (by decide) o_a7).symm
      have d_x12 := d_x12.trans (fri_at fc169 (by decide) (by decide) o_a7).symm
      have ea7 := (frr_at fc169 (by decide) (by decide) o_v0).trans ea7
      have f0 := fri_tr (S := S108) g0 f0 fc169 (by decide) (by decide)
      have o_a7 := gr_ob g168 o_a7
      have o_v0 := gr_ob g168 o_v0
      have g0 := gr_tr (T := S108) g0 g168
      obtain ⟨kv170, d_kv170⟩ : ∃ z : Int32, z = fI S167 v0 9 := ⟨_, rfl⟩
      obtain ⟨kv171, d_kv171⟩ : ∃ z : Int32, z = fI S167 v0 13 := ⟨_, rfl⟩
      have ph0_S167 : kv170 = 5 → 0 < kv171 := by rw [d_kv170, d_kv171]; exact pg0_S167
      have ph1_S167 : kv170 = 5 ∨ ¬ kv111 = 5 := by rw [do165_kv111, d_kv170]; exact pg1_S167
      have mo172 : kv170 = 5 ∨ ¬ kv3 = 5 := ph1_S167.elim Or.inl (fun h => Or.inr (mo112.resolve_left h))
      have mo173 : kv170 = 5 ∨ ¬ x12 = (12 : Int32) := ph1_S167.elim Or.inl (fun h => Or.inr (mo113.resolve_left h))
      have mo174 : kv170 = 5 ∨ ¬ kv17 = 5 := ph1_S167.elim Or.inl (fun h => Or.inr (mo114.resolve_left h))
      have mo175 : kv170 = 5 ∨ (0 ≤ x21 ∧ x21 < kv9) := ph1_S167.elim Or.inl (fun h => Or.inr (mo115.resolve_left h))
      have mo176 : kv170 = 5 ∨ ¬ kv25 = 5 := ph1_S167.elim Or.inl (fun h => Or.inr (mo116.resolve_left h))
      have mo177 : kv170 = 5 ∨ ¬ kv34 = 5 := ph1_S167.elim Or.inl (fun h => Or.inr (mo117.resolve_left h))
      have mo178 : kv170 = 5 ∨ ¬ kv44 = 5 := ph1_S167.elim Or.inl (fun h => Or.inr (mo118.resolve_left h))
      have mo179 : kv170 = 5 ∨ ¬ kv56 = 5 := ph1_S167.elim Or.inl (fun h => Or.inr (mo119.resolve_left h))
      have mo180 : kv170 = 5 ∨ (0 ≤ x66 ∧ x66 < kv9) := ph1_S167.elim Or.inl (fun h => Or.inr (mo120.resolve_left h))
      have mo181 : kv170 = 5 ∨ ¬ x79 = 5 := ph1_S167.elim Or.inl (fun h => Or.inr (mo121.resolve_left h))
      have mo182 : kv170 = 5 ∨ ¬ kv95 = 5 := ph1_S167.elim Or.inl (fun h => Or.inr (ph1_S108.resolve_left h))
      obtain ⟨kv183, d_kv183⟩ : ∃ z : Int32, z = fI S167 v0 8 := ⟨_, rfl⟩
      have r_kv183 : (0 : Int32) ≤ kv183 ∧ kv183 ≤ (900 : Int32) := by rw [d_kv183]; exact nu 25 rfl hI o_v0
      have ph2_S167 : kv122 ≤ kv183 ∧ (kv170 = 4 → kv122 < kv183 ∨ kv111 = 4) := by rw [do165_kv122, do165_kv111, d_kv183, d_kv170]; exact pg2_S167
      intro _
      refine u_X11_readRoad_85 ?_
      refine ⟨o_v0, ?_⟩
      intro x184 ex184
      have q_x184 : x184 = kv170 := ex184.trans d_kv170.symm
      have mo185 : x184 = 5 ∨ ¬ kv3 = 5 := mo172.imp_left (fun z => q_x184.trans z)
      have mo186 : x184 = 5 ∨ ¬ x12 = (12 : Int32) := mo173.imp_left (fun z => q_x184.trans z)
      have mo187 : x184 = 5 ∨ ¬ kv17 = 5 := mo174.imp_left (fun z => q_x184.trans z)
      have mo188 : x184 = 5 ∨ (0 ≤ x21 ∧ x21 < kv9) := mo175.imp_left (fun z => q_x184.trans z)
      have mo189 : x184 = 5 ∨ ¬ kv25 = 5 := mo176.imp_left (fun z => q_x184.trans z)
      have mo190 : x184 = 5 ∨ ¬ kv34 = 5 := mo177.imp_left (fun z => q_x184.trans z)
      have mo191 : x184 = 5 ∨ ¬ kv44 = 5 := mo178.imp_left (fun z => q_x184.trans z)
      have mo192 : x184 = 5 ∨ ¬ kv56 = 5 := mo179.imp_left (fun z => q_x184.trans z)
      have mo193 : x184 = 5 ∨ (0 ≤ x66 ∧ x66 < kv9) := mo180.imp_left (fun z => q_x184.trans z)
      have mo194 : x184 = 5 ∨ ¬ x79 = 5 := mo181.imp_left (fun z => q_x184.trans z)
      have mo195 : x184 = 5 ∨ ¬ kv95 = 5 := mo182.imp_left (fun z => q_x184.trans z)
      have mo196 : x184 = 5 ∨ ¬ kv111 = 5 := ph1_S167.imp_left (fun z => q_x184.trans z)
      have d_x184 := ex184
      refine ⟨fun c197 => ?_, fun c197 => ?_⟩
      · refine ⟨a7, ea7, ?_⟩
        refine ⟨o_a7, ?_⟩
        intro x199 ex199
        have r_x199 : (0 : Int32) ≤ x199 ∧ x199 ≤ (12 : Int32) := by rw [ex199]; exact nu 19 rfl hI o_a7
        have q_x199 : x199 = x12 := ex199.trans d_x12.symm
        have d_x199 := ex199
        refine ⟨a7, ea7, ?_⟩
        refine ⟨o_a7, ?_⟩
        obtain ⟨a201, ea201, o_a201, l_a201⟩ := shl 35 rfl hI o_a7
        refine ⟨a201, ea201, ?_⟩
        refine ⟨o_a201, ?_⟩
        have i202 : vp_in x199 (hN _ a201) := (vin l_a201 (m := 12) (by decide) (qr387 hiv4 r_kv8 r_kv9 r_kv10 hnf r_x12 mo185 mo186 mo187 mo188 mo189 mo190 mo191 mo192 mo193 q_x79 c89 mo194 mo195 bb_x107 c123 mo196 q_x184 c197 r_x199 q_x199))
        refine ⟨i202, ?_⟩
        intro S203 eS203
        have hIn : IV S203 := by rw [eS203]; exact iv10_aI hI o_a7 (rg_nw hG ea7) ea201 o_a201 (by decide)
        have hG := rg_a (jj := 13) (x := x199) eS203 hI ea7 o_a7 ea201 o_a201 (by decide) (h1_one (c := 3) (lo := 0) (hi := 7) (hf := 2) (by decide) d_x199.symm) (h2_no (y := 0) (by decide)) hG
        have hn := rn_11 eS203 hI o_v0 o_a201 (by decide) hn
        have hI := hIn
        have f0 := fr_A eS203 g0 f0 o_a201 (by decide)
        have d_kv8 := rd_Ik eS203 o_a201 o_a7 (by decide) d_kv8
        have d_kv9 := rd_Ik eS203 o_a201 o_a7 (by decide) d_kv9
        have d_kv10 := rd_Ik eS203 o_a201 o_a7 (by decide) d_kv10
        have d_x199 := rd_Ik eS203 o_a201 o_a7 (by decide) d_x199
        have d_x184 := rd_Ik eS203 o_a201 o_v0 (by decide) d_x184
        have d_kv171 := rd_Ik eS203 o_a201 o_v0 (by decide) d_kv171
        have d_kv183 := rd_Ik eS203 o_a201 o_v0 (by decide) d_kv183
        have ea7 := rf_I eS203 ea7
        have ea201 := rf_I eS203 ea201
        have l_a201 := ln_I eS203 l_a201
        have g0 := gr_I eS203 g0
        have o_a201 := ob_I eS203 o_a201
        have o_a7 := ob_I eS203 o_a7
        have o_v0 := ob_I eS203 o_v0
        have el204 : fI S203 a201 x199.toNatClampNeg = x21 := by rw [eS203]; exact u2_self _ _ _ _
        refine ⟨a7, ea7, ?_⟩
        refine ⟨o_a7, ?_⟩
        obtain ⟨a206, ea206, o_a206, l_a206⟩ := shl 36 rfl hI o_a7
        refine ⟨a206, ea206, ?_⟩
        refine ⟨o_a206, ?_⟩
        have i207 : vp_in x199 (hN _ a206) := (vin l_a206 (m := 12) (by decide) (qr387 hiv4 r_kv8 r_kv9 r_kv10 hnf r_x12 mo185 mo186 mo187 mo188 mo189 mo190 mo191 mo192 mo193 q_x79 c89 mo194 mo195 bb_x107 c123 mo196 q_x184 c197 r_x199 q_x199))
        refine ⟨i207, ?_⟩
        intro S208 eS208
        have hIn : IV S208 := by rw [eS208]; exact iv10_aI hI o_a7 (rg_nw hG ea7) ea206 o_a206 (by decide)
        have hG := rg_a (jj := 14) (x := x199) eS208 hI ea7 o_a7 ea206 o_a206 (by decide) (h1_one (c := 3) (lo := 0) (hi := 7) (hf := 2) (by decide) d_x199.symm) (h2_no (y := 0) (by decide)) hG
        have hn := rn_11 eS208 hI o_v0 o_a206 (by decide) hn
        have el204 := el_ar eS208 (ow_ne hI o_a7 (by decide) o_a7 (by decide) ea206 ea201 (by decide)) el204
        have hI := hIn
        have f0 := fr_A eS208 g0 f0 o_a206 (by decide)
        have d_kv8 := rd_Ik eS208 o_a206 o_a7 (by decide) d_kv8
        have d_kv9 := rd_Ik eS208 o_a206 o_a7 (by decide) d_kv9
        have d_kv10 := rd_Ik eS208 o_a206 o_a7 (by decide) d_kv10
        have d_x199 := rd_Ik eS208 o_a206 o_a7 (by decide) d_x199
        have d_x184 := rd_Ik eS208 o_a206 o_v0 (by decide) d_x184
        have d_kv171 := rd_Ik eS208 o_a206 o_v0 (by decide) d_kv171
        have d_kv183 := rd_Ik eS208 o_a206 o_v0 (by decide) d_kv183
        have ea7 := rf_I eS208 ea7
        have ea201 := rf_I eS208 ea201
        have ea206 := rf_I eS208 ea206
        have l_a201 := ln_I eS208 l_a201
        have l_a206 := ln_I eS208 l_a206
        have g0 := gr_I eS208 g0
        have o_a201 := ob_I eS208 o_a201
        have o_a206 := ob_I eS208 o_a206
        have o_a7 := ob_I eS208 o_a7
        have o_v0 := ob_I eS208 o_v0
        have el209 : fI S208 a206 x199.toNatClampNeg = x66 := by rw [eS208]; exact u2_self _ _ _ _
        refine ⟨a7, ea7, ?_⟩
        refine ⟨o_a7, ?_⟩
        obtain ⟨a211, ea211, o_a211, l_a211⟩ := shl 37 rfl hI o_a7
        refine ⟨a211, ea211, ?_⟩
        refine ⟨o_a211, ?_⟩
        have i212 : vp_in x199 (hN _ a211) := (vin l_a211 (m := 12) (by decide) (qr387 hiv4 r_kv8 r_kv9 r_kv10 hnf r_x12 mo185 mo186 mo187 mo188 mo189 mo190 mo191 mo192 mo193 q_x79 c89 mo194 mo195 bb_x107 c123 mo196 q_x184 c197 r_x199 q_x199))
        refine ⟨i212, ?_⟩
        intro S213 eS213
        have hIn : IV S213 := by rw [eS213]; exact iv10_aI hI o_a7 (rg_nw hG ea7) ea211 o_a211 (by decide)
        have hG := rg_a (jj := 15) (x := x199) eS213 hI ea7 o_a7 ea211 o_a211 (by decide) (h1_no (by decide)) (h2_no (y := 0) (by decide)) hG
        have hn := rn_11 eS213 hI o_v0 o_a211 (by decide) hn
        have el204 := el_ar eS213 (ow_ne hI o_a7 (by decide) o_a7 (by decide) ea211 ea201 (by decide)) el204
        have el209 := el_ar eS213 (ow_ne hI o_a7 (by decide) o_a7 (by decide) ea211 ea206 (by decide)) el209
        have hI := hIn
        have f0 := fr_A eS213 g0 f0 o_a211 (by decide)
        have d_kv8 := rd_Ik eS213 o_a211 o_a7 (by decide) d_kv8
        have d_kv9 := rd_Ik eS213 o_a211 o_a7 (by decide) d_kv9
        have d_kv10 := rd_Ik eS213 o_a211 o_a7 (by decide) d_kv10
        have d_x199 := rd_Ik eS213 o_a211 o_a7 (by decide) d_x199
        have d_x184 := rd_Ik eS213 o_a211 o_v0 (by decide) d_x184
        have d_kv171 := rd_Ik eS213 o_a211 o_v0 (by decide) d_kv171
        have d_kv183 := rd_Ik eS213 o_a211 o_v0 (by decide) d_kv183
        have ea7 := rf_I eS213 ea7
        have ea201 := rf_I eS213 ea201
        have ea206 := rf_I eS213 ea206
        have ea211 := rf_I eS213 ea211
        have l_a201 := ln_I eS213 l_a201
        have l_a206 := ln_I eS213 l_a206
        have l_a211 := ln_I eS213 l_a211
        have g0 := gr_I eS213 g0
        have o_a201 := ob_I eS213 o_a201
        have o_a206 := ob_I eS213 o_a206
        have o_a211 := ob_I eS213 o_a211
        have o_a7 := ob_I eS213 o_a7
        have o_v0 := ob_I eS213 o_v0
        refine ⟨a7, ea7, ?_⟩
        refine ⟨o_a7, ?_⟩
        obtain ⟨a215, ea215, o_a215, l_a215⟩ := shl 38 rfl hI o_a7
        refine ⟨a215, ea215, ?_⟩
        refine ⟨o_a215, ?_⟩
        have i216 : vp_in x199 (hN _ a215) := (vin l_a215 (m := 12) (by decide) (qr387 hiv4 r_kv8 r_kv9 r_kv10 hnf r_x12 mo185 mo186 mo187 mo188 mo189 mo190 mo191 mo192 mo193 q_x79 c89 mo194 mo195 bb_x107 c123 mo196 q_x184 c197 r_x199 q_x199))
        refine ⟨i216, ?_⟩
        intro S217 eS217
        have hIn : IV S217 := by rw [eS217]; exact iv10_aI hI o_a7 (rg_nw hG ea7) ea215 o_a215 (by decide)
        have hG := rg_a (jj := 16) (x := x199) eS217 hI ea7 o_a7 ea215 o_a215 (by decide) (h1_one (c := 3) (lo := 1) (hi := 60) (hf := 99) (by decide) d_x199.symm) (h2_no (y := 0) (by decide)) hG
        have hn := rn_11 eS217 hI o_v0 o_a215 (by decide) hn
        have el204 := el_ar eS217 (ow_ne hI o_a7 (by decide) o_a7 (by decide) ea215 ea201 (by decide)) el204
        have el209 := el_ar eS217 (ow_ne hI o_a7 (by decide) o_a7 (by decide) ea215 ea206 (by decide)) el209
        have hI := hIn
        have f0 := fr_A eS217 g0 f0 o_a215 (by decide)
        have d_kv8 := rd_Ik eS217 o_a215 o_a7 (by decide) d_kv8
        have d_kv9 := rd_Ik eS217 o_a215 o_a7 (by decide) d_kv9
        have d_kv10 := rd_Ik eS217 o_a215 o_a7 (by decide) d_kv10
        have d_x199 := rd_Ik eS217 o_a215 o_a7 (by decide) d_x199
        have d_x184 := rd_Ik eS217 o_a215 o_v0 (by decide) d_x184
        have d_kv171 := rd_Ik eS217 o_a215 o_v0 (by decide) d_kv171
        have d_kv183 := rd_Ik eS217 o_a215 o_v0 (by decide) d_kv183
        have ea7 := rf_I eS217 ea7
        have ea201 := rf_I eS217 ea201
        have ea206 := rf_I eS217 ea206
        have ea211 := rf_I eS217 ea211
        have ea215 := rf_I eS217 ea215
        have l_a201 := ln_I eS217 l_a201
        have l_a206 := ln_I eS217 l_a206
        have l_a211 := ln_I eS217 l_a211
        have l_a215 := ln_I eS217 l_a215
        have g0 := gr_I eS217 g0
        have o_a201 := ob_I eS217 o_a201
        have o_a206 := ob_I eS217 o_a206
        have o_a211 := ob_I eS217 o_a211
        have o_a215 := ob_I eS217 o_a215
        have o_a7 := ob_I eS217 o_a7
        have o_v0 := ob_I eS217 o_v0
        have el218 : fI S217 a215 x199.toNatClampNeg = x52 := by rw [eS217]; exact u2_self _ _ _ _
        refine ⟨a7, ea7, ?_⟩
        refine ⟨o_a7, ?_⟩
        obtain ⟨a220, ea220, o_a220, l_a220⟩ := shl 39 rfl hI o_a7
        refine ⟨a220, ea220, ?_⟩
        refine ⟨o_a220, ?_⟩
        have i221 : vp_in x199 (hN _ a220) := (vin l_a220 (m := 12) (by decide) (qr387 hiv4 r_kv8 r_kv9 r_kv10 hnf r_x12 mo185 mo186 mo187 mo188 mo189 mo190 mo191 mo192 mo193 q_x79 c89 mo194 mo195 bb_x107 c123 mo196 q_x184 c197 r_x199 q_x199))
        refine ⟨i221, ?_⟩
        intro S222 eS222
        have hIn : IV S222 := by rw [eS222]; exact iv10_aI hI o_a7 (rg_nw hG ea7) ea220 o_a220 (by decide)
        have hG := rg_a (jj := 17) (x := x199) eS222 hI ea7 o_a7 ea220 o_a220 (by decide) (h1_no (by decide)) (h2_no (y := 0) (by decide)) hG
        have hn := rn_11 eS222 hI o_v0 o_a220 (by decide) hn
        have el204 := el_ar eS222 (ow_ne hI o_a7 (by decide) o_a7 (by decide) ea220 ea201 (by decide)) el204
        have el209 := el_ar eS222 (ow_ne hI o_a7 (by decide) o_a7 (by decide) ea220 ea206 (by decide)) el209
        have el218 := el_ar eS222 (ow_ne hI o_a7 (by decide) o_a7 (by decide) ea220 ea215 (by decide)) el218
        have hI := hIn
        have f0 := fr_A eS222 g0 f0 o_a220 (by decide)
        have d_kv8 := rd_Ik eS222 o_a220 o_a7 (by decide) d_kv8
        have d_kv9 := rd_Ik eS222 o_a220 o_a7 (by decide) d_kv9
        have d_kv10 := rd_Ik eS222 o_a220 o_a7 (by decide) d_kv10
        have d_x199 := rd_Ik eS222 o_a220 o_a7 (by decide) d_x199
        have d_x184 := rd_Ik eS222 o_a220 o_v0 (by decide) d_x184
        have d_kv171 := rd_Ik eS222 o_a220 o_v0 (by decide) d_kv171
        have d_kv183 := rd_Ik eS222 o_a220 o_v0 (by decide) d_kv183
        have ea7 := rf_I eS222 ea7
        have ea201 := rf_I eS222 ea201
        have ea206 := rf_I eS222 ea206
        have ea211 := rf_I eS222 ea211
        have ea215 := rf_I eS222 ea215
        have ea220 := rf_I eS222 ea220
        have l_a201 := ln_I eS222 l_a201
        have l_a206 := ln_I eS222 l_a206
        have l_a211 := ln_I eS222 l_a211
        have l_a215 := ln_I eS222 l_a215
        have l_a220 := ln_I eS222 l_a220
        have g0 := gr_I eS222 g0
        have o_a201 := ob_I eS222 o_a201
        have o_a206 := ob_I eS222 o_a206
        have o_a211 := ob_I eS222 o_a211
        have o_a215 := ob_I eS222 o_a215
        have o_a220 := ob_I eS222 o_a220
        have o_a7 := ob_I eS222 o_a7
        have o_v0 := ob_I eS222 o_v0
        refine ⟨a7, ea7, ?_⟩
        refine ⟨o_a7, ?_⟩
        intro x224 ex224
        have r_x224 : (0 : Int32) ≤ x224 ∧ x224 ≤ (12 : Int32) := by rw [ex224]; exact nu 19 rfl hI o_a7
        have q_x224 : x224 = x199 := ex224.trans d_x199.symm
        have d_x224 := ex224
        intro x225 ex225
        intro S226 eS226
        have hIn : IV S226 := by rw [eS226]; exact iv10_sI hI o_a7 (rg_nw hG ea7) (nu_one (lo := (0 : Int32)) (hi := (12 : Int32)) (by decide) (qr388 hiv4 r_kv8 r_kv9 r_kv10 hnf r_x12 mo185 mo186 mo187 mo188 mo189 mo190 mo191 mo192 mo193 q_x79 c89 mo194 mo195 bb_x107 c123 mo196 q_x184 c197 r_x199 q_x199 r_x224 q_x224 ex225))
        have hG := rg_inc (c := 3) (y := x224) eS226 hI ea7 o_a7 d_x224.symm (qr389 hiv4 r_kv8 r_kv9 r_kv10 hnf r_x12 mo185 mo186 mo187 mo188 mo189 mo190 mo191 mo192 mo193 q_x79 c89 mo194 mo195 bb_x107 c123 mo196 q_x184 c197 r_x199 q_x199 r_x224 q_x224 ex225) (qr390 hiv4 r_kv8 r_kv9 r_kv10 hnf r_x12 mo185 mo186 mo187 mo188 mo189 mo190 mo191 mo192 mo193 q_x79 c89 mo194 mo195 bb_x107 c123 mo196 q_x184 c197 r_x199 q_x199 r_x224 q_x224 ex225) (hn_3 ea201 (by rw [show x224 = x199 from (qr391 hiv4 r_kv8 r_kv9 r_kv10 hnf r_x12 mo185 mo186 mo187 mo188 mo189 mo190 mo191 mo192 mo193 q_x79 c89 mo194 mo195 bb_x107 c123 mo196 q_x184 c197 r_x199 q_x199 r_x224 q_x224 ex225), el204]; exact ⟨(qr392 hiv4 r_kv8 r_kv9 r_kv10 hnf r_x12 mo185 mo186 mo187 mo188 mo189 mo190 mo191 mo192 mo193 q_x79 c89 mo194 mo195 bb_x107 c123 mo196 q_x184 c197 r_x199 q_x199 r_x224 q_x224 ex225), (qr393 hiv4 r_kv8 r_kv9 r_kv10 hnf r_x12 mo185 mo186 mo187 mo188 mo189 mo190 mo191 mo192 mo193 q_x79 c89 mo194 mo195 bb_x107 c123 mo196 q_x184 c197 r_x199 q_x199 r_x224 q_x224 ex225), Or.inr (by rw [← d_kv9]; exact (qr394 hiv4 r_kv8 r_kv9 r_kv10 hnf r_x12 mo185 mo186 mo187 mo188 mo189 mo190 mo191 mo192 mo193 q_x79 c89 mo194 mo195 bb_x107 c123 mo196 q_x184 c197 r_x199 q_x199 r_x224 q_x224 ex225))⟩) ea206 (by rw [show x224 = x199 from (qr391 hiv4 r_kv8 r_kv9 r_kv10 hnf r_x12 mo185 mo186 mo187 mo188 mo189 mo190 mo191 mo192 mo193 q_x79 c89 mo194 mo195 bb_x107 c123 mo196 q_x184 c197 r_x199 q_x199 r_x224 q_x224 ex225), el209]; exact ⟨(qr395 hiv4 r_kv8 r_kv9 r_kv10 hnf r_x12 mo185 mo186 mo187 mo188 mo189 mo190 mo191 mo192 mo193 q_x79 c89 mo194 mo195 bb_x107 c123 mo196 q_x184 c197 r_x199 q_x199 r_x224 q_x224 ex225), (qr396 hiv4 r_kv8 r_kv9 r_kv10 hnf r_x12 mo185 mo186 mo187 mo188 mo189 mo190 mo191 mo192 mo193 q_x79 c89 mo194 mo195 bb_x107 c123 mo196 q_x184 c197 r_x199 q_x199 r_x224 q_x224 ex225), Or.inr (by rw [← d_kv9]; exact (qr397 hiv4 r_kv8 r_kv9 r_kv10 hnf r_x12 mo185 mo186 mo187 mo188 mo189 mo190 mo191 mo192 mo193 q_x79 c89 mo194 mo195 bb_x107 c123 mo196 q_x184 c197 r_x199 q_x199 r_x224 q_x224 ex225))⟩) ea215 (by rw [show x224 = x199 from (qr391 hiv4 r_kv8 r_kv9 r_kv10 hnf r_x12 mo185 mo186 mo187 mo188 mo189 mo190 mo191 mo192 mo193 q_x79 c89 mo194 mo195 bb_x107 c123 mo196 q_x184 c197 r_x199 q_x199 r_x224 q_x224 ex225), el218]; exact ⟨(qr398 hiv4 r_kv8 r_kv9 r_kv10 hnf r_x12 mo185 mo186 mo187 mo188 mo189 mo190 mo191 p_x52 mo192 mo193 q_x79 c89 mo194 mo195 bb_x107 c123 mo196 p_x166 q_x184 c197 r_x199 q_x199 r_x224 q_x224 ex225), (qr399 hiv4 r_kv8 r_kv9 r_kv10 hnf r_x12 mo185 mo186 mo187 mo188 mo189 mo190 mo191 p_x52 mo192 mo193 q_x79 c89 mo194 mo195 bb_x107 c123 mo196 p_x166 q_x184 c197 r_x199 q_x199 r_x224 q_x224 ex225), Or.inl rfl⟩)) (fun z _ hz => Or.inl (by rw [eS226] at hz; exact hs_no2 (by decide) z hz)) hG
        have hn := rn_c eS226 (by decide) hn
        have el204 := el_ob eS226 o_a7 o_a201 (by decide) el204
        have el209 := el_ob eS226 o_a7 o_a206 (by decide) el209
        have el218 := el_ob eS226 o_a7 o_a215 (by decide) el218
        have hI := hIn
        have f0 := fr_I eS226 g0 f0 o_a7 (by decide)
        have d_kv8 := rd_Ij eS226 (by decide) d_kv8
        have d_kv9 := rd_Ij eS226 (by decide) d_kv9
        have d_kv10 := rd_Ij eS226 (by decide) d_kv10
        have d_x184 := rd_Ik eS226 o_a7 o_v0 (by decide) d_x184
        have d_kv171 := rd_Ik eS226 o_a7 o_v0 (by decide) d_kv171
        have d_kv183 := rd_Ik eS226 o_a7 o_v0 (by decide) d_kv183
        have d_x225 := rd_Is eS226 (rfl : x225 = x225)
        have ea7 := rf_I eS226 ea7
        have ea201 := rf_I eS226 ea201
        have ea206 := rf_I eS226 ea206
        have ea211 := rf_I eS226 ea211
        have ea215 := rf_I eS226 ea215
        have ea220 := rf_I eS226 ea220
        have l_a201 := ln_I eS226 l_a201
        have l_a206 := ln_I eS226 l_a206
        have l_a211 := ln_I eS226 l_a211
        have l_a215 := ln_I eS226 l_a215
        have l_a220 := ln_I eS226 l_a220
        have g0 := gr_I eS226 g0
        have o_a201 := ob_I eS226 o_a201
        have o_a206 := ob_I eS226 o_a206
        have o_a211 := ob_I eS226 o_a211
        have o_a215 := ob_I eS226 o_a215
        have o_a220 := ob_I eS226 o_a220
        have o_a7 := ob_I eS226 o_a7
        have o_v0 := ob_I eS226 o_v0
        exact hq _ hI g0 f0 ⟨hG, hn, (by have t : x184 = 5 → 0 < kv171 := (qr400 hiv4 hiv6 hO r_kv8 r_kv9 r_kv10 hnf r_x12 ph0_S14 mo185 mo186 ph0_S22 mo187 mo188 hiv29 ph0_S31 mo189 ph0_S41 mo190 ph0_S53 mo191 ph0_S67 mo192 mo193 q_x79 c89 hiv90 ph0_S92 mo194 hiv106 ph0_S108 mo195 bb_x107 c123 ph0_S167 mo196 q_x184 c197 r_x199 q_x199 r_x224 q_x224 ex225); rw [d_x184, d_kv171] at t; exact t), (by have t : x184 = 5 ∨ ¬ iv4 = 5 := (qr401 hiv4 r_kv8 r_kv9 r_kv10 hnf r_x12 mo185 mo186 mo187 mo188 mo189 mo190 mo191 mo192 mo193 q_x79 c89 mo194 mo195 bb_x107 c123 mo196 q_x184 c197 r_x199 q_x199 r_x224 q_x224 ex225); rw [di_9, d_x184] at t; exact t), (by have t : iv2 ≤ kv183 ∧ (x184 = 4 → iv2 < kv183 ∨ iv4 = 4) := (qr402 r_kv1 hiv2 hiv4 r_kv8 r_kv9 r_kv10 hnf r_x12 mo185 r_kv19 ph2_S14 mo186 hiv20 mo187 ph2_S22 mo188 mo189 r_kv39 ph2_S31 mo190 r_kv51 ph2_S41 mo191 r_kv64 ph2_S53 hiv65 mo192 ph2_S67 mo193 q_x79 c89 mo194 r_kv105 ph2_S92 mo195 r_kv122 ph2_S108 bb_x107 c123 mo196 r_kv183 ph2_S167 q_x184 c197 r_x199 q_x199 r_x224 q_x224 ex225); rw [di_8, di_9, d_kv183, d_x184] at t; exact t)⟩
      · exact hq _ hI g0 f0 ⟨hG, hn, (by have t : x184 = 5 → 0 < kv171 := (qr403 hiv4 hiv6 hO r_kv8 r_kv9 r_kv10 hnf r_x12 ph0_S14 mo185 mo186 ph0_S22 mo187 mo188 hiv29 ph0_S31 mo189 ph0_S41 mo190 ph0_S53 mo191 ph0_S67 mo192 mo193 q_x79 c89 hiv90 ph0_S92 mo194 hiv106 ph0_S108 mo195 bb_x107 c123 ph0_S167 mo196 q_x184 c197); rw [d_x184, d_kv171] at t; exact t), (by have t : x184 = 5 ∨ ¬ iv4 = 5 := (qr404 hiv4 r_kv8 r_kv9 r_kv10 hnf r_x12 mo185 mo186 mo187 mo188 mo189 mo190 mo191 mo192 mo193 q_x79 c89 mo194 mo195 bb_x107 c123 mo196 q_x184 c197); rw [di_9, d_x184] at t; exact t), (by have t : iv2 ≤ kv183 ∧ (x184 = 4 → iv2 < kv183 ∨ iv4 = 4) := (qr405 r_kv1 hiv2 hiv4 r_kv8 r_kv9 r_kv10 hnf r_x12 mo185 r_kv19 ph2_S14 mo186 hiv20 mo187 ph2_S22 mo188 mo189 r_kv39 ph2_S31 mo190 r_kv51 ph2_S41 mo191 r_kv64 ph2_S53 hiv65 mo192 ph2_S67 mo193 q_x79 c89 mo194 r_kv105 ph2_S92 mo195 r_kv122 ph2_S108 bb_x107 c123 mo196 r_kv183 ph2_S167 q_x184 c197); rw [di_8, di_9, d_kv183, d_x184] at t; exact t)⟩
  · refine ⟨fun c227 => ?_, fun c227 => ?_⟩
    · refine u_X11_readRoad_62 ?_
      refine ⟨o_v0, ?_⟩
      obtain ⟨iv228, hiv228⟩ : ∃ z : Int32, z = kv71 := ⟨_, rfl⟩
      have d_iv228 := hiv228.trans d_kv71
      have do228_kv64 := d_kv64
      have do228_x79 := d_x79
      have do228_iv228 := d_iv228
      refine m_X11_goesOn hI o_v0 hG (by have t : x79 = 5 → 0 < kv71 := (qr406 hiv4 hiv6 hO r_kv8 r_kv9 r_kv10 hnf r_x12 ph0_S14 mo80 mo81 ph0_S22 mo82 mo83 hiv29 ph0_S31 mo84 ph0_S41 mo85 ph0_S53 mo86 ph0_S67 mo87 mo88 q_x79 c89 c227); rw [d_x79, d_kv71] at t; exact t) (fun S230 hJ g231 fc232 p_S230 => ?_)
      obtain ⟨hG, pg0_S230, pg1_S230, pg2_S230⟩ := p_S230
      have hn := rn_fr fc232 g231 hI o_v0 (by decide) hn
      have hI := hJ
      have d_kv8 := d_kv8.trans (fri_at fc232 (by decide) (by decide) o_a7).symm
      have d_kv9 := d_kv9.trans (fri_at fc232 (by decide) (by decide) o_a7).symm
      have d_kv10 := d_kv10.trans (fri_at fc232 (by decide) (by decide) o_a7).symm
      have d_x12 := d_x12.trans (fri_at fc232 (by decide) (by decide) o_a7).symm
      have d_kv71 := d_kv71.trans (fri_at fc232 (by decide) (by decide) o_v0).symm
      have ea7 := (frr_at fc232 (by decide) (by decide) o_v0).trans ea7
      have f0 := fri_tr (S := S67) g0 f0 fc232 (by decide) (by decide)
      have o_a7 := gr_ob g231 o_a7
      have o_v0 := gr_ob g231 o_v0
      have g0 := gr_tr (T := S67) g0 g231
      obtain ⟨kv233, d_kv233⟩ : ∃ z : Int32, z = fI S230 v0 9 := ⟨_, rfl⟩
      have ph0_S230 : kv233 = 5 → 0 < kv71 := by rw [d_kv233, d_kv71]; exact pg0_S230
      have ph1_S230 : kv233 = 5 ∨ ¬ x79 = 5 := by rw [do228_x79, d_kv233]; exact pg1_S230
      have mo234 : kv233 = 5 ∨ ¬ kv3 = 5 := ph1_S230.elim Or.inl (fun h => Or.inr (mo80.resolve_left h))
      have mo235 : kv233 = 5 ∨ ¬ x12 = (12 : Int32) := ph1_S230.elim Or.inl (fun h => Or.inr (mo81.resolve_left h))
      have mo236 : kv233 = 5 ∨ ¬ kv17 = 5 := ph1_S230.elim Or.inl (fun h => Or.inr (mo82.resolve_left h))
      have mo237 : kv233 = 5 ∨ (0 ≤ x21 ∧ x21 < kv9) := ph1_S230.elim Or.inl (fun h => Or.inr (mo83.resolve_left h))
      have mo238 : kv233 = 5 ∨ ¬ kv25 = 5 := ph1_S230.elim Or.inl (fun h => Or.inr (mo84.resolve_left h))
      have mo239 : kv233 = 5 ∨ ¬ kv34 = 5 := ph1_S230.elim Or.inl (fun h => Or.inr (mo85.resolve_left h))
      have mo240 : kv233 = 5 ∨ ¬ kv44 = 5 := ph1_S230.elim Or.inl (fun h => Or.inr (mo86.resolve_left h))
      have mo241 : kv233 = 5 ∨ ¬ kv56 = 5 := ph1_S230.elim Or.inl (fun h => Or.inr (mo87.resolve_left h))
      have mo242 : kv233 = 5 ∨ (0 ≤ x66 ∧ x66 < kv9) := ph1_S230.elim Or.inl (fun h => Or.inr (mo88.resolve_left h))
      obtain ⟨kv243, d_kv243⟩ : ∃ z : Int32, z = fI S230 v0 8 := ⟨_, rfl⟩
      have r_kv243 : (0 : Int32) ≤ kv243 ∧ kv243 ≤ (900 : Int32) := by rw [d_kv243]; exact nu 25 rfl hI o_v0
      have ph2_S230 : kv64 ≤ kv243 ∧ (kv233 = 4 → kv64 < kv243 ∨ x79 = 4) := by rw [do228_kv64, do228_x79, d_kv243, d_kv233]; exact pg2_S230
      intro _
      obtain ⟨iv244, hiv244⟩ : ∃ z : Int32, z = kv71 := ⟨_, rfl⟩
      have d_iv244 := hiv244.trans d_kv71
      have do244_kv243 := d_kv243
      have do244_kv233 := d_kv233
      have do244_iv244 := d_iv244
      refine m_X11_eatsWord hI o_v0 (by decide) hG (by have t : kv233 = 5 → 0 < kv71 := (qr407 hiv4 hiv6 hO r_kv8 r_kv9 r_kv10 hnf r_x12 ph0_S14 mo234 mo235 ph0_S22 mo236 mo237 hiv29 ph0_S31 mo238 ph0_S41 mo239 ph0_S53 mo240 ph0_S67 mo241 mo242 q_x79 c89 c227 hiv228 ph0_S230 ph1_S230); rw [d_kv233, d_kv71] at t; exact t) (fun x245 S246 hJ g247 fc248 b_x245 p_x245 => ?_)
      obtain ⟨hG, pg0_S246, pg1_S246, pg2_S246⟩ := p_x245
      have hn := rn_fr fc248 g247 hI o_v0 (by decide) hn
      have hI := hJ
      have d_kv8 := d_kv8.trans (fri_at fc248 (by decide) (by decide) o_a7).symm
      have d_kv9 := d_kv9.trans (fri_at fc248 (by decide) (by decide) o_a7).symm
      have d_kv10 := d_kv10.trans (fri_at fc248 (by decide) (by decide) o_a7).symm
      have d_x12 := d_x12.trans (fri_at fc248 (by decide) (by decide) o_a7).symm
      have d_kv71 := d_kv71.trans (fri_at fc248 (by decide) (by decide) o_v0).symm
      have ea7 := (frr_at fc248 (by decide) (by decide) o_v0).trans ea7
      have f0 := fri_tr (S := S230) g0 f0 fc248 (by decide) (by decide)
      have o_a7 := gr_ob g247 o_a7
      have o_v0 := gr_ob g247 o_v0
      have g0 := gr_tr (T := S230) g0 g247
      obtain ⟨kv249, d_kv249⟩ : ∃ z : Int32, z = fI S246 v0 9 := ⟨_, rfl⟩
      have ph0_S246 : kv249 = 5 → 0 < kv71 := by rw [d_kv249, d_kv71]; exact pg0_S246
      have ph1_S246 : kv249 = 5 ∨ ¬ kv233 = 5 := by rw [do244_kv233, d_kv249]; exact pg1_S246
      have mo250 : kv249 = 5 ∨ ¬ kv3 = 5 := ph1_S246.elim Or.inl (fun h => Or.inr (mo234.resolve_left h))
      have mo251 : kv249 = 5 ∨ ¬ x12 = (12 : Int32) := ph1_S246.elim Or.inl (fun h => Or.inr (mo235.resolve_left h))
      have mo252 : kv249 = 5 ∨ ¬ kv17 = 5 := ph1_S246.elim Or.inl (fun h => Or.inr (mo236.resolve_left h))
      have mo253 : kv249 = 5 ∨ (0 ≤ x21 ∧ x21 < kv9) := ph1_S246.elim Or.inl (fun h => Or.inr (mo237.resolve_left h))
      have mo254 : kv249 = 5 ∨ ¬ kv25 = 5 := ph1_S246.elim Or.inl (fun h => Or.inr (mo238.resolve_left h))
      have mo255 : kv249 = 5 ∨ ¬ kv34 = 5 := ph1_S246.elim Or.inl (fun h => Or.inr (mo239.resolve_left h))
      have mo256 : kv249 = 5 ∨ ¬ kv44 = 5 := ph1_S246.elim Or.inl (fun h => Or.inr (mo240.resolve_left h))
      have mo257 : kv249 = 5 ∨ ¬ kv56 = 5 := ph1_S246.elim Or.inl (fun h => Or.inr (mo241.resolve_left h))
      have mo258 : kv249 = 5 ∨ (0 ≤ x66 ∧ x66 < kv9) := ph1_S246.elim Or.inl (fun h => Or.inr (mo242.resolve_left h))
      have mo259 : kv249 = 5 ∨ ¬ x79 = 5 := ph1_S246.elim Or.inl (fun h => Or.inr (ph1_S230.resolve_left h))
      obtain ⟨kv260, d_kv260⟩ : ∃ z : Int32, z = fI S246 v0 8 := ⟨_, rfl⟩
      have r_kv260 : (0 : Int32) ≤ kv260 ∧ kv260 ≤ (900 : Int32) := by rw [d_kv260]; exact nu 25 rfl hI o_v0
      have ph2_S246 : kv243 ≤ kv260 ∧ (kv249 = 4 → kv243 < kv260 ∨ kv233 = 4) := by rw [do244_kv243, do244_kv233, d_kv260, d_kv249]; exact pg2_S246
      intro _ _
      have bb_x245 : x245 = 0 ∨ x245 = 1 := b_x245
      refine ⟨fun c261 => ?_, fun c261 => ?_⟩
      · refine u_X11_readRoad_85 ?_
        refine ⟨o_v0, ?_⟩
        intro x262 ex262
        have q_x262 : x262 = kv249 := ex262.trans d_kv249.symm
        have mo263 : x262 = 5 ∨ ¬ kv3 = 5 := mo250.imp_left (fun z => q_x262.trans z)
        have mo264 : x262 = 5 ∨ ¬ x12 = (12 : Int32) := mo251.imp_left (fun z => q_x262.trans z)
        have mo265 : x262 = 5 ∨ ¬ kv17 = 5 := mo252.imp_left (fun z => q_x262.trans z)
        have mo266 : x262 = 5 ∨ (0 ≤ x21 ∧ x21 < kv9) := mo253.imp_left (fun z => q_x262.trans z)
        have mo267 : x262 = 5 ∨ ¬ kv25 = 5 := mo254.imp_left (fun z => q_x262.trans z)
        have mo268 : x262 = 5 ∨ ¬ kv34 = 5 := mo255.imp_left (fun z => q_x262.trans z)
        have mo269 : x262 = 5 ∨ ¬ kv44 = 5 := mo256.imp_left (fun z => q_x262.trans z)
        have mo270 : x262 = 5 ∨ ¬ kv56 = 5 := mo257.imp_left (fun z => q_x262.trans z)
        have mo271 : x262 = 5 ∨ (0 ≤ x66 ∧ x66 < kv9) := mo258.imp_left (fun z => q_x262.trans z)
        have mo272 : x262 = 5 ∨ ¬ x79 = 5 := mo259.imp_left (fun z => q_x262.trans z)
        have mo273 : x262 = 5 ∨ ¬ kv233 = 5 := ph1_S246.imp_left (fun z => q_x262.trans z)
        have d_x262 := ex262
        refine ⟨fun c274 => ?_, fun c274 => ?_⟩
        · refine ⟨a7, ea7, ?_⟩
          refine ⟨o_a7, ?_⟩
          intro x276 ex276
          have r_x276 : (0 : Int32) ≤ x276 ∧ x276 ≤ (12 : Int32) := by rw [ex276]; exact nu 19 rfl hI o_a7
          have q_x276 : x276 = x12 := ex276.trans d_x12.symm
          have d_x276 := ex276
          refine ⟨a7, ea7, ?_⟩
          refine ⟨o_a7, ?_⟩
          obtain ⟨a278, ea278, o_a278, l_a278⟩ := shl 35 rfl hI o_a7
          refine ⟨a278, ea278, ?_⟩
          refine ⟨o_a278, ?_⟩
          have i279 : vp_in x276 (hN _ a278) := (vin l_a278 (m := 12) (by decide) (qr408 hiv4 r_kv8 r_kv9 r_kv10 hnf r_x12 mo263 mo264 mo265 mo266 mo267 mo268 mo269 mo270 mo271 q_x79 c89 c227 mo272 mo273 bb_x245 c261 q_x262 c274 r_x276 q_x276))
          refine ⟨i279, ?_⟩
          intro S280 eS280
          have hIn : IV S280 := by rw [eS280]; exact iv10_aI hI o_a7 (rg_nw hG ea7) ea278 o_a278 (by decide)
          have hG := rg_a (jj := 13) (x := x276) eS280 hI ea7 o_a7 ea278 o_a278 (by decide) (h1_one (c := 3) (lo := 0) (hi := 7) (hf := 2) (by decide) d_x276.symm) (h2_no (y := 0) (by decide)) hG
          have hn := rn_11 eS280 hI o_v0 o_a278 (by decide) hn
          have hI := hIn
          have f0 := fr_A eS280 g0 f0 o_a278 (by decide)
          have d_kv8 := rd_Ik eS280 o_a278 o_a7 (by decide) d_kv8
          have d_kv9 := rd_Ik eS280 o_a278 o_a7 (by decide) d_kv9
          have d_kv10 := rd_Ik eS280 o_a278 o_a7 (by decide) d_kv10
          have d_x276 := rd_Ik eS280 o_a278 o_a7 (by decide) d_x276
          have d_kv71 := rd_Ik eS280 o_a278 o_v0 (by decide) d_kv71
          have d_x262 := rd_Ik eS280 o_a278 o_v0 (by decide) d_x262
          have d_kv260 := rd_Ik eS280 o_a278 o_v0 (by decide) d_kv260
          have ea7 := rf_I eS280 ea7
          have ea278 := rf_I eS280 ea278
          have l_a278 := ln_I eS280 l_a278
          have g0 := gr_I eS280 g0
          have o_a278 := ob_I eS280 o_a278
          have o_a7 := ob_I eS280 o_a7
          have o_v0 := ob_I eS280 o_v0
          have el281 : fI S280 a278 x276.toNatClampNeg = x21 := by rw [eS280]; exact u2_self _ _ _ _
          refine ⟨a7, ea7, ?_⟩
          refine ⟨o_a7, ?_⟩
          obtain ⟨a283, ea283, o_a283, l_a283⟩ := shl 36 rfl hI o_a7
          refine ⟨a283, ea283, ?_⟩
          refine ⟨o_a283, ?_⟩
          have i284 : vp_in x276 (hN _ a283) := (vin l_a283 (m := 12) (by decide) (qr408 hiv4 r_kv8 r_kv9 r_kv10 hnf r_x12 mo263 mo264 mo265 mo266 mo267 mo268 mo269 mo270 mo271 q_x79 c89 c227 mo272 mo273 bb_x245 c261 q_x262 c274 r_x276 q_x276))
          refine ⟨i284, ?_⟩
          intro S285 eS285
          have hIn : IV S285 := by rw [eS285]; exact iv10_aI hI o_a7 (rg_nw hG ea7) ea283 o_a283 (by decide)
          have hG := rg_a (jj := 14) (x := x276) eS285 hI ea7 o_a7 ea283 o_a283 (by decide) (h1_one (c := 3) (lo := 0) (hi := 7) (hf := 2) (by decide) d_x276.symm) (h2_no (y := 0) (by decide)) hG
          have hn := rn_11 eS285 hI o_v0 o_a283 (by decide) hn
          have el281 := el_ar eS285 (ow_ne hI o_a7 (by decide) o_a7 (by decide) ea283 ea278 (by decide)) el281
          have hI := hIn
          have f0 := fr_A eS285 g0 f0 o_a283 (by decide)
          have d_kv8 := rd_Ik eS285 o_a283 o_a7 (by decide) d_kv8
          have d_kv9 := rd_Ik eS285 o_a283 o_a7 (by decide) d_kv9
          have d_kv10 := rd_Ik eS285 o_a283 o_a7 (by decide) d_kv10
          have d_x276 := rd_Ik eS285 o_a283 o_a7 (by decide) d_x276
          have d_kv71 := rd_Ik eS285 o_a283 o_v0 (by decide) d_kv71
          have d_x262 := rd_Ik eS285 o_a283 o_v0 (by decide) d_x262
          have d_kv260 := rd_Ik eS285 o_a283 o_v0 (by decide) d_kv260
          have ea7 := rf_I eS285 ea7
          have ea278 := rf_I eS285 ea278
          have ea283 := rf_I eS285 ea283
          have l_a278 := ln_I eS285 l_a278
          have l_a283 := ln_I eS285 l_a283
          have g0 := gr_I eS285 g0
          have o_a278 := ob_I eS285 o_a278
          have o_a283 := ob_I eS285 o_a283
          have o_a7 := ob_I eS285 o_a7
          have o_v0 := ob_I eS285 o_v0
          have el286 : fI S285 a283 x276.toNatClampNeg = x66 := by rw [eS285]; exact u2_self _ _ _ _
          refine ⟨a7, ea7, ?_⟩
          refine ⟨o_a7, ?_⟩
          obtain ⟨a288, ea288, o_a288, l_a288⟩ := shl 37 rfl hI o_a7
          refine ⟨a288, ea288, ?_⟩
          refine ⟨o_a288, ?_⟩
          have i289 : vp_in x276 (hN _ a288) := (vin l_a288 (m := 12) (by decide) (qr408 hiv4 r_kv8 r_kv9 r_kv10 hnf r_x12 mo263 mo264 mo265 mo266 mo267 mo268 mo269 mo270 mo271 q_x79 c89 c227 mo272 mo273 bb_x245 c261 q_x262 c274 r_x276 q_x276))
          refine ⟨i289, ?_⟩
          intro S290 eS290
          have hIn : IV S290 := by rw [eS290]; exact iv10_aI hI o_a7 (rg_nw hG ea7) ea288 o_a288 (by decide)
          have hG := rg_a (jj := 15) (x := x276) eS290 hI ea7 o_a7 ea288 o_a288 (by decide) (h1_no (by decide)) (h2_no (y := 0) (by decide)) hG
          have hn := rn_11 eS290 hI o_v0 o_a288 (by decide) hn
          have el281 := el_ar eS290 (ow_ne hI o_a7 (by decide) o_a7 (by decide) ea288 ea278 (by decide)) el281
          have el286 := el_ar eS290 (ow_ne hI o_a7 (by decide) o_a7 (by decide) ea288 ea283 (by decide)) el286
          have hI := hIn
          have f0 := fr_A eS290 g0 f0 o_a288 (by decide)
          have d_kv8 := rd_Ik eS290 o_a288 o_a7 (by decide) d_kv8
          have d_kv9 := rd_Ik eS290 o_a288 o_a7 (by decide) d_kv9
          have d_kv10 := rd_Ik eS290 o_a288 o_a7 (by decide) d_kv10
          have d_x276 := rd_Ik eS290 o_a288 o_a7 (by decide) d_x276
          have d_kv71 := rd_Ik eS290 o_a288 o_v0 (by decide) d_kv71
          have d_x262 := rd_Ik eS290 o_a288 o_v0 (by decide) d_x262
          have d_kv260 := rd_Ik eS290 o_a288 o_v0 (by decide) d_kv260
          have ea7 := rf_I eS290 ea7
          have ea278 := rf_I eS290 ea278
          have ea283 := rf_I eS290 ea283
          have ea288 := rf_I eS290 ea288
          have l_a278 := ln_I eS290 l_a278
          have l_a283 := ln_I eS290 l_a283
          have l_a288 := ln_I eS290 l_a288
          have g0 := gr_I eS290 g0
          have o_a278 := ob_I eS290 o_a278
          have o_a283 := ob_I eS290 o_a283
          have o_a288 := ob_I eS290 o_a288
          have o_a7 := ob_I eS290 o_a7
          have o_v0 := ob_I eS290 o_v0
          refine ⟨a7, ea7, ?_⟩
          refine ⟨o_a7, ?_⟩
          obtain ⟨a292, ea292, o_a292, l_a292⟩ := shl 38 rfl hI o_a7
          refine ⟨a292, ea292, ?_⟩
          refine ⟨o_a292, ?_⟩
          have i293 : vp_in x276 (hN _ a292) := (vin l_a292 (m := 12) (by decide) (qr408 hiv4 r_kv8 r_kv9 r_kv10 hnf r_x12 mo263 mo264 mo265 mo266 mo267 mo268 mo269 mo270 mo271 q_x79 c89 c227 mo272 mo273 bb_x245 c261 q_x262 c274 r_x276 q_x276))
          refine ⟨i293, ?_⟩
          intro S294 eS294
          have hIn : IV S294 := by rw [eS294]; exact iv10_aI hI o_a7 (rg_nw hG ea7) ea292 o_a292 (by decide)
          have hG := rg_a (jj := 16) (x := x276) eS294 hI ea7 o_a7 ea292 o_a292 (by decide) (h1_one (c := 3) (lo := 1) (hi := 60) (hf := 99) (by decide) d_x276.symm) (h2_no (y := 0) (by decide)) hG
          have hn := rn_11 eS294 hI o_v0 o_a292 (by decide) hn
          have el281 := el_ar eS294 (ow_ne hI o_a7 (by decide) o_a7 (by decide) ea292 ea278 (by decide)) el281
          have el286 := el_ar eS294 (ow_ne hI o_a7 (by decide) o_a7 (by decide) ea292 ea283 (by decide)) el286
          have hI := hIn
          have f0 := fr_A eS294 g0 f0 o_a292 (by decide)
          have d_kv8 := rd_Ik eS294 o_a292 o_a7 (by decide) d_kv8
          have d_kv9 := rd_Ik eS294 o_a292 o_a7 (by decide) d_kv9
          have d_kv10 := rd_Ik eS294 o_a292 o_a7 (by decide) d_kv10
          have d_x276 := rd_Ik eS294 o_a292 o_a7 (by decide) d_x276
          have d_kv71 := rd_Ik eS294 o_a292 o_v0 (by decide) d_kv71
          have d_x262 := rd_Ik eS294 o_a292 o_v0 (by decide) d_x262
          have d_kv260 := rd_Ik eS294 o_a292 o_v0 (by decide) d_kv260
          have ea7 := rf_I eS294 ea7
          have ea278 := rf_I eS294 ea278
          have ea283 := rf_I eS294 ea283
          have ea288 := rf_I eS294 ea288
          have ea292 := rf_I eS294 ea292
          have l_a278 := ln_I eS294 l_a278
          have l_a283 := ln_I eS294 l_a283
          have l_a288 := ln_I eS294 l_a288
          have l_a292 := ln_I eS294 l_a292
          have g0 := gr_I eS294 g0
          have o_a278 := ob_I eS294 o_a278
          have o_a283 := ob_I eS294 o_a283
          have o_a288 := ob_I eS294 o_a288
          have o_a292 := ob_I eS294 o_a292
          have o_a7 := ob_I eS294 o_a7
          have o_v0 := ob_I eS294 o_v0
          have el295 : fI S294 a292 x276.toNatClampNeg = x52 := by rw [eS294]; exact u2_self _ _ _ _
          refine ⟨a7, ea7, ?_⟩
          refine ⟨o_a7, ?_⟩
          obtain ⟨a297, ea297, o_a297, l_a297⟩ := shl 39 rfl hI o_a7
          refine ⟨a297, ea297, ?_⟩
          refine ⟨o_a297, ?_⟩
          have i298 : vp_in x276 (hN _ a297) := (vin l_a297 (m := 12) (by decide) (qr408 hiv4 r_kv8 r_kv9 r_kv10 hnf r_x12 mo263 mo264 mo265 mo266 mo267 mo268 mo269 mo270 mo271 q_x79 c89 c227 mo272 mo273 bb_x245 c261 q_x262 c274 r_x276 q_x276))
          refine ⟨i298, ?_⟩
          intro S299 eS299
          have hIn : IV S299 := by rw [eS299]; exact iv10_aI hI o_a7 (rg_nw hG ea7) ea297 o_a297 (by decide)
          have hG := rg_a (jj := 17) (x := x276) eS299 hI ea7 o_a7 ea297 o_a297 (by decide) (h1_no (by decide)) (h2_no (y := 0) (by decide)) hG
          have hn := rn_11 eS299 hI o_v0 o_a297 (by decide) hn
          have el281 := el_ar eS299 (ow_ne hI o_a7 (by decide) o_a7 (by decide) ea297 ea278 (by decide)) el281
          have el286 := el_ar eS299 (ow_ne hI o_a7 (by decide) o_a7 (by decide) ea297 ea283 (by decide)) el286
          have el295 := el_ar eS299 (ow_ne hI o_a7 (by decide) o_a7 (by decide) ea297 ea292 (by decide)) el295
          have hI := hIn
          have f0 := fr_A eS299 g0 f0 o_a297 (by decide)
          have d_kv8 := rd_Ik eS299 o_a297 o_a7 (by decide) d_kv8
          have d_kv9 := rd_Ik eS299 o_a297 o_a7 (by decide) d_kv9
          have d_kv10 := rd_Ik eS299 o_a297 o_a7 (by decide) d_kv10
          have d_x276 := rd_Ik eS299 o_a297 o_a7 (by decide) d_x276
          have d_kv71 := rd_Ik eS299 o_a297 o_v0 (by decide) d_kv71
          have d_x262 := rd_Ik eS299 o_a297 o_v0 (by decide) d_x262
          have d_kv260 := rd_Ik eS299 o_a297 o_v0 (by decide) d_kv260
          have ea7 := rf_I eS299 ea7
          have ea278 := rf_I eS299 ea278
          have ea283 := rf_I eS299 ea283
          have ea288 := rf_I eS299 ea288
          have ea292 := rf_I eS299 ea292
          have ea297 := rf_I eS299 ea297
          have l_a278 := ln_I eS299 l_a278
          have l_a283 := ln_I eS299 l_a283
          have l_a288 := ln_I eS299 l_a288
          have l_a292 := ln_I eS299 l_a292
          have l_a297 := ln_I eS299 l_a297
          have g0 := gr_I eS299 g0
          have o_a278 := ob_I eS299 o_a278
          have o_a283 := ob_I eS299 o_a283
          have o_a288 := ob_I eS299 o_a288
          have o_a292 := ob_I eS299 o_a292
          have o_a297 := ob_I eS299 o_a297
          have o_a7 := ob_I eS299 o_a7
          have o_v0 := ob_I eS299 o_v0
          refine ⟨a7, ea7, ?_⟩
          refine ⟨o_a7, ?_⟩
          intro x301 ex301
          have r_x301 : (0 : Int32) ≤ x301 ∧ x301 ≤ (12 : Int32) := by rw [ex301]; exact nu 19 rfl hI o_a7
          have q_x301 : x301 = x276 := ex301.trans d_x276.symm
          have d_x301 := ex301
          intro x302 ex302
          intro S303 eS303
          have hIn : IV S303 := by rw [eS303]; exact iv10_sI hI o_a7 (rg_nw hG ea7) (nu_one (lo := (0 : Int32)) (hi := (12 : Int32)) (by decide) (qr409 hiv4 r_kv8 r_kv9 r_kv10 hnf r_x12 mo263 mo264 mo265 mo266 mo267 mo268 mo269 mo270 mo271 q_x79 c89 c227 mo272 mo273 bb_x245 c261 q_x262 c274 r_x276 q_x276 r_x301 q_x301 ex302))
          have hG := rg_inc (c := 3) (y := x301) eS303 hI ea7 o_a7 d_x301.symm (qr410 hiv4 r_kv8 r_kv9 r_kv10 hnf r_x12 mo263 mo264 mo265 mo266 mo267 mo268 mo269 mo270 mo271 q_x79 c89 c227 mo272 mo273 bb_x245 c261 q_x262 c274 r_x276 q_x276 r_x301 q_x301 ex302) (qr411 hiv4 r_kv8 r_kv9 r_kv10 hnf r_x12 mo263 mo264 mo265 mo266 mo267 mo268 mo269 mo270 mo271 q_x79 c89 c227 mo272 mo273 bb_x245 c261 q_x262 c274 r_x276 q_x276 r_x301 q_x301 ex302) (hn_3 ea278 (by rw [show x301 = x276 from (qr412 hiv4 r_kv8 r_kv9 r_kv10 hnf r_x12 mo263 mo264 mo265 mo266 mo267 mo268 mo269 mo270 mo271 q_x79 c89 c227 mo272 mo273 bb_x245 c261 q_x262 c274 r_x276 q_x276 r_x301 q_x301 ex302), el281]; exact ⟨(qr413 hiv4 r_kv8 r_kv9 r_kv10 hnf r_x12 mo263 mo264 mo265 mo266 mo267 mo268 mo269 mo270 mo271 q_x79 c89 c227 mo272 mo273 bb_x245 c261 q_x262 c274 r_x276 q_x276 r_x301 q_x301 ex302), (qr414 hiv4 r_kv8 r_kv9 r_kv10 hnf r_x12 mo263 mo264 mo265 mo266 mo267 mo268 mo269 mo270 mo271 q_x79 c89 c227 mo272 mo273 bb_x245 c261 q_x262 c274 r_x276 q_x276 r_x301 q_x301 ex302), Or.inr (by rw [← d_kv9]; exact (qr415 hiv4 r_kv8 r_kv9 r_kv10 hnf r_x12 mo263 mo264 mo265 mo266 mo267 mo268 mo269 mo270 mo271 q_x79 c89 c227 mo272 mo273 bb_x245 c261 q_x262 c274 r_x276 q_x276 r_x301 q_x301 ex302))⟩) ea283 (by rw [show x301 = x276 from (qr412 hiv4 r_kv8 r_kv9 r_kv10 hnf r_x12 mo263 mo264 mo265 mo266 mo267 mo268 mo269 mo270 mo271 q_x79 c89 c227 mo272 mo273 bb_x245 c261 q_x262 c274 r_x276 q_x276 r_x301 q_x301 ex302), el286]; exact ⟨(qr416 hiv4 r_kv8 r_kv9 r_kv10 hnf r_x12 mo263 mo264 mo265 mo266 mo267 mo268 mo269 mo270 mo271 q_x79 c89 c227 mo272 mo273 bb_x245 c261 q_x262 c274 r_x276 q_x276 r_x301 q_x301 ex302), (qr417 hiv4 r_kv8 r_kv9 r_kv10 hnf r_x12 mo263 mo264 mo265 mo266 mo267 mo268 mo269 mo270 mo271 q_x79 c89 c227 mo272 mo273 bb_x245 c261 q_x262 c274 r_x276 q_x276 r_x301 q_x301 ex302), Or.inr (by rw [← d_kv9]; exact (qr418 hiv4 r_kv8 r_kv9 r_kv10 hnf r_x12 mo263 mo264 mo265 mo266 mo267 mo268 mo269 mo270 mo271 q_x79 c89 c227 mo272 mo273 bb_x245 c261 q_x262 c274 r_x276 q_x276 r_x301 q_x301 ex302))⟩) ea292 (by rw [show x301 = x276 from (qr412 hiv4 r_kv8 r_kv9 r_kv10 hnf r_x12 mo263 mo264 mo265 mo266 mo267 mo268 mo269 mo270 mo271 q_x79 c89 c227 mo272 mo273 bb_x245 c261 q_x262 c274 r_x276 q_x276 r_x301 q_x301 ex302), el295]; exact ⟨(qr419 hiv4 r_kv8 r_kv9 r_kv10 hnf r_x12 mo263 mo264 mo265 mo266 mo267 mo268 mo269 p_x52 mo270 mo271 q_x79 c89 c227 mo272 mo273 bb_x245 c261 q_x262 c274 r_x276 q_x276 r_x301 q_x301 ex302), (qr420 hiv4 r_kv8 r_kv9 r_kv10 hnf r_x12 mo263 mo264 mo265 mo266 mo267 mo268 mo269 p_x52 mo270 mo271 q_x79 c89 c227 mo272 mo273 bb_x245 c261 q_x262 c274 r_x276 q_x276 r_x301 q_x301 ex302), Or.inl rfl⟩)) (fun z _ hz => Or.inl (by rw [eS303] at hz; exact hs_no2 (by decide) z hz)) hG
          have hn := rn_c eS303 (by decide) hn
          have el281 := el_ob eS303 o_a7 o_a278 (by decide) el281
          have el286 := el_ob eS303 o_a7 o_a283 (by decide) el286
          have el295 := el_ob eS303 o_a7 o_a292 (by decide) el295
          have hI := hIn
          have f0 := fr_I eS303 g0 f0 o_a7 (by decide)
          have d_kv8 := rd_Ij eS303 (by decide) d_kv8
          have d_kv9 := rd_Ij eS303 (by decide) d_kv9
          have d_kv10 := rd_Ij eS303 (by decide) d_kv10
          have d_kv71 := rd_Ik eS303 o_a7 o_v0 (by decide) d_kv71
          have d_x262 := rd_Ik eS303 o_a7 o_v0 (by decide) d_x262
          have d_kv260 := rd_Ik eS303 o_a7 o_v0 (by decide) d_kv260
          have d_x302 := rd_Is eS303 (rfl : x302 = x302)
          have ea7 := rf_I eS303 ea7
          have ea278 := rf_I eS303 ea278
          have ea283 := rf_I eS303 ea283
          have ea288 := rf_I eS303 ea288
          have ea292 := rf_I eS303 ea292
          have ea297 := rf_I eS303 ea297
          have l_a278 := ln_I eS303 l_a278
          have l_a283 := ln_I eS303 l_a283
          have l_a288 := ln_I eS303 l_a288
          have l_a292 := ln_I eS303 l_a292
          have l_a297 := ln_I eS303 l_a297
          have g0 := gr_I eS303 g0
          have o_a278 := ob_I eS303 o_a278
          have o_a283 := ob_I eS303 o_a283
          have o_a288 := ob_I eS303 o_a288
          have o_a292 := ob_I eS303 o_a292
          have o_a297 := ob_I eS303 o_a297
          have o_a7 := ob_I eS303 o_a7
          have o_v0 := ob_I eS303 o_v0
          exact hq _ hI g0 f0 ⟨hG, hn, (by have t : x262 = 5 → 0 < kv71 := (qr421 hiv4 hiv6 hO r_kv8 r_kv9 r_kv10 hnf r_x12 ph0_S14 mo263 mo264 ph0_S22 mo265 mo266 hiv29 ph0_S31 mo267 ph0_S41 mo268 ph0_S53 mo269 ph0_S67 mo270 mo271 q_x79 c89 c227 hiv228 ph0_S230 mo272 hiv244 ph0_S246 mo273 bb_x245 c261 q_x262 c274 r_x276 q_x276 r_x301 q_x301 ex302); rw [d_x262, d_kv71] at t; exact t), (by have t : x262 = 5 ∨ ¬ iv4 = 5 := (qr422 hiv4 r_kv8 r_kv9 r_kv10 hnf r_x12 mo263 mo264 mo265 mo266 mo267 mo268 mo269 mo270 mo271 q_x79 c89 c227 mo272 mo273 bb_x245 c261 q_x262 c274 r_x276 q_x276 r_x301 q_x301 ex302); rw [di_9, d_x262] at t; exact t), (by have t : iv2 ≤ kv260 ∧ (x262 = 4 → iv2 < kv260 ∨ iv4 = 4) := (qr423 r_kv1 hiv2 hiv4 r_kv8 r_kv9 r_kv10 hnf r_x12 mo263 r_kv19 ph2_S14 mo264 hiv20 mo265 ph2_S22 mo266 mo267 r_kv39 ph2_S31 mo268 r_kv51 ph2_S41 mo269 r_kv64 ph2_S53 hiv65 mo270 ph2_S67 mo271 q_x79 c89 c227 mo272 r_kv243 ph2_S230 mo273 r_kv260 ph2_S246 bb_x245 c261 q_x262 c274 r_x276 q_x276 r_x301 q_x301 ex302); rw [di_8, di_9, d_kv260, d_x262] at t; exact t)⟩
        · exact hq _ hI g0 f0 ⟨hG, hn, (by have t : x262 = 5 → 0 < kv71 := (qr424 hiv4 hiv6 hO r_kv8 r_kv9 r_kv10 hnf r_x12 ph0_S14 mo263 mo264 ph0_S22 mo265 mo266 hiv29 ph0_S31 mo267 ph0_S41 mo268 ph0_S53 mo269 ph0_S67 mo270 mo271 q_x79 c89 c227 hiv228 ph0_S230 mo272 hiv244 ph0_S246 mo273 bb_x245 c261 q_x262 c274); rw [d_x262, d_kv71] at t; exact t), (by have t : x262 = 5 ∨ ¬ iv4 = 5 := (qr425 hiv4 r_kv8 r_kv9 r_kv10 hnf r_x12 mo263 mo264 mo265 mo266 mo267 mo268 mo269 mo270 mo271 q_x79 c89 c227 mo272 mo273 bb_x245 c261 q_x262 c274); rw [di_9, d_x262] at t; exact t), (by have t : iv2 ≤ kv260 ∧ (x262 = 4 → iv2 < kv260 ∨ iv4 = 4) := (qr426 r_kv1 hiv2 hiv4 r_kv8 r_kv9 r_kv10 hnf r_x12 mo263 r_kv19 ph2_S14 mo264 hiv20 mo265 ph2_S22 mo266 mo267 r_kv39 ph2_S31 mo268 r_kv51 ph2_S41 mo269 r_kv64 ph2_S53 hiv65 mo270 ph2_S67 mo271 q_x79 c89 c227 mo272 r_kv243 ph2_S230 mo273 r_kv260 ph2_S246 bb_x245 c261 q_x262 c274); rw [di_8, di_9, d_kv260, d_x262] at t; exact t)⟩
      · have do303_kv260 := d_kv260
        have do303_kv249 := d_kv249
        have do303_kv71 := d_kv71
        refine m_X11_readWhole hI o_v0 hG (by have t : kv249 = 5 → 0 < kv71 := (qr427 hiv4 hiv6 hO r_kv8 r_kv9 r_kv10 hnf r_x12 ph0_S14 mo250 mo251 ph0_S22 mo252 mo253 hiv29 ph0_S31 mo254 ph0_S41 mo255 ph0_S53 mo256 ph0_S67 mo257 mo258 q_x79 c89 c227 hiv228 ph0_S230 mo259 hiv244 ph0_S246 ph1_S246 bb_x245 c261); rw [d_kv249, d_kv71] at t; exact t) (fun x304 S305 hJ g306 fc307 p_x304 => ?_)
        obtain ⟨hG, p_x304, pg0_S305, pg1_S305, pg2_S305⟩ := p_x304
        have hn := rn_fr fc307 g306 hI o_v0 (by decide) hn
        have hI := hJ
        have d_kv8 := d_kv8.trans (fri_at fc307 (by decide) (by decide) o_a7).symm
        have d_kv9 := d_kv9.trans (fri_at fc307 (by decide) (by decide) o_a7).symm
        have d_kv10 := d_kv10.trans (fri_at fc307 (by decide) (by decide) o_a7).symm
        have d_x12 := d_x12.trans (fri_at fc307 (by decide) (by decide) o_a7).symm
        have ea7 := (frr_at fc307 (by decide) (by decide) o_v0).trans ea7
        have f0 := fri_tr (S := S246) g0 f0 fc307 (by decide) (by decide)
        have o_a7 := gr_ob g306 o_a7
        have o_v0 := gr_ob g306 o_v0
        have g0 := gr_tr (T := S246) g0 g306
        obtain ⟨kv308, d_kv308⟩ : ∃ z : Int32, z = fI S305 v0 9 := ⟨_, rfl⟩
        obtain ⟨kv309, d_kv309⟩ : ∃ z : Int32, z = fI S305 v0 13 := ⟨_, rfl⟩
        have ph0_S305 : kv308 = 5 → 0 < kv309 := by rw [d_kv308, d_kv309]; exact pg0_S305
        have ph1_S305 : kv308 = 5 ∨ ¬ kv249 = 5 := by rw [do303_kv249, d_kv308]; exact pg1_S305
        have mo310 : kv308 = 5 ∨ ¬ kv3 = 5 := ph1_S305.elim Or.inl (fun h => Or.inr (mo250.resolve_left h))
        have mo311 : kv308 = 5 ∨ ¬ x12 = (12 : Int32) := ph1_S305.elim Or.inl (fun h => Or.inr (mo251.resolve_left h))
        have mo312 : kv308 = 5 ∨ ¬ kv17 = 5 := ph1_S305.elim Or.inl (fun h => Or.inr (mo252.resolve_left h))
        have mo313 : kv308 = 5 ∨ (0 ≤ x21 ∧ x21 < kv9) := ph1_S305.elim Or.inl (fun h => Or.inr (mo253.resolve_left h))
        have mo314 : kv308 = 5 ∨ ¬ kv25 = 5 := ph1_S305.elim Or.inl (fun h => Or.inr (mo254.resolve_left h))
        have mo315 : kv308 = 5 ∨ ¬ kv34 = 5 := ph1_S305.elim Or.inl (fun h => Or.inr (mo255.resolve_left h))
        have mo316 : kv308 = 5 ∨ ¬ kv44 = 5 := ph1_S305.elim Or.inl (fun h => Or.inr (mo256.resolve_left h))
        have mo317 : kv308 = 5 ∨ ¬ kv56 = 5 := ph1_S305.elim Or.inl (fun h => Or.inr (mo257.resolve_left h))
        have mo318 : kv308 = 5 ∨ (0 ≤ x66 ∧ x66 < kv9) := ph1_S305.elim Or.inl (fun h => Or.inr (mo258.resolve_left h))
        have mo319 : kv308 = 5 ∨ ¬ x79 = 5 := ph1_S305.elim Or.inl (fun h => Or.inr (mo259.resolve_left h))
        have mo320 : kv308 = 5 ∨ ¬ kv233 = 5 := ph1_S305.elim Or.inl (fun h => Or.inr (ph1_S246.resolve_left h))
        obtain ⟨kv321, d_kv321⟩ : ∃ z : Int32, z = fI S305 v0 8 := ⟨_, rfl⟩
        have r_kv321 : (0 : Int32) ≤ kv321 ∧ kv321 ≤ (900 : Int32) := by rw [d_kv321]; exact nu 25 rfl hI o_v0
        have ph2_S305 : kv260 ≤ kv321 ∧ (kv308 = 4 → kv260 < kv321 ∨ kv249 = 4) := by rw [do303_kv260, do303_kv249, d_kv321, d_kv308]; exact pg2_S305
        intro _
        refine u_X11_readRoad_85 ?_
        refine ⟨o_v0, ?_⟩
        intro x322 ex322
        have q_x322 : x322 = kv308 := ex322.trans d_kv308.symm
        have mo323 : x322 = 5 ∨ ¬ kv3 = 5 := mo310.imp_left (fun z => q_x322.trans z)
        have mo324 : x322 = 5 ∨ ¬ x12 = (12 : Int32) := mo311.imp_left (fun z => q_x322.trans z)
        have mo325 : x322 = 5 ∨ ¬ kv17 = 5 := mo312.imp_left (fun z => q_x322.trans z)
        have mo326 : x322 = 5 ∨ (0 ≤ x21 ∧ x21 < kv9) := mo313.imp_left (fun z => q_x322.trans z)
        have mo327 : x322 = 5 ∨ ¬ kv25 = 5 := mo314.imp_left (fun z => q_x322.trans z)
        have mo328 : x322 = 5 ∨ ¬ kv34 = 5 := mo315.imp_left (fun z => q_x322.trans z)
        have mo329 : x322 = 5 ∨ ¬ kv44 = 5 := mo316.imp_left (fun z => q_x322.trans z)
        have mo330 : x322 = 5 ∨ ¬ kv56 = 5 := mo317.imp_left (fun z => q_x322.trans z)
        have mo331 : x322 = 5 ∨ (0 ≤ x66 ∧ x66 < kv9) := mo318.imp_left (fun z => q_x322.trans z)
        have mo332 : x322 = 5 ∨ ¬ x79 = 5 := mo319.imp_left (fun z => q_x322.trans z)
        have mo333 : x322 = 5 ∨ ¬ kv233 = 5 := mo320.imp_left (fun z => q_x322.trans z)
        have mo334 : x322 = 5 ∨ ¬ kv249 = 5 := ph1_S305.imp_left (fun z => q_x322.trans z)
        have d_x322 := ex322
        refine ⟨fun c335 => ?_, fun c335 => ?_⟩
        · refine ⟨a7, ea7, ?_⟩
          refine ⟨o_a7, ?_⟩
          intro x337 ex337
          have r_x337 : (0 : Int32) ≤ x337 ∧ x337 ≤ (12 : Int32) := by rw [ex337]; exact nu 19 rfl hI o_a7
          have q_x337 : x337 = x12 := ex337.trans d_x12.symm
          have d_x337 := ex337
          refine ⟨a7, ea7, ?_⟩
          refine ⟨o_a7, ?_⟩
          obtain ⟨a339, ea339, o_a339, l_a339⟩ := shl 35 rfl hI o_a7
          refine ⟨a339, ea339, ?_⟩
          refine ⟨o_a339, ?_⟩
          have i340 : vp_in x337 (hN _ a339) := (vin l_a339 (m := 12) (by decide) (qr428 hiv4 r_kv8 r_kv9 r_kv10 hnf r_x12 mo323 mo324 mo325 mo326 mo327 mo328 mo329 mo330 mo331 q_x79 c89 c227 mo332 mo333 bb_x245 c261 mo334 q_x322 c335 r_x337 q_x337))
          refine ⟨i340, ?_⟩
          intro S341 eS341
          have hIn : IV S341 := by rw [eS341]; exact iv10_aI hI o_a7 (rg_nw hG ea7) ea339 o_a339 (by decide)
          have hG := rg_a (jj := 13) (x := x337) eS341 hI ea7 o_a7 ea339 o_a339 (by decide) (h1_one (c := 3) (lo := 0) (hi := 7) (hf := 2) (by decide) d_x337.symm) (h2_no (y := 0) (by decide)) hG
          have hn := rn_11 eS341 hI o_v0 o_a339 (by decide) hn
          have hI := hIn
          have f0 := fr_A eS341 g0 f0 o_a339 (by decide)
          have d_kv8 := rd_Ik eS341 o_a339 o_a7 (by decide) d_kv8
          have d_kv9 := rd_Ik eS341 o_a339 o_a7 (by decide) d_kv9
          have d_kv10 := rd_Ik eS341 o_a339 o_a7 (by decide) d_kv10
          have d_x337 := rd_Ik eS341 o_a339 o_a7 (by decide) d_x337
          have d_x322 := rd_Ik eS341 o_a339 o_v0 (by decide) d_x322
          have d_kv309 := rd_Ik eS341 o_a339 o_v0 (by decide) d_kv309
          have d_kv321 := rd_Ik eS341 o_a339 o_v0 (by decide) d_kv321
          have ea7 := rf_I eS341 ea7
          have ea339 := rf_I eS341 ea339
          have l_a339 := ln_I eS341 l_a339
          have g0 := gr_I eS341 g0
          have o_a339 := ob_I eS341 o_a339
          have o_a7 := ob_I eS341 o_a7
          have o_v0 := ob_I eS341 o_v0
          have el342 : fI S341 a339 x337.toNatClampNeg = x21 := by rw [eS341]; exact u2_self _ _ _ _
          refine ⟨a7, ea7, ?_⟩
          refine ⟨o_a7, ?_⟩
          obtain ⟨a344, ea344, o_a344, l_a344⟩ := shl 36 rfl hI o_a7
          refine ⟨a344, ea344, ?_⟩
          refine ⟨o_a344, ?_⟩
          have i345 : vp_in x337 (hN _ a344) := (vin l_a344 (m := 12) (by decide) (qr428 hiv4 r_kv8 r_kv9 r_kv10 hnf r_x12 mo323 mo324 mo325 mo326 mo327 mo328 mo329 mo330 mo331 q_x79 c89 c227 mo332 mo333 bb_x245 c261 mo334 q_x322 c335 r_x337 q_x337))
          refine ⟨i345, ?_⟩
          intro S346 eS346
          have hIn : IV S346 := by rw [eS346]; exact iv10_aI hI o_a7 (rg_nw hG ea7) ea344 o_a344 (by decide)
          have hG := rg_a (jj := 14) (x := x337) eS346 hI ea7 o_a7 ea344 o_a344 (by decide) (h1_one (c := 3) (lo := 0) (hi := 7) (hf := 2) (by decide) d_x337.symm) (h2_no (y := 0) (by decide)) hG
          have hn := rn_11 eS346 hI o_v0 o_a344 (by decide) hn
          have el342 := el_ar eS346 (ow_ne hI o_a7 (by decide) o_a7 (by decide) ea344 ea339 (by decide)) el342
          have hI := hIn
          have f0 := fr_A eS346 g0 f0 o_a344 (by decide)
          have d_kv8 := rd_Ik eS346 o_a344 o_a7 (by decide) d_kv8
          have d_kv9 := rd_Ik eS346 o_a344 o_a7 (by decide) d_kv9
          have d_kv10 := rd_Ik eS346 o_a344 o_a7 (by decide) d_kv10
          have d_x337 := rd_Ik eS346 o_a344 o_a7 (by decide) d_x337
          have d_x322 := rd_Ik eS346 o_a344 o_v0 (by decide) d_x322
          have d_kv309 := rd_Ik eS346 o_a344 o_v0 (by decide) d_kv309
          have d_kv321 := rd_Ik eS346 o_a344 o_v0 (by decide) d_kv321
          have ea7 := rf_I eS346 ea7
          have ea339 := rf_I eS346 ea339
          have ea344 := rf_I eS346 ea344
          have l_a339 := ln_I eS346 l_a339
          have l_a344 := ln_I eS346 l_a344
          have g0 := gr_I eS346 g0
          have o_a339 := ob_I eS346 o_a339
          have o_a344 := ob_I eS346 o_a344
          have o_a7 := ob_I eS346 o_a7
          have o_v0 := ob_I eS346 o_v0
          have el347 : fI S346 a344 x337.toNatClampNeg = x66 := by rw [eS346]; exact u2_self _ _ _ _
          refine ⟨a7, ea7, ?_⟩
          refine ⟨o_a7, ?_⟩
          obtain ⟨a349, ea349, o_a349, l_a349⟩ := shl 37 rfl hI o_a7
          refine ⟨a349, ea349, ?_⟩
          refine ⟨o_a349, ?_⟩
          have i350 : vp_in x337 (hN _ a349) := (vin l_a349 (m := 12) (by decide) (qr428 hiv4 r_kv8 r_kv9 r_kv10 hnf r_x12 mo323 mo324 mo325 mo326 mo327 mo328 mo329 mo330 mo331 q_x79 c89 c227 mo332 mo333 bb_x245 c261 mo334 q_x322 c335 r_x337 q_x337))
          refine ⟨i350, ?_⟩
          intro S351 eS351
          have hIn : IV S351 := by rw [eS351]; exact iv10_aI hI o_a7 (rg_nw hG ea7) ea349 o_a349 (by decide)
          have hG := rg_a (jj := 15) (x := x337) eS351 hI ea7 o_a7 ea349 o_a349 (by decide) (h1_no (by decide)) (h2_no (y := 0) (by decide)) hG
          have hn := rn_11 eS351 hI o_v0 o_a349 (by decide) hn
          have el342 := el_ar eS351 (ow_ne hI o_a7 (by decide) o_a7 (by decide) ea349 ea339 (by decide)) el342
          have el347 := el_ar eS351 (ow_ne hI o_a7 (by decide) o_a7 (by decide) ea349 ea344 (by decide)) el347
          have hI := hIn
          have f0 := fr_A eS351 g0 f0 o_a349 (by decide)
          have d_kv8 := rd_Ik eS351 o_a349 o_a7 (by decide) d_kv8
          have d_kv9 := rd_Ik eS351 o_a349 o_a7 (by decide) d_kv9
          have d_kv10 := rd_Ik eS351 o_a349 o_a7 (by decide) d_kv10
          have d_x337 := rd_Ik eS351 o_a349 o_a7 (by decide) d_x337
          have d_x322 := rd_Ik eS351 o_a349 o_v0 (by decide) d_x322
          have d_kv309 := rd_Ik eS351 o_a349 o_v0 (by decide) d_kv309
          have d_kv321 := rd_Ik eS351 o_a349 o_v0 (by decide) d_kv321
          have ea7 := rf_I eS351 ea7
          have ea339 := rf_I eS351 ea339
          have ea344 := rf_I eS351 ea344
          have ea349 := rf_I eS351 ea349
          have l_a339 := ln_I eS351 l_a339
          have l_a344 := ln_I eS351 l_a344
          have l_a349 := ln_I eS351 l_a349
          have g0 := gr_I eS351 g0
          have o_a339 := ob_I eS351 o_a339
          have o_a344 := ob_I eS351 o_a344
          have o_a349 := ob_I eS351 o_a349
          have o_a7 := ob_I eS351 o_a7
          have o_v0 := ob_I eS351 o_v0
          refine ⟨a7, ea7, ?_⟩
          refine ⟨o_a7, ?_⟩
          obtain ⟨a353, ea353, o_a353, l_a353⟩ := shl 38 rfl hI o_a7
          refine ⟨a353, ea353, ?_⟩
          refine ⟨o_a353, ?_⟩
          have i354 : vp_in x337 (hN _ a353) := (vin l_a353 (m := 12) (by decide) (qr428 hiv4 r_kv8 r_kv9 r_kv10 hnf r_x12 mo323 mo324 mo325 mo326 mo327 mo328 mo329 mo330 mo331 q_x79 c89 c227 mo332 mo333 bb_x245 c261 mo334 q_x322 c335 r_x337 q_x337))
          refine ⟨i354, ?_⟩
          intro S355 eS355
          have hIn : IV S355 := by rw [eS355]; exact iv10_aI hI o_a7 (rg_nw hG ea7) ea353 o_a353 (by decide)
          have hG := rg_a (jj := 16) (x := x337) eS355 hI ea7 o_a7 ea353 o_a353 (by decide) (h1_one (c := 3) (lo := 1) (hi := 60) (hf := 99) (by decide) d_x337.symm) (h2_no (y := 0) (by decide)) hG
          have hn := rn_11 eS355 hI o_v0 o_a353 (by decide) hn
          have el342 := el_ar eS355 (ow_ne hI o_a7 (by decide) o_a7 (by decide) ea353 ea339 (by decide)) el342
          have el347 := el_ar eS355 (ow_ne hI o_a7 (by decide) o_a7 (by decide) ea353 ea344 (by decide)) el347
          have hI := hIn
          have f0 := fr_A eS355 g0 f0 o_a353 (by decide)
          have d_kv8 := rd_Ik eS355 o_a353 o_a7 (by decide) d_kv8
          have d_kv9 := rd_Ik eS355 o_a353 o_a7 (by decide) d_kv9
          have d_kv10 := rd_Ik eS355 o_a353 o_a7 (by decide) d_kv10
          have d_x337 := rd_Ik eS355 o_a353 o_a7 (by decide) d_x337
          have d_x322 := rd_Ik eS355 o_a353 o_v0 (by decide) d_x322
          have d_kv309 := rd_Ik eS355 o_a353 o_v0 (by decide) d_kv309
          have d_kv321 := rd_Ik eS355 o_a353 o_v0 (by decide) d_kv321
          have ea7 := rf_I eS355 ea7
          have ea339 := rf_I eS355 ea339
          have ea344 := rf_I eS355 ea344
          have ea349 := rf_I eS355 ea349
          have ea353 := rf_I eS355 ea353
          have l_a339 := ln_I eS355 l_a339
          have l_a344 := ln_I eS355 l_a344
          have l_a349 := ln_I eS355 l_a349
          have l_a353 := ln_I eS355 l_a353
          have g0 := gr_I eS355 g0
          have o_a339 := ob_I eS355 o_a339
          have o_a344 := ob_I eS355 o_a344
          have o_a349 := ob_I eS355 o_a349
          have o_a353 := ob_I eS355 o_a353
          have o_a7 := ob_I eS355 o_a7
          have o_v0 := ob_I eS355 o_v0
          have el356 : fI S355 a353 x337.toNatClampNeg = x52 := by rw [eS355]; exact u2_self _ _ _ _
          refine ⟨a7, ea7, ?_⟩
          refine ⟨o_a7, ?_⟩
          obtain ⟨a358, ea358, o_a358, l_a358⟩ := shl 39 rfl hI o_a7
          refine ⟨a358, ea358, ?_⟩
          refine ⟨o_a358, ?_⟩
          have i359 : vp_in x337 (hN _ a358) := (vin l_a358 (m := 12) (by decide) (qr428 hiv4 r_kv8 r_kv9 r_kv10 hnf r_x12 mo323 mo324 mo325 mo326 mo327 mo328 mo329 mo330 mo331 q_x79 c89 c227 mo332 mo333 bb_x245 c261 mo334 q_x322 c335 r_x337 q_x337))
          refine ⟨i359, ?_⟩
          intro S360 eS360
          have hIn : IV S360 := by rw [eS360]; exact iv10_aI hI o_a7 (rg_nw hG ea7) ea358 o_a358 (by decide)
          have hG := rg_a (jj := 17) (x := x337) eS360 hI ea7 o_a7 ea358 o_a358 (by decide) (h1_no (by decide)) (h2_no (y := 0) (by decide)) hG
          have hn := rn_11 eS360 hI o_v0 o_a358 (by decide) hn
          have el342 := el_ar eS360 (ow_ne hI o_a7 (by decide) o_a7 (by decide) ea358 ea339 (by decide)) el342
          have el347 := el_ar eS360 (ow_ne hI o_a7 (by decide) o_a7 (by decide) ea358 ea344 (by decide)) el347
          have el356 := el_ar eS360 (ow_ne hI o_a7 (by decide) o_a7 (by decide) ea358 ea353 (by decide)) el356
          have hI := hIn
          have f0 := fr_A eS360 g0 f0 o_a358 (by decide)
          have d_kv8 := rd_Ik eS360 o_a358 o_a7 (by decide) d_kv8
          have d_kv9 := rd_Ik eS360 o_a358 o_a7 (by decide) d_kv9
          have d_kv10 := rd_Ik eS360 o_a358 o_a7 (by decide) d_kv10
          have d_x337 := rd_Ik eS360 o_a358 o_a7 (by decide) d_x337
          have d_x322 := rd_Ik eS360 o_a358 o_v0 (by decide) d_x322
          have d_kv309 := rd_Ik eS360 o_a358 o_v0 (by decide) d_kv309
          have d_kv321 := rd_Ik eS360 o_a358 o_v0 (by decide) d_kv321
          have ea7 := rf_I eS360 ea7
          have ea339 := rf_I eS360 ea339
          have ea344 := rf_I eS360 ea344
          have ea349 := rf_I eS360 ea349
          have ea353 := rf_I eS360 ea353
          have ea358 := rf_I eS360 ea358
          have l_a339 := ln_I eS360 l_a339
          have l_a344 := ln_I eS360 l_a344
          have l_a349 := ln_I eS360 l_a349
          have l_a353 := ln_I eS360 l_a353
          have l_a358 := ln_I eS360 l_a358
          have g0 := gr_I eS360 g0
          have o_a339 := ob_I eS360 o_a339
          have o_a344 := ob_I eS360 o_a344
          have o_a349 := ob_I eS360 o_a349
          have o_a353 := ob_I eS360 o_a353
          have o_a358 := ob_I eS360 o_a358
          have o_a7 := ob_I eS360 o_a7
          have o_v0 := ob_I eS360 o_v0
          refine ⟨a7, ea7, ?_⟩
          refine ⟨o_a7, ?_⟩
          intro x362 ex362
          have r_x362 : (0 : Int32) ≤ x362 ∧ x362 ≤ (12 : Int32) := by rw [ex362]; exact nu 19 rfl hI o_a7
          have q_x362 : x362 = x337 := ex362.trans d_x337.symm
          have d_x362 := ex362
          intro x363 ex363
          intro S364 eS364
          have hIn : IV S364 := by rw [eS364]; exact iv10_sI hI o_a7 (rg_nw hG ea7) (nu_one (lo := (0 : Int32)) (hi := (12 : Int32)) (by decide) (qr429 hiv4 r_kv8 r_kv9 r_kv10 hnf r_x12 mo323 mo324 mo325 mo326 mo327 mo328 mo329 mo330 mo331 q_x79 c89 c227 mo332 mo333 bb_x245 c261 mo334 q_x322 c335 r_x337 q_x337 r_x362 q_x362 ex363))
          have hG := rg_inc (c := 3) (y := x362) eS364 hI ea7 o_a7 d_x362.symm (qr430 hiv4 r_kv8 r_kv9 r_kv10 hnf r_x12 mo323 mo324 mo325 mo326 mo327 mo328 mo329 mo330 mo331 q_x79 c89 c227 mo332 mo333 bb_x245 c261 mo334 q_x322 c335 r_x337 q_x337 r_x362 q_x362 ex363) (qr431 hiv4 r_kv8 r_kv9 r_kv10 hnf r_x12 mo323 mo324 mo325 mo326 mo327 mo328 mo329 mo330 mo331 q_x79 c89 c227 mo332 mo333 bb_x245 c261 mo334 q_x322 c335 r_x337 q_x337 r_x362 q_x362 ex363) (hn_3 ea339 (by rw [show x362 = x337 from (qr432 hiv4 r_kv8 r_kv9 r_kv10 hnf r_x12 mo323 mo324 mo325 mo326 mo327 mo328 mo329 mo330 mo331 q_x79 c89 c227 mo332 mo333 bb_x245 c261 mo334 q_x322 c335 r_x337 q_x337 r_x362 q_x362 ex363), el342]; exact ⟨(qr433 hiv4 r_kv8 r_kv9 r_kv10 hnf r_x12 mo323 mo324 mo325 mo326 mo327 mo328 mo329 mo330 mo331 q_x79 c89 c227 mo332 mo333 bb_x245 c261 mo334 q_x322 c335 r_x337 q_x337 r_x362 q_x362 ex363), (qr434 hiv4 r_kv8 r_kv9 r_kv10 hnf r_x12 mo323 mo324 mo325 mo326 mo327 mo328 mo329 mo330 mo331 q_x79 c89 c227 mo332 mo333 bb_x245 c261 mo334 q_x322 c335 r_x337 q_x337 r_x362 q_x362 ex363), Or.inr (by rw [← d_kv9]; exact (qr435 hiv4 r_kv8 r_kv9 r_kv10 hnf r_x12 mo323 mo324 mo325 mo326 mo327 mo328 mo329 mo330 mo331 q_x79 c89 c227 mo332 mo333 bb_x245 c261 mo334 q_x322 c335 r_x337 q_x337 r_x362 q_x362 ex363))⟩) ea344 (by rw [show x362 = x337 from (qr432 hiv4 r_kv8 r_kv9 r_kv10 hnf r_x12 mo323 mo324 mo325 mo326 mo327 mo328 mo329 mo330 mo331 q_x79 c89 c227 mo332 mo333 bb_x245 c261 mo334 q_x322 c335 r_x337 q_x337 r_x362 q_x362 ex363), el347]; exact ⟨(qr436 hiv4 r_kv8 r_kv9 r_kv10 hnf r_x12 mo323 mo324 mo325 mo326 mo327 mo328 mo329 mo330 mo331 q_x79 c89 c227 mo332 mo333 bb_x245 c261 mo334 q_x322 c335 r_x337 q_x337 r_x362 q_x362 ex363), (qr437 hiv4 r_kv8 r_kv9 r_kv10 hnf r_x12 mo323 mo324 mo325 mo326 mo327 mo328 mo329 mo330 mo331 q_x79 c89 c227 mo332 mo333 bb_x245 c261 mo334 q_x322 c335 r_x337 q_x337 r_x362 q_x362 ex363), Or.inr (by rw [← d_kv9]; exact (qr438 hiv4 r_kv8 r_kv9 r_kv10 hnf r_x12 mo323 mo324 mo325 mo326 mo327 mo328 mo329 mo330 mo331 q_x79 c89 c227 mo332 mo333 bb_x245 c261 mo334 q_x322 c335 r_x337 q_x337 r_x362 q_x362 ex363))⟩) ea353 (by rw [show x362 = x337 from (qr432 hiv4 r_kv8 r_kv9 r_kv10 hnf r_x12 mo323 mo324 mo325 mo326 mo327 mo328 mo329 mo330 mo331 q_x79 c89 c227 mo332 mo333 bb_x245 c261 mo334 q_x322 c335 r_x337 q_x337 r_x362 q_x362 ex363), el356]; exact ⟨(qr439 hiv4 r_kv8 r_kv9 r_kv10 hnf r_x12 mo323 mo324 mo325 mo326 mo327 mo328 mo329 p_x52 mo330 mo331 q_x79 c89 c227 mo332 mo333 bb_x245 c261 mo334 p_x304 q_x322 c335 r_x337 q_x337 r_x362 q_x362 ex363), (qr440 hiv4 r_kv8 r_kv9 r_kv10 hnf r_x12 mo323 mo324 mo325 mo326 mo327 mo328 mo329 p_x52 mo330 mo331 q_x79 c89 c227 mo332 mo333 bb_x245 c261 mo334 p_x304 q_x322 c335 r_x337 q_x337 r_x362 q_x362 ex363), Or.inl rfl⟩)) (fun z _ hz => Or.inl (by rw [eS364] at hz; exact hs_no2 (by decide) z hz)) hG
          have hn := rn_c eS364 (by decide) hn
          have el342 := el_ob eS364 o_a7 o_a339 (by decide) el342
          have el347 := el_ob eS364 o_a7 o_a344 (by decide) el347
          have el356 := el_ob eS364 o_a7 o_a353 (by decide) el356
          have hI := hIn
          have f0 := fr_I eS364 g0 f0 o_a7 (by decide)
          have d_kv8 := rd_Ij eS364 (by decide) d_kv8
          have d_kv9 := rd_Ij eS364 (by decide) d_kv9
          have d_kv10 := rd_Ij eS364 (by decide) d_kv10
          have d_x322 := rd_Ik eS364 o_a7 o_v0 (by decide) d_x322
          have d_kv309 := rd_Ik eS364 o_a7 o_v0 (by decide) d_kv309
          have d_kv321 := rd_Ik eS364 o_a7 o_v0 (by decide) d_kv321
          have d_x363 := rd_Is eS364 (rfl : x363 = x363)
          have ea7 := rf_I eS364 ea7
          have ea339 := rf_I eS364 ea339
          have ea344 := rf_I eS364 ea344
          have ea349 := rf_I eS364 ea349
          have ea353 := rf_I eS364 ea353
          have ea358 := rf_I eS364 ea358
          have l_a339 := ln_I eS364 l_a339
          have l_a344 := ln_I eS364 l_a344
          have l_a349 := ln_I eS364 l_a349
          have l_a353 := ln_I eS364 l_a353
          have l_a358 := ln_I eS364 l_a358
          have g0 := gr_I eS364 g0
          have o_a339 := ob_I eS364 o_a339
          have o_a344 := ob_I eS364 o_a344
          have o_a349 := ob_I eS364 o_a349
          have o_a353 := ob_I eS364 o_a353
          have o_a358 := ob_I eS364 o_a358
          have o_a7 := ob_I eS364 o_a7
          have o_v0 := ob_I eS364 o_v0
          exact hq _ hI g0 f0 ⟨hG, hn, (by have t : x322 = 5 → 0 < kv309 := (qr441 hiv4 hiv6 hO r_kv8 r_kv9 r_kv10 hnf r_x12 ph0_S14 mo323 mo324 ph0_S22 mo325 mo326 hiv29 ph0_S31 mo327 ph0_S41 mo328 ph0_S53 mo329 ph0_S67 mo330 mo331 q_x79 c89 c227 hiv228 ph0_S230 mo332 hiv244 ph0_S246 mo333 bb_x245 c261 ph0_S305 mo334 q_x322 c335 r_x337 q_x337 r_x362 q_x362 ex363); rw [d_x322, d_kv309] at t; exact t), (by have t : x322 = 5 ∨ ¬ iv4 = 5 := (qr442 hiv4 r_kv8 r_kv9 r_kv10 hnf r_x12 mo323 mo324 mo325 mo326 mo327 mo328 mo329 mo330 mo331 q_x79 c89 c227 mo332 mo333 bb_x245 c261 mo334 q_x322 c335 r_x337 q_x337 r_x362 q_x362 ex363); rw [di_9, d_x322] at t; exact t), (by have t : iv2 ≤ kv321 ∧ (x322 = 4 → iv2 < kv321 ∨ iv4 = 4) := (qr443 r_kv1 hiv2 hiv4 r_kv8 r_kv9 r_kv10 hnf r_x12 mo323 r_kv19 ph2_S14 mo324 hiv20 mo325 ph2_S22 mo326 mo327 r_kv39 ph2_S31 mo328 r_kv51 ph2_S41 mo329 r_kv64 ph2_S53 hiv65 mo330 ph2_S67 mo331 q_x79 c89 c227 mo332 r_kv243 ph2_S230 mo333 r_kv260 ph2_S246 bb_x245 c261 mo334 r_kv321 ph2_S305 q_x322 c335 r_x337 q_x337 r_x362 q_x362 ex363); rw [di_8, di_9, d_kv321, d_x322] at t; exact t)⟩
        · exact hq _ hI g0 f0 ⟨hG, hn, (by have t : x322 = 5 → 0 < kv309 := (qr444 hiv4 hiv6 hO r_kv8 r_kv9 r_kv10 hnf r_x12 ph0_S14 mo323 mo324 ph0_S22 mo325 mo326 hiv29 ph0_S31 mo327 ph0_S41 mo328 ph0_S53 mo329 ph0_S67 mo330 mo331 q_x79 c89 c227 hiv228 ph0_S230 mo332 hiv244 ph0_S246 mo333 bb_x245 c261 ph0_S305 mo334 q_x322 c335); rw [d_x322, d_kv309] at t; exact t), (by have t : x322 = 5 ∨ ¬ iv4 = 5 := (qr445 hiv4 r_kv8 r_kv9 r_kv10 hnf r_x12 mo323 mo324 mo325 mo326 mo327 mo328 mo329 mo330 mo331 q_x79 c89 c227 mo332 mo333 bb_x245 c261 mo334 q_x322 c335); rw [di_9, d_x322] at t; exact t), (by have t : iv2 ≤ kv321 ∧ (x322 = 4 → iv2 < kv321 ∨ iv4 = 4) := (qr446 r_kv1 hiv2 hiv4 r_kv8 r_kv9 r_kv10 hnf r_x12 mo323 r_kv19 ph2_S14 mo324 hiv20 mo325 ph2_S22 mo326 mo327 r_kv39 ph2_S31 mo328 r_kv51 ph2_S41 mo329 r_kv64 ph2_S53 hiv65 mo330 ph2_S67 mo331 q_x79 c89 c227 mo332 r_kv243 ph2_S230 mo333 r_kv260 ph2_S246 bb_x245 c261 mo334 r_kv321 ph2_S305 q_x322 c335); rw [di_8, di_9, d_kv321, d_x322] at t; exact t)⟩
    · obtain ⟨iv365, hiv365⟩ : ∃ z : Int32, z = kv64 := ⟨_, rfl⟩
      have d_iv365 := hiv365.trans d_kv64
      have do365_iv365 := d_iv365
      have do365_x79 := d_x79
      have do365_kv71 := d_kv71
      refine m_X11_flaw hI o_v0 (qr447 hiv4 r_kv8 r_kv9 r_kv10 hnf r_x12 mo80 mo81 mo82 mo83 mo84 mo85 mo86 mo87 mo88 q_x79 c89 c227) hG (by have t : x79 = 5 → 0 < kv71 := (qr448 hiv4 hiv6 hO r_kv8 r_kv9 r_kv10 hnf r_x12 ph0_S14 mo80 mo81 ph0_S22 mo82 mo83 hiv29 ph0_S31 mo84 ph0_S41 mo85 ph0_S53 mo86 ph0_S67 mo87 mo88 q_x79 c89 c227); rw [d_x79, d_kv71] at t; exact t) (fun S367 hJ g368 fc369 p_S367 => ?_)
      obtain ⟨hG, pg0_S367, pg1_S367, pg2_S367, pg3_S367⟩ := p_S367
      have hn := rn_fr fc369 g368 hI o_v0 (by decide) hn
      have hI := hJ
      have d_kv8 := d_kv8.trans (fri_at fc369 (by decide) (by decide) o_a7).symm
      have d_kv9 := d_kv9.trans (fri_at fc369 (by decide) (by decide) o_a7).symm
      have d_kv10 := d_kv10.trans (fri_at fc369 (by decide) (by decide) o_a7).symm
      have d_x12 := d_x12.trans (fri_at fc369 (by decide) (by decide) o_a7).symm
      have d_kv64 := d_kv64.trans (fri_at fc369 (by decide) (by decide) o_v0).symm
      have ea7 := (frr_at fc369 (by decide) (by decide) o_v0).trans ea7
      have f0 := fri_tr (S := S67) g0 f0 fc369 (by decide) (by decide)
      have o_a7 := gr_ob g368 o_a7
      have o_v0 := gr_ob g368 o_v0
      have g0 := gr_tr (T := S67) g0 g368
      obtain ⟨kv370, d_kv370⟩ : ∃ z : Int32, z = fI S367 v0 9 := ⟨_, rfl⟩
      obtain ⟨kv371, d_kv371⟩ : ∃ z : Int32, z = fI S367 v0 13 := ⟨_, rfl⟩
      have ph0_S367 : kv370 = 5 → 0 < kv371 := by rw [d_kv370, d_kv371]; exact pg0_S367
      have ph1_S367 : kv370 = 5 ∨ ¬ x79 = 5 := by rw [do365_x79, d_kv370]; exact pg1_S367
      have mo372 : kv370 = 5 ∨ ¬ kv3 = 5 := ph1_S367.elim Or.inl (fun h => Or.inr (mo80.resolve_left h))
      have mo373 : kv370 = 5 ∨ ¬ x12 = (12 : Int32) := ph1_S367.elim Or.inl (fun h => Or.inr (mo81.resolve_left h))
      have mo374 : kv370 = 5 ∨ ¬ kv17 = 5 := ph1_S367.elim Or.inl (fun h => Or.inr (mo82.resolve_left h))
      have mo375 : kv370 = 5 ∨ (0 ≤ x21 ∧ x21 < kv9) := ph1_S367.elim Or.inl (fun h => Or.inr (mo83.resolve_left h))
      have mo376 : kv370 = 5 ∨ ¬ kv25 = 5 := ph1_S367.elim Or.inl (fun h => Or.inr (mo84.resolve_left h))
      have mo377 : kv370 = 5 ∨ ¬ kv34 = 5 := ph1_S367.elim Or.inl (fun h => Or.inr (mo85.resolve_left h))
      have mo378 : kv370 = 5 ∨ ¬ kv44 = 5 := ph1_S367.elim Or.inl (fun h => Or.inr (mo86.resolve_left h))
      have mo379 : kv370 = 5 ∨ ¬ kv56 = 5 := ph1_S367.elim Or.inl (fun h => Or.inr (mo87.resolve_left h))
      have mo380 : kv370 = 5 ∨ (0 ≤ x66 ∧ x66 < kv9) := ph1_S367.elim Or.inl (fun h => Or.inr (mo88.resolve_left h))
      have ph2_S367 : iv365 ≤ kv64 ∧ (kv370 = 4 → iv365 < kv64 ∨ x79 = 4) := by rw [do365_iv365, do365_x79, d_kv64, d_kv370]; exact pg2_S367
      have ph3_S367 : kv370 = 5 := by rw [d_kv370]; exact pg3_S367
      intro _
      refine u_X11_readRoad_62 ?_
      refine ⟨o_v0, ?_⟩
      obtain ⟨iv381, hiv381⟩ : ∃ z : Int32, z = kv371 := ⟨_, rfl⟩
      have d_iv381 := hiv381.trans d_kv371
      have do381_kv64 := d_kv64
      have do381_kv370 := d_kv370
      have do381_iv381 := d_iv381
      refine m_X11_goesOn hI o_v0 hG (by have t : kv370 = 5 → 0 < kv371 := (qr449 hiv4 hiv6 hO r_kv8 r_kv9 r_kv10 hnf r_x12 ph0_S14 mo372 mo373 ph0_S22 mo374 mo375 hiv29 ph0_S31 mo376 ph0_S41 mo377 ph0_S53 mo378 ph0_S67 mo379 mo380 q_x79 c89 c227 ph0_S367 ph1_S367 ph3_S367); rw [d_kv370, d_kv371] at t; exact t) (fun S383 hJ g384 fc385 p_S383 => ?_)
      obtain ⟨hG, pg0_S383, pg1_S383, pg2_S383⟩ := p_S383
      have hn := rn_fr fc385 g384 hI o_v0 (by decide) hn
      have hI := hJ
      have d_kv8 := d_kv8.trans (fri_at fc385 (by decide) (by decide) o_a7).symm
      have d_kv9 := d_kv9.trans (fri_at fc385 (by decide) (by decide) o_a7).symm
      have d_kv10 := d_kv10.trans (fri_at fc385 (by decide) (by decide) o_a7).symm
      have d_x12 := d_x12.trans (fri_at fc385 (by decide) (by decide) o_a7).symm
      have d_kv371 := d_kv371.trans (fri_at fc385 (by decide) (by decide) o_v0).symm
      have ea7 := (frr_at fc385 (by decide) (by decide) o_v0).trans ea7
      have f0 := fri_tr (S := S367) g0 f0 fc385 (by decide) (by decide)
      have o_a7 := gr_ob g384 o_a7
      have o_v0 := gr_ob g384 o_v0
      have g0 := gr_tr (T := S367) g0 g384
      obtain ⟨kv386, d_kv386⟩ : ∃ z : Int32, z = fI S383 v0 9 := ⟨_, rfl⟩
      have ph0_S383 : kv386 = 5 → 0 < kv371 := by rw [d_kv386, d_kv371]; exact pg0_S383
      have ph1_S383 : kv386 = 5 ∨ ¬ kv370 = 5 := by rw [do381_kv370, d_kv386]; exact pg1_S383
      have mo387 : kv386 = 5 ∨ ¬ kv3 = 5 := ph1_S383.elim Or.inl (fun h => Or.inr (mo372.resolve_left h))
      have mo388 : kv386 = 5 ∨ ¬ x12 = (12 : Int32) := ph1_S383.elim Or.inl (fun h => Or.inr (mo373.resolve_left h))
      have mo389 : kv386 = 5 ∨ ¬ kv17 = 5 := ph1_S383.elim Or.inl (fun h => Or.inr (mo374.resolve_left h))
      have mo390 : kv386 = 5 ∨ (0 ≤ x21 ∧ x21 < kv9) := ph1_S383.elim Or.inl (fun h => Or.inr (mo375.resolve_left h))
      have mo391 : kv386 = 5 ∨ ¬ kv25 = 5 := ph1_S383.elim Or.inl (fun h => Or.inr (mo376.resolve_left h))
      have mo392 : kv386 = 5 ∨ ¬ kv34 = 5 := ph1_S383.elim Or.inl (fun h => Or.inr (mo377.resolve_left h))
      have mo393 : kv386 = 5 ∨ ¬ kv44 = 5 := ph1_S383.elim Or.inl (fun h => Or.inr (mo378.resolve_left h))
      have mo394 : kv386 = 5 ∨ ¬ kv56 = 5 := ph1_S383.elim Or.inl (fun h => Or.inr (mo379.resolve_left h))
      have mo395 : kv386 = 5 ∨ (0 ≤ x66 ∧ x66 < kv9) := ph1_S383.elim Or.inl (fun h => Or.inr (mo380.resolve_left h))
      have mo396 : kv386 = 5 ∨ ¬ x79 = 5 := ph1_S383.elim Or.inl (fun h => Or.inr (ph1_S367.resolve_left h))
      obtain ⟨kv397, d_kv397⟩ : ∃ z : Int32, z = fI S383 v0 8 := ⟨_, rfl⟩
      have r_kv397 : (0 : Int32) ≤ kv397 ∧ kv397 ≤ (900 : Int32) := by rw [d_kv397]; exact nu 25 rfl hI o_v0
      have ph2_S383 : kv64 ≤ kv397 ∧ (kv386 = 4 → kv64 < kv397 ∨ kv370 = 4) := by rw [do381_kv64, do381_kv370, d_kv397, d_kv386]; exact pg2_S383
      intro _
      obtain ⟨iv398, hiv398⟩ : ∃ z : Int32, z = kv371 := ⟨_, rfl⟩
      have d_iv398 := hiv398.trans d_kv371
      have do398_kv397 := d_kv397
      have do398_kv386 := d_kv386
      have do398_iv398 := d_iv398
      refine m_X11_eatsWord hI o_v0 (by decide) hG (by have t : kv386 = 5 → 0 < kv371 := (qr450 hiv4 hiv6 hO r_kv8 r_kv9 r_kv10 hnf r_x12 ph0_S14 mo387 mo388 ph0_S22 mo389 mo390 hiv29 ph0_S31 mo391 ph0_S41 mo392 ph0_S53 mo393 ph0_S67 mo394 mo395 q_x79 c89 c227 ph0_S367 mo396 ph3_S367 hiv381 ph0_S383 ph1_S383); rw [d_kv386, d_kv371] at t; exact t) (fun x399 S400 hJ g401 fc402 b_x399 p_x399 => ?_)
      obtain ⟨hG, pg0_S400, pg1_S400, pg2_S400⟩ := p_x399
      have hn := rn_fr fc402 g401 hI o_v0 (by decide) hn
      have hI := hJ
      have d_kv8 := d_kv8.trans (fri_at fc402 (by decide) (by decide) o_a7).symm
      have d_kv9 := d_kv9.trans (fri_at fc402 (by decide) (by decide) o_a7).symm
      have d_kv10 := d_kv10.trans (fri_at fc402 (by decide) (by decide) o_a7).symm
      have d_x12 := d_x12.trans (fri_at fc402 (by decide) (by decide) o_a7).symm
      have d_kv371 := d_kv371.trans (fri_at fc402 (by decide) (by decide) o_v0).symm
      have ea7 := (frr_at fc402 (by decide) (by decide) o_v0).trans ea7
      have f0 := fri_tr (S := S383) g0 f0 fc402 (by decide) (by decide)
      have o_a7 := gr_ob g401 o_a7
      have o_v0 := gr_ob g401 o_v0
      have g0 := gr_tr (T := S383) g0 g401
      obtain ⟨kv403, d_kv403⟩ : ∃ z : Int32, z = fI S400 v0 9 := ⟨_, rfl⟩
      have ph0_S400 : kv403 = 5 → 0 < kv371 := by rw [d_kv403, d_kv371]; exact pg0_S400
      have ph1_S400 : kv403 = 5 ∨ ¬ kv386 = 5 := by rw [do398_kv386, d_kv403]; exact pg1_S400
      have mo404 : kv403 = 5 ∨ ¬ kv3 = 5 := ph1_S400.elim Or.inl (fun h => Or.inr (mo387.resolve_left h))
      have mo405 : kv403 = 5 ∨ ¬ x12 = (12 : Int32) := ph1_S400.elim Or.inl (fun h => Or.inr (mo388.resolve_left h))
      have mo406 : kv403 = 5 ∨ ¬ kv17 = 5 := ph1_S400.elim Or.inl (fun h => Or.inr (mo389.resolve_left h))
      have mo407 : kv403 = 5 ∨ (0 ≤ x21 ∧ x21 < kv9) := ph1_S400.elim Or.inl (fun h => Or.inr (mo390.resolve_left h))
      have mo408 : kv403 = 5 ∨ ¬ kv25 = 5 := ph1_S400.elim Or.inl (fun h => Or.inr (mo391.resolve_left h))
      have mo409 : kv403 = 5 ∨ ¬ kv34 = 5 := ph1_S400.elim Or.inl (fun h => Or.inr (mo392.resolve_left h))
      have mo410 : kv403 = 5 ∨ ¬ kv44 = 5 := ph1_S400.elim Or.inl (fun h => Or.inr (mo393.resolve_left h))
      have mo411 : kv403 = 5 ∨ ¬ kv56 = 5 := ph1_S400.elim Or.inl (fun h => Or.inr (mo394.resolve_left h))
      have mo412 : kv403 = 5 ∨ (0 ≤ x66 ∧ x66 < kv9) := ph1_S400.elim Or.inl (fun h => Or.inr (mo395.resolve_left h))
      have mo413 : kv403 = 5 ∨ ¬ x79 = 5 := ph1_S400.elim Or.inl (fun h => Or.inr (mo396.resolve_left h))
      have mo414 : kv403 = 5 ∨ ¬ kv370 = 5 := ph1_S400.elim Or.inl (fun h => Or.inr (ph1_S383.resolve_left h))
      obtain ⟨kv415, d_kv415⟩ : ∃ z : Int32, z = fI S400 v0 8 := ⟨_, rfl⟩
      have r_kv415 : (0 : Int32) ≤ kv415 ∧ kv415 ≤ (900 : Int32) := by rw [d_kv415]; exact nu 25 rfl hI o_v0
      have ph2_S400 : kv397 ≤ kv415 ∧ (kv403 = 4 → kv397 < kv415 ∨ kv386 = 4) := by rw [do398_kv397, do398_kv386, d_kv415, d_kv403]; exact pg2_S400
      intro _ _
      have bb_x399 : x399 = 0 ∨ x399 = 1 := b_x399
      refine ⟨fun c416 => ?_, fun c416 => ?_⟩
      · refine u_X11_readRoad_85 ?_
        refine ⟨o_v0, ?_⟩
        intro x417 ex417
        have q_x417 : x417 = kv403 := ex417.trans d_kv403.symm
        have mo418 : x417 = 5 ∨ ¬ kv3 = 5 := mo404.imp_left (fun z => q_x417.trans z)
        have mo419 : x417 = 5 ∨ ¬ x12 = (12 : Int32) := mo405.imp_left (fun z => q_x417.trans z)
        have mo420 : x417 = 5 ∨ ¬ kv17 = 5 := mo406.imp_left (fun z => q_x417.trans z)
        have mo421 : x417 = 5 ∨ (0 ≤ x21 ∧ x21 < kv9) := mo407.imp_left (fun z => q_x417.trans z)
        have mo422 : x417 = 5 ∨ ¬ kv25 = 5 := mo408.imp_left (fun z => q_x417.trans z)
        have mo423 : x417 = 5 ∨ ¬ kv34 = 5 := mo409.imp_left (fun z => q_x417.trans z)
        have mo424 : x417 = 5 ∨ ¬ kv44 = 5 := mo410.imp_left (fun z => q_x417.trans z)
        have mo425 : x417 = 5 ∨ ¬ kv56 = 5 := mo411.imp_left (fun z => q_x417.trans z)
        have mo426 : x417 = 5 ∨ (0 ≤ x66 ∧ x66 < kv9) := mo412.imp_left (fun z => q_x417.trans z)
        have mo427 : x417 = 5 ∨ ¬ x79 = 5 := mo413.imp_left (fun z => q_x417.trans z)
        have mo428 : x417 = 5 ∨ ¬ kv370 = 5 := mo414.imp_left (fun z => q_x417.trans z)
        have mo429 : x417 = 5 ∨ ¬ kv386 = 5 := ph1_S400.imp_left (fun z => q_x417.trans z)
        have d_x417 := ex417
        refine ⟨fun c430 => ?_, fun c430 => ?_⟩
        · refine ⟨a7, ea7, ?_⟩
          refine ⟨o_a7, ?_⟩
          intro x432 ex432
          have r_x432 : (0 : Int32) ≤ x432 ∧ x432 ≤ (12 : Int32) := by rw [ex432]; exact nu 19 rfl hI o_a7
          have q_x432 : x432 = x12 := ex432.trans d_x12.symm
          have d_x432 := ex432
          refine ⟨a7, ea7, ?_⟩
          refine ⟨o_a7, ?_⟩
          obtain ⟨a434, ea434, o_a434, l_a434⟩ := shl 35 rfl hI o_a7
          refine ⟨a434, ea434, ?_⟩
          refine ⟨o_a434, ?_⟩
          have i435 : vp_in x432 (hN _ a434) := (vin l_a434 (m := 12) (by decide) (qr451 hiv4 r_kv8 r_kv9 r_kv10 hnf r_x12 mo418 mo419 mo420 mo421 mo422 mo423 mo424 mo425 mo426 q_x79 c89 c227 mo427 ph3_S367 mo428 mo429 bb_x399 c416 q_x417 c430 r_x432 q_x432))
          refine ⟨i435, ?_⟩
          intro S436 eS436
          have hIn : IV S436 := by rw [eS436]; exact iv10_aI hI o_a7 (rg_nw hG ea7) ea434 o_a434 (by decide)
          have hG := rg_a (jj := 13) (x := x432) eS436 hI ea7 o_a7 ea434 o_a434 (by decide) (h1_one (c := 3) (lo := 0) (hi := 7) (hf := 2) (by decide) d_x432.symm) (h2_no (y := 0) (by decide)) hG
          have hn := rn_11 eS436 hI o_v0 o_a434 (by decide) hn
          have hI := hIn
          have f0 := fr_A eS436 g0 f0 o_a434 (by decide)
          have d_kv8 := rd_Ik eS436 o_a434 o_a7 (by decide) d_kv8
          have d_kv9 := rd_Ik eS436 o_a434 o_a7 (by decide) d_kv9
          have d_kv10 := rd_Ik eS436 o_a434 o_a7 (by decide) d_kv10
          have d_x432 := rd_Ik eS436 o_a434 o_a7 (by decide) d_x432
          have d_kv371 := rd_Ik eS436 o_a434 o_v0 (by decide) d_kv371
          have d_x417 := rd_Ik eS436 o_a434 o_v0 (by decide) d_x417
          have d_kv415 := rd_Ik eS436 o_a434 o_v0 (by decide) d_kv415
          have ea7 := rf_I eS436 ea7
          have ea434 := rf_I eS436 ea434
          have l_a434 := ln_I eS436 l_a434
          have g0 := gr_I eS436 g0
          have o_a434 := ob_I eS436 o_a434
          have o_a7 := ob_I eS436 o_a7
          have o_v0 := ob_I eS436 o_v0
          have el437 : fI S436 a434 x432.toNatClampNeg = x21 := by rw [eS436]; exact u2_self _ _ _ _
          refine ⟨a7, ea7, ?_⟩
          refine ⟨o_a7, ?_⟩
          obtain ⟨a439, ea439, o_a439, l_a439⟩ := shl 36 rfl hI o_a7
          refine ⟨a439, ea439, ?_⟩
          refine ⟨o_a439, ?_⟩
          have i440 : vp_in x432 (hN _ a439) := (vin l_a439 (m := 12) (by decide) (qr451 hiv4 r_kv8 r_kv9 r_kv10 hnf r_x12 mo418 mo419 mo420 mo421 mo422 mo423 mo424 mo425 mo426 q_x79 c89 c227 mo427 ph3_S367 mo428 mo429 bb_x399 c416 q_x417 c430 r_x432 q_x432))
          refine ⟨i440, ?_⟩
          intro S441 eS441
          have hIn : IV S441 := by rw [eS441]; exact iv10_aI hI o_a7 (rg_nw hG ea7) ea439 o_a439 (by decide)
          have hG := rg_a (jj := 14) (x := x432) eS441 hI ea7 o_a7 ea439 o_a439 (by decide) (h1_one (c := 3) (lo := 0) (hi := 7) (hf := 2) (by decide) d_x432.symm) (h2_no (y := 0) (by decide)) hG
          have hn := rn_11 eS441 hI o_v0 o_a439 (by decide) hn
          have el437 := el_ar eS441 (ow_ne hI o_a7 (by decide) o_a7 (by decide) ea439 ea434 (by decide)) el437
          have hI := hIn
          have f0 := fr_A eS441 g0 f0 o_a439 (by decide)
          have d_kv8 := rd_Ik eS441 o_a439 o_a7 (by decide) d_kv8
          have d_kv9 := rd_Ik eS441 o_a439 o_a7 (by decide) d_kv9
          have d_kv10 := rd_Ik eS441 o_a439 o_a7 (by decide) d_kv10
          have d_x432 := rd_Ik eS441 o_a439 o_a7 (by decide) d_x432
          have d_kv371 := rd_Ik eS441 o_a439 o_v0 (by decide) d_kv371
          have d_x417 := rd_Ik eS441 o_a439 o_v0 (by decide) d_x417
          have d_kv415 := rd_Ik eS441 o_a439 o_v0 (by decide) d_kv415
          have ea7 := rf_I eS441 ea7
          have ea434 := rf_I eS441 ea434
          have ea439 := rf_I eS441 ea439
          have l_a434 := ln_I eS441 l_a434
          have l_a439 := ln_I eS441 l_a439
          have g0 := gr_I eS441 g0
          have o_a434 := ob_I eS441 o_a434
          have o_a439 := ob_I eS441 o_a439
          have o_a7 := ob_I eS441 o_a7
          have o_v0 := ob_I eS441 o_v0
          have el442 : fI S441 a439 x432.toNatClampNeg = x66 := by rw [eS441]; exact u2_self _ _ _ _
          refine ⟨a7, ea7, ?_⟩
          refine ⟨o_a7, ?_⟩
          obtain ⟨a444, ea444, o_a444, l_a444⟩ := shl 37 rfl hI o_a7
          refine ⟨a444, ea444, ?_⟩
          refine ⟨o_a444, ?_⟩
          have i445 : vp_in x432 (hN _ a444) := (vin l_a444 (m := 12) (by decide) (qr451 hiv4 r_kv8 r_kv9 r_kv10 hnf r_x12 mo418 mo419 mo420 mo421 mo422 mo423 mo424 mo425 mo426 q_x79 c89 c227 mo427 ph3_S367 mo428 mo429 bb_x399 c416 q_x417 c430 r_x432 q_x432))
          refine ⟨i445, ?_⟩
          intro S446 eS446
          have hIn : IV S446 := by rw [eS446]; exact iv10_aI hI o_a7 (rg_nw hG ea7) ea444 o_a444 (by decide)
          have hG := rg_a (jj := 15) (x := x432) eS446 hI ea7 o_a7 ea444 o_a444 (by decide) (h1_no (by decide)) (h2_no (y := 0) (by decide)) hG
          have hn := rn_11 eS446 hI o_v0 o_a444 (by decide) hn
          have el437 := el_ar eS446 (ow_ne hI o_a7 (by decide) o_a7 (by decide) ea444 ea434 (by decide)) el437
          have el442 := el_ar eS446 (ow_ne hI o_a7 (by decide) o_a7 (by decide) ea444 ea439 (by decide)) el442
          have hI := hIn
          have f0 := fr_A eS446 g0 f0 o_a444 (by decide)
          have d_kv8 := rd_Ik eS446 o_a444 o_a7 (by decide) d_kv8
          have d_kv9 := rd_Ik eS446 o_a444 o_a7 (by decide) d_kv9
          have d_kv10 := rd_Ik eS446 o_a444 o_a7 (by decide) d_kv10
          have d_x432 := rd_Ik eS446 o_a444 o_a7 (by decide) d_x432
          have d_kv371 := rd_Ik eS446 o_a444 o_v0 (by decide) d_kv371
          have d_x417 := rd_Ik eS446 o_a444 o_v0 (by decide) d_x417
          have d_kv415 := rd_Ik eS446 o_a444 o_v0 (by decide) d_kv415
          have ea7 := rf_I eS446 ea7
          have ea434 := rf_I eS446 ea434
          have ea439 := rf_I eS446 ea439
          have ea444 := rf_I eS446 ea444
          have l_a434 := ln_I eS446 l_a434
          have l_a439 := ln_I eS446 l_a439
          have l_a444 := ln_I eS446 l_a444
          have g0 := gr_I eS446 g0
          have o_a434 := ob_I eS446 o_a434
          have o_a439 := ob_I eS446 o_a439
          have o_a444 := ob_I eS446 o_a444
          have o_a7 := ob_I eS446 o_a7
          have o_v0 := ob_I eS446 o_v0
          refine ⟨a7, ea7, ?_⟩
          refine ⟨o_a7, ?_⟩
          obtain ⟨a448, ea448, o_a448, l_a448⟩ := shl 38 rfl hI o_a7
          refine ⟨a448, ea448, ?_⟩
          refine ⟨o_a448, ?_⟩
          have i449 : vp_in x432 (hN _ a448) := (vin l_a448 (m := 12) (by decide) (qr451 hiv4 r_kv8 r_kv9 r_kv10 hnf r_x12 mo418 mo419 mo420 mo421 mo422 mo423 mo424 mo425 mo426 q_x79 c89 c227 mo427 ph3_S367 mo428 mo429 bb_x399 c416 q_x417 c430 r_x432 q_x432))
          refine ⟨i449, ?_⟩
          intro S450 eS450
          have hIn : IV S450 := by rw [eS450]; exact iv10_aI hI o_a7 (rg_nw hG ea7) ea448 o_a448 (by decide)
          have hG := rg_a (jj := 16) (x := x432) eS450 hI ea7 o_a7 ea448 o_a448 (by decide) (h1_one (c := 3) (lo := 1) (hi := 60) (hf := 99) (by decide) d_x432.symm) (h2_no (y := 0) (by decide)) hG
          have hn := rn_11 eS450 hI o_v0 o_a448 (by decide) hn
          have el437 := el_ar eS450 (ow_ne hI o_a7 (by decide) o_a7 (by decide) ea448 ea434 (by decide)) el437
          have el442 := el_ar eS450 (ow_ne hI o_a7 (by decide) o_a7 (by decide) ea448 ea439 (by decide)) el442
          have hI := hIn
          have f0 := fr_A eS450 g0 f0 o_a448 (by decide)
          have d_kv8 := rd_Ik eS450 o_a448 o_a7 (by decide) d_kv8
          have d_kv9 := rd_Ik eS450 o_a448 o_a7 (by decide) d_kv9
          have d_kv10 := rd_Ik eS450 o_a448 o_a7 (by decide) d_kv10
          have d_x432 := rd_Ik eS450 o_a448 o_a7 (by decide) d_x432
          have d_kv371 := rd_Ik eS450 o_a448 o_v0 (by decide) d_kv371
          have d_x417 := rd_Ik eS450 o_a448 o_v0 (by decide) d_x417
          have d_kv415 := rd_Ik eS450 o_a448 o_v0 (by decide) d_kv415
          have ea7 := rf_I eS450 ea7
          have ea434 := rf_I eS450 ea434
          have ea439 := rf_I eS450 ea439
          have ea444 := rf_I eS450 ea444
          have ea448 := rf_I eS450 ea448
          have l_a434 := ln_I eS450 l_a434
          have l_a439 := ln_I eS450 l_a439
          have l_a444 := ln_I eS450 l_a444
          have l_a448 := ln_I eS450 l_a448
          have g0 := gr_I eS450 g0
          have o_a434 := ob_I eS450 o_a434
          have o_a439 := ob_I eS450 o_a439
          have o_a444 := ob_I eS450 o_a444
          have o_a448 := ob_I eS450 o_a448
          have o_a7 := ob_I eS450 o_a7
          have o_v0 := ob_I eS450 o_v0
          have el451 : fI S450 a448 x432.toNatClampNeg = x52 := by rw [eS450]; exact u2_self _ _ _ _
          refine ⟨a7, ea7, ?_⟩
          refine ⟨o_a7, ?_⟩
          obtain ⟨a453, ea453, o_a453, l_a453⟩ := shl 39 rfl hI o_a7
          refine ⟨a453, ea453, ?_⟩
          refine ⟨o_a453, ?_⟩
          have i454 : vp_in x432 (hN _ a453) := (vin l_a453 (m := 12) (by decide) (qr451 hiv4 r_kv8 r_kv9 r_kv10 hnf r_x12 mo418 mo419 mo420 mo421 mo422 mo423 mo424 mo425 mo426 q_x79 c89 c227 mo427 ph3_S367 mo428 mo429 bb_x399 c416 q_x417 c430 r_x432 q_x432))
          refine ⟨i454, ?_⟩
          intro S455 eS455
          have hIn : IV S455 := by rw [eS455]; exact iv10_aI hI o_a7 (rg_nw hG ea7) ea453 o_a453 (by decide)
          have hG := rg_a (jj := 17) (x := x432) eS455 hI ea7 o_a7 ea453 o_a453 (by decide) (h1_no (by decide)) (h2_no (y := 0) (by decide)) hG
          have hn := rn_11 eS455 hI o_v0 o_a453 (by decide) hn
          have el437 := el_ar eS455 (ow_ne hI o_a7 (by decide) o_a7 (by decide) ea453 ea434 (by decide)) el437
          have el442 := el_ar eS455 (ow_ne hI o_a7 (by decide) o_a7 (by decide) ea453 ea439 (by decide)) el442
          have el451 := el_ar eS455 (ow_ne hI o_a7 (by decide) o_a7 (by decide) ea453 ea448 (by decide)) el451
          have hI := hIn
          have f0 := fr_A eS455 g0 f0 o_a453 (by decide)
          have d_kv8 := rd_Ik eS455 o_a453 o_a7 (by decide) d_kv8
          have d_kv9 := rd_Ik eS455 o_a453 o_a7 (by decide) d_kv9
          have d_kv10 := rd_Ik eS455 o_a453 o_a7 (by decide) d_kv10
          have d_x432 := rd_Ik eS455 o_a453 o_a7 (by decide) d_x432
          have d_kv371 := rd_Ik eS455 o_a453 o_v0 (by decide) d_kv371
          have d_x417 := rd_Ik eS455 o_a453 o_v0 (by decide) d_x417
          have d_kv415 := rd_Ik eS455 o_a453 o_v0 (by decide) d_kv415
          have ea7 := rf_I eS455 ea7
          have ea434 := rf_I eS455 ea434
          have ea439 := rf_I eS455 ea439
          have ea444 := rf_I eS455 ea444
          have ea448 := rf_I eS455 ea448
          have ea453 := rf_I eS455 ea453
          have l_a434 := ln_I eS455 l_a434
          have l_a439 := ln_I eS455 l_a439
          have l_a444 := ln_I eS455 l_a444
          have l_a448 := ln_I eS455 l_a448
          have l_a453 := ln_I eS455 l_a453
          have g0 := gr_I eS455 g0
          have o_a434 := ob_I eS455 o_a434
          have o_a439 := ob_I eS455 o_a439
          have o_a444 := ob_I eS455 o_a444
          have o_a448 := ob_I eS455 o_a448
          have o_a453 := ob_I eS455 o_a453
          have o_a7 := ob_I eS455 o_a7
          have o_v0 := ob_I eS455 o_v0
          refine ⟨a7, ea7, ?_⟩
          refine ⟨o_a7, ?_⟩
          intro x457 ex457
          have r_x457 : (0 : Int32) ≤ x457 ∧ x457 ≤ (12 : Int32) := by rw [ex457]; exact nu 19 rfl hI o_a7
          have q_x457 : x457 = x432 := ex457.trans d_x432.symm
          have d_x457 := ex457
          intro x458 ex458
          intro S459 eS459
          have hIn : IV S459 := by rw [eS459]; exact iv10_sI hI o_a7 (rg_nw hG ea7) (nu_one (lo := (0 : Int32)) (hi := (12 : Int32)) (by decide) (qr452 hiv4 r_kv8 r_kv9 r_kv10 hnf r_x12 mo418 mo419 mo420 mo421 mo422 mo423 mo424 mo425 mo426 q_x79 c89 c227 mo427 ph3_S367 mo428 mo429 bb_x399 c416 q_x417 c430 r_x432 q_x432 r_x457 q_x457 ex458))
          have hG := rg_inc (c := 3) (y := x457) eS459 hI ea7 o_a7 d_x457.symm (qr453 hiv4 r_kv8 r_kv9 r_kv10 hnf r_x12 mo418 mo419 mo420 mo421 mo422 mo423 mo424 mo425 mo426 q_x79 c89 c227 mo427 ph3_S367 mo428 mo429 bb_x399 c416 q_x417 c430 r_x432 q_x432 r_x457 q_x457 ex458) (qr454 hiv4 r_kv8 r_kv9 r_kv10 hnf r_x12 mo418 mo419 mo420 mo421 mo422 mo423 mo424 mo425 mo426 q_x79 c89 c227 mo427 ph3_S367 mo428 mo429 bb_x399 c416 q_x417 c430 r_x432 q_x432 r_x457 q_x457 ex458) (hn_3 ea434 (by rw [show x457 = x432 from (qr455 hiv4 r_kv8 r_kv9 r_kv10 hnf r_x12 mo418 mo419 mo420 mo421 mo422 mo423 mo424 mo425 mo426 q_x79 c89 c227 mo427 ph3_S367 mo428 mo429 bb_x399 c416 q_x417 c430 r_x432 q_x432 r_x457 q_x457 ex458), el437]; exact ⟨(qr456 hiv4 r_kv8 r_kv9 r_kv10 hnf r_x12 mo418 mo419 mo420 mo421 mo422 mo423 mo424 mo425 mo426 q_x79 c89 c227 mo427 ph3_S367 mo428 mo429 bb_x399 c416 q_x417 c430 r_x432 q_x432 r_x457 q_x457 ex458), (qr457 hiv4 r_kv8 r_kv9 r_kv10 hnf r_x12 mo418 mo419 mo420 mo421 mo422 mo423 mo424 mo425 mo426 q_x79 c89 c227 mo427 ph3_S367 mo428 mo429 bb_x399 c416 q_x417 c430 r_x432 q_x432 r_x457 q_x457 ex458), Or.inr (by rw [← d_kv9]; exact (qr458 hiv4 r_kv8 r_kv9 r_kv10 hnf r_x12 mo418 mo419 mo420 mo421 mo422 mo423 mo424 mo425 mo426 q_x79 c89 c227 mo427 ph3_S367 mo428 mo429 bb_x399 c416 q_x417 c430 r_x432 q_x432 r_x457 q_x457 ex458))⟩) ea439 (by rw [show x457 = x432 from (qr455 hiv4 r_kv8 r_kv9 r_kv10 hnf r_x12 mo418 mo419 mo420 mo421 mo422 mo423 mo424 mo425 mo426 q_x79 c89 c227 mo427 ph3_S367 mo428 mo429 bb_x399 c416 q_x417 c430 r_x432 q_x432 r_x457 q_x457 ex458), el442]; exact ⟨(qr459 hiv4 r_kv8 r_kv9 r_kv10 hnf r_x12 mo418 mo419 mo420 mo421 mo422 mo423 mo424 mo425 mo426 q_x79 c89 c227 mo427 ph3_S367 mo428 mo429 bb_x399 c416 q_x417 c430 r_x432 q_x432 r_x457 q_x457 ex458), (qr460 hiv4 r_kv8 r_kv9 r_kv10 hnf r_x12 mo418 mo419 mo420 mo421 mo422 mo423 mo424 mo425 mo426 q_x79 c89 c227 mo427 ph3_S367 mo428 mo429 bb_x399 c416 q_x417 c430 r_x432 q_x432 r_x457 q_x457 ex458), Or.inr (by rw [← d_kv9]; exact (qr461 hiv4 r_kv8 r_kv9 r_kv10 hnf r_x12 mo418 mo419 mo420 mo421 mo422 mo423 mo424 mo425 mo426 q_x79 c89 c227 mo427 ph3_S367 mo428 mo429 bb_x399 c416 q_x417 c430 r_x432 q_x432 r_x457 q_x457 ex458))⟩) ea448 (by rw [show x457 = x432 from (qr455 hiv4 r_kv8 r_kv9 r_kv10 hnf r_x12 mo418 mo419 mo420 mo421 mo422 mo423 mo424 mo425 mo426 q_x79 c89 c227 mo427 ph3_S367 mo428 mo429 bb_x399 c416 q_x417 c430 r_x432 q_x432 r_x457 q_x457 ex458), el451]; exact ⟨(qr462 hiv4 r_kv8 r_kv9 r_kv10 hnf r_x12 mo418 mo419 mo420 mo421 mo422 mo423 mo424 p_x52 mo425 mo426 q_x79 c89 c227 mo427 ph3_S367 mo428 mo429 bb_x399 c416 q_x417 c430 r_x432 q_x432 r_x457 q_x457 ex458), (qr463 hiv4 r_kv8 r_kv9 r_kv10 hnf r_x12 mo418 mo419 mo420 mo421 mo422 mo423 mo424 p_x52 mo425 mo426 q_x79 c89 c227 mo427 ph3_S367 mo428 mo429 bb_x399 c416 q_x417 c430 r_x432 q_x432 r_x457 q_x457 ex458), Or.inl rfl⟩)) (fun z _ hz => Or.inl (by rw [eS459] at hz; exact hs_no2 (by decide) z hz)) hG
          have hn := rn_c eS459 (by decide) hn
          have el437 := el_ob eS459 o_a7 o_a434 (by decide) el437
          have el442 := el_ob eS459 o_a7 o_a439 (by decide) el442
          have el451 := el_ob eS459 o_a7 o_a448 (by decide) el451
          have hI := hIn
          have f0 := fr_I eS459 g0 f0 o_a7 (by decide)
          have d_kv8 := rd_Ij eS459 (by decide) d_kv8
          have d_kv9 := rd_Ij eS459 (by decide) d_kv9
          have d_kv10 := rd_Ij eS459 (by decide) d_kv10
          have d_kv371 := rd_Ik eS459 o_a7 o_v0 (by decide) d_kv371
          have d_x417 := rd_Ik eS459 o_a7 o_v0 (by decide) d_x417
          have d_kv415 := rd_Ik eS459 o_a7 o_v0 (by decide) d_kv415
          have d_x458 := rd_Is eS459 (rfl : x458 = x458)
          have ea7 := rf_I eS459 ea7
          have ea434 := rf_I eS459 ea434
          have ea439 := rf_I eS459 ea439
          have ea444 := rf_I eS459 ea444
          have ea448 := rf_I eS459 ea448
          have ea453 := rf_I eS459 ea453
          have l_a434 := ln_I eS459 l_a434
          have l_a439 := ln_I eS459 l_a439
          have l_a444 := ln_I eS459 l_a444
          have l_a448 := ln_I eS459 l_a448
          have l_a453 := ln_I eS459 l_a453
          have g0 := gr_I eS459 g0
          have o_a434 := ob_I eS459 o_a434
          have o_a439 := ob_I eS459 o_a439
          have o_a444 := ob_I eS459 o_a444
          have o_a448 := ob_I eS459 o_a448
          have o_a453 := ob_I eS459 o_a453
          have o_a7 := ob_I eS459 o_a7
          have o_v0 := ob_I eS459 o_v0
          exact hq _ hI g0 f0 ⟨hG, hn, (by have t : x417 = 5 → 0 < kv371 := (qr464 hiv4 hiv6 hO r_kv8 r_kv9 r_kv10 hnf r_x12 ph0_S14 mo418 mo419 ph0_S22 mo420 mo421 hiv29 ph0_S31 mo422 ph0_S41 mo423 ph0_S53 mo424 ph0_S67 mo425 mo426 q_x79 c89 c227 ph0_S367 mo427 ph3_S367 hiv381 ph0_S383 mo428 hiv398 ph0_S400 mo429 bb_x399 c416 q_x417 c430 r_x432 q_x432 r_x457 q_x457 ex458); rw [d_x417, d_kv371] at t; exact t), (by have t : x417 = 5 ∨ ¬ iv4 = 5 := (qr465 hiv4 r_kv8 r_kv9 r_kv10 hnf r_x12 mo418 mo419 mo420 mo421 mo422 mo423 mo424 mo425 mo426 q_x79 c89 c227 mo427 ph3_S367 mo428 mo429 bb_x399 c416 q_x417 c430 r_x432 q_x432 r_x457 q_x457 ex458); rw [di_9, d_x417] at t; exact t), (by have t : iv2 ≤ kv415 ∧ (x417 = 4 → iv2 < kv415 ∨ iv4 = 4) := (qr466 r_kv1 hiv2 hiv4 r_kv8 r_kv9 r_kv10 hnf r_x12 mo418 r_kv19 ph2_S14 mo419 hiv20 mo420 ph2_S22 mo421 mo422 r_kv39 ph2_S31 mo423 r_kv51 ph2_S41 mo424 r_kv64 ph2_S53 hiv65 mo425 ph2_S67 mo426 q_x79 c89 c227 hiv365 mo427 ph2_S367 ph3_S367 mo428 r_kv397 ph2_S383 mo429 r_kv415 ph2_S400 bb_x399 c416 q_x417 c430 r_x432 q_x432 r_x457 q_x457 ex458); rw [di_8, di_9, d_kv415, d_x417] at t; exact t)⟩
        · exact hq _ hI g0 f0 ⟨hG, hn, (by have t : x417 = 5 → 0 < kv371 := (qr467 hiv4 hiv6 hO r_kv8 r_kv9 r_kv10 hnf r_x12 ph0_S14 mo418 mo419 ph0_S22 mo420 mo421 hiv29 ph0_S31 mo422 ph0_S41 mo423 ph0_S53 mo424 ph0_S67 mo425 mo426 q_x79 c89 c227 ph0_S367 mo427 ph3_S367 hiv381 ph0_S383 mo428 hiv398 ph0_S400 mo429 bb_x399 c416 q_x417 c430); rw [d_x417, d_kv371] at t; exact t), (by have t : x417 = 5 ∨ ¬ iv4 = 5 := (qr468 hiv4 r_kv8 r_kv9 r_kv10 hnf r_x12 mo418 mo419 mo420 mo421 mo422 mo423 mo424 mo425 mo426 q_x79 c89 c227 mo427 ph3_S367 mo428 mo429 bb_x399 c416 q_x417 c430); rw [di_9, d_x417] at t; exact t), (by have t : iv2 ≤ kv415 ∧ (x417 = 4 → iv2 < kv415 ∨ iv4 = 4) := (qr469 r_kv1 hiv2 hiv4 r_kv8 r_kv9 r_kv10 hnf r_x12 mo418 r_kv19 ph2_S14 mo419 hiv20 mo420 ph2_S22 mo421 mo422 r_kv39 ph2_S31 mo423 r_kv51 ph2_S41 mo424 r_kv64 ph2_S53 hiv65 mo425 ph2_S67 mo426 q_x79 c89 c227 hiv365 mo427 ph2_S367 ph3_S367 mo428 r_kv397 ph2_S383 mo429 r_kv415 ph2_S400 bb_x399 c416 q_x417 c430); rw [di_8, di_9, d_kv415, d_x417] at t; exact t)⟩
      · have do459_kv415 := d_kv415
        have do459_kv403 := d_kv403
        have do459_kv371 := d_kv371
        refine m_X11_readWhole hI o_v0 hG (by have t : kv403 = 5 → 0 < kv371 := (qr470 hiv4 hiv6 hO r_kv8 r_kv9 r_kv10 hnf r_x12 ph0_S14 mo404 mo405 ph0_S22 mo406 mo407 hiv29 ph0_S31 mo408 ph0_S41 mo409 ph0_S53 mo410 ph0_S67 mo411 mo412 q_x79 c89 c227 ph0_S367 mo413 ph3_S367 hiv381 ph0_S383 mo414 hiv398 ph0_S400 ph1_S400 bb_x399 c416); rw [d_kv403, d_kv371] at t; exact t) (fun x460 S461 hJ g462 fc463 p_x460 => ?_)
        obtain ⟨hG, p_x460, pg0_S461, pg1_S461, pg2_S461⟩ := p_x460
        have hn := rn_fr fc463 g462 hI o_v0 (by decide) hn
        have hI := hJ
        have d_kv8 := d_kv8.trans (fri_at fc463 (by decide) (by decide) o_a7).symm
        have d_kv9 := d_kv9.trans (fri_at fc463 (by decide) (by decide) o_a7).symm
        have d_kv10 := d_kv10.trans (fri_at fc463 (by decide) (by decide) o_a7).symm
        have d_x12 := d_x12.trans (fri_at fc463 (by decide) (by decide) o_a7).symm
        have ea7 := (frr_at fc463 (by decide) (by decide) o_v0).trans ea7
        have f0 := fri_tr (S := S400) g0 f0 fc463 (by decide) (by decide)
        have o_a7 := gr_ob g462 o_a7
        have o_v0 := gr_ob g462 o_v0
        have g0 := gr_tr (T := S400) g0 g462
        obtain ⟨kv464, d_kv464⟩ : ∃ z : Int32, z = fI S461 v0 9 := ⟨_, rfl⟩
        obtain ⟨kv465, d_kv465⟩ : ∃ z : Int32, z = fI S461 v0 13 := ⟨_, rfl⟩
        have ph0_S461 : kv464 = 5 → 0 < kv465 := by rw [d_kv464, d_kv465]; exact pg0_S461
        have ph1_S461 : kv464 = 5 ∨ ¬ kv403 = 5 := by rw [do459_kv403, d_kv464]; exact pg1_S461
        have mo466 : kv464 = 5 ∨ ¬ kv3 = 5 := ph1_S461.elim Or.inl (fun h => Or.inr (mo404.resolve_left h))
        have mo467 : kv464 = 5 ∨ ¬ x12 = (12 : Int32) := ph1_S461.elim Or.inl (fun h => Or.inr (mo405.resolve_left h))
        have mo468 : kv464 = 5 ∨ ¬ kv17 = 5 := ph1_S461.elim Or.inl (fun h => Or.inr (mo406.resolve_left h))
        have mo469 : kv464 = 5 ∨ (0 ≤ x21 ∧ x21 < kv9) := ph1_S461.elim Or.inl (fun h => Or.inr (mo407.resolve_left h))
        have mo470 : kv464 = 5 ∨ ¬ kv25 = 5 := ph1_S461.elim Or.inl (fun h => Or.inr (mo408.resolve_left h))
        have mo471 : kv464 = 5 ∨ ¬ kv34 = 5 := ph1_S461.elim Or.inl (fun h => Or.inr (mo409.resolve_left h))
        have mo472 : kv464 = 5 ∨ ¬ kv44 = 5 := ph1_S461.elim Or.inl (fun h => Or.inr (mo410.resolve_left h))
        have mo473 : kv464 = 5 ∨ ¬ kv56 = 5 := ph1_S461.elim Or.inl (fun h => Or.inr (mo411.resolve_left h))
        have mo474 : kv464 = 5 ∨ (0 ≤ x66 ∧ x66 < kv9) := ph1_S461.elim Or.inl (fun h => Or.inr (mo412.resolve_left h))
        have mo475 : kv464 = 5 ∨ ¬ x79 = 5 := ph1_S461.elim Or.inl (fun h => Or.inr (mo413.resolve_left h))
        have mo476 : kv464 = 5 ∨ ¬ kv370 = 5 := ph1_S461.elim Or.inl (fun h => Or.inr (mo414.resolve_left h))
        have mo477 : kv464 = 5 ∨ ¬ kv386 = 5 := ph1_S461.elim Or.inl (fun h => Or.inr (ph1_S400.resolve_left h))
        obtain ⟨kv478, d_kv478⟩ : ∃ z : Int32, z = fI S461 v0 8 := ⟨_, rfl⟩
        have r_kv478 : (0 : Int32) ≤ kv478 ∧ kv478 ≤ (900 : Int32) := by rw [d_kv478]; exact nu 25 rfl hI o_v0
        have ph2_S461 : kv415 ≤ kv478 ∧ (kv464 = 4 → kv415 < kv478 ∨ kv403 = 4) := by rw [do459_kv415, do459_kv403, d_kv478, d_kv464]; exact pg2_S461
        intro _
        refine u_X11_readRoad_85 ?_
        refine ⟨o_v0, ?_⟩
        intro x479 ex479
        have q_x479 : x479 = kv464 := ex479.trans d_kv464.symm
        have mo480 : x479 = 5 ∨ ¬ kv3 = 5 := mo466.imp_left (fun z => q_x479.trans z)
        have mo481 : x479 = 5 ∨ ¬ x12 = (12 : Int32) := mo467.imp_left (fun z => q_x479.trans z)
        have mo482 : x479 = 5 ∨ ¬ kv17 = 5 := mo468.imp_left (fun z => q_x479.trans z)
        have mo483 : x479 = 5 ∨ (0 ≤ x21 ∧ x21 < kv9) := mo469.imp_left (fun z => q_x479.trans z)
        have mo484 : x479 = 5 ∨ ¬ kv25 = 5 := mo470.imp_left (fun z => q_x479.trans z)
        have mo485 : x479 = 5 ∨ ¬ kv34 = 5 := mo471.imp_left (fun z => q_x479.trans z)
        have mo486 : x479 = 5 ∨ ¬ kv44 = 5 := mo472.imp_left (fun z => q_x479.trans z)
        have mo487 : x479 = 5 ∨ ¬ kv56 = 5 := mo473.imp_left (fun z => q_x479.trans z)
        have mo488 : x479 = 5 ∨ (0 ≤ x66 ∧ x66 < kv9) := mo474.imp_left (fun z => q_x479.trans z)
        have mo489 : x479 = 5 ∨ ¬ x79 = 5 := mo475.imp_left (fun z => q_x479.trans z)
        have mo490 : x479 = 5 ∨ ¬ kv370 = 5 := mo476.imp_left (fun z => q_x479.trans z)
        have mo491 : x479 = 5 ∨ ¬ kv386 = 5 := mo477.imp_left (fun z => q_x479.trans z)
        have mo492 : x479 = 5 ∨ ¬ kv403 = 5 := ph1_S461.imp_left (fun z => q_x479.trans z)
        have d_x479 := ex479
        refine ⟨fun c493 => ?_, fun c493 => ?_⟩
        · refine ⟨a7, ea7, ?_⟩
          refine ⟨o_a7, ?_⟩
          intro x495 ex495
          have r_x495 : (0 : Int32) ≤ x495 ∧ x495 ≤ (12 : Int32) := by rw [ex495]; exact nu 19 rfl hI o_a7
          have q_x495 : x495 = x12 := ex495.trans d_x12.symm
          have d_x495 := ex495
          refine ⟨a7, ea7, ?_⟩
          refine ⟨o_a7, ?_⟩
          obtain ⟨a497, ea497, o_a497, l_a497⟩ := shl 35 rfl hI o_a7
          refine ⟨a497, ea497, ?_⟩
          refine ⟨o_a497, ?_⟩
          have i498 : vp_in x495 (hN _ a497) := (vin l_a497 (m := 12) (by decide) (qr471 hiv4 r_kv8 r_kv9 r_kv10 hnf r_x12 mo480 mo481 mo482 mo483 mo484 mo485 mo486 mo487 mo488 q_x79 c89 c227 mo489 ph3_S367 mo490 mo491 bb_x399 c416 mo492 q_x479 c493 r_x495 q_x495))
          refine ⟨i498, ?_⟩
          intro S499 eS499
          have hIn : IV S499 := by rw [eS499]; exact iv10_aI hI o_a7 (rg_nw hG ea7) ea497 o_a497 (by decide)
          have hG := rg_a (jj := 13) (x := x495) eS499 hI ea7 o_a7 ea497 o_a497 (by decide) (h1_one (c := 3) (lo := 0) (hi := 7) (hf := 2) (by decide) d_x495.symm) (h2_no (y := 0) (by decide)) hG
          have hn := rn_11 eS499 hI o_v0 o_a497 (by decide) hn
          have hI := hIn
          have f0 := fr_A eS499 g0 f0 o_a497 (by decide)
          have d_kv8 := rd_Ik eS499 o_a497 o_a7 (by decide) d_kv8
          have d_kv9 := rd_Ik eS499 o_a497 o_a7 (by decide) d_kv9
          have d_kv10 := rd_Ik eS499 o_a497 o_a7 (by decide) d_kv10
          have d_x495 := rd_Ik eS499 o_a497 o_a7 (by decide) d_x495
          have d_x479 := rd_Ik eS499 o_a497 o_v0 (by decide) d_x479
          have d_kv465 := rd_Ik eS499 o_a497 o_v0 (by decide) d_kv465
          have d_kv478 := rd_Ik eS499 o_a497 o_v0 (by decide) d_kv478
          have ea7 := rf_I eS499 ea7
          have ea497 := rf_I eS499 ea497
          have l_a497 := ln_I eS499 l_a497
          have g0 := gr_I eS499 g0
          have o_a497 := ob_I eS499 o_a497
          have o_a7 := ob_I eS499 o_a7
          have o_v0 := ob_I eS499 o_v0
          have el500 : fI S499 a497 x495.toNatClampNeg = x21 := by rw [eS499]; exact u2_self _ _ _ _
          refine ⟨a7, ea7, ?_⟩
          refine ⟨o_a7, ?_⟩
          obtain ⟨a502, ea502, o_a502, l_a502⟩ := shl 36 rfl hI o_a7
          refine ⟨a502, ea502, ?_⟩
          refine ⟨o_a502, ?_⟩
          have i503 : vp_in x495 (hN _ a502) := (vin l_a502 (m := 12) (by decide) (qr471 hiv4 r_kv8 r_kv9 r_kv10 hnf r_x12 mo480 mo481 mo482 mo483 mo484 mo485 mo486 mo487 mo488 q_x79 c89 c227 mo489 ph3_S367 mo490 mo491 bb_x399 c416 mo492 q_x479 c493 r_x495 q_x495))
          refine ⟨i503, ?_⟩
          intro S504 eS504
          have hIn : IV S504 := by rw [eS504]; exact iv10_aI hI o_a7 (rg_nw hG ea7) ea502 o_a502 (by decide)
          have hG := rg_a (jj := 14) (x := x495) eS504 hI ea7 o_a7 ea502 o_a502 (by decide) (h1_one (c := 3) (lo := 0) (hi := 7) (hf := 2) (by decide) d_x495.symm) (h2_no (y := 0) (by decide)) hG
          have hn := rn_11 eS504 hI o_v0 o_a502 (by decide) hn
          have el500 := el_ar eS504 (ow_ne hI o_a7 (by decide) o_a7 (by decide) ea502 ea497 (by decide)) el500
          have hI := hIn
          have f0 := fr_A eS504 g0 f0 o_a502 (by decide)
          have d_kv8 := rd_Ik eS504 o_a502 o_a7 (by decide) d_kv8
          have d_kv9 := rd_Ik eS504 o_a502 o_a7 (by decide) d_kv9
          have d_kv10 := rd_Ik eS504 o_a502 o_a7 (by decide) d_kv10
          have d_x495 := rd_Ik eS504 o_a502 o_a7 (by decide) d_x495
          have d_x479 := rd_Ik eS504 o_a502 o_v0 (by decide) d_x479
          have d_kv465 := rd_Ik eS504 o_a502 o_v0 (by decide) d_kv465
          have d_kv478 := rd_Ik eS504 o_a502 o_v0 (by decide) d_kv478
          have ea7 := rf_I eS504 ea7
          have ea497 := rf_I eS504 ea497
          have ea502 := rf_I eS504 ea502
          have l_a497 := ln_I eS504 l_a497
          have l_a502 := ln_I eS504 l_a502
          have g0 := gr_I eS504 g0
          have o_a497 := ob_I eS504 o_a497
          have o_a502 := ob_I eS504 o_a502
          have o_a7 := ob_I eS504 o_a7
          have o_v0 := ob_I eS504 o_v0
          have el505 : fI S504 a502 x495.toNatClampNeg = x66 := by rw [eS504]; exact u2_self _ _ _ _
          refine ⟨a7, ea7, ?_⟩
          refine ⟨o_a7, ?_⟩
          obtain ⟨a507, ea507, o_a507, l_a507⟩ := shl 37 rfl hI o_a7
          refine ⟨a507, ea507, ?_⟩
          refine ⟨o_a507, ?_⟩
          have i508 : vp_in x495 (hN _ a507) := (vin l_a507 (m := 12) (by decide) (qr471 hiv4 r_kv8 r_kv9 r_kv10 hnf r_x12 mo480 mo481 mo482 mo483 mo484 mo485 mo486 mo487 mo488 q_x79 c89 c227 mo489 ph3_S367 mo490 mo491 bb_x399 c416 mo492 q_x479 c493 r_x495 q_x495))
          refine ⟨i508, ?_⟩
          intro S509 eS509
          have hIn : IV S509 := by rw [eS509]; exact iv10_aI hI o_a7 (rg_nw hG ea7) ea507 o_a507 (by decide)
          have hG := rg_a (jj := 15) (x := x495) eS509 hI ea7 o_a7 ea507 o_a507 (by decide) (h1_no (by decide)) (h2_no (y := 0) (by decide)) hG
          have hn := rn_11 eS509 hI o_v0 o_a507 (by decide) hn
          have el500 := el_ar eS509 (ow_ne hI o_a7 (by decide) o_a7 (by decide) ea507 ea497 (by decide)) el500
          have el505 := el_ar eS509 (ow_ne hI o_a7 (by decide) o_a7 (by decide) ea507 ea502 (by decide)) el505
          have hI := hIn
          have f0 := fr_A eS509 g0 f0 o_a507 (by decide)
          have d_kv8 := rd_Ik eS509 o_a507 o_a7 (by decide) d_kv8
          have d_kv9 := rd_Ik eS509 o_a507 o_a7 (by decide) d_kv9
          have d_kv10 := rd_Ik eS509 o_a507 o_a7 (by decide) d_kv10
          have d_x495 := rd_Ik eS509 o_a507 o_a7 (by decide) d_x495
          have d_x479 := rd_Ik eS509 o_a507 o_v0 (by decide) d_x479
          have d_kv465 := rd_Ik eS509 o_a507 o_v0 (by decide) d_kv465
          have d_kv478 := rd_Ik eS509 o_a507 o_v0 (by decide) d_kv478
          have ea7 := rf_I eS509 ea7
          have ea497 := rf_I eS509 ea497
          have ea502 := rf_I eS509 ea502
          have ea507 := rf_I eS509 ea507
          have l_a497 := ln_I eS509 l_a497
          have l_a502 := ln_I eS509 l_a502
          have l_a507 := ln_I eS509 l_a507
          have g0 := gr_I eS509 g0
          have o_a497 := ob_I eS509 o_a497
          have o_a502 := ob_I eS509 o_a502
          have o_a507 := ob_I eS509 o_a507
          have o_a7 := ob_I eS509 o_a7
          have o_v0 := ob_I eS509 o_v0
          refine ⟨a7, ea7, ?_⟩
          refine ⟨o_a7, ?_⟩
          obtain ⟨a511, ea511, o_a511, l_a511⟩ := shl 38 rfl hI o_a7
          refine ⟨a511, ea511, ?_⟩
          refine ⟨o_a511, ?_⟩
          have i512 : vp_in x495 (hN _ a511) := (vin l_a511 (m := 12) (by decide) (qr471 hiv4 r_kv8 r_kv9 r_kv10 hnf r_x12 mo480 mo481 mo482 mo483 mo484 mo485 mo486 mo487 mo488 q_x79 c89 c227 mo489 ph3_S367 mo490 mo491 bb_x399 c416 mo492 q_x479 c493 r_x495 q_x495))
          refine ⟨i512, ?_⟩
          intro S513 eS513
          have hIn : IV S513 := by rw [eS513]; exact iv10_aI hI o_a7 (rg_nw hG ea7) ea511 o_a511 (by decide)
          have hG := rg_a (jj := 16) (x := x495) eS513 hI ea7 o_a7 ea511 o_a511 (by decide) (h1_one (c := 3) (lo := 1) (hi := 60) (hf := 99) (by decide) d_x495.symm) (h2_no (y := 0) (by decide)) hG
          have hn := rn_11 eS513 hI o_v0 o_a511 (by decide) hn
          have el500 := el_ar eS513 (ow_ne hI o_a7 (by decide) o_a7 (by decide) ea511 ea497 (by decide)) el500
          have el505 := el_ar eS513 (ow_ne hI o_a7 (by decide) o_a7 (by decide) ea511 ea502 (by decide)) el505
          have hI := hIn
          have f0 := fr_A eS513 g0 f0 o_a511 (by decide)
          have d_kv8 := rd_Ik eS513 o_a511 o_a7 (by decide) d_kv8
          have d_kv9 := rd_Ik eS513 o_a511 o_a7 (by decide) d_kv9
          have d_kv10 := rd_Ik eS513 o_a511 o_a7 (by decide) d_kv10
          have d_x495 := rd_Ik eS513 o_a511 o_a7 (by decide) d_x495
          have d_x479 := rd_Ik eS513 o_a511 o_v0 (by decide) d_x479
          have d_kv465 := rd_Ik eS513 o_a511 o_v0 (by decide) d_kv465
          have d_kv478 := rd_Ik eS513 o_a511 o_v0 (by decide) d_kv478
          have ea7 := rf_I eS513 ea7
          have ea497 := rf_I eS513 ea497
          have ea502 := rf_I eS513 ea502
          have ea507 := rf_I eS513 ea507
          have ea511 := rf_I eS513 ea511
          have l_a497 := ln_I eS513 l_a497
          have l_a502 := ln_I eS513 l_a502
          have l_a507 := ln_I eS513 l_a507
          have l_a511 := ln_I eS513 l_a511
          have g0 := gr_I eS513 g0
          have o_a497 := ob_I eS513 o_a497
          have o_a502 := ob_I eS513 o_a502
          have o_a507 := ob_I eS513 o_a507
          have o_a511 := ob_I eS513 o_a511
          have o_a7 := ob_I eS513 o_a7
          have o_v0 := ob_I eS513 o_v0
          have el514 : fI S513 a511 x495.toNatClampNeg = x52 := by rw [eS513]; exact u2_self _ _ _ _
          refine ⟨a7, ea7, ?_⟩
          refine ⟨o_a7, ?_⟩
          obtain ⟨a516, ea516, o_a516, l_a516⟩ := shl 39 rfl hI o_a7
          refine ⟨a516, ea516, ?_⟩
          refine ⟨o_a516, ?_⟩
          have i517 : vp_in x495 (hN _ a516) := (vin l_a516 (m := 12) (by decide) (qr471 hiv4 r_kv8 r_kv9 r_kv10 hnf r_x12 mo480 mo481 mo482 mo483 mo484 mo485 mo486 mo487 mo488 q_x79 c89 c227 mo489 ph3_S367 mo490 mo491 bb_x399 c416 mo492 q_x479 c493 r_x495 q_x495))
          refine ⟨i517, ?_⟩
          intro S518 eS518
          have hIn : IV S518 := by rw [eS518]; exact iv10_aI hI o_a7 (rg_nw hG ea7) ea516 o_a516 (by decide)
          have hG := rg_a (jj := 17) (x := x495) eS518 hI ea7 o_a7 ea516 o_a516 (by decide) (h1_no (by decide)) (h2_no (y := 0) (by decide)) hG
          have hn := rn_11 eS518 hI o_v0 o_a516 (by decide) hn
          have el500 := el_ar eS518 (ow_ne hI o_a7 (by decide) o_a7 (by decide) ea516 ea497 (by decide)) el500
          have el505 := el_ar eS518 (ow_ne hI o_a7 (by decide) o_a7 (by decide) ea516 ea502 (by decide)) el505
          have el514 := el_ar eS518 (ow_ne hI o_a7 (by decide) o_a7 (by decide) ea516 ea511 (by decide)) el514
          have hI := hIn
          have f0 := fr_A eS518 g0 f0 o_a516 (by decide)
          have d_kv8 := rd_Ik eS518 o_a516 o_a7 (by decide) d_kv8
          have d_kv9 := rd_Ik eS518 o_a516 o_a7 (by decide) d_kv9
          have d_kv10 := rd_Ik eS518 o_a516 o_a7 (by decide) d_kv10
          have d_x495 := rd_Ik eS518 o_a516 o_a7 (by decide) d_x495
          have d_x479 := rd_Ik eS518 o_a516 o_v0 (by decide) d_x479
          have d_kv465 := rd_Ik eS518 o_a516 o_v0 (by decide) d_kv465
          have d_kv478 := rd_Ik eS518 o_a516 o_v0 (by decide) d_kv478
          have ea7 := rf_I eS518 ea7
          have ea497 := rf_I eS518 ea497
          have ea502 := rf_I eS518 ea502
          have ea507 := rf_I eS518 ea507
          have ea511 := rf_I eS518 ea511
          have ea516 := rf_I eS518 ea516
          have l_a497 := ln_I eS518 l_a497
          have l_a502 := ln_I eS518 l_a502
          have l_a507 := ln_I eS518 l_a507
          have l_a511 := ln_I eS518 l_a511
          have l_a516 := ln_I eS518 l_a516
          have g0 := gr_I eS518 g0
          have o_a497 := ob_I eS518 o_a497
          have o_a502 := ob_I eS518 o_a502
          have o_a507 := ob_I eS518 o_a507
          have o_a511 := ob_I eS518 o_a511
          have o_a516 := ob_I eS518 o_a516
          have o_a7 := ob_I eS518 o_a7
          have o_v0 := ob_I eS518 o_v0
          refine ⟨a7, ea7, ?_⟩
          refine ⟨o_a7, ?_⟩
          intro x520 ex520
          have r_x520 : (0 : Int32) ≤ x520 ∧ x520 ≤ (12 : Int32) := by rw [ex520]; exact nu 19 rfl hI o_a7
          have q_x520 : x520 = x495 := ex520.trans d_x495.symm
          have d_x520 := ex520
          intro x521 ex521
          intro S522 eS522
          have hIn : IV S522 := by rw [eS522]; exact iv10_sI hI o_a7 (rg_nw hG ea7) (nu_one (lo := (0 : Int32)) (hi := (12 : Int32)) (by decide) (qr472 hiv4 r_kv8 r_kv9 r_kv10 hnf r_x12 mo480 mo481 mo482 mo483 mo484 mo485 mo486 mo487 mo488 q_x79 c89 c227 mo489 ph3_S367 mo490 mo491 bb_x399 c416 mo492 q_x479 c493 r_x495 q_x495 r_x520 q_x520 ex521))
          have hG := rg_inc (c := 3) (y := x520) eS522 hI ea7 o_a7 d_x520.symm (qr473 hiv4 r_kv8 r_kv9 r_kv10 hnf r_x12 mo480 mo481 mo482 mo483 mo484 mo485 mo486 mo487 mo488 q_x79 c89 c227 mo489 ph3_S367 mo490 mo491 bb_x399 c416 mo492 q_x479 c493 r_x495 q_x495 r_x520 q_x520 ex521) (qr474 hiv4 r_kv8 r_kv9 r_kv10 hnf r_x12 mo480 mo481 mo482 mo483 mo484 mo485 mo486 mo487 mo488 q_x79 c89 c227 mo489 ph3_S367 mo490 mo491 bb_x399 c416 mo492 q_x479 c493 r_x495 q_x495 r_x520 q_x520 ex521) (hn_3 ea497 (by rw [show x520 = x495 from (qr475 hiv4 r_kv8 r_kv9 r_kv10 hnf r_x12 mo480 mo481 mo482 mo483 mo484 mo485 mo486 mo487 mo488 q_x79 c89 c227 mo489 ph3_S367 mo490 mo491 bb_x399 c416 mo492 q_x479 c493 r_x495 q_x495 r_x520 q_x520 ex521), el500]; exact ⟨(qr476 hiv4 r_kv8 r_kv9 r_kv10 hnf r_x12 mo480 mo481 mo482 mo483 mo484 mo485 mo486 mo487 mo488 q_x79 c89 c227 mo489 ph3_S367 mo490 mo491 bb_x399 c416 mo492 q_x479 c493 r_x495 q_x495 r_x520 q_x520 ex521), (qr477 hiv4 r_kv8 r_kv9 r_kv10 hnf r_x12 mo480 mo481 mo482 mo483 mo484 mo485 mo486 mo487 mo488 q_x79 c89 c227 mo489 ph3_S367 mo490 mo491 bb_x399 c416 mo492 q_x479 c493 r_x495 q_x495 r_x520 q_x520 ex521), Or.inr (by rw [← d_kv9]; exact (qr478 hiv4 r_kv8 r_kv9 r_kv10 hnf r_x12 mo480 mo481 mo482 mo483 mo484 mo485 mo486 mo487 mo488 q_x79 c89 c227 mo489 ph3_S367 mo490 mo491 bb_x399 c416 mo492 q_x479 c493 r_x495 q_x495 r_x520 q_x520 ex521))⟩) ea502 (by rw [show x520 = x495 from (qr475 hiv4 r_kv8 r_kv9 r_kv10 hnf r_x12 mo480 mo481 mo482 mo483 mo484 mo485 mo486 mo487 mo488 q_x79 c89 c227 mo489 ph3_S367 mo490 mo491 bb_x399 c416 mo492 q_x479 c493 r_x495 q_x495 r_x520 q_x520 ex521), el505]; exact ⟨(qr479 hiv4 r_kv8 r_kv9 r_kv10 hnf r_x12 mo480 mo481 mo482 mo483 mo484 mo485 mo486 mo487 mo488 q_x79 c89 c227 mo489 ph3_S367 mo490 mo491 bb_x399 c416 mo492 q_x479 c493 r_x495 q_x495 r_x520 q_x520 ex521), (qr480 hiv4 r_kv8 r_kv9 r_kv10 hnf r_x12 mo480 mo481 mo482 mo483 mo484 mo485 mo486 mo487 mo488 q_x79 c89 c227 mo489 ph3_S367 mo490 mo491 bb_x399 c416 mo492 q_x479 c493 r_x495 q_x495 r_x520 q_x520 ex521), Or.inr (by rw [← d_kv9]; exact (qr481 hiv4 r_kv8 r_kv9 r_kv10 hnf r_x12 mo480 mo481 mo482 mo483 mo484 mo485 mo486 mo487 mo488 q_x79 c89 c227 mo489 ph3_S367 mo490 mo491 bb_x399 c416 mo492 q_x479 c493 r_x495 q_x495 r_x520 q_x520 ex521))⟩) ea511 (by rw [show x520 = x495 from (qr475 hiv4 r_kv8 r_kv9 r_kv10 hnf r_x12 mo480 mo481 mo482 mo483 mo484 mo485 mo486 mo487 mo488 q_x79 c89 c227 mo489 ph3_S367 mo490 mo491 bb_x399 c416 mo492 q_x479 c493 r_x495 q_x495 r_x520 q_x520 ex521), el514]; exact ⟨(qr482 hiv4 r_kv8 r_kv9 r_kv10 hnf r_x12 mo480 mo481 mo482 mo483 mo484 mo485 mo486 p_x52 mo487 mo488 q_x79 c89 c227 mo489 ph3_S367 mo490 mo491 bb_x399 c416 mo492 p_x460 q_x479 c493 r_x495 q_x495 r_x520 q_x520 ex521), (qr483 hiv4 r_kv8 r_kv9 r_kv10 hnf r_x12 mo480 mo481 mo482 mo483 mo484 mo485 mo486 p_x52 mo487 mo488 q_x79 c89 c227 mo489 ph3_S367 mo490 mo491 bb_x399 c416 mo492 p_x460 q_x479 c493 r_x495 q_x495 r_x520 q_x520 ex521), Or.inl rfl⟩)) (fun z _ hz => Or.inl (by rw [eS522] at hz; exact hs_no2 (by decide) z hz)) hG
          have hn := rn_c eS522 (by decide) hn
          have el500 := el_ob eS522 o_a7 o_a497 (by decide) el500
          have el505 := el_ob eS522 o_a7 o_a502 (by decide) el505
          have el514 := el_ob eS522 o_a7 o_a511 (by decide) el514
          have hI := hIn
          have f0 := fr_I eS522 g0 f0 o_a7 (by decide)
          have d_kv8 := rd_Ij eS522 (by decide) d_kv8
          have d_kv9 := rd_Ij eS522 (by decide) d_kv9
          have d_kv10 := rd_Ij eS522 (by decide) d_kv10
          have d_x479 := rd_Ik eS522 o_a7 o_v0 (by decide) d_x479
          have d_kv465 := rd_Ik eS522 o_a7 o_v0 (by decide) d_kv465
          have d_kv478 := rd_Ik eS522 o_a7 o_v0 (by decide) d_kv478
          have d_x521 := rd_Is eS522 (rfl : x521 = x521)
          have ea7 := rf_I eS522 ea7
          have ea497 := rf_I eS522 ea497
          have ea502 := rf_I eS522 ea502
          have ea507 := rf_I eS522 ea507
          have ea511 := rf_I eS522 ea511
          have ea516 := rf_I eS522 ea516
          have l_a497 := ln_I eS522 l_a497
          have l_a502 := ln_I eS522 l_a502
          have l_a507 := ln_I eS522 l_a507
          have l_a511 := ln_I eS522 l_a511
          have l_a516 := ln_I eS522 l_a516
          have g0 := gr_I eS522 g0
          have o_a497 := ob_I eS522 o_a497
          have o_a502 := ob_I eS522 o_a502
          have o_a507 := ob_I eS522 o_a507
          have o_a511 := ob_I eS522 o_a511
          have o_a516 := ob_I eS522 o_a516
          have o_a7 := ob_I eS522 o_a7
          have o_v0 := ob_I eS522 o_v0
          exact hq _ hI g0 f0 ⟨hG, hn, (by have t : x479 = 5 → 0 < kv465 := (qr484 hiv4 hiv6 hO r_kv8 r_kv9 r_kv10 hnf r_x12 ph0_S14 mo480 mo481 ph0_S22 mo482 mo483 hiv29 ph0_S31 mo484 ph0_S41 mo485 ph0_S53 mo486 ph0_S67 mo487 mo488 q_x79 c89 c227 ph0_S367 mo489 ph3_S367 hiv381 ph0_S383 mo490 hiv398 ph0_S400 mo491 bb_x399 c416 ph0_S461 mo492 q_x479 c493 r_x495 q_x495 r_x520 q_x520 ex521); rw [d_x479, d_kv465] at t; exact t), (by have t : x479 = 5 ∨ ¬ iv4 = 5 := (qr485 hiv4 r_kv8 r_kv9 r_kv10 hnf r_x12 mo480 mo481 mo482 mo483 mo484 mo485 mo486 mo487 mo488 q_x79 c89 c227 mo489 ph3_S367 mo490 mo491 bb_x399 c416 mo492 q_x479 c493 r_x495 q_x495 r_x520 q_x520 ex521); rw [di_9, d_x479] at t; exact t), (by have t : iv2 ≤ kv478 ∧ (x479 = 4 → iv2 < kv478 ∨ iv4 = 4) := (qr486 r_kv1 hiv2 hiv4 r_kv8 r_kv9 r_kv10 hnf r_x12 mo480 r_kv19 ph2_S14 mo481 hiv20 mo482 ph2_S22 mo483 mo484 r_kv39 ph2_S31 mo485 r_kv51 ph2_S41 mo486 r_kv64 ph2_S53 hiv65 mo487 ph2_S67 mo488 q_x79 c89 c227 hiv365 mo489 ph2_S367 ph3_S367 mo490 r_kv397 ph2_S383 mo491 r_kv415 ph2_S400 bb_x399 c416 mo492 r_kv478 ph2_S461 q_x479 c493 r_x495 q_x495 r_x520 q_x520 ex521); rw [di_8, di_9, d_kv478, d_x479] at t; exact t)⟩
        · exact hq _ hI g0 f0 ⟨hG, hn, (by have t : x479 = 5 → 0 < kv465 := (qr487 hiv4 hiv6 hO r_kv8 r_kv9 r_kv10 hnf r_x12 ph0_S14 mo480 mo481 ph0_S22 mo482 mo483 hiv29 ph0_S31 mo484 ph0_S41 mo485 ph0_S53 mo486 ph0_S67 mo487 mo488 q_x79 c89 c227 ph0_S367 mo489 ph3_S367 hiv381 ph0_S383 mo490 hiv398 ph0_S400 mo491 bb_x399 c416 ph0_S461 mo492 q_x479 c493); rw [d_x479, d_kv465] at t; exact t), (by have t : x479 = 5 ∨ ¬ iv4 = 5 := (qr488 hiv4 r_kv8 r_kv9 r_kv10 hnf r_x12 mo480 mo481 mo482 mo483 mo484 mo485 mo486 mo487 mo488 q_x79 c89 c227 mo489 ph3_S367 mo490 mo491 bb_x399 c416 mo492 q_x479 c493); rw [di_9, d_x479] at t; exact t), (by have t : iv2 ≤ kv478 ∧ (x479 = 4 → iv2 < kv478 ∨ iv4 = 4) := (qr489 r_kv1 hiv2 hiv4 r_kv8 r_kv9 r_kv10 hnf r_x12 mo480 r_kv19 ph2_S14 mo481 hiv20 mo482 ph2_S22 mo483 mo484 r_kv39 ph2_S31 mo485 r_kv51 ph2_S41 mo486 r_kv64 ph2_S53 hiv65 mo487 ph2_S67 mo488 q_x79 c89 c227 hiv365 mo489 ph2_S367 ph3_S367 mo490 r_kv397 ph2_S383 mo491 r_kv415 ph2_S400 bb_x399 c416 mo492 r_kv478 ph2_S461 q_x479 c493); rw [di_8, di_9, d_kv478, d_x479] at t; exact t)⟩
end
