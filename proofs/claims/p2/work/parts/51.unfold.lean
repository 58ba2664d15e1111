theorem u_X2_addFaces {v0 : Nat} {v1 : Nat} {Q : HS → Prop} {S : HS} (h : P_X2_addFaces_0 Q v0 v1 S) : P_X2_addFaces v0 v1 Q S := h
theorem u_X2_addFaces_0 {Q : HS → Prop} {v0 : Nat} {v1 : Nat} {S : HS} (h : P_X2_addFaces_2 Q v0 v1 (0 : Int32) S) : P_X2_addFaces_0 Q v0 v1 S := h
theorem u_X2_addFaces_2 {Q : HS → Prop} {X2 : Nat → Nat → Int32 → HS → Prop} {v0 : Nat} {v1 : Nat} {v2 : Int32} {S : HS} (h : (((5 : Int32) ≤ v2) → (Q S)) ∧ ((¬ (5 : Int32) ≤ v2) → (ob S v1 14 ∧ ((((nI (hN S v1)) ≤ v2) → (Q S)) ∧ ((¬ (nI (hN S v1)) ≤ v2) → (ob S v0 2 ∧ (∃ a3 : Nat, fR S v0 2 = some a3 ∧ (ob S a3 14 ∧ (vp_in v2 (hN S a3) ∧ ∀ x5 : Int64, x5 = fJ S a3 v2.toNatClampNeg → (vp_in v2 (hN S v1) ∧ ∀ x7 : Int64, x7 = fJ S v1 v2.toNatClampNeg → (∀ x9 : Int64, x9 = x5 + x7 → (vp_in v2 (hN S a3) ∧ (∀ x10 : Int32, x10 = v2 + (1 : Int32) → (X2 v0 v1 x10 (sJ S a3 v2.toNatClampNeg x9))))))))))))))) : B_X2_addFaces_2 Q X2 v0 v1 v2 S := h
theorem i_X2_addFaces_2 {Q : HS → Prop} (μ : Nat → Nat → Int32 → HS → Nat) (I : Nat → Nat → Int32 → HS → Prop) (hs : ∀ (v0 : Nat) (v1 : Nat) (v2 : Int32) (S : HS) (X : Nat → Nat → Int32 → HS → Prop), I v0 v1 v2 S → (∀ (w0 : Nat) (w1 : Nat) (w2 : Int32) (T : HS), I w0 w1 w2 T → μ w0 w1 w2 T < μ v0 v1 v2 S → X w0 w1 w2 T) → B_X2_addFaces_2 Q X v0 v1 v2 S) : ∀ (v0 : Nat) (v1 : Nat) (v2 : Int32) (S : HS), I v0 v1 v2 S → P_X2_addFaces_2 Q v0 v1 v2 S := by
  intro v0 v1 v2 S h X hX
  have key : ∀ (z : Nat) (v0 : Nat) (v1 : Nat) (v2 : Int32) (S : HS), μ v0 v1 v2 S < z → I v0 v1 v2 S → X v0 v1 v2 S := by
    intro z
    induction z with
    | zero => intro v0 v1 v2 S hz; exact absurd hz (Nat.not_lt_zero _)
    | succ z ih => intro v0 v1 v2 S hz hI; exact hX _ _ _ _ (hs _ _ _ _ _ hI (fun w0 w1 w2 T hT hl => ih _ _ _ _ (by omega) hT))
  exact key _ _ _ _ _ (Nat.lt_succ_self _) h
theorem u_X2_allGot {v0 : Nat} {Q : Int64 → HS → Prop} {S : HS} (h : P_X2_allGot_0 Q v0 S) : P_X2_allGot v0 Q S := h
theorem u_X2_allGot_0 {Q : Int64 → HS → Prop} {v0 : Nat} {S : HS} (h : P_X2_allGot_4 Q v0 (0 : Int64) (0 : Int32) S) : P_X2_allGot_0 Q v0 S := h
theorem u_X2_allGot_4 {Q : Int64 → HS → Prop} {X4 : Nat → Int64 → Int32 → HS → Prop} {v0 : Nat} {v1 : Int64} {v3 : Int32} {S : HS} (h : (((5 : Int32) ≤ v3) → (Q v1 S)) ∧ ((¬ (5 : Int32) ≤ v3) → (ob S v0 2 ∧ (∃ a2 : Nat, fR S v0 2 = some a2 ∧ (ob S a2 14 ∧ (vp_in v3 (hN S a2) ∧ ∀ x4 : Int64, x4 = fJ S a2 v3.toNatClampNeg → (∀ x5 : Int64, x5 = v1 + x4 → (∀ x6 : Int32, x6 = v3 + (1 : Int32) → (X4 v0 x5 x6 S))))))))) : B_X2_allGot_4 Q X4 v0 v1 v3 S := h
theorem i_X2_allGot_4 {Q : Int64 → HS → Prop} (μ : Nat → Int64 → Int32 → HS → Nat) (I : Nat → Int64 → Int32 → HS → Prop) (hs : ∀ (v0 : Nat) (v1 : Int64) (v3 : Int32) (S : HS) (X : Nat → Int64 → Int32 → HS → Prop), I v0 v1 v3 S → (∀ (w0 : Nat) (w1 : Int64) (w3 : Int32) (T : HS), I w0 w1 w3 T → μ w0 w1 w3 T < μ v0 v1 v3 S → X w0 w1 w3 T) → B_X2_allGot_4 Q X v0 v1 v3 S) : ∀ (v0 : Nat) (v1 : Int64) (v3 : Int32) (S : HS), I v0 v1 v3 S → P_X2_allGot_4 Q v0 v1 v3 S := by
  intro v0 v1 v3 S h X hX
  have key : ∀ (z : Nat) (v0 : Nat) (v1 : Int64) (v3 : Int32) (S : HS), μ v0 v1 v3 S < z → I v0 v1 v3 S → X v0 v1 v3 S := by
    intro z
    induction z with
    | zero => intro v0 v1 v3 S hz; exact absurd hz (Nat.not_lt_zero _)
    | succ z ih => intro v0 v1 v3 S hz hI; exact hX _ _ _ _ (hs _ _ _ _ _ hI (fun w0 w1 w3 T hT hl => ih _ _ _ _ (by omega) hT))
  exact key _ _ _ _ _ (Nat.lt_succ_self _) h
theorem u_X2_copy {v0 : Nat} {v1 : Nat} {Q : HS → Prop} {S : HS} (h : P_X2_copy_0 Q v0 v1 S) : P_X2_copy v0 v1 Q S := h
theorem u_X2_copy_0 {Q : HS → Prop} {v0 : Nat} {v1 : Nat} {S : HS} (h : ob S v1 2 ∧ (∀ x1 : Int32, x1 = fI S v1 0 → (ob S v0 2 ∧ (∀ x2 : Int32, x2 = fI (sI S v0 0 x1) v1 1 → (P_X2_copy_18 Q v0 v1 (0 : Int32) (sI (sI S v0 0 x1) v0 1 x2)))))) : P_X2_copy_0 Q v0 v1 S := h
theorem u_X2_copy_18 {Q : HS → Prop} {X18 : Nat → Nat → Int32 → HS → Prop} {v0 : Nat} {v1 : Nat} {v2 : Int32} {S : HS} (h : (((5 : Int32) ≤ v2) → (Q S)) ∧ ((¬ (5 : Int32) ≤ v2) → (ob S v0 2 ∧ (∃ a2 : Nat, fR S v0 2 = some a2 ∧ (ob S v1 2 ∧ (∃ a3 : Nat, fR S v1 2 = some a3 ∧ (ob S a3 14 ∧ (vp_in v2 (hN S a3) ∧ ∀ x5 : Int64, x5 = fJ S a3 v2.toNatClampNeg → (ob S a2 14 ∧ (vp_in v2 (hN S a2) ∧ (∀ x7 : Int32, x7 = v2 + (1 : Int32) → (X18 v0 v1 x7 (sJ S a2 v2.toNatClampNeg x5))))))))))))) : B_X2_copy_18 Q X18 v0 v1 v2 S := h
theorem i_X2_copy_18 {Q : HS → Prop} (μ : Nat → Nat → Int32 → HS → Nat) (I : Nat → Nat → Int32 → HS → Prop) (hs : ∀ (v0 : Nat) (v1 : Nat) (v2 : Int32) (S : HS) (X : Nat → Nat → Int32 → HS → Prop), I v0 v1 v2 S → (∀ (w0 : Nat) (w1 : Nat) (w2 : Int32) (T : HS), I w0 w1 w2 T → μ w0 w1 w2 T < μ v0 v1 v2 S → X w0 w1 w2 T) → B_X2_copy_18 Q X v0 v1 v2 S) : ∀ (v0 : Nat) (v1 : Nat) (v2 : Int32) (S : HS), I v0 v1 v2 S → P_X2_copy_18 Q v0 v1 v2 S := by
  intro v0 v1 v2 S h X hX
  have key : ∀ (z : Nat) (v0 : Nat) (v1 : Nat) (v2 : Int32) (S : HS), μ v0 v1 v2 S < z → I v0 v1 v2 S → X v0 v1 v2 S := by
    intro z
    induction z with
    | zero => intro v0 v1 v2 S hz; exact absurd hz (Nat.not_lt_zero _)
    | succ z ih => intro v0 v1 v2 S hz hI; exact hX _ _ _ _ (hs _ _ _ _ _ hI (fun w0 w1 w2 T hT hl => ih _ _ _ _ (by omega) hT))
  exact key _ _ _ _ _ (Nat.lt_succ_self _) h
