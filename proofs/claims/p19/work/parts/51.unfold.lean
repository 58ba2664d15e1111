section
theorem u_X0_begin {v0 : Nat} {v1 : Int32} {v2 : Int32} {v3 : Int32} {Q : HS → Prop} {S : HS} (h : P_X0_begin_0 Q v0 v1 v2 v3 S) : P_X0_begin v0 v1 v2 v3 Q S := h
theorem u_X0_begin_0 {Q : HS → Prop} {v0 : Nat} {v1 : Int32} {v2 : Int32} {v3 : Int32} {S : HS} (h : ob S v0 0 ∧ (P_X0_end v0 (fun S1 => Gr S S1 → (∀ S4 : HS, S4 = sI S1 v0 0 v1 → (∃ a5 : Nat, fR S4 v0 4 = some a5 ∧ (ob S4 a5 2 ∧ (∀ S6 : HS, S6 = sI S4 a5 0 v2 → (∃ a7 : Nat, fR S6 v0 4 = some a7 ∧ (ob S6 a7 2 ∧ (∀ S8 : HS, S8 = sI S6 a7 1 v3 → (P_X0_begin_28 Q v0 (0 : Int32) S8))))))))) S)) : P_X0_begin_0 Q v0 v1 v2 v3 S := h
theorem u_X0_begin_28 {Q : HS → Prop} {X28 : Nat → Int32 → HS → Prop} {v0 : Nat} {v4 : Int32} {S : HS} (h : (((5 : Int32) ≤ v4) → (Q S)) ∧ ((¬ (5 : Int32) ≤ v4) → (ob S v0 0 ∧ (∃ a2 : Nat, fR S v0 4 = some a2 ∧ (ob S a2 2 ∧ (∃ a3 : Nat, fR S a2 2 = some a3 ∧ (ob S a3 14 ∧ (vp_in v4 (hN S a3) ∧ (∀ S5 : HS, S5 = sJ S a3 v4.toNatClampNeg (0 : Int64) → (∀ x6 : Int32, x6 = v4 + (1 : Int32) → (X28 v0 x6 S5))))))))))) : B_X0_begin_28 Q X28 v0 v4 S := h
theorem i_X0_begin_28 {Q : HS → Prop} (μ : Nat → Int32 → HS → Nat) (I : Nat → Int32 → HS → Prop) (hs : ∀ (v0 : Nat) (v4 : Int32) (S : HS) (X : Nat → Int32 → HS → Prop), I v0 v4 S → (∀ (w0 : Nat) (w4 : Int32) (T : HS), I w0 w4 T → μ w0 w4 T < μ v0 v4 S → X w0 w4 T) → B_X0_begin_28 Q X v0 v4 S) : ∀ (v0 : Nat) (v4 : Int32) (S : HS), I v0 v4 S → P_X0_begin_28 Q v0 v4 S := by
  intro v0 v4 S h X hX
  have key : ∀ (z : Nat) (v0 : Nat) (v4 : Int32) (S : HS), μ v0 v4 S < z → I v0 v4 S → X v0 v4 S := by
    intro z
    induction z with
    | zero => intro v0 v4 S hz; exact absurd hz (Nat.not_lt_zero _)
    | succ z ih => intro v0 v4 S hz hI; exact hX _ _ _ (hs _ _ _ _ hI (fun w0 w4 T hT hl => ih _ _ _ (by omega) hT))
  exact key _ _ _ _ (Nat.lt_succ_self _) h
theorem u_X0_draw {v0 : Nat} {v1 : Nat} {v2 : Int32} {Q : HS → Prop} {S : HS} (h : P_X0_draw_0 Q v0 v1 v2 S) : P_X0_draw v0 v1 v2 Q S := h
theorem u_X0_draw_0 {Q : HS → Prop} {v0 : Nat} {v1 : Nat} {v2 : Int32} {S : HS} (h : ob S v0 0 ∧ (∀ S1 : HS, S1 = sI S v0 1 (0 : Int32) → (P_X0_draw_10 Q v0 v1 v2 (0 : Int32) S1))) : P_X0_draw_0 Q v0 v1 v2 S := h
theorem u_X0_draw_10 {Q : HS → Prop} {X10 : Nat → Nat → Int32 → Int32 → HS → Prop} {v0 : Nat} {v1 : Nat} {v3 : Int32} {v4 : Int32} {S : HS} (h : ob S v1 8 ∧ (∀ x1 : Int32, x1 = fI S v1 1 → (((x1 ≤ v4) → (Q S)) ∧ ((¬ x1 ≤ v4) → (∀ x3 : Int32, x3 = (((75 : Int32) * v3) + (74 : Int32)) - (((75 : Int32) * v3) + (74 : Int32)) / (65537 : Int32) * (65537 : Int32) → (∀ x4 : Int32, x4 = x3 - x3 / (100 : Int32) * (100 : Int32) → (∃ a5 : Nat, fR S v1 6 = some a5 ∧ (ob S a5 17 ∧ (vp_in v4 (hN S a5) ∧ ∃ a7 : Nat, fR S a5 v4.toNatClampNeg = some a7 ∧ (ob S a7 3 ∧ (∀ x8 : Int32, x8 = fI S a7 4 → (((x8 ≤ x4) → (P_X0_draw_60 Q X10 v0 v1 x3 v4 S)) ∧ ((¬ x8 ≤ x4) → (ob S v0 0 ∧ (∀ x10 : Int32, x10 = fI S v0 1 → (∀ x11 : Int32, x11 = x10 ||| ((1 : Int32) <<< (v4 &&& 31)) → (∀ S12 : HS, S12 = sI S v0 1 x11 → (P_X0_draw_60 Q X10 v0 v1 x3 v4 S12)))))))))))))))))) : B_X0_draw_10 Q X10 v0 v1 v3 v4 S := h
theorem i_X0_draw_10 {Q : HS → Prop} (μ : Nat → Nat → Int32 → Int32 → HS → Nat) (I : Nat → Nat → Int32 → Int32 → HS → Prop) (hs : ∀ (v0 : Nat) (v1 : Nat) (v3 : Int32) (v4 : Int32) (S : HS) (X : Nat → Nat → Int32 → Int32 → HS → Prop), I v0 v1 v3 v4 S → (∀ (w0 : Nat) (w1 : Nat) (w3 : Int32) (w4 : Int32) (T : HS), I w0 w1 w3 w4 T → μ w0 w1 w3 w4 T < μ v0 v1 v3 v4 S → X w0 w1 w3 w4 T) → B_X0_draw_10 Q X v0 v1 v3 v4 S) : ∀ (v0 : Nat) (v1 : Nat) (v3 : Int32) (v4 : Int32) (S : HS), I v0 v1 v3 v4 S → P_X0_draw_10 Q v0 v1 v3 v4 S := by
  intro v0 v1 v3 v4 S h X hX
  have key : ∀ (z : Nat) (v0 : Nat) (v1 : Nat) (v3 : Int32) (v4 : Int32) (S : HS), μ v0 v1 v3 v4 S < z → I v0 v1 v3 v4 S → X v0 v1 v3 v4 S := by
    intro z
    induction z with
    | zero => intro v0 v1 v3 v4 S hz; exact absurd hz (Nat.not_lt_zero _)
    | succ z ih => intro v0 v1 v3 v4 S hz hI; exact hX _ _ _ _ _ (hs _ _ _ _ _ _ hI (fun w0 w1 w3 w4 T hT hl => ih _ _ _ _ _ (by omega) hT))
  exact key _ _ _ _ _ _ (Nat.lt_succ_self _) h
theorem u_X0_draw_60 {Q : HS → Prop} {X10 : Nat → Nat → Int32 → Int32 → HS → Prop} {v0 : Nat} {v1 : Nat} {v3 : Int32} {v4 : Int32} {S : HS} (h : ∀ x1 : Int32, x1 = v4 + (1 : Int32) → (X10 v0 v1 v3 x1 S)) : P_X0_draw_60 Q X10 v0 v1 v3 v4 S := h
theorem u_X0_end {v0 : Nat} {Q : HS → Prop} {S : HS} (h : P_X0_end_0 Q v0 S) : P_X0_end v0 Q S := h
theorem u_X0_end_0 {Q : HS → Prop} {v0 : Nat} {S : HS} (h : ob S v0 0 ∧ (∀ S1 : HS, S1 = sI S v0 0 (-1 : Int32) → (∀ S2 : HS, S2 = sI S1 v0 2 (0 : Int32) → (∀ S3 : HS, S3 = sI S2 v0 3 (0 : Int32) → (Q S3))))) : P_X0_end_0 Q v0 S := h
theorem u_X0_isOn {v0 : Nat} {Q : Int32 → HS → Prop} {S : HS} (h : P_X0_isOn_0 Q v0 S) : P_X0_isOn v0 Q S := h
theorem u_X0_isOn_0 {Q : Int32 → HS → Prop} {v0 : Nat} {S : HS} (h : ob S v0 0 ∧ (∀ x1 : Int32, x1 = fI S v0 0 → (((x1 = (-1 : Int32)) → (Q (0 : Int32) S)) ∧ ((¬ x1 = (-1 : Int32)) → (Q (1 : Int32) S))))) : P_X0_isOn_0 Q v0 S := h
theorem u_X0_keepForUndo {v0 : Nat} {Q : HS → Prop} {S : HS} (h : P_X0_keepForUndo_0 Q v0 S) : P_X0_keepForUndo v0 Q S := h
theorem u_X0_keepForUndo_0 {Q : HS → Prop} {v0 : Nat} {S : HS} (h : ob S v0 0 ∧ (∀ x1 : Int32, x1 = fI S v0 2 → (((x1 < (16 : Int32)) → (P_X0_keepForUndo_58 Q v0 S)) ∧ ((¬ x1 < (16 : Int32)) → (∃ a3 : Nat, fR S v0 5 = some a3 ∧ (ob S a3 16 ∧ (vp_in (0 : Int32) (hN S a3) ∧ ∃ a5 : Nat, fR S a3 (0 : Int32).toNatClampNeg = some a5 ∧ (P_X0_keepForUndo_18 Q v0 a5 (1 : Int32) S)))))))) : P_X0_keepForUndo_0 Q v0 S := h
theorem u_X0_keepForUndo_18 {Q : HS → Prop} {X18 : Nat → Nat → Int32 → HS → Prop} {v0 : Nat} {v1 : Nat} {v2 : Int32} {S : HS} (h : (((16 : Int32) ≤ v2) → (ob S v0 0 ∧ (∃ a2 : Nat, fR S v0 5 = some a2 ∧ (ob S a2 16 ∧ (ob S v1 2 ∧ (vp_in (15 : Int32) (hN S a2) ∧ (∀ S4 : HS, S4 = sR S a2 (15 : Int32).toNatClampNeg (some v1) → (∀ S5 : HS, S5 = sI S4 v0 2 (15 : Int32) → (P_X0_keepForUndo_58 Q v0 S5))))))))) ∧ ((¬ (16 : Int32) ≤ v2) → (ob S v0 0 ∧ (∃ a6 : Nat, fR S v0 5 = some a6 ∧ (∃ a7 : Nat, fR S v0 5 = some a7 ∧ (ob S a7 16 ∧ (vp_in v2 (hN S a7) ∧ ∃ a9 : Nat, fR S a7 v2.toNatClampNeg = some a9 ∧ (ob S a6 16 ∧ (ob S a9 2 ∧ (vp_in (v2 - (1 : Int32)) (hN S a6) ∧ (∀ S11 : HS, S11 = sR S a6 (v2 - (1 : Int32)).toNatClampNeg (some a9) → (∀ x12 : Int32, x12 = v2 + (1 : Int32) → (X18 v0 v1 x12 S11))))))))))))) : B_X0_keepForUndo_18 Q X18 v0 v1 v2 S := h
theorem i_X0_keepForUndo_18 {Q : HS → Prop} (μ : Nat → Nat → Int32 → HS → Nat) (I : Nat → Nat → Int32 → HS → Prop) (hs : ∀ (v0 : Nat) (v1 : Nat) (v2 : Int32) (S : HS) (X : Nat → Nat → Int32 → HS → Prop), I v0 v1 v2 S → (∀ (w0 : Nat) (w1 : Nat) (w2 : Int32) (T : HS), I w0 w1 w2 T → μ w0 w1 w2 T < μ v0 v1 v2 S → X w0 w1 w2 T) → B_X0_keepForUndo_18 Q X v0 v1 v2 S) : ∀ (v0 : Nat) (v1 : Nat) (v2 : Int32) (S : HS), I v0 v1 v2 S → P_X0_keepForUndo_18 Q v0 v1 v2 S := by
  intro v0 v1 v2 S h X hX
  have key : ∀ (z : Nat) (v0 : Nat) (v1 : Nat) (v2 : Int32) (S : HS), μ v0 v1 v2 S < z → I v0 v1 v2 S → X v0 v1 v2 S := by
    intro z
    induction z with
    | zero => intro v0 v1 v2 S hz; exact absurd hz (Nat.not_lt_zero _)
    | succ z ih => intro v0 v1 v2 S hz hI; exact hX _ _ _ _ (hs _ _ _ _ _ hI (fun w0 w1 w2 T hT hl => ih _ _ _ _ (by omega) hT))
  exact key _ _ _ _ _ (Nat.lt_succ_self _) h
theorem u_X0_keepForUndo_58 {Q : HS → Prop} {v0 : Nat} {S : HS} (h : ob S v0 0 ∧ (∃ a1 : Nat, fR S v0 5 = some a1 ∧ (∀ x2 : Int32, x2 = fI S v0 2 → (ob S a1 16 ∧ (vp_in x2 (hN S a1) ∧ ∃ a4 : Nat, fR S a1 x2.toNatClampNeg = some a4 ∧ (∃ a5 : Nat, fR S v0 4 = some a5 ∧ (ob S a4 2 ∧ (P_X2_copy a4 a5 (fun S6 => Gr S S6 → (∀ x9 : Int32, x9 = fI S6 v0 2 → (∀ x10 : Int32, x10 = x9 + (1 : Int32) → (∀ S11 : HS, S11 = sI S6 v0 2 x10 → (Q S11))))) S)))))))) : P_X0_keepForUndo_58 Q v0 S := h
theorem u_X0_rainsIn {v0 : Nat} {v1 : Int32} {Q : Int32 → HS → Prop} {S : HS} (h : P_X0_rainsIn_0 Q v0 v1 S) : P_X0_rainsIn v0 v1 Q S := h
theorem u_X0_rainsIn_0 {Q : Int32 → HS → Prop} {v0 : Nat} {v1 : Int32} {S : HS} (h : ((v1 < 0) → (Q (0 : Int32) S)) ∧ ((¬ v1 < 0) → ((((6 : Int32) ≤ v1) → (Q (0 : Int32) S)) ∧ ((¬ (6 : Int32) ≤ v1) → (ob S v0 0 ∧ (∀ x3 : Int32, x3 = fI S v0 1 → (((¬ ((x3 >>> (v1 &&& 31)) &&& (1 : Int32)) = (1 : Int32)) → (Q (0 : Int32) S)) ∧ ((((x3 >>> (v1 &&& 31)) &&& (1 : Int32)) = (1 : Int32)) → (Q (1 : Int32) S))))))))) : P_X0_rainsIn_0 Q v0 v1 S := h
theorem u_X0_returnTo {v0 : Nat} {v1 : Int32} {Q : Int32 → HS → Prop} {S : HS} (h : P_X0_returnTo_0 Q v0 v1 S) : P_X0_returnTo v0 v1 Q S := h
theorem u_X0_returnTo_0 {Q : Int32 → HS → Prop} {v0 : Nat} {v1 : Int32} {S : HS} (h : ((v1 < 0) → (Q (0 : Int32) S)) ∧ ((¬ v1 < 0) → (ob S v0 0 ∧ (∀ x2 : Int32, x2 = fI S v0 3 → (((v1 < x2) → (∃ a4 : Nat, fR S v0 4 = some a4 ∧ (∃ a5 : Nat, fR S v0 6 = some a5 ∧ (ob S a5 16 ∧ (vp_in v1 (hN S a5) ∧ ∃ a7 : Nat, fR S a5 v1.toNatClampNeg = some a7 ∧ (ob S a4 2 ∧ (P_X2_copy a4 a7 (fun S8 => Gr S S8 → (∀ S11 : HS, S11 = sI S8 v0 2 (0 : Int32) → (Q (1 : Int32) S11))) S))))))) ∧ ((¬ v1 < x2) → (Q (0 : Int32) S))))))) : P_X0_returnTo_0 Q v0 v1 S := h
theorem u_X0_setMark {v0 : Nat} {Q : Int32 → HS → Prop} {S : HS} (h : P_X0_setMark_0 Q v0 S) : P_X0_setMark v0 Q S := h
theorem u_X0_setMark_0 {Q : Int32 → HS → Prop} {v0 : Nat} {S : HS} (h : ob S v0 0 ∧ (∀ x1 : Int32, x1 = fI S v0 3 → (((x1 < (3 : Int32)) → (∃ a3 : Nat, fR S v0 6 = some a3 ∧ (∀ x4 : Int32, x4 = fI S v0 3 → (ob S a3 16 ∧ (vp_in x4 (hN S a3) ∧ ∃ a6 : Nat, fR S a3 x4.toNatClampNeg = some a6 ∧ (∃ a7 : Nat, fR S v0 4 = some a7 ∧ (ob S a6 2 ∧ (P_X2_copy a6 a7 (fun S8 => Gr S S8 → (∀ x11 : Int32, x11 = fI S8 v0 3 → (∀ x12 : Int32, x12 = x11 + (1 : Int32) → (∀ S13 : HS, S13 = sI S8 v0 3 x12 → (∀ x14 : Int32, x14 = fI S13 v0 3 → (Q (x14 - (1 : Int32)) S13)))))) S)))))))) ∧ ((¬ x1 < (3 : Int32)) → (Q (-1 : Int32) S))))) : P_X0_setMark_0 Q v0 S := h
theorem u_X0_takeBack {v0 : Nat} {Q : Int32 → HS → Prop} {S : HS} (h : P_X0_takeBack_0 Q v0 S) : P_X0_takeBack v0 Q S := h
theorem u_X0_takeBack_0 {Q : Int32 → HS → Prop} {v0 : Nat} {S : HS} (h : ob S v0 0 ∧ (∀ x1 : Int32, x1 = fI S v0 2 → (((0 < x1) → (∀ x3 : Int32, x3 = fI S v0 2 → (∀ x4 : Int32, x4 = x3 - (1 : Int32) → (∀ S5 : HS, S5 = sI S v0 2 x4 → (∃ a6 : Nat, fR S5 v0 4 = some a6 ∧ (∃ a7 : Nat, fR S5 v0 5 = some a7 ∧ (∀ x8 : Int32, x8 = fI S5 v0 2 → (ob S5 a7 16 ∧ (vp_in x8 (hN S5 a7) ∧ ∃ a10 : Nat, fR S5 a7 x8.toNatClampNeg = some a10 ∧ (ob S5 a6 2 ∧ (P_X2_copy a6 a10 (fun S11 => Gr S5 S11 → (Q (1 : Int32) S11)) S5))))))))))) ∧ ((¬ 0 < x1) → (Q (0 : Int32) S))))) : P_X0_takeBack_0 Q v0 S := h
theorem u_X1_bestSpeed {v0 : Nat} {v1 : Nat} {v2 : Nat} {v3 : Int32} {v4 : Nat} {Q : Int32 → HS → Prop} {S : HS} (h : P_X1_bestSpeed_0 Q v0 v1 v2 v3 v4 S) : P_X1_bestSpeed v0 v1 v2 v3 v4 Q S := h
theorem u_X1_bestSpeed_0 {Q : Int32 → HS → Prop} {v0 : Nat} {v1 : Nat} {v2 : Nat} {v3 : Int32} {v4 : Nat} {S : HS} (h : ob S v1 6 ∧ (∀ x1 : Int32, x1 = fI S v1 5 → (∀ x2 : Int32, x2 = fI S v1 5 → (P_X1_bestSpeed_17 Q v0 v1 v2 v3 v4 x1 (4611686018427387904 : Int64) x2 S)))) : P_X1_bestSpeed_0 Q v0 v1 v2 v3 v4 S := h
theorem u_X1_bestSpeed_17 {Q : Int32 → HS → Prop} {X17 : Nat → Nat → Nat → Int32 → Nat → Int32 → Int64 → Int32 → HS → Prop} {v0 : Nat} {v1 : Nat} {v2 : Nat} {v3 : Int32} {v4 : Nat} {v5 : Int32} {v6 : Int64} {v8 : Int32} {S : HS} (h : ob S v1 6 ∧ (∀ x1 : Int32, x1 = fI S v1 6 → (((x1 < v8) → (Q v5 S)) ∧ ((¬ x1 < v8) → (ob S v0 1 ∧ (P_X1_wetOf v0 v1 v2 v3 v4 v8 (fun x5 S3 => Gr S S3 → (((0 ≤ (lg_cmp x5 v6)) → (P_X1_bestSpeed_55 Q X17 v0 v1 v2 v3 v4 v5 v6 v8 S3)) ∧ ((¬ 0 ≤ (lg_cmp x5 v6)) → (P_X1_bestSpeed_55 Q X17 v0 v1 v2 v3 v4 v8 x5 v8 S3)))) S)))))) : B_X1_bestSpeed_17 Q X17 v0 v1 v2 v3 v4 v5 v6 v8 S := h
theorem i_X1_bestSpeed_17 {Q : Int32 → HS → Prop} (μ : Nat → Nat → Nat → Int32 → Nat → Int32 → Int64 → Int32 → HS → Nat) (I : Nat → Nat → Nat → Int32 → Nat → Int32 → Int64 → Int32 → HS → Prop) (hs : ∀ (v0 : Nat) (v1 : Nat) (v2 : Nat) (v3 : Int32) (v4 : Nat) (v5 : Int32) (v6 : Int64) (v8 : Int32) (S : HS) (X : Nat → Nat → Nat → Int32 → Nat → Int32 → Int64 → Int32 → HS → Prop), I v0 v1 v2 v3 v4 v5 v6 v8 S → (∀ (w0 : Nat) (w1 : Nat) (w2 : Nat) (w3 : Int32) (w4 : Nat) (w5 : Int32) (w6 : Int64) (w8 : Int32) (T : HS), I w0 w1 w2 w3 w4 w5 w6 w8 T → μ w0 w1 w2 w3 w4 w5 w6 w8 T < μ v0 v1 v2 v3 v4 v5 v6 v8 S → X w0 w1 w2 w3 w4 w5 w6 w8 T) → B_X1_bestSpeed_17 Q X v0 v1 v2 v3 v4 v5 v6 v8 S) : ∀ (v0 : Nat) (v1 : Nat) (v2 : Nat) (v3 : Int32) (v4 : Nat) (v5 : Int32) (v6 : Int64) (v8 : Int32) (S : HS), I v0 v1 v2 v3 v4 v5 v6 v8 S → P_X1_bestSpeed_17 Q v0 v1 v2 v3 v4 v5 v6 v8 S := by
  intro v0 v1 v2 v3 v4 v5 v6 v8 S h X hX
  have key : ∀ (z : Nat) (v0 : Nat) (v1 : Nat) (v2 : Nat) (v3 : Int32) (v4 : Nat) (v5 : Int32) (v6 : Int64) (v8 : Int32) (S : HS), μ v0 v1 v2 v3 v4 v5 v6 v8 S < z → I v0 v1 v2 v3 v4 v5 v6 v8 S → X v0 v1 v2 v3 v4 v5 v6 v8 S := by
    intro z
    induction z with
    | zero => intro v0 v1 v2 v3 v4 v5 v6 v8 S hz; exact absurd hz (Nat.not_lt_zero _)
    | succ z ih => intro v0 v1 v2 v3 v4 v5 v6 v8 S hz hI; exact hX _ _ _ _ _ _ _ _ _ (hs _ _ _ _ _ _ _ _ _ _ hI (fun w0 w1 w2 w3 w4 w5 w6 w8 T hT hl => ih _ _ _ _ _ _ _ _ _ (by omega) hT))
  exact key _ _ _ _ _ _ _ _ _ _ (Nat.lt_succ_self _) h
theorem u_X1_bestSpeed_55 {Q : Int32 → HS → Prop} {X17 : Nat → Nat → Nat → Int32 → Nat → Int32 → Int64 → Int32 → HS → Prop} {v0 : Nat} {v1 : Nat} {v2 : Nat} {v3 : Int32} {v4 : Nat} {v5 : Int32} {v6 : Int64} {v8 : Int32} {S : HS} (h : ∀ x1 : Int32, x1 = v8 + (1 : Int32) → (X17 v0 v1 v2 v3 v4 v5 v6 x1 S)) : P_X1_bestSpeed_55 Q X17 v0 v1 v2 v3 v4 v5 v6 v8 S := h
theorem u_X1_countFits {v0 : Nat} {v1 : Nat} {v2 : Int32} {Q : Int32 → HS → Prop} {S : HS} (h : P_X1_countFits_0 Q v0 v1 v2 S) : P_X1_countFits v0 v1 v2 Q S := h
theorem u_X1_countFits_0 {Q : Int32 → HS → Prop} {v0 : Nat} {v1 : Nat} {v2 : Int32} {S : HS} (h : P_X1_countFits_5 Q v0 v1 v2 (0 : Int32) (0 : Int32) S) : P_X1_countFits_0 Q v0 v1 v2 S := h
theorem u_X1_countFits_5 {Q : Int32 → HS → Prop} {X5 : Nat → Nat → Int32 → Int32 → Int32 → HS → Prop} {v0 : Nat} {v1 : Nat} {v2 : Int32} {v3 : Int32} {v4 : Int32} {S : HS} (h : P_X1_legsOf v1 (fun x3 S1 => Gr S S1 → (((x3 ≤ v4) → (Q v3 S1)) ∧ ((¬ x3 ≤ v4) → (ob S1 v0 1 ∧ (P_X1_fitCode v0 v1 v2 v4 (fun x7 S5 => Gr S1 S5 → (((x7 = (-1 : Int32)) → (P_X1_countFits_29 Q X5 v0 v1 v2 v3 v4 S5)) ∧ ((¬ x7 = (-1 : Int32)) → (∀ x9 : Int32, x9 = v3 + (1 : Int32) → (P_X1_countFits_29 Q X5 v0 v1 v2 x9 v4 S5))))) S1))))) S) : B_X1_countFits_5 Q X5 v0 v1 v2 v3 v4 S := h
theorem i_X1_countFits_5 {Q : Int32 → HS → Prop} (μ : Nat → Nat → Int32 → Int32 → Int32 → HS → Nat) (I : Nat → Nat → Int32 → Int32 → Int32 → HS → Prop) (hs : ∀ (v0 : Nat) (v1 : Nat) (v2 : Int32) (v3 : Int32) (v4 : Int32) (S : HS) (X : Nat → Nat → Int32 → Int32 → Int32 → HS → Prop), I v0 v1 v2 v3 v4 S → (∀ (w0 : Nat) (w1 : Nat) (w2 : Int32) (w3 : Int32) (w4 : Int32) (T : HS), I w0 w1 w2 w3 w4 T → μ w0 w1 w2 w3 w4 T < μ v0 v1 v2 v3 v4 S → X w0 w1 w2 w3 w4 T) → B_X1_countFits_5 Q X v0 v1 v2 v3 v4 S) : ∀ (v0 : Nat) (v1 : Nat) (v2 : Int32) (v3 : Int32) (v4 : Int32) (S : HS), I v0 v1 v2 v3 v4 S → P_X1_countFits_5 Q v0 v1 v2 v3 v4 S := by
  intro v0 v1 v2 v3 v4 S h X hX
  have key : ∀ (z : Nat) (v0 : Nat) (v1 : Nat) (v2 : Int32) (v3 : Int32) (v4 : Int32) (S : HS), μ v0 v1 v2 v3 v4 S < z → I v0 v1 v2 v3 v4 S → X v0 v1 v2 v3 v4 S := by
    intro z
    induction z with
    | zero => intro v0 v1 v2 v3 v4 S hz; exact absurd hz (Nat.not_lt_zero _)
    | succ z ih => intro v0 v1 v2 v3 v4 S hz hI; exact hX _ _ _ _ _ _ (hs _ _ _ _ _ _ _ hI (fun w0 w1 w2 w3 w4 T hT hl => ih _ _ _ _ _ _ (by omega) hT))
  exact key _ _ _ _ _ _ _ (Nat.lt_succ_self _) h
theorem u_X1_countFits_29 {Q : Int32 → HS → Prop} {X5 : Nat → Nat → Int32 → Int32 → Int32 → HS → Prop} {v0 : Nat} {v1 : Nat} {v2 : Int32} {v3 : Int32} {v4 : Int32} {S : HS} (h : ∀ x1 : Int32, x1 = v4 + (1 : Int32) → (X5 v0 v1 v2 v3 x1 S)) : P_X1_countFits_29 Q X5 v0 v1 v2 v3 v4 S := h
theorem u_X1_findFit {v0 : Nat} {v1 : Nat} {v2 : Int32} {v3 : Int32} {Q : Int32 → HS → Prop} {S : HS} (h : P_X1_findFit_0 Q v0 v1 v2 v3 S) : P_X1_findFit v0 v1 v2 v3 Q S := h
theorem u_X1_findFit_0 {Q : Int32 → HS → Prop} {v0 : Nat} {v1 : Nat} {v2 : Int32} {v3 : Int32} {S : HS} (h : P_X1_findFit_6 Q v0 v1 v2 v3 (0 : Int32) S) : P_X1_findFit_0 Q v0 v1 v2 v3 S := h
theorem u_X1_findFit_6 {Q : Int32 → HS → Prop} {X6 : Nat → Nat → Int32 → Int32 → Int32 → HS → Prop} {v0 : Nat} {v1 : Nat} {v2 : Int32} {v4 : Int32} {v5 : Int32} {S : HS} (h : P_X1_legsOf v1 (fun x3 S1 => Gr S S1 → (((x3 ≤ v5) → (Q (-1 : Int32) S1)) ∧ ((¬ x3 ≤ v5) → (ob S1 v0 1 ∧ (P_X1_fitCode v0 v1 v2 v5 (fun x7 S5 => Gr S1 S5 → (((x7 = (-1 : Int32)) → (P_X1_findFit_39 Q X6 v0 v1 v2 v4 v5 x7 S5)) ∧ ((¬ x7 = (-1 : Int32)) → (((¬ v4 = 0) → (P_X1_findFit_39 Q X6 v0 v1 v2 v4 v5 x7 S5)) ∧ ((v4 = 0) → (Q x7 S5)))))) S1))))) S) : B_X1_findFit_6 Q X6 v0 v1 v2 v4 v5 S := h
theorem i_X1_findFit_6 {Q : Int32 → HS → Prop} (μ : Nat → Nat → Int32 → Int32 → Int32 → HS → Nat) (I : Nat → Nat → Int32 → Int32 → Int32 → HS → Prop) (hs : ∀ (v0 : Nat) (v1 : Nat) (v2 : Int32) (v4 : Int32) (v5 : Int32) (S : HS) (X : Nat → Nat → Int32 → Int32 → Int32 → HS → Prop), I v0 v1 v2 v4 v5 S → (∀ (w0 : Nat) (w1 : Nat) (w2 : Int32) (w4 : Int32) (w5 : Int32) (T : HS), I w0 w1 w2 w4 w5 T → μ w0 w1 w2 w4 w5 T < μ v0 v1 v2 v4 v5 S → X w0 w1 w2 w4 w5 T) → B_X1_findFit_6 Q X v0 v1 v2 v4 v5 S) : ∀ (v0 : Nat) (v1 : Nat) (v2 : Int32) (v4 : Int32) (v5 : Int32) (S : HS), I v0 v1 v2 v4 v5 S → P_X1_findFit_6 Q v0 v1 v2 v4 v5 S := by
  intro v0 v1 v2 v4 v5 S h X hX
  have key : ∀ (z : Nat) (v0 : Nat) (v1 : Nat) (v2 : Int32) (v4 : Int32) (v5 : Int32) (S : HS), μ v0 v1 v2 v4 v5 S < z → I v0 v1 v2 v4 v5 S → X v0 v1 v2 v4 v5 S := by
    intro z
    induction z with
    | zero => intro v0 v1 v2 v4 v5 S hz; exact absurd hz (Nat.not_lt_zero _)
    | succ z ih => intro v0 v1 v2 v4 v5 S hz hI; exact hX _ _ _ _ _ _ (hs _ _ _ _ _ _ _ hI (fun w0 w1 w2 w4 w5 T hT hl => ih _ _ _ _ _ _ (by omega) hT))
  exact key _ _ _ _ _ _ _ (Nat.lt_succ_self _) h
theorem u_X1_findFit_39 {Q : Int32 → HS → Prop} {X6 : Nat → Nat → Int32 → Int32 → Int32 → HS → Prop} {v0 : Nat} {v1 : Nat} {v2 : Int32} {v4 : Int32} {v5 : Int32} {v6 : Int32} {S : HS} (h : ((v6 = (-1 : Int32)) → (P_X1_findFit_48 Q X6 v0 v1 v2 v4 v5 S)) ∧ ((¬ v6 = (-1 : Int32)) → (∀ x2 : Int32, x2 = v4 + (-1 : Int32) → (P_X1_findFit_48 Q X6 v0 v1 v2 x2 v5 S)))) : P_X1_findFit_39 Q X6 v0 v1 v2 v4 v5 v6 S := h
theorem u_X1_findFit_48 {Q : Int32 → HS → Prop} {X6 : Nat → Nat → Int32 → Int32 → Int32 → HS → Prop} {v0 : Nat} {v1 : Nat} {v2 : Int32} {v4 : Int32} {v5 : Int32} {S : HS} (h : ∀ x1 : Int32, x1 = v5 + (1 : Int32) → (X6 v0 v1 v2 v4 x1 S)) : P_X1_findFit_48 Q X6 v0 v1 v2 v4 v5 S := h
theorem u_X1_fitCode {v0 : Nat} {v1 : Nat} {v2 : Int32} {v3 : Int32} {Q : Int32 → HS → Prop} {S : HS} (h : P_X1_fitCode_0 Q v0 v1 v2 v3 S) : P_X1_fitCode v0 v1 v2 v3 Q S := h
theorem u_X1_fitCode_0 {Q : Int32 → HS → Prop} {v0 : Nat} {v1 : Nat} {v2 : Int32} {v3 : Int32} {S : HS} (h : ((v3 < 0) → (Q (-1 : Int32) S)) ∧ ((¬ v3 < 0) → (P_X1_legsOf v1 (fun x4 S2 => Gr S S2 → (((x4 ≤ v3) → (Q (-1 : Int32) S2)) ∧ ((¬ x4 ≤ v3) → (ob S2 v1 8 ∧ (P_X8_hasSeen v1 v2 (fun x8 S6 => Gr S2 S6 → bl x8 → (((x8 = 0) → (Q (-1 : Int32) S6)) ∧ ((¬ x8 = 0) → (∀ x10 : Int32, x10 = fI S6 v1 1 → (((0 < x10) → (∀ x12 : Int32, x12 = v3 - v3 / (9 : Int32) * (9 : Int32) → (∀ x13 : Int32, x13 = x12 + (1 : Int32) → (∀ x14 : Int32, x14 = v3 / (9 : Int32) → (∀ x15 : Int32, x15 = fI S6 v1 1 → (¬ x15 = 0 ∧ ∀ x17 : Int32, x17 = x14 - x14 / x15 * x15 → (∀ x18 : Int32, x18 = v3 / (9 : Int32) → (∀ x19 : Int32, x19 = fI S6 v1 1 → (¬ x19 = 0 ∧ ∀ x21 : Int32, x21 = x18 / x19 → (∃ a22 : Nat, fR S6 v1 10 = some a22 ∧ (ob S6 a22 13 ∧ (vp_in v2 (hN S6 a22) ∧ ∀ x24 : Int32, x24 = fI S6 a22 v2.toNatClampNeg → (P_X8_hasWalker v1 x24 (fun x27 S25 => Gr S6 S25 → bl x27 → (((x27 = 0) → (Q (-1 : Int32) S25)) ∧ ((¬ x27 = 0) → (∀ x29 : Int32, x29 = x21 / (2 : Int32) → (P_X8_hasRoad v1 x29 (fun x32 S30 => Gr S25 S30 → bl x32 → (((x32 = 0) → (Q (-1 : Int32) S30)) ∧ ((¬ x32 = 0) → (∃ a34 : Nat, fR S30 v1 9 = some a34 ∧ (ob S30 a34 19 ∧ (vp_in x24 (hN S30 a34) ∧ ∃ a36 : Nat, fR S30 a34 x24.toNatClampNeg = some a36 ∧ (ob S30 a36 6 ∧ (P_X6_canGo a36 x13 (fun x39 S37 => Gr S30 S37 → bl x39 → (((¬ x39 = 0) → (∃ a41 : Nat, fR S37 v1 9 = some a41 ∧ (ob S37 a41 19 ∧ (vp_in x24 (hN S37 a41) ∧ ∃ a43 : Nat, fR S37 a41 x24.toNatClampNeg = some a43 ∧ (∃ a44 : Nat, fR S37 v1 8 = some a44 ∧ (∀ x45 : Int32, x45 = x21 / (2 : Int32) → (ob S37 a44 18 ∧ (vp_in x45 (hN S37 a44) ∧ ∃ a47 : Nat, fR S37 a44 x45.toNatClampNeg = some a47 ∧ (∀ x48 : Int32, x48 = x21 - x21 / (2 : Int32) * (2 : Int32) → (∃ a49 : Nat, fR S37 v1 6 = some a49 ∧ (ob S37 a49 17 ∧ (vp_in x17 (hN S37 a49) ∧ ∃ a51 : Nat, fR S37 a49 x17.toNatClampNeg = some a51 ∧ (ob S37 v0 1 ∧ (P_X1_wetOf v0 a43 a47 x48 a51 x13 (fun x54 S52 => Gr S37 S52 → (P_X1_fitCode_141 Q v0 v1 v2 x13 x17 x21 (0 : Int32) S52)) S37)))))))))))))) ∧ ((x39 = 0) → (Q (-1 : Int32) S37)))) S30)))))))) S25))))) S6))))))))))))) ∧ ((¬ 0 < x10) → (Q (-1 : Int32) S6))))))) S2))))) S))) : P_X1_fitCode_0 Q v0 v1 v2 v3 S := h
theorem u_X1_fitCode_141 {Q : Int32 → HS → Prop} {X141 : Nat → Nat → Int32 → Int32 → Int32 → Int32 → Int32 → HS → Prop} {v0 : Nat} {v1 : Nat} {v2 : Int32} {v4 : Int32} {v5 : Int32} {v6 : Int32} {v8 : Int32} {S : HS} (h : (((5 : Int32) ≤ v8) → (∀ x2 : Int32, x2 = v6 / (2 : Int32) → (∀ x3 : Int32, x3 = v6 - v6 / (2 : Int32) * (2 : Int32) → (Q (((((1000 : Int32) * x2) + ((100 : Int32) * x3)) + ((10 : Int32) * v5)) + v4) S)))) ∧ ((¬ (5 : Int32) ≤ v8) → (ob S v0 1 ∧ (∃ a4 : Nat, fR S v0 0 = some a4 ∧ (ob S a4 14 ∧ (vp_in v8 (hN S a4) ∧ ∀ x6 : Int64, x6 = fJ S a4 v8.toNatClampNeg → (ob S v1 8 ∧ (∃ a7 : Nat, fR S v1 11 = some a7 ∧ (ob S a7 13 ∧ (∀ x9 : Int32, x9 = (v2 * (5 : Int32)) + v8 → (vp_in x9 (hN S a7) ∧ ∀ x10 : Int32, x10 = fI S a7 x9.toNatClampNeg → ((((lg_cmp x6 (x10.toInt64 * (2520 : Int64))) = 0) → (∀ x12 : Int32, x12 = v8 + (1 : Int32) → (X141 v0 v1 v2 v4 v5 v6 x12 S))) ∧ ((¬ (lg_cmp x6 (x10.toInt64 * (2520 : Int64))) = 0) → (Q (-1 : Int32) S)))))))))))))) : B_X1_fitCode_141 Q X141 v0 v1 v2 v4 v5 v6 v8 S := h
theorem i_X1_fitCode_141 {Q : Int32 → HS → Prop} (μ : Nat → Nat → Int32 → Int32 → Int32 → Int32 → Int32 → HS → Nat) (I : Nat → Nat → Int32 → Int32 → Int32 → Int32 → Int32 → HS → Prop) (hs : ∀ (v0 : Nat) (v1 : Nat) (v2 : Int32) (v4 : Int32) (v5 : Int32) (v6 : Int32) (v8 : Int32) (S : HS) (X : Nat → Nat → Int32 → Int32 → Int32 → Int32 → Int32 → HS → Prop), I v0 v1 v2 v4 v5 v6 v8 S → (∀ (w0 : Nat) (w1 : Nat) (w2 : Int32) (w4 : Int32) (w5 : Int32) (w6 : Int32) (w8 : Int32) (T : HS), I w0 w1 w2 w4 w5 w6 w8 T → μ w0 w1 w2 w4 w5 w6 w8 T < μ v0 v1 v2 v4 v5 v6 v8 S → X w0 w1 w2 w4 w5 w6 w8 T) → B_X1_fitCode_141 Q X v0 v1 v2 v4 v5 v6 v8 S) : ∀ (v0 : Nat) (v1 : Nat) (v2 : Int32) (v4 : Int32) (v5 : Int32) (v6 : Int32) (v8 : Int32) (S : HS), I v0 v1 v2 v4 v5 v6 v8 S → P_X1_fitCode_141 Q v0 v1 v2 v4 v5 v6 v8 S := by
  intro v0 v1 v2 v4 v5 v6 v8 S h X hX
  have key : ∀ (z : Nat) (v0 : Nat) (v1 : Nat) (v2 : Int32) (v4 : Int32) (v5 : Int32) (v6 : Int32) (v8 : Int32) (S : HS), μ v0 v1 v2 v4 v5 v6 v8 S < z → I v0 v1 v2 v4 v5 v6 v8 S → X v0 v1 v2 v4 v5 v6 v8 S := by
    intro z
    induction z with
    | zero => intro v0 v1 v2 v4 v5 v6 v8 S hz; exact absurd hz (Nat.not_lt_zero _)
    | succ z ih => intro v0 v1 v2 v4 v5 v6 v8 S hz hI; exact hX _ _ _ _ _ _ _ _ (hs _ _ _ _ _ _ _ _ _ hI (fun w0 w1 w2 w4 w5 w6 w8 T hT hl => ih _ _ _ _ _ _ _ _ (by omega) hT))
  exact key _ _ _ _ _ _ _ _ _ (Nat.lt_succ_self _) h
theorem u_X1_isForward {v0 : Nat} {v1 : Nat} {Q : Int32 → HS → Prop} {S : HS} (h : P_X1_isForward_0 Q v0 v1 S) : P_X1_isForward v0 v1 Q S := h
theorem u_X1_isForward_0 {Q : Int32 → HS → Prop} {v0 : Nat} {v1 : Nat} {S : HS} (h : ob S v0 1 ∧ (∃ a1 : Nat, fR S v0 1 = some a1 ∧ (ob S a1 14 ∧ (vp_in (0 : Int32) (hN S a1) ∧ ∀ x3 : Int64, x3 = fJ S a1 (0 : Int32).toNatClampNeg → (ob S v1 6 ∧ (P_X6_shield v1 (fun x6 S4 => Gr S S4 → (∀ x7 : Int32, x7 = fI S4 v1 2 → (∀ x8 : Int32, x8 = (if x7 < x6 then x7 else x6) → (∀ x9 : Int64, x9 = x3 * x8.toInt64 → (∃ a10 : Nat, fR S4 v0 1 = some a10 ∧ (ob S4 a10 14 ∧ (vp_in (1 : Int32) (hN S4 a10) ∧ ∀ x12 : Int64, x12 = fJ S4 a10 (1 : Int32).toNatClampNeg → (P_X6_shield v1 (fun x15 S13 => Gr S4 S13 → (∀ x16 : Int32, x16 = fI S13 v1 3 → (∀ x17 : Int32, x17 = (if x16 < x15 then x16 else x15) → (∀ x18 : Int64, x18 = x12 * x17.toInt64 → ((((lg_cmp x18 x9) ≤ 0) → (Q (0 : Int32) S13)) ∧ ((¬ (lg_cmp x18 x9) ≤ 0) → (Q (1 : Int32) S13))))))) S4)))))))) S)))))) : P_X1_isForward_0 Q v0 v1 S := h
theorem u_X1_lay {v0 : Nat} {v1 : Nat} {v2 : Int32} {v3 : Nat} {v4 : Int32} {Q : HS → Prop} {S : HS} (h : P_X1_lay_0 Q v0 v1 v2 v3 v4 S) : P_X1_lay v0 v1 v2 v3 v4 Q S := h
theorem u_X1_lay_0 {Q : HS → Prop} {v0 : Nat} {v1 : Nat} {v2 : Int32} {v3 : Nat} {v4 : Int32} {S : HS} (h : ((v4 ≤ 0) → (P_X1_lay_27 Q v0 v1 v2 v3 v4 (0 : Int64) S)) ∧ ((¬ v4 ≤ 0) → (ob S v1 5 ∧ (∀ x2 : Int32, x2 = fI S v1 3 → (∀ x3 : Int32, x3 = fI S v1 4 → (¬ v4 = 0 ∧ ∀ x5 : Int32, x5 = (2520 : Int32) / v4 → (P_X1_lay_27 Q v0 v1 v2 v3 v4 (((x2 - x3).toInt64) * x5.toInt64) S))))))) : P_X1_lay_0 Q v0 v1 v2 v3 v4 S := h
theorem u_X1_lay_27 {Q : HS → Prop} {v0 : Nat} {v1 : Nat} {v2 : Int32} {v3 : Nat} {v4 : Int32} {s0 : Int64} {S : HS} (h : ob S v3 3 ∧ (∀ x1 : Int32, x1 = fI S v3 0 → (∀ x2 : Int64, x2 = x1.toInt64 * s0 → (ob S v1 5 ∧ (P_X5_turnOf v1 v2 v3 (fun x5 S3 => Gr S S3 → (P_X5_airAlong v1 v2 v3 (fun x8 S6 => Gr S3 S6 → (ob S6 v0 1 ∧ (∃ a9 : Nat, fR S6 v0 1 = some a9 ∧ (∀ x10 : Int32, x10 = fI S6 v3 1 → (ob S6 a9 14 ∧ (∀ x12 : Int64, x12 = x2 * x10.toInt64 → (vp_in (0 : Int32) (hN S6 a9) ∧ (∀ S13 : HS, S13 = sJ S6 a9 (0 : Int32).toNatClampNeg x12 → (∃ a14 : Nat, fR S13 v0 1 = some a14 ∧ (∀ x15 : Int32, x15 = (if v4 - x8 < (0 : Int32) then (0 : Int32) else v4 - x8) → (ob S13 a14 14 ∧ (∀ x17 : Int64, x17 = x2 * x15.toInt64 → (vp_in (1 : Int32) (hN S13 a14) ∧ (∀ S18 : HS, S18 = sJ S13 a14 (1 : Int32).toNatClampNeg x17 → (∃ a19 : Nat, fR S18 v0 1 = some a19 ∧ (∀ x20 : Int32, x20 = (if x8 - v4 < (0 : Int32) then (0 : Int32) else x8 - v4) → (ob S18 a19 14 ∧ (∀ x22 : Int64, x22 = x2 * x20.toInt64 → (vp_in (2 : Int32) (hN S18 a19) ∧ (∀ S23 : HS, S23 = sJ S18 a19 (2 : Int32).toNatClampNeg x22 → (∃ a24 : Nat, fR S23 v0 1 = some a24 ∧ (((¬ x5 = (1 : Int32)) → (P_X1_lay_130 Q v0 v3 x2 x5 a24 (3 : Int32) (0 : Int64) S23)) ∧ ((x5 = (1 : Int32)) → (∀ x26 : Int32, x26 = fI S23 v3 3 → (P_X1_lay_130 Q v0 v3 x2 x5 a24 (3 : Int32) (x2 * x26.toInt64) S23))))))))))))))))))))))))) S3)) S))))) : P_X1_lay_27 Q v0 v1 v2 v3 v4 s0 S := h
theorem u_X1_lay_130 {Q : HS → Prop} {v0 : Nat} {v3 : Nat} {v7 : Int64} {v9 : Int32} {s0 : Nat} {s1 : Int32} {s2 : Int64} {S : HS} (h : ob S s0 14 ∧ (vp_in s1 (hN S s0) ∧ (∀ S2 : HS, S2 = sJ S s0 s1.toNatClampNeg s2 → (ob S2 v0 1 ∧ (∃ a3 : Nat, fR S2 v0 1 = some a3 ∧ (((¬ v9 = (3 : Int32)) → (ob S2 a3 14 ∧ (vp_in (4 : Int32) (hN S2 a3) ∧ (∀ S6 : HS, S6 = sJ S2 a3 (4 : Int32).toNatClampNeg (0 : Int64) → (Q S6))))) ∧ ((v9 = (3 : Int32)) → (ob S2 v3 3 ∧ (∀ x7 : Int32, x7 = fI S2 v3 3 → (ob S2 a3 14 ∧ (∀ x9 : Int64, x9 = v7 * x7.toInt64 → (vp_in (4 : Int32) (hN S2 a3) ∧ (∀ S10 : HS, S10 = sJ S2 a3 (4 : Int32).toNatClampNeg x9 → (Q S10)))))))))))))) : P_X1_lay_130 Q v0 v3 v7 v9 s0 s1 s2 S := h
theorem u_X1_leastWet {v0 : Nat} {v1 : Nat} {v2 : Nat} {v3 : Int32} {v4 : Nat} {Q : Int64 → HS → Prop} {S : HS} (h : P_X1_leastWet_0 Q v0 v1 v2 v3 v4 S) : P_X1_leastWet v0 v1 v2 v3 v4 Q S := h
theorem u_X1_leastWet_0 {Q : Int64 → HS → Prop} {v0 : Nat} {v1 : Nat} {v2 : Nat} {v3 : Int32} {v4 : Nat} {S : HS} (h : ob S v0 1 ∧ (P_X1_bestSpeed v0 v1 v2 v3 v4 (fun x3 S1 => Gr S S1 → (P_X1_wetOf v0 v1 v2 v3 v4 x3 (fun x6 S4 => Gr S1 S4 → (Q x6 S4)) S1)) S)) : P_X1_leastWet_0 Q v0 v1 v2 v3 v4 S := h
theorem u_X1_legsOf {v0 : Nat} {Q : Int32 → HS → Prop} {S : HS} (h : P_X1_legsOf_0 Q v0 S) : P_X1_legsOf v0 Q S := h
theorem u_X1_legsOf_0 {Q : Int32 → HS → Prop} {v0 : Nat} {S : HS} (h : ob S v0 8 ∧ (∀ x1 : Int32, x1 = fI S v0 3 → (∀ x2 : Int32, x2 = fI S v0 1 → (Q (((x1 * (2 : Int32)) * x2) * (9 : Int32)) S)))) : P_X1_legsOf_0 Q v0 S := h
theorem u_X1_soak {v0 : Nat} {v1 : Nat} {v2 : Int32} {v3 : Int32} {Q : Int64 → HS → Prop} {S : HS} (h : P_X1_soak_0 Q v0 v1 v2 v3 S) : P_X1_soak v0 v1 v2 v3 Q S := h
theorem u_X1_soak_0 {Q : Int64 → HS → Prop} {v0 : Nat} {v1 : Nat} {v2 : Int32} {v3 : Int32} {S : HS} (h : ob S v0 1 ∧ (P_X1_isForward v0 v1 (fun x3 S1 => Gr S S1 → bl x3 → (((x3 = 0) → (ob S1 v1 6 ∧ (P_X6_shield v1 (fun x7 S5 => Gr S1 S5 → (P_X1_soak_20 Q v0 v1 v2 v3 x3 x7 S5)) S1))) ∧ ((¬ x3 = 0) → (P_X1_soak_20 Q v0 v1 v2 v3 x3 (0 : Int32) S1)))) S)) : P_X1_soak_0 Q v0 v1 v2 v3 S := h
theorem u_X1_soak_20 {Q : Int64 → HS → Prop} {v0 : Nat} {v1 : Nat} {v2 : Int32} {v3 : Int32} {v4 : Int32} {s0 : Int32} {S : HS} (h : ((v4 = 0) → (P_X1_soak_35 Q v0 v1 v2 v3 s0 (0 : Int32) S)) ∧ ((¬ v4 = 0) → (ob S v1 6 ∧ (P_X6_shield v1 (fun x4 S2 => Gr S S2 → (P_X1_soak_35 Q v0 v1 v2 v3 s0 x4 S2)) S)))) : P_X1_soak_20 Q v0 v1 v2 v3 v4 s0 S := h
theorem u_X1_soak_35 {Q : Int64 → HS → Prop} {v0 : Nat} {v1 : Nat} {v2 : Int32} {v3 : Int32} {v5 : Int32} {s0 : Int32} {S : HS} (h : ob S v0 1 ∧ (∃ a1 : Nat, fR S v0 0 = some a1 ∧ (∃ a2 : Nat, fR S v0 1 = some a2 ∧ (ob S a2 14 ∧ (vp_in (0 : Int32) (hN S a2) ∧ ∀ x4 : Int64, x4 = fJ S a2 (0 : Int32).toNatClampNeg → (ob S v1 6 ∧ (∀ x5 : Int32, x5 = fI S v1 2 → (∀ x6 : Int32, x6 = (if x5 - v5 < (0 : Int32) then (0 : Int32) else x5 - v5) → (ob S a1 14 ∧ (∀ x8 : Int64, x8 = x4 * x6.toInt64 → (vp_in (0 : Int32) (hN S a1) ∧ (∀ S9 : HS, S9 = sJ S a1 (0 : Int32).toNatClampNeg x8 → (∃ a10 : Nat, fR S9 v0 0 = some a10 ∧ (∃ a11 : Nat, fR S9 v0 1 = some a11 ∧ (ob S9 a11 14 ∧ (vp_in (1 : Int32) (hN S9 a11) ∧ ∀ x13 : Int64, x13 = fJ S9 a11 (1 : Int32).toNatClampNeg → (∀ x14 : Int32, x14 = fI S9 v1 3 → (∀ x15 : Int32, x15 = (if (x14 - s0) - v2 < (0 : Int32) then (0 : Int32) else (x14 - s0) - v2) → (ob S9 a10 14 ∧ (∀ x17 : Int64, x17 = x13 * x15.toInt64 → (vp_in (1 : Int32) (hN S9 a10) ∧ (∀ S18 : HS, S18 = sJ S9 a10 (1 : Int32).toNatClampNeg x17 → (∃ a19 : Nat, fR S18 v0 0 = some a19 ∧ (∃ a20 : Nat, fR S18 v0 1 = some a20 ∧ (ob S18 a20 14 ∧ (vp_in (2 : Int32) (hN S18 a20) ∧ ∀ x22 : Int64, x22 = fJ S18 a20 (2 : Int32).toNatClampNeg → (∀ x23 : Int32, x23 = fI S18 v1 3 → (∀ x24 : Int32, x24 = (if x23 - v3 < (0 : Int32) then (0 : Int32) else x23 - v3) → (ob S18 a19 14 ∧ (∀ x26 : Int64, x26 = x22 * x24.toInt64 → (vp_in (2 : Int32) (hN S18 a19) ∧ (∀ S27 : HS, S27 = sJ S18 a19 (2 : Int32).toNatClampNeg x26 → (∃ a28 : Nat, fR S27 v0 0 = some a28 ∧ (∃ a29 : Nat, fR S27 v0 1 = some a29 ∧ (ob S27 a29 14 ∧ (vp_in (3 : Int32) (hN S27 a29) ∧ ∀ x31 : Int64, x31 = fJ S27 a29 (3 : Int32).toNatClampNeg → (∀ x32 : Int32, x32 = fI S27 v1 4 → (ob S27 a28 14 ∧ (∀ x34 : Int64, x34 = x31 * x32.toInt64 → (vp_in (3 : Int32) (hN S27 a28) ∧ (∀ S35 : HS, S35 = sJ S27 a28 (3 : Int32).toNatClampNeg x34 → (∃ a36 : Nat, fR S35 v0 0 = some a36 ∧ (∃ a37 : Nat, fR S35 v0 1 = some a37 ∧ (ob S35 a37 14 ∧ (vp_in (4 : Int32) (hN S35 a37) ∧ ∀ x39 : Int64, x39 = fJ S35 a37 (4 : Int32).toNatClampNeg → (∀ x40 : Int32, x40 = fI S35 v1 4 → (ob S35 a36 14 ∧ (∀ x42 : Int64, x42 = x39 * x40.toInt64 → (vp_in (4 : Int32) (hN S35 a36) ∧ (∀ S43 : HS, S43 = sJ S35 a36 (4 : Int32).toNatClampNeg x42 → (∃ a44 : Nat, fR S43 v0 0 = some a44 ∧ (ob S43 a44 14 ∧ (vp_in (0 : Int32) (hN S43 a44) ∧ ∀ x46 : Int64, x46 = fJ S43 a44 (0 : Int32).toNatClampNeg → (∃ a47 : Nat, fR S43 v0 0 = some a47 ∧ (ob S43 a47 14 ∧ (vp_in (1 : Int32) (hN S43 a47) ∧ ∀ x49 : Int64, x49 = fJ S43 a47 (1 : Int32).toNatClampNeg → (∃ a50 : Nat, fR S43 v0 0 = some a50 ∧ (ob S43 a50 14 ∧ (vp_in (2 : Int32) (hN S43 a50) ∧ ∀ x52 : Int64, x52 = fJ S43 a50 (2 : Int32).toNatClampNeg → (∃ a53 : Nat, fR S43 v0 0 = some a53 ∧ (ob S43 a53 14 ∧ (vp_in (3 : Int32) (hN S43 a53) ∧ ∀ x55 : Int64, x55 = fJ S43 a53 (3 : Int32).toNatClampNeg → (∃ a56 : Nat, fR S43 v0 0 = some a56 ∧ (ob S43 a56 14 ∧ (vp_in (4 : Int32) (hN S43 a56) ∧ ∀ x58 : Int64, x58 = fJ S43 a56 (4 : Int32).toNatClampNeg → (Q ((((x46 + x49) + x52) + x55) + x58) S43)))))))))))))))))))))))))))))))))))))))))))))))))))))))))))))))))) : P_X1_soak_35 Q v0 v1 v2 v3 v5 s0 S := h
theorem u_X1_wetInLee {v0 : Nat} {v1 : Nat} {v2 : Nat} {Q : Int64 → HS → Prop} {S : HS} (h : P_X1_wetInLee_0 Q v0 v1 v2 S) : P_X1_wetInLee v0 v1 v2 Q S := h
theorem u_X1_wetInLee_0 {Q : Int64 → HS → Prop} {v0 : Nat} {v1 : Nat} {v2 : Nat} {S : HS} (h : ob S v2 6 ∧ (∀ x1 : Int32, x1 = fI S v2 3 → (ob S v0 1 ∧ (P_X1_soak v0 v1 (0 : Int32) x1 (fun x4 S2 => Gr S S2 → (ob S2 v1 6 ∧ (∀ x5 : Int32, x5 = fI S2 v1 3 → (P_X1_soak v0 v2 x5 (0 : Int32) (fun x8 S6 => Gr S2 S6 → (Q (x4 + x8) S6)) S2)))) S)))) : P_X1_wetInLee_0 Q v0 v1 v2 S := h
theorem u_X1_wetOf {v0 : Nat} {v1 : Nat} {v2 : Nat} {v3 : Int32} {v4 : Nat} {v5 : Int32} {Q : Int64 → HS → Prop} {S : HS} (h : P_X1_wetOf_0 Q v0 v1 v2 v3 v4 v5 S) : P_X1_wetOf v0 v1 v2 v3 v4 v5 Q S := h
theorem u_X1_wetOf_0 {Q : Int64 → HS → Prop} {v0 : Nat} {v1 : Nat} {v2 : Nat} {v3 : Int32} {v4 : Nat} {v5 : Int32} {S : HS} (h : ob S v0 1 ∧ (P_X1_lay v0 v2 v3 v4 v5 (fun S1 => Gr S S1 → (P_X1_soak v0 v1 (0 : Int32) (0 : Int32) (fun x6 S4 => Gr S1 S4 → (Q x6 S4)) S1)) S)) : P_X1_wetOf_0 Q v0 v1 v2 v3 v4 v5 S := h
theorem u_X1_worstSpeed {v0 : Nat} {v1 : Nat} {v2 : Nat} {v3 : Int32} {v4 : Nat} {Q : Int32 → HS → Prop} {S : HS} (h : P_X1_worstSpeed_0 Q v0 v1 v2 v3 v4 S) : P_X1_worstSpeed v0 v1 v2 v3 v4 Q S := h
theorem u_X1_worstSpeed_0 {Q : Int32 → HS → Prop} {v0 : Nat} {v1 : Nat} {v2 : Nat} {v3 : Int32} {v4 : Nat} {S : HS} (h : ob S v1 6 ∧ (∀ x1 : Int32, x1 = fI S v1 5 → (∀ x2 : Int32, x2 = fI S v1 5 → (P_X1_worstSpeed_17 Q v0 v1 v2 v3 v4 x1 (-1 : Int64) x2 S)))) : P_X1_worstSpeed_0 Q v0 v1 v2 v3 v4 S := h
theorem u_X1_worstSpeed_17 {Q : Int32 → HS → Prop} {X17 : Nat → Nat → Nat → Int32 → Nat → Int32 → Int64 → Int32 → HS → Prop} {v0 : Nat} {v1 : Nat} {v2 : Nat} {v3 : Int32} {v4 : Nat} {v5 : Int32} {v6 : Int64} {v8 : Int32} {S : HS} (h : ob S v1 6 ∧ (∀ x1 : Int32, x1 = fI S v1 6 → (((x1 < v8) → (Q v5 S)) ∧ ((¬ x1 < v8) → (ob S v0 1 ∧ (P_X1_wetOf v0 v1 v2 v3 v4 v8 (fun x5 S3 => Gr S S3 → ((((lg_cmp x5 v6) ≤ 0) → (P_X1_worstSpeed_55 Q X17 v0 v1 v2 v3 v4 v5 v6 v8 S3)) ∧ ((¬ (lg_cmp x5 v6) ≤ 0) → (P_X1_worstSpeed_55 Q X17 v0 v1 v2 v3 v4 v8 x5 v8 S3)))) S)))))) : B_X1_worstSpeed_17 Q X17 v0 v1 v2 v3 v4 v5 v6 v8 S := h
theorem i_X1_worstSpeed_17 {Q : Int32 → HS → Prop} (μ : Nat → Nat → Nat → Int32 → Nat → Int32 → Int64 → Int32 → HS → Nat) (I : Nat → Nat → Nat → Int32 → Nat → Int32 → Int64 → Int32 → HS → Prop) (hs : ∀ (v0 : Nat) (v1 : Nat) (v2 : Nat) (v3 : Int32) (v4 : Nat) (v5 : Int32) (v6 : Int64) (v8 : Int32) (S : HS) (X : Nat → Nat → Nat → Int32 → Nat → Int32 → Int64 → Int32 → HS → Prop), I v0 v1 v2 v3 v4 v5 v6 v8 S → (∀ (w0 : Nat) (w1 : Nat) (w2 : Nat) (w3 : Int32) (w4 : Nat) (w5 : Int32) (w6 : Int64) (w8 : Int32) (T : HS), I w0 w1 w2 w3 w4 w5 w6 w8 T → μ w0 w1 w2 w3 w4 w5 w6 w8 T < μ v0 v1 v2 v3 v4 v5 v6 v8 S → X w0 w1 w2 w3 w4 w5 w6 w8 T) → B_X1_worstSpeed_17 Q X v0 v1 v2 v3 v4 v5 v6 v8 S) : ∀ (v0 : Nat) (v1 : Nat) (v2 : Nat) (v3 : Int32) (v4 : Nat) (v5 : Int32) (v6 : Int64) (v8 : Int32) (S : HS), I v0 v1 v2 v3 v4 v5 v6 v8 S → P_X1_worstSpeed_17 Q v0 v1 v2 v3 v4 v5 v6 v8 S := by
  intro v0 v1 v2 v3 v4 v5 v6 v8 S h X hX
  have key : ∀ (z : Nat) (v0 : Nat) (v1 : Nat) (v2 : Nat) (v3 : Int32) (v4 : Nat) (v5 : Int32) (v6 : Int64) (v8 : Int32) (S : HS), μ v0 v1 v2 v3 v4 v5 v6 v8 S < z → I v0 v1 v2 v3 v4 v5 v6 v8 S → X v0 v1 v2 v3 v4 v5 v6 v8 S := by
    intro z
    induction z with
    | zero => intro v0 v1 v2 v3 v4 v5 v6 v8 S hz; exact absurd hz (Nat.not_lt_zero _)
    | succ z ih => intro v0 v1 v2 v3 v4 v5 v6 v8 S hz hI; exact hX _ _ _ _ _ _ _ _ _ (hs _ _ _ _ _ _ _ _ _ _ hI (fun w0 w1 w2 w3 w4 w5 w6 w8 T hT hl => ih _ _ _ _ _ _ _ _ _ (by omega) hT))
  exact key _ _ _ _ _ _ _ _ _ _ (Nat.lt_succ_self _) h
theorem u_X1_worstSpeed_55 {Q : Int32 → HS → Prop} {X17 : Nat → Nat → Nat → Int32 → Nat → Int32 → Int64 → Int32 → HS → Prop} {v0 : Nat} {v1 : Nat} {v2 : Nat} {v3 : Int32} {v4 : Nat} {v5 : Int32} {v6 : Int64} {v8 : Int32} {S : HS} (h : ∀ x1 : Int32, x1 = v8 + (1 : Int32) → (X17 v0 v1 v2 v3 v4 v5 v6 x1 S)) : P_X1_worstSpeed_55 Q X17 v0 v1 v2 v3 v4 v5 v6 v8 S := h
theorem u_X2_addFaces {v0 : Nat} {v1 : Nat} {Q : HS → Prop} {S : HS} (h : P_X2_addFaces_0 Q v0 v1 S) : P_X2_addFaces v0 v1 Q S := h
theorem u_X2_addFaces_0 {Q : HS → Prop} {v0 : Nat} {v1 : Nat} {S : HS} (h : P_X2_addFaces_2 Q v0 v1 (0 : Int32) S) : P_X2_addFaces_0 Q v0 v1 S := h
theorem u_X2_addFaces_2 {Q : HS → Prop} {X2 : Nat → Nat → Int32 → HS → Prop} {v0 : Nat} {v1 : Nat} {v2 : Int32} {S : HS} (h : (((5 : Int32) ≤ v2) → (Q S)) ∧ ((¬ (5 : Int32) ≤ v2) → (ob S v1 14 ∧ ((((nI (hN S v1)) ≤ v2) → (Q S)) ∧ ((¬ (nI (hN S v1)) ≤ v2) → (ob S v0 2 ∧ (∃ a3 : Nat, fR S v0 2 = some a3 ∧ (ob S a3 14 ∧ (vp_in v2 (hN S a3) ∧ ∀ x5 : Int64, x5 = fJ S a3 v2.toNatClampNeg → (vp_in v2 (hN S v1) ∧ ∀ x7 : Int64, x7 = fJ S v1 v2.toNatClampNeg → (∀ x9 : Int64, x9 = x5 + x7 → (vp_in v2 (hN S a3) ∧ (∀ S10 : HS, S10 = sJ S a3 v2.toNatClampNeg x9 → (∀ x11 : Int32, x11 = v2 + (1 : Int32) → (X2 v0 v1 x11 S10))))))))))))))) : B_X2_addFaces_2 Q X2 v0 v1 v2 S := h
theorem i_X2_addFaces_2 {Q : HS → Prop} (μ : Nat → Nat → Int32 → HS → Nat) (I : Nat → Nat → Int32 → HS → Prop) (hs : ∀ (v0 : Nat) (v1 : Nat) (v2 : Int32) (S : HS) (X : Nat → Nat → Int32 → HS → Prop), I v0 v1 v2 S → (∀ (w0 : Nat) (w1 : Nat) (w2 : Int32) (T : HS), I w0 w1 w2 T → μ w0 w1 w2 T < μ v0 v1 v2 S → X w0 w1 w2 T) → B_X2_addFaces_2 Q X v0 v1 v2 S) : ∀ (v0 : Nat) (v1 : Nat) (v2 : Int32) (S : HS), I v0 v1 v2 S → P_X2_addFaces_2 Q v0 v1 v2 S := by
  intro v0 v1 v2 S h X hX
  have key : ∀ (z : Nat) (v0 : Nat) (v1 : Nat) (v2 : Int32) (S : HS), μ v0 v1 v2 S < z → I v0 v1 v2 S → X v0 v1 v2 S := by
    intro z
    induction z with
    | zero => intro v0 v1 v2 S hz; exact absurd hz (Nat.not_lt_zero _)
    | succ z ih => intro v0 v1 v2 S hz hI; exact hX _ _ _ _ (hs _ _ _ _ _ hI (fun w0 w1 w2 T hT hl => ih _ _ _ _ (by omega) hT))
  exact key _ _ _ _ _ (Nat.lt_succ_self _) h
theorem u_X2_allGot {v0 : Nat} {Q : Int64 → HS → Prop} {S : HS} (h : P_X2_allGot_0 Q v0 S) : P_X2_allGot v0 Q S := h
theorem u_X2_allGot_0 {Q : Int64 → HS → Prop} {v0 : Nat} {S : HS} (h : P_X2_allGot_4 Q v0 (0 : Int64) (0 : Int32) S) : P_X2_allGot_0 Q v0 S := h
theorem u_X2_allGot_4 {Q : Int64 → HS → Prop} {X4 : Nat → Int64 → Int32 → HS → Prop} {v0 : Nat} {v1 : Int64} {v3 : Int32} {S : HS} (h : (((5 : Int32) ≤ v3) → (Q v1 S)) ∧ ((¬ (5 : Int32) ≤ v3) → (ob S v0 2 ∧ (∃ a2 : Nat, fR S v0 2 = some a2 ∧ (ob S a2 14 ∧ (vp_in v3 (hN S a2) ∧ ∀ x4 : Int64, x4 = fJ S a2 v3.toNatClampNeg → (∀ x5 : Int64, x5 = v1 + x4 → (∀ x6 : Int32, x6 = v3 + (1 : Int32) → (X4 v0 x5 x6 S))))))))) : B_X2_allGot_4 Q X4 v0 v1 v3 S := h
theorem i_X2_allGot_4 {Q : Int64 → HS → Prop} (μ : Nat → Int64 → Int32 → HS → Nat) (I : Nat → Int64 → Int32 → HS → Prop) (hs : ∀ (v0 : Nat) (v1 : Int64) (v3 : Int32) (S : HS) (X : Nat → Int64 → Int32 → HS → Prop), I v0 v1 v3 S → (∀ (w0 : Nat) (w1 : Int64) (w3 : Int32) (T : HS), I w0 w1 w3 T → μ w0 w1 w3 T < μ v0 v1 v3 S → X w0 w1 w3 T) → B_X2_allGot_4 Q X v0 v1 v3 S) : ∀ (v0 : Nat) (v1 : Int64) (v3 : Int32) (S : HS), I v0 v1 v3 S → P_X2_allGot_4 Q v0 v1 v3 S := by
  intro v0 v1 v3 S h X hX
  have key : ∀ (z : Nat) (v0 : Nat) (v1 : Int64) (v3 : Int32) (S : HS), μ v0 v1 v3 S < z → I v0 v1 v3 S → X v0 v1 v3 S := by
    intro z
    induction z with
    | zero => intro v0 v1 v3 S hz; exact absurd hz (Nat.not_lt_zero _)
    | succ z ih => intro v0 v1 v3 S hz hI; exact hX _ _ _ _ (hs _ _ _ _ _ hI (fun w0 w1 w3 T hT hl => ih _ _ _ _ (by omega) hT))
  exact key _ _ _ _ _ (Nat.lt_succ_self _) h
theorem u_X2_copy {v0 : Nat} {v1 : Nat} {Q : HS → Prop} {S : HS} (h : P_X2_copy_0 Q v0 v1 S) : P_X2_copy v0 v1 Q S := h
theorem u_X2_copy_0 {Q : HS → Prop} {v0 : Nat} {v1 : Nat} {S : HS} (h : ob S v1 2 ∧ (∀ x1 : Int32, x1 = fI S v1 0 → (ob S v0 2 ∧ (∀ S2 : HS, S2 = sI S v0 0 x1 → (∀ x3 : Int32, x3 = fI S2 v1 1 → (∀ S4 : HS, S4 = sI S2 v0 1 x3 → (P_X2_copy_18 Q v0 v1 (0 : Int32) S4))))))) : P_X2_copy_0 Q v0 v1 S := h
theorem u_X2_copy_18 {Q : HS → Prop} {X18 : Nat → Nat → Int32 → HS → Prop} {v0 : Nat} {v1 : Nat} {v2 : Int32} {S : HS} (h : (((5 : Int32) ≤ v2) → (Q S)) ∧ ((¬ (5 : Int32) ≤ v2) → (ob S v0 2 ∧ (∃ a2 : Nat, fR S v0 2 = some a2 ∧ (ob S v1 2 ∧ (∃ a3 : Nat, fR S v1 2 = some a3 ∧ (ob S a3 14 ∧ (vp_in v2 (hN S a3) ∧ ∀ x5 : Int64, x5 = fJ S a3 v2.toNatClampNeg → (ob S a2 14 ∧ (vp_in v2 (hN S a2) ∧ (∀ S7 : HS, S7 = sJ S a2 v2.toNatClampNeg x5 → (∀ x8 : Int32, x8 = v2 + (1 : Int32) → (X18 v0 v1 x8 S7))))))))))))) : B_X2_copy_18 Q X18 v0 v1 v2 S := h
theorem i_X2_copy_18 {Q : HS → Prop} (μ : Nat → Nat → Int32 → HS → Nat) (I : Nat → Nat → Int32 → HS → Prop) (hs : ∀ (v0 : Nat) (v1 : Nat) (v2 : Int32) (S : HS) (X : Nat → Nat → Int32 → HS → Prop), I v0 v1 v2 S → (∀ (w0 : Nat) (w1 : Nat) (w2 : Int32) (T : HS), I w0 w1 w2 T → μ w0 w1 w2 T < μ v0 v1 v2 S → X w0 w1 w2 T) → B_X2_copy_18 Q X v0 v1 v2 S) : ∀ (v0 : Nat) (v1 : Nat) (v2 : Int32) (S : HS), I v0 v1 v2 S → P_X2_copy_18 Q v0 v1 v2 S := by
  intro v0 v1 v2 S h X hX
  have key : ∀ (z : Nat) (v0 : Nat) (v1 : Nat) (v2 : Int32) (S : HS), μ v0 v1 v2 S < z → I v0 v1 v2 S → X v0 v1 v2 S := by
    intro z
    induction z with
    | zero => intro v0 v1 v2 S hz; exact absurd hz (Nat.not_lt_zero _)
    | succ z ih => intro v0 v1 v2 S hz hI; exact hX _ _ _ _ (hs _ _ _ _ _ hI (fun w0 w1 w2 T hT hl => ih _ _ _ _ (by omega) hT))
  exact key _ _ _ _ _ (Nat.lt_succ_self _) h
theorem u_X4_bodyOf {v0 : Nat} {v1 : Nat} {Q : Int32 → HS → Prop} {S : HS} (h : P_X4_bodyOf_0 Q v0 v1 S) : P_X4_bodyOf v0 v1 Q S := h
theorem u_X4_bodyOf_0 {Q : Int32 → HS → Prop} {v0 : Nat} {v1 : Nat} {S : HS} (h : ob S v0 4 ∧ (P_X4_wordAndWhole v0 22 (1 : Int32) (9 : Int32) (fun x3 S1 => Gr S S1 → bl x3 → (((¬ x3 = 0) → (∀ x5 : Int32, x5 = fI S1 v0 9 → (P_X4_wordAndWhole v0 23 (1 : Int32) (9 : Int32) (fun x8 S6 => Gr S1 S6 → bl x8 → (((¬ x8 = 0) → (∀ x10 : Int32, x10 = fI S6 v0 9 → (ob S6 v1 6 ∧ (∀ x11 : Int32, x11 = fI S6 v1 0 → (((¬ x11 = (1 : Int32)) → (P_X4_bodyOf_58 Q v0 v1 x5 x10 (1 : Int32) S6)) ∧ ((x11 = (1 : Int32)) → (∀ x13 : Int32, x13 = fI S6 v1 1 → (P_X4_bodyOf_58 Q v0 v1 x5 x10 (x13 + (1 : Int32)) S6)))))))) ∧ ((x8 = 0) → (Q (0 : Int32) S6)))) S1))) ∧ ((x3 = 0) → (Q (0 : Int32) S1)))) S)) : P_X4_bodyOf_0 Q v0 v1 S := h
theorem u_X4_bodyOf_58 {Q : Int32 → HS → Prop} {v0 : Nat} {v1 : Nat} {v2 : Int32} {v3 : Int32} {s0 : Int32} {S : HS} (h : ob S v0 4 ∧ (P_X4_wordAndWhole v0 24 s0 (9 : Int32) (fun x3 S1 => Gr S S1 → bl x3 → (((¬ x3 = 0) → (∀ x5 : Int32, x5 = fI S1 v0 9 → (ob S1 v1 6 ∧ (P_X6_shape v1 v2 v3 x5 (fun S6 => Gr S1 S6 → (Q (1 : Int32) S6)) S1)))) ∧ ((x3 = 0) → (Q (0 : Int32) S1)))) S)) : P_X4_bodyOf_58 Q v0 v1 v2 v3 s0 S := h
theorem u_X4_canBeName {v0 : Nat} {Q : Int32 → HS → Prop} {S : HS} (h : P_X4_canBeName_0 Q v0 S) : P_X4_canBeName v0 Q S := h
theorem u_X4_canBeName_0 {Q : Int32 → HS → Prop} {v0 : Nat} {S : HS} (h : ob S v0 4 ∧ (P_X4_is v0 0 (fun x3 S1 => Gr S S1 → bl x3 → (((¬ x3 = 0) → (P_X4_canBeName_81 Q v0 S1)) ∧ ((x3 = 0) → (P_X4_is v0 2 (fun x7 S5 => Gr S1 S5 → bl x7 → (((¬ x7 = 0) → (P_X4_canBeName_81 Q v0 S5)) ∧ ((x7 = 0) → (P_X4_is v0 11 (fun x11 S9 => Gr S5 S9 → bl x11 → (((¬ x11 = 0) → (P_X4_canBeName_81 Q v0 S9)) ∧ ((x11 = 0) → (P_X4_is v0 12 (fun x15 S13 => Gr S9 S13 → bl x15 → (((¬ x15 = 0) → (P_X4_canBeName_81 Q v0 S13)) ∧ ((x15 = 0) → (P_X4_is v0 13 (fun x19 S17 => Gr S13 S17 → bl x19 → (((¬ x19 = 0) → (P_X4_canBeName_81 Q v0 S17)) ∧ ((x19 = 0) → (P_X4_is v0 14 (fun x23 S21 => Gr S17 S21 → bl x23 → (((¬ x23 = 0) → (P_X4_canBeName_81 Q v0 S21)) ∧ ((x23 = 0) → (P_X4_is v0 15 (fun x27 S25 => Gr S21 S25 → bl x27 → (((¬ x27 = 0) → (P_X4_canBeName_81 Q v0 S25)) ∧ ((x27 = 0) → (P_X4_is v0 16 (fun x31 S29 => Gr S25 S29 → bl x31 → (((¬ x31 = 0) → (P_X4_canBeName_81 Q v0 S29)) ∧ ((x31 = 0) → (P_X4_is v0 17 (fun x35 S33 => Gr S29 S33 → bl x35 → (((x35 = 0) → (P_X4_canBeName_86 Q v0 (0 : Int32) S33)) ∧ ((¬ x35 = 0) → (P_X4_canBeName_81 Q v0 S33)))) S29)))) S25)))) S21)))) S17)))) S13)))) S9)))) S5)))) S1)))) S)) : P_X4_canBeName_0 Q v0 S := h
theorem u_X4_canBeName_81 {Q : Int32 → HS → Prop} {v0 : Nat} {S : HS} (h : P_X4_canBeName_86 Q v0 (1 : Int32) S) : P_X4_canBeName_81 Q v0 S := h
theorem u_X4_canBeName_86 {Q : Int32 → HS → Prop} {v0 : Nat} {s0 : Int32} {S : HS} (h : ob S v0 4 ∧ (∀ x1 : Int32, x1 = fI S v0 6 → (((¬ x1 = (1 : Int32)) → (Q (0 : Int32) S)) ∧ ((x1 = (1 : Int32)) → (((¬ s0 = 0) → (Q (0 : Int32) S)) ∧ ((s0 = 0) → (Q (1 : Int32) S))))))) : P_X4_canBeName_86 Q v0 s0 S := h
theorem u_X4_exchange {v0 : Nat} {v1 : Nat} {Q : Nat → HS → Prop} {S : HS} (h : P_X4_exchange_0 Q v0 v1 S) : P_X4_exchange v0 v1 Q S := h
theorem u_X4_exchange_0 {Q : Nat → HS → Prop} {v0 : Nat} {v1 : Nat} {S : HS} (h : ob S v0 4 ∧ (∃ a1 : Nat, fR S v0 5 = some a1 ∧ (∀ S2 : HS, S2 = sR S v0 5 (some v1) → (Q a1 S2)))) : P_X4_exchange_0 Q v0 v1 S := h
theorem u_X4_fail {v0 : Nat} {v1 : Int32} {Q : Int32 → HS → Prop} {S : HS} (h : P_X4_fail_0 Q v0 v1 S) : P_X4_fail v0 v1 Q S := h
theorem u_X4_fail_0 {Q : Int32 → HS → Prop} {v0 : Nat} {v1 : Int32} {S : HS} (h : ob S v0 4 ∧ (∀ S1 : HS, S1 = sI S v0 0 v1 → (∀ x2 : Int32, x2 = fI S1 v0 7 → (∀ S3 : HS, S3 = sI S1 v0 1 x2 → (Q (0 : Int32) S3))))) : P_X4_fail_0 Q v0 v1 S := h
theorem u_X4_findName {v0 : Nat} {Q : Int32 → HS → Prop} {S : HS} (h : P_X4_findName_0 Q v0 S) : P_X4_findName v0 Q S := h
theorem u_X4_findName_0 {Q : Int32 → HS → Prop} {v0 : Nat} {S : HS} (h : P_X4_findName_2 Q v0 (0 : Int32) S) : P_X4_findName_0 Q v0 S := h
theorem u_X4_findName_2 {Q : Int32 → HS → Prop} {X2 : Nat → Int32 → HS → Prop} {v0 : Nat} {v1 : Int32} {S : HS} (h : ob S v0 4 ∧ (∀ x1 : Int32, x1 = fI S v0 10 → (((x1 ≤ v1) → (Q (-1 : Int32) S)) ∧ ((¬ x1 ≤ v1) → ((((12 : Int32) ≤ v1) → (Q (-1 : Int32) S)) ∧ ((¬ (12 : Int32) ≤ v1) → (∃ a4 : Nat, fR S v0 11 = some a4 ∧ (ob S a4 14 ∧ (vp_in v1 (hN S a4) ∧ ∀ x6 : Int64, x6 = fJ S a4 v1.toNatClampNeg → (∀ x7 : Int64, x7 = fJ S v0 8 → (((¬ (lg_cmp x6 x7) = 0) → (∀ x9 : Int32, x9 = v1 + (1 : Int32) → (X2 v0 x9 S))) ∧ (((lg_cmp x6 x7) = 0) → (∃ a10 : Nat, fR S v0 12 = some a10 ∧ (ob S a10 13 ∧ (vp_in v1 (hN S a10) ∧ ∀ x12 : Int32, x12 = fI S a10 v1.toNatClampNeg → (Q x12 S)))))))))))))))) : B_X4_findName_2 Q X2 v0 v1 S := h
theorem i_X4_findName_2 {Q : Int32 → HS → Prop} (μ : Nat → Int32 → HS → Nat) (I : Nat → Int32 → HS → Prop) (hs : ∀ (v0 : Nat) (v1 : Int32) (S : HS) (X : Nat → Int32 → HS → Prop), I v0 v1 S → (∀ (w0 : Nat) (w1 : Int32) (T : HS), I w0 w1 T → μ w0 w1 T < μ v0 v1 S → X w0 w1 T) → B_X4_findName_2 Q X v0 v1 S) : ∀ (v0 : Nat) (v1 : Int32) (S : HS), I v0 v1 S → P_X4_findName_2 Q v0 v1 S := by
  intro v0 v1 S h X hX
  have key : ∀ (z : Nat) (v0 : Nat) (v1 : Int32) (S : HS), μ v0 v1 S < z → I v0 v1 S → X v0 v1 S := by
    intro z
    induction z with
    | zero => intro v0 v1 S hz; exact absurd hz (Nat.not_lt_zero _)
    | succ z ih => intro v0 v1 S hz hI; exact hX _ _ _ (hs _ _ _ _ hI (fun w0 w1 T hT hl => ih _ _ _ (by omega) hT))
  exact key _ _ _ _ (Nat.lt_succ_self _) h
theorem u_X4_hasRoom {v0 : Nat} {v1 : Int32} {v2 : Int32} {Q : Int32 → HS → Prop} {S : HS} (h : P_X4_hasRoom_0 Q v0 v1 v2 S) : P_X4_hasRoom v0 v1 v2 Q S := h
theorem u_X4_hasRoom_0 {Q : Int32 → HS → Prop} {v0 : Nat} {v1 : Int32} {v2 : Int32} {S : HS} (h : ob S v0 4 ∧ (∃ a1 : Nat, fR S v0 5 = some a1 ∧ (ob S a1 8 ∧ (P_X8_isTold a1 (fun x4 S2 => Gr S S2 → bl x4 → (((¬ x4 = 0) → (((v1 < v2) → (P_X4_next v0 (fun S7 => Gr S2 S7 → (Q (1 : Int32) S7)) S2)) ∧ ((¬ v1 < v2) → (P_X4_fail v0 (5 : Int32) (fun x12 S10 => Gr S2 S10 → bl x12 → (bl x12 ∧ Q x12 S10)) S2)))) ∧ ((x4 = 0) → (P_X4_fail v0 (6 : Int32) (fun x15 S13 => Gr S2 S13 → bl x15 → (bl x15 ∧ Q x15 S13)) S2)))) S)))) : P_X4_hasRoom_0 Q v0 v1 v2 S := h
theorem u_X4_is {v0 : Nat} {v1 : Nat} {Q : Int32 → HS → Prop} {S : HS} (h : P_X4_is_0 Q v0 v1 S) : P_X4_is v0 v1 Q S := h
theorem u_X4_is_0 {Q : Int32 → HS → Prop} {v0 : Nat} {v1 : Nat} {S : HS} (h : ob S v0 4 ∧ (∀ x1 : Int32, x1 = fI S v0 6 → (((x1 = (1 : Int32)) → (P_X4_is_15 Q v0 v1 (0 : Int64) (0 : Int32) S)) ∧ ((¬ x1 = (1 : Int32)) → (Q (0 : Int32) S))))) : P_X4_is_0 Q v0 v1 S := h
theorem u_X4_is_15 {Q : Int32 → HS → Prop} {X15 : Nat → Nat → Int64 → Int32 → HS → Prop} {v0 : Nat} {v1 : Nat} {v2 : Int64} {v4 : Int32} {S : HS} (h : v1 < 54 ∧ ∀ x1 : Int32, x1 = nI (sLen.getD v1 0) → (((x1 ≤ v4) → (ob S v0 4 ∧ (∀ x3 : Int64, x3 = fJ S v0 8 → (((¬ (lg_cmp x3 v2) = 0) → (Q (0 : Int32) S)) ∧ (((lg_cmp x3 v2) = 0) → (Q (1 : Int32) S)))))) ∧ ((¬ x1 ≤ v4) → (v1 < 54 ∧ vp_in v4 (sLen.getD v1 0) ∧ ∀ x5 : Int32, x5 = sch v1 v4 → (∀ x6 : Int64, x6 = (v2 * (32 : Int64)) + ((x5 &&& (31 : Int32)).toInt64) → (∀ x7 : Int32, x7 = v4 + (1 : Int32) → (X15 v0 v1 x6 x7 S))))))) : B_X4_is_15 Q X15 v0 v1 v2 v4 S := h
theorem i_X4_is_15 {Q : Int32 → HS → Prop} (μ : Nat → Nat → Int64 → Int32 → HS → Nat) (I : Nat → Nat → Int64 → Int32 → HS → Prop) (hs : ∀ (v0 : Nat) (v1 : Nat) (v2 : Int64) (v4 : Int32) (S : HS) (X : Nat → Nat → Int64 → Int32 → HS → Prop), I v0 v1 v2 v4 S → (∀ (w0 : Nat) (w1 : Nat) (w2 : Int64) (w4 : Int32) (T : HS), I w0 w1 w2 w4 T → μ w0 w1 w2 w4 T < μ v0 v1 v2 v4 S → X w0 w1 w2 w4 T) → B_X4_is_15 Q X v0 v1 v2 v4 S) : ∀ (v0 : Nat) (v1 : Nat) (v2 : Int64) (v4 : Int32) (S : HS), I v0 v1 v2 v4 S → P_X4_is_15 Q v0 v1 v2 v4 S := by
  intro v0 v1 v2 v4 S h X hX
  have key : ∀ (z : Nat) (v0 : Nat) (v1 : Nat) (v2 : Int64) (v4 : Int32) (S : HS), μ v0 v1 v2 v4 S < z → I v0 v1 v2 v4 S → X v0 v1 v2 v4 S := by
    intro z
    induction z with
    | zero => intro v0 v1 v2 v4 S hz; exact absurd hz (Nat.not_lt_zero _)
    | succ z ih => intro v0 v1 v2 v4 S hz hI; exact hX _ _ _ _ _ (hs _ _ _ _ _ _ hI (fun w0 w1 w2 w4 T hT hl => ih _ _ _ _ _ (by omega) hT))
  exact key _ _ _ _ _ _ (Nat.lt_succ_self _) h
theorem u_X4_kindOf {v0 : Nat} {v1 : Nat} {Q : Int32 → HS → Prop} {S : HS} (h : P_X4_kindOf_0 Q v0 v1 S) : P_X4_kindOf v0 v1 Q S := h
theorem u_X4_kindOf_0 {Q : Int32 → HS → Prop} {v0 : Nat} {v1 : Nat} {S : HS} (h : ob S v0 4 ∧ (∀ S1 : HS, S1 = sI S v0 9 (0 : Int32) → (P_X4_is v0 18 (fun x4 S2 => Gr S1 S2 → bl x4 → (((x4 = 0) → (P_X4_is v0 19 (fun x8 S6 => Gr S2 S6 → bl x8 → (((x8 = 0) → (P_X4_is v0 20 (fun x12 S10 => Gr S6 S10 → bl x12 → (((x12 = 0) → (ob S10 v1 6 ∧ (∀ S14 : HS, S14 = sI S10 v1 0 (0 : Int32) → (P_X4_word v0 21 (fun x17 S15 => Gr S14 S15 → bl x17 → (∀ x18 : Int32, x18 = fI S15 v0 9 → (∀ S19 : HS, S19 = sI S15 v1 1 x18 → (bl x17 ∧ Q x17 S19)))) S14)))) ∧ ((¬ x12 = 0) → (ob S10 v1 6 ∧ (∀ S20 : HS, S20 = sI S10 v1 0 (3 : Int32) → (P_X4_wordAndWhole v0 20 (1 : Int32) (99 : Int32) (fun x23 S21 => Gr S20 S21 → bl x23 → (∀ x24 : Int32, x24 = fI S21 v0 9 → (∀ S25 : HS, S25 = sI S21 v1 1 x24 → (bl x23 ∧ Q x23 S25)))) S20)))))) S6)) ∧ ((¬ x8 = 0) → (ob S6 v1 6 ∧ (∀ S26 : HS, S26 = sI S6 v1 0 (2 : Int32) → (P_X4_wordAndWhole v0 19 (0 : Int32) (999 : Int32) (fun x29 S27 => Gr S26 S27 → bl x29 → (∀ x30 : Int32, x30 = fI S27 v0 9 → (∀ S31 : HS, S31 = sI S27 v1 1 x30 → (bl x29 ∧ Q x29 S31)))) S26)))))) S2)) ∧ ((¬ x4 = 0) → (ob S2 v1 6 ∧ (∀ S32 : HS, S32 = sI S2 v1 0 (1 : Int32) → (P_X4_wordAndWhole v0 18 (1 : Int32) (8 : Int32) (fun x35 S33 => Gr S32 S33 → bl x35 → (∀ x36 : Int32, x36 = fI S33 v0 9 → (∀ S37 : HS, S37 = sI S33 v1 1 x36 → (bl x35 ∧ Q x35 S37)))) S32)))))) S1))) : P_X4_kindOf_0 Q v0 v1 S := h
theorem u_X4_newName {v0 : Nat} {v1 : Int32} {Q : Int32 → HS → Prop} {S : HS} (h : P_X4_newName_0 Q v0 v1 S) : P_X4_newName v0 v1 Q S := h
theorem u_X4_newName_0 {Q : Int32 → HS → Prop} {v0 : Nat} {v1 : Int32} {S : HS} (h : ob S v0 4 ∧ (P_X4_canBeName v0 (fun x3 S1 => Gr S S1 → bl x3 → (((¬ x3 = 0) → (P_X4_findName v0 (fun x7 S5 => Gr S1 S5 → (((x7 = (-1 : Int32)) → (∀ x9 : Int32, x9 = fI S5 v0 10 → ((((12 : Int32) ≤ x9) → (P_X4_newName_69 Q v0 S5)) ∧ ((¬ (12 : Int32) ≤ x9) → (∃ a11 : Nat, fR S5 v0 11 = some a11 ∧ (∀ x12 : Int32, x12 = fI S5 v0 10 → (∀ x13 : Int64, x13 = fJ S5 v0 8 → (ob S5 a11 14 ∧ (vp_in x12 (hN S5 a11) ∧ (∀ S15 : HS, S15 = sJ S5 a11 x12.toNatClampNeg x13 → (∃ a16 : Nat, fR S15 v0 12 = some a16 ∧ (∀ x17 : Int32, x17 = fI S15 v0 10 → (ob S15 a16 13 ∧ (vp_in x17 (hN S15 a16) ∧ (∀ S19 : HS, S19 = sI S15 a16 x17.toNatClampNeg v1 → (∀ x20 : Int32, x20 = fI S19 v0 10 → (∀ x21 : Int32, x21 = x20 + (1 : Int32) → (∀ S22 : HS, S22 = sI S19 v0 10 x21 → (P_X4_newName_69 Q v0 S22))))))))))))))))))) ∧ ((¬ x7 = (-1 : Int32)) → (P_X4_fail v0 (3 : Int32) (fun x25 S23 => Gr S5 S23 → bl x25 → (bl x25 ∧ Q x25 S23)) S5)))) S1)) ∧ ((x3 = 0) → (P_X4_fail v0 (1 : Int32) (fun x28 S26 => Gr S1 S26 → bl x28 → (bl x28 ∧ Q x28 S26)) S1)))) S)) : P_X4_newName_0 Q v0 v1 S := h
theorem u_X4_newName_69 {Q : Int32 → HS → Prop} {v0 : Nat} {S : HS} (h : ob S v0 4 ∧ (P_X4_next v0 (fun S1 => Gr S S1 → (Q (1 : Int32) S1)) S)) : P_X4_newName_69 Q v0 S := h
theorem u_X4_next {v0 : Nat} {Q : HS → Prop} {S : HS} (h : P_X4_next_0 Q v0 S) : P_X4_next v0 Q S := h
theorem u_X4_next_0 {Q : HS → Prop} {v0 : Nat} {S : HS} (h : P_X4_next_2 Q v0 (0 : Int32) S) : P_X4_next_0 Q v0 S := h
theorem u_X4_next_2 {Q : HS → Prop} {X2 : Nat → Int32 → HS → Prop} {v0 : Nat} {v1 : Int32} {S : HS} (h : (((900 : Int32) ≤ v1) → (P_X4_next_37 Q v0 S)) ∧ ((¬ (900 : Int32) ≤ v1) → (ob S v0 4 ∧ (∀ x2 : Int32, x2 = fI S v0 4 → (P_X4_sortAt v0 x2 (fun x5 S3 => Gr S S3 → (((¬ x5 = (5 : Int32)) → (P_X4_next_37 Q v0 S3)) ∧ ((x5 = (5 : Int32)) → (∀ x7 : Int32, x7 = fI S3 v0 4 → (∀ x8 : Int32, x8 = x7 + (1 : Int32) → (∀ S9 : HS, S9 = sI S3 v0 4 x8 → (∀ x10 : Int32, x10 = v1 + (1 : Int32) → (X2 v0 x10 S9)))))))) S))))) : B_X4_next_2 Q X2 v0 v1 S := h
theorem i_X4_next_2 {Q : HS → Prop} (μ : Nat → Int32 → HS → Nat) (I : Nat → Int32 → HS → Prop) (hs : ∀ (v0 : Nat) (v1 : Int32) (S : HS) (X : Nat → Int32 → HS → Prop), I v0 v1 S → (∀ (w0 : Nat) (w1 : Int32) (T : HS), I w0 w1 T → μ w0 w1 T < μ v0 v1 S → X w0 w1 T) → B_X4_next_2 Q X v0 v1 S) : ∀ (v0 : Nat) (v1 : Int32) (S : HS), I v0 v1 S → P_X4_next_2 Q v0 v1 S := by
  intro v0 v1 S h X hX
  have key : ∀ (z : Nat) (v0 : Nat) (v1 : Int32) (S : HS), μ v0 v1 S < z → I v0 v1 S → X v0 v1 S := by
    intro z
    induction z with
    | zero => intro v0 v1 S hz; exact absurd hz (Nat.not_lt_zero _)
    | succ z ih => intro v0 v1 S hz hI; exact hX _ _ _ (hs _ _ _ _ hI (fun w0 w1 T hT hl => ih _ _ _ (by omega) hT))
  exact key _ _ _ _ (Nat.lt_succ_self _) h
theorem u_X4_next_37 {Q : HS → Prop} {v0 : Nat} {S : HS} (h : ob S v0 4 ∧ (∀ x1 : Int32, x1 = fI S v0 4 → (∀ S2 : HS, S2 = sI S v0 7 x1 → (∀ x3 : Int32, x3 = fI S2 v0 4 → (P_X4_sortAt v0 x3 (fun x6 S4 => Gr S2 S4 → (∀ S7 : HS, S7 = sI S4 v0 6 x6 → (∀ S8 : HS, S8 = sJ S7 v0 8 (0 : Int64) → (∀ x9 : Int32, x9 = fI S8 v0 6 → (((x9 = (1 : Int32)) → (P_X4_next_78 Q v0 S8)) ∧ ((¬ x9 = (1 : Int32)) → (∀ x11 : Int32, x11 = fI S8 v0 6 → (((¬ x11 = (2 : Int32)) → (P_X4_next_83 Q v0 (0 : Int32) S8)) ∧ ((x11 = (2 : Int32)) → (P_X4_next_78 Q v0 S8)))))))))) S2))))) : P_X4_next_37 Q v0 S := h
theorem u_X4_next_78 {Q : HS → Prop} {v0 : Nat} {S : HS} (h : P_X4_next_83 Q v0 (1 : Int32) S) : P_X4_next_78 Q v0 S := h
theorem u_X4_next_83 {Q : HS → Prop} {v0 : Nat} {s0 : Int32} {S : HS} (h : ob S v0 4 ∧ (∀ x1 : Int32, x1 = fI S v0 6 → (((¬ x1 = (1 : Int32)) → (P_X4_next_98 Q v0 s0 (3 : Int32) S)) ∧ ((x1 = (1 : Int32)) → (P_X4_next_98 Q v0 s0 (8 : Int32) S))))) : P_X4_next_83 Q v0 s0 S := h
theorem u_X4_next_98 {Q : HS → Prop} {v0 : Nat} {v1 : Int32} {s0 : Int32} {S : HS} (h : ob S v0 4 ∧ (∀ x1 : Int32, x1 = fI S v0 6 → (((¬ x1 = (1 : Int32)) → (P_X4_next_114 Q v0 v1 s0 (10 : Int32) S)) ∧ ((x1 = (1 : Int32)) → (P_X4_next_114 Q v0 v1 s0 (32 : Int32) S))))) : P_X4_next_98 Q v0 v1 s0 S := h
theorem u_X4_next_114 {Q : HS → Prop} {v0 : Nat} {v1 : Int32} {v2 : Int32} {s0 : Int32} {S : HS} (h : P_X4_next_118 Q v0 v1 v2 s0 (0 : Int32) S) : P_X4_next_114 Q v0 v1 v2 s0 S := h
theorem u_X4_next_118 {Q : HS → Prop} {X118 : Nat → Int32 → Int32 → Int32 → Int32 → HS → Prop} {v0 : Nat} {v1 : Int32} {v2 : Int32} {v3 : Int32} {v4 : Int32} {S : HS} (h : ((v1 = 0) → (P_X4_next_217 Q v0 v1 v2 S)) ∧ ((¬ v1 = 0) → ((((900 : Int32) ≤ v4) → (P_X4_next_217 Q v0 v1 v2 S)) ∧ ((¬ (900 : Int32) ≤ v4) → (ob S v0 4 ∧ (∀ x3 : Int32, x3 = fI S v0 4 → (P_X4_sortAt v0 x3 (fun x6 S4 => Gr S S4 → (∀ x7 : Int32, x7 = fI S4 v0 6 → (((¬ x6 = x7) → (P_X4_next_217 Q v0 v1 v2 S4)) ∧ ((x6 = x7) → (((v2 ≤ v4) → (P_X4_next_201 Q X118 v0 v1 v2 v3 v4 S4)) ∧ ((¬ v2 ≤ v4) → (∀ x10 : Int32, x10 = fI S4 v0 4 → (∃ a11 : Nat, fR S4 v0 2 = some a11 ∧ (ob S4 a11 12 ∧ ((((nI (hN S4 a11)) ≤ x10) → (P_X4_next_201 Q X118 v0 v1 v2 v3 v4 S4)) ∧ ((¬ (nI (hN S4 a11)) ≤ x10) → (∀ x13 : Int64, x13 = fJ S4 v0 8 → (∃ a14 : Nat, fR S4 v0 2 = some a14 ∧ (∀ x15 : Int32, x15 = fI S4 v0 4 → (ob S4 a14 12 ∧ (vp_in x15 (hN S4 a14) ∧ ∀ x17 : Int32, x17 = fI S4 a14 x15.toNatClampNeg → (∀ x18 : Int32, x18 = fI S4 v0 6 → (((¬ x18 = (1 : Int32)) → (P_X4_next_195 Q X118 v0 v1 v2 v3 v4 v0 (x13 * v3.toInt64) x17 (15 : Int32) S4)) ∧ ((x18 = (1 : Int32)) → (P_X4_next_195 Q X118 v0 v1 v2 v3 v4 v0 (x13 * v3.toInt64) x17 (31 : Int32) S4)))))))))))))))))))) S))))))) : B_X4_next_118 Q X118 v0 v1 v2 v3 v4 S := h
theorem i_X4_next_118 {Q : HS → Prop} (μ : Nat → Int32 → Int32 → Int32 → Int32 → HS → Nat) (I : Nat → Int32 → Int32 → Int32 → Int32 → HS → Prop) (hs : ∀ (v0 : Nat) (v1 : Int32) (v2 : Int32) (v3 : Int32) (v4 : Int32) (S : HS) (X : Nat → Int32 → Int32 → Int32 → Int32 → HS → Prop), I v0 v1 v2 v3 v4 S → (∀ (w0 : Nat) (w1 : Int32) (w2 : Int32) (w3 : Int32) (w4 : Int32) (T : HS), I w0 w1 w2 w3 w4 T → μ w0 w1 w2 w3 w4 T < μ v0 v1 v2 v3 v4 S → X w0 w1 w2 w3 w4 T) → B_X4_next_118 Q X v0 v1 v2 v3 v4 S) : ∀ (v0 : Nat) (v1 : Int32) (v2 : Int32) (v3 : Int32) (v4 : Int32) (S : HS), I v0 v1 v2 v3 v4 S → P_X4_next_118 Q v0 v1 v2 v3 v4 S := by
  intro v0 v1 v2 v3 v4 S h X hX
  have key : ∀ (z : Nat) (v0 : Nat) (v1 : Int32) (v2 : Int32) (v3 : Int32) (v4 : Int32) (S : HS), μ v0 v1 v2 v3 v4 S < z → I v0 v1 v2 v3 v4 S → X v0 v1 v2 v3 v4 S := by
    intro z
    induction z with
    | zero => intro v0 v1 v2 v3 v4 S hz; exact absurd hz (Nat.not_lt_zero _)
    | succ z ih => intro v0 v1 v2 v3 v4 S hz hI; exact hX _ _ _ _ _ _ (hs _ _ _ _ _ _ _ hI (fun w0 w1 w2 w3 w4 T hT hl => ih _ _ _ _ _ _ (by omega) hT))
  exact key _ _ _ _ _ _ _ (Nat.lt_succ_self _) h
theorem u_X4_next_195 {Q : HS → Prop} {X118 : Nat → Int32 → Int32 → Int32 → Int32 → HS → Prop} {v0 : Nat} {v1 : Int32} {v2 : Int32} {v3 : Int32} {v4 : Int32} {s0 : Nat} {s1 : Int64} {s2 : Int32} {s3 : Int32} {S : HS} (h : ob S s0 4 ∧ (∀ x1 : Int64, x1 = s1 + ((s2 &&& s3).toInt64) → (∀ S2 : HS, S2 = sJ S s0 8 x1 → (P_X4_next_201 Q X118 v0 v1 v2 v3 v4 S2)))) : P_X4_next_195 Q X118 v0 v1 v2 v3 v4 s0 s1 s2 s3 S := h
theorem u_X4_next_201 {Q : HS → Prop} {X118 : Nat → Int32 → Int32 → Int32 → Int32 → HS → Prop} {v0 : Nat} {v1 : Int32} {v2 : Int32} {v3 : Int32} {v4 : Int32} {S : HS} (h : ob S v0 4 ∧ (∀ x1 : Int32, x1 = fI S v0 4 → (∀ x2 : Int32, x2 = x1 + (1 : Int32) → (∀ S3 : HS, S3 = sI S v0 4 x2 → (∀ x4 : Int32, x4 = v4 + (1 : Int32) → (X118 v0 v1 v2 v3 x4 S3)))))) : P_X4_next_201 Q X118 v0 v1 v2 v3 v4 S := h
theorem u_X4_next_217 {Q : HS → Prop} {v0 : Nat} {v1 : Int32} {v2 : Int32} {S : HS} (h : ((v1 = 0) → (P_X4_next_240 Q v0 v1 S)) ∧ ((¬ v1 = 0) → (ob S v0 4 ∧ (∀ x2 : Int32, x2 = fI S v0 4 → (∀ x3 : Int32, x3 = fI S v0 7 → ((((x2 - x3) ≤ v2) → (P_X4_next_240 Q v0 v1 S)) ∧ ((¬ (x2 - x3) ≤ v2) → (∀ S5 : HS, S5 = sI S v0 6 (6 : Int32) → (P_X4_next_240 Q v0 v1 S5))))))))) : P_X4_next_217 Q v0 v1 v2 S := h
theorem u_X4_next_240 {Q : HS → Prop} {v0 : Nat} {v1 : Int32} {S : HS} (h : ((¬ v1 = 0) → (Q S)) ∧ ((v1 = 0) → (ob S v0 4 ∧ (∀ x2 : Int32, x2 = fI S v0 6 → (((x2 = 0) → (Q S)) ∧ ((¬ x2 = 0) → (∀ x4 : Int32, x4 = fI S v0 4 → (∀ x5 : Int32, x5 = x4 + (1 : Int32) → (∀ S6 : HS, S6 = sI S v0 4 x5 → (Q S6)))))))))) : P_X4_next_240 Q v0 v1 S := h
theorem u_X4_open {v0 : Nat} {v1 : Nat} {v2 : Int32} {Q : HS → Prop} {S : HS} (h : P_X4_open_0 Q v0 v1 v2 S) : P_X4_open v0 v1 v2 Q S := h
theorem u_X4_open_0 {Q : HS → Prop} {v0 : Nat} {v1 : Nat} {v2 : Int32} {S : HS} (h : ob S v0 4 ∧ (∀ S1 : HS, S1 = sR S v0 2 (some v1) → (ob S1 v1 12 ∧ (∀ x2 : Int32, x2 = (if nI (hN S1 v1) < v2 then nI (hN S1 v1) else v2) → (∀ S3 : HS, S3 = sI S1 v0 3 x2 → (∀ S4 : HS, S4 = sI S3 v0 4 (0 : Int32) → (∀ S5 : HS, S5 = sI S4 v0 0 (0 : Int32) → (∀ S6 : HS, S6 = sI S5 v0 1 (0 : Int32) → (∀ S7 : HS, S7 = sI S6 v0 10 (0 : Int32) → (∃ a8 : Nat, fR S7 v0 5 = some a8 ∧ (ob S7 a8 8 ∧ (P_X8_clear a8 (fun S9 => Gr S7 S9 → (P_X4_next v0 (fun S12 => Gr S9 S12 → (Q S12)) S9)) S7)))))))))))) : P_X4_open_0 Q v0 v1 v2 S := h
theorem u_X4_placeBut {v0 : Nat} {v1 : Int32} {Q : Int32 → HS → Prop} {S : HS} (h : P_X4_placeBut_0 Q v0 v1 S) : P_X4_placeBut v0 v1 Q S := h
theorem u_X4_placeBut_0 {Q : Int32 → HS → Prop} {v0 : Nat} {v1 : Int32} {S : HS} (h : ob S v0 4 ∧ (P_X4_canBeName v0 (fun x3 S1 => Gr S S1 → bl x3 → (((¬ x3 = 0) → (P_X4_findName v0 (fun x7 S5 => Gr S1 S5 → (((x7 = (-1 : Int32)) → (P_X4_placeBut_29 Q v0 S5)) ∧ ((¬ x7 = (-1 : Int32)) → (((x7 < (8 : Int32)) → (((¬ x7 = v1) → (∀ S11 : HS, S11 = sI S5 v0 9 x7 → (P_X4_next v0 (fun S12 => Gr S11 S12 → (Q (1 : Int32) S12)) S11))) ∧ ((x7 = v1) → (P_X4_fail v0 (3 : Int32) (fun x17 S15 => Gr S5 S15 → bl x17 → (bl x17 ∧ Q x17 S15)) S5)))) ∧ ((¬ x7 < (8 : Int32)) → (P_X4_placeBut_29 Q v0 S5)))))) S1)) ∧ ((x3 = 0) → (P_X4_fail v0 (1 : Int32) (fun x20 S18 => Gr S1 S18 → bl x20 → (bl x20 ∧ Q x20 S18)) S1)))) S)) : P_X4_placeBut_0 Q v0 v1 S := h
theorem u_X4_placeBut_29 {Q : Int32 → HS → Prop} {v0 : Nat} {S : HS} (h : ob S v0 4 ∧ (P_X4_fail v0 (2 : Int32) (fun x3 S1 => Gr S S1 → bl x3 → (bl x3 ∧ Q x3 S1)) S)) : P_X4_placeBut_29 Q v0 S := h
theorem u_X4_placeLine {v0 : Nat} {Q : Int32 → HS → Prop} {S : HS} (h : P_X4_placeLine_0 Q v0 S) : P_X4_placeLine v0 Q S := h
theorem u_X4_placeLine_0 {Q : Int32 → HS → Prop} {v0 : Nat} {S : HS} (h : ob S v0 4 ∧ (∃ a1 : Nat, fR S v0 5 = some a1 ∧ (ob S a1 8 ∧ (∀ x2 : Int32, x2 = fI S a1 2 → (P_X4_newName v0 x2 (fun x5 S3 => Gr S S3 → bl x5 → (((¬ x5 = 0) → (P_X4_is v0 15 (fun x9 S7 => Gr S3 S7 → bl x9 → (((x9 = 0) → (P_X4_is v0 16 (fun x13 S11 => Gr S7 S11 → bl x13 → (((x13 = 0) → (P_X4_placeLine_64 Q v0 (-1 : Int32) S11)) ∧ ((¬ x13 = 0) → (P_X4_wordAndWhole v0 16 (0 : Int32) (9 : Int32) (fun x17 S15 => Gr S11 S15 → bl x17 → (((¬ x17 = 0) → (∀ x19 : Int32, x19 = fI S15 v0 9 → (P_X4_placeLine_64 Q v0 x19 S15))) ∧ ((x17 = 0) → (Q (0 : Int32) S15)))) S11)))) S7)) ∧ ((¬ x9 = 0) → (P_X4_next v0 (fun S20 => Gr S7 S20 → (P_X4_placeLine_64 Q v0 (0 : Int32) S20)) S7)))) S3)) ∧ ((x5 = 0) → (Q (0 : Int32) S3)))) S))))) : P_X4_placeLine_0 Q v0 S := h
theorem u_X4_placeLine_64 {Q : Int32 → HS → Prop} {v0 : Nat} {v1 : Int32} {S : HS} (h : ob S v0 4 ∧ (∃ a1 : Nat, fR S v0 5 = some a1 ∧ (ob S a1 8 ∧ (∃ a2 : Nat, fR S a1 7 = some a2 ∧ (∃ a3 : Nat, fR S v0 5 = some a3 ∧ (ob S a3 8 ∧ (∀ x4 : Int32, x4 = fI S a3 2 → (ob S a2 13 ∧ (vp_in x4 (hN S a2) ∧ (∀ S6 : HS, S6 = sI S a2 x4.toNatClampNeg v1 → (∃ a7 : Nat, fR S6 v0 5 = some a7 ∧ (ob S6 a7 8 ∧ (∀ x8 : Int32, x8 = fI S6 a7 2 → (∀ x9 : Int32, x9 = x8 + (1 : Int32) → (∀ S10 : HS, S10 = sI S6 a7 2 x9 → (Q (1 : Int32) S10)))))))))))))))) : P_X4_placeLine_64 Q v0 v1 S := h
theorem u_X4_rainLine {v0 : Nat} {Q : Int32 → HS → Prop} {S : HS} (h : P_X4_rainLine_0 Q v0 S) : P_X4_rainLine v0 Q S := h
theorem u_X4_rainLine_0 {Q : Int32 → HS → Prop} {v0 : Nat} {S : HS} (h : ob S v0 4 ∧ (∃ a1 : Nat, fR S v0 5 = some a1 ∧ (ob S a1 8 ∧ (∃ a2 : Nat, fR S a1 6 = some a2 ∧ (∃ a3 : Nat, fR S v0 5 = some a3 ∧ (ob S a3 8 ∧ (∀ x4 : Int32, x4 = fI S a3 1 → (ob S a2 17 ∧ (vp_in x4 (hN S a2) ∧ ∃ a6 : Nat, fR S a2 x4.toNatClampNeg = some a6 ∧ (P_X4_wordAndWhole v0 3 (0 : Int32) (9 : Int32) (fun x9 S7 => Gr S S7 → bl x9 → (((¬ x9 = 0) → (∀ x11 : Int32, x11 = fI S7 v0 9 → (ob S7 a6 3 ∧ (∀ S12 : HS, S12 = sI S7 a6 0 x11 → (P_X4_wordAndWhole v0 4 (1 : Int32) (9 : Int32) (fun x15 S13 => Gr S12 S13 → bl x15 → (((¬ x15 = 0) → (∀ x17 : Int32, x17 = fI S13 v0 9 → (∀ S18 : HS, S18 = sI S13 a6 1 x17 → (P_X4_word v0 5 (fun x21 S19 => Gr S18 S19 → bl x21 → (((x21 = 0) → (Q (0 : Int32) S19)) ∧ ((¬ x21 = 0) → (P_X4_side v0 (fun x25 S23 => Gr S19 S23 → bl x25 → (((¬ x25 = 0) → (∀ x27 : Int32, x27 = fI S23 v0 9 → (∀ S28 : HS, S28 = sI S23 a6 2 x27 → (P_X4_whole v0 (0 : Int32) (9 : Int32) (fun x31 S29 => Gr S28 S29 → bl x31 → (((¬ x31 = 0) → (∀ x33 : Int32, x33 = fI S29 v0 9 → (∀ S34 : HS, S34 = sI S29 a6 3 x33 → (P_X4_wordAndWhole v0 10 (0 : Int32) (100 : Int32) (fun x37 S35 => Gr S34 S35 → bl x37 → (((¬ x37 = 0) → (∀ x39 : Int32, x39 = fI S35 v0 9 → (∀ S40 : HS, S40 = sI S35 a6 4 x39 → (∃ a41 : Nat, fR S40 v0 5 = some a41 ∧ (ob S40 a41 8 ∧ (∀ x42 : Int32, x42 = fI S40 a41 1 → (∀ x43 : Int32, x43 = x42 + (1 : Int32) → (∀ S44 : HS, S44 = sI S40 a41 1 x43 → (Q (1 : Int32) S44))))))))) ∧ ((x37 = 0) → (Q (0 : Int32) S35)))) S34)))) ∧ ((x31 = 0) → (Q (0 : Int32) S29)))) S28)))) ∧ ((x25 = 0) → (Q (0 : Int32) S23)))) S19)))) S18)))) ∧ ((x15 = 0) → (Q (0 : Int32) S13)))) S12))))) ∧ ((x9 = 0) → (Q (0 : Int32) S7)))) S)))))))))) : P_X4_rainLine_0 Q v0 S := h
theorem u_X4_read {v0 : Nat} {v1 : Nat} {v2 : Int32} {Q : Int32 → HS → Prop} {S : HS} (h : P_X4_read_0 Q v0 v1 v2 S) : P_X4_read v0 v1 v2 Q S := h
theorem u_X4_read_0 {Q : Int32 → HS → Prop} {v0 : Nat} {v1 : Nat} {v2 : Int32} {S : HS} (h : ob S v0 4 ∧ (P_X4_open v0 v1 v2 (fun S1 => Gr S S1 → (P_X4_read_8 Q v0 (0 : Int32) S1)) S)) : P_X4_read_0 Q v0 v1 v2 S := h
theorem u_X4_read_8 {Q : Int32 → HS → Prop} {X8 : Nat → Int32 → HS → Prop} {v0 : Nat} {v3 : Int32} {S : HS} (h : (((900 : Int32) < v3) → (ob S v0 4 ∧ (P_X4_fail v0 (1 : Int32) (fun x4 S2 => Gr S S2 → bl x4 → (bl x4 ∧ Q x4 S2)) S))) ∧ ((¬ (900 : Int32) < v3) → (ob S v0 4 ∧ (P_X4_is v0 0 (fun x7 S5 => Gr S S5 → bl x7 → (((x7 = 0) → (P_X4_is v0 2 (fun x11 S9 => Gr S5 S9 → bl x11 → (((x11 = 0) → (P_X4_is v0 11 (fun x15 S13 => Gr S9 S13 → bl x15 → (((x15 = 0) → (P_X4_is v0 12 (fun x19 S17 => Gr S13 S17 → bl x19 → (((x19 = 0) → (P_X4_is v0 13 (fun x23 S21 => Gr S17 S21 → bl x23 → (((x23 = 0) → (P_X4_is v0 14 (fun x27 S25 => Gr S21 S25 → bl x27 → (((x27 = 0) → (P_X4_fail v0 (1 : Int32) (fun x31 S29 => Gr S25 S29 → bl x31 → (P_X4_read_248 Q X8 v0 v3 x31 S29)) S25)) ∧ ((¬ x27 = 0) → (∃ a32 : Nat, fR S25 v0 5 = some a32 ∧ (ob S25 a32 8 ∧ (∀ x33 : Int32, x33 = fI S25 a32 5 → (P_X4_hasRoom v0 x33 (4 : Int32) (fun x36 S34 => Gr S25 S34 → bl x36 → (((x36 = 0) → (P_X4_read_235 Q X8 v0 v3 S34)) ∧ ((¬ x36 = 0) → (P_X4_seenLine v0 (fun x40 S38 => Gr S34 S38 → bl x40 → (((x40 = 0) → (P_X4_read_235 Q X8 v0 v3 S38)) ∧ ((¬ x40 = 0) → (P_X4_read_236 Q X8 v0 v3 (1 : Int32) S38)))) S34)))) S25))))))) S21)) ∧ ((¬ x23 = 0) → (∃ a42 : Nat, fR S21 v0 5 = some a42 ∧ (ob S21 a42 8 ∧ (∀ x43 : Int32, x43 = fI S21 a42 4 → (P_X4_hasRoom v0 x43 (4 : Int32) (fun x46 S44 => Gr S21 S44 → bl x46 → (((x46 = 0) → (P_X4_read_194 Q X8 v0 v3 S44)) ∧ ((¬ x46 = 0) → (P_X4_walkerLine v0 (fun x50 S48 => Gr S44 S48 → bl x50 → (((x50 = 0) → (P_X4_read_194 Q X8 v0 v3 S48)) ∧ ((¬ x50 = 0) → (P_X4_read_195 Q X8 v0 v3 (1 : Int32) S48)))) S44)))) S21))))))) S17)) ∧ ((¬ x19 = 0) → (∃ a52 : Nat, fR S17 v0 5 = some a52 ∧ (ob S17 a52 8 ∧ (∀ x53 : Int32, x53 = fI S17 a52 3 → (P_X4_hasRoom v0 x53 (12 : Int32) (fun x56 S54 => Gr S17 S54 → bl x56 → (((x56 = 0) → (P_X4_read_153 Q X8 v0 v3 S54)) ∧ ((¬ x56 = 0) → (P_X4_roadLine v0 (fun x60 S58 => Gr S54 S58 → bl x60 → (((x60 = 0) → (P_X4_read_153 Q X8 v0 v3 S58)) ∧ ((¬ x60 = 0) → (P_X4_read_154 Q X8 v0 v3 (1 : Int32) S58)))) S54)))) S17))))))) S13)) ∧ ((¬ x15 = 0) → (∃ a62 : Nat, fR S13 v0 5 = some a62 ∧ (ob S13 a62 8 ∧ (∀ x63 : Int32, x63 = fI S13 a62 2 → (P_X4_hasRoom v0 x63 (8 : Int32) (fun x66 S64 => Gr S13 S64 → bl x66 → (((x66 = 0) → (P_X4_read_111 Q X8 v0 v3 S64)) ∧ ((¬ x66 = 0) → (P_X4_placeLine v0 (fun x70 S68 => Gr S64 S68 → bl x70 → (((x70 = 0) → (P_X4_read_111 Q X8 v0 v3 S68)) ∧ ((¬ x70 = 0) → (P_X4_read_112 Q X8 v0 v3 (1 : Int32) S68)))) S64)))) S13))))))) S9)) ∧ ((¬ x11 = 0) → (∃ a72 : Nat, fR S9 v0 5 = some a72 ∧ (ob S9 a72 8 ∧ (∀ x73 : Int32, x73 = fI S9 a72 1 → (P_X4_hasRoom v0 x73 (6 : Int32) (fun x76 S74 => Gr S9 S74 → bl x76 → (((x76 = 0) → (P_X4_read_69 Q X8 v0 v3 S74)) ∧ ((¬ x76 = 0) → (P_X4_rainLine v0 (fun x80 S78 => Gr S74 S78 → bl x80 → (((x80 = 0) → (P_X4_read_69 Q X8 v0 v3 S78)) ∧ ((¬ x80 = 0) → (P_X4_read_70 Q X8 v0 v3 (1 : Int32) S78)))) S74)))) S9))))))) S5)) ∧ ((¬ x7 = 0) → (P_X4_worldLine v0 (fun x84 S82 => Gr S5 S82 → bl x84 → (P_X4_read_248 Q X8 v0 v3 x84 S82)) S5)))) S)))) : B_X4_read_8 Q X8 v0 v3 S := h
theorem i_X4_read_8 {Q : Int32 → HS → Prop} (μ : Nat → Int32 → HS → Nat) (I : Nat → Int32 → HS → Prop) (hs : ∀ (v0 : Nat) (v3 : Int32) (S : HS) (X : Nat → Int32 → HS → Prop), I v0 v3 S → (∀ (w0 : Nat) (w3 : Int32) (T : HS), I w0 w3 T → μ w0 w3 T < μ v0 v3 S → X w0 w3 T) → B_X4_read_8 Q X v0 v3 S) : ∀ (v0 : Nat) (v3 : Int32) (S : HS), I v0 v3 S → P_X4_read_8 Q v0 v3 S := by
  intro v0 v3 S h X hX
  have key : ∀ (z : Nat) (v0 : Nat) (v3 : Int32) (S : HS), μ v0 v3 S < z → I v0 v3 S → X v0 v3 S := by
    intro z
    induction z with
    | zero => intro v0 v3 S hz; exact absurd hz (Nat.not_lt_zero _)
    | succ z ih => intro v0 v3 S hz hI; exact hX _ _ _ (hs _ _ _ _ hI (fun w0 w3 T hT hl => ih _ _ _ (by omega) hT))
  exact key _ _ _ _ (Nat.lt_succ_self _) h
theorem u_X4_read_69 {Q : Int32 → HS → Prop} {X8 : Nat → Int32 → HS → Prop} {v0 : Nat} {v3 : Int32} {S : HS} (h : P_X4_read_70 Q X8 v0 v3 (0 : Int32) S) : P_X4_read_69 Q X8 v0 v3 S := h
theorem u_X4_read_70 {Q : Int32 → HS → Prop} {X8 : Nat → Int32 → HS → Prop} {v0 : Nat} {v3 : Int32} {s0 : Int32} {S : HS} (h : P_X4_read_248 Q X8 v0 v3 s0 S) : P_X4_read_70 Q X8 v0 v3 s0 S := h
theorem u_X4_read_111 {Q : Int32 → HS → Prop} {X8 : Nat → Int32 → HS → Prop} {v0 : Nat} {v3 : Int32} {S : HS} (h : P_X4_read_112 Q X8 v0 v3 (0 : Int32) S) : P_X4_read_111 Q X8 v0 v3 S := h
theorem u_X4_read_112 {Q : Int32 → HS → Prop} {X8 : Nat → Int32 → HS → Prop} {v0 : Nat} {v3 : Int32} {s0 : Int32} {S : HS} (h : P_X4_read_248 Q X8 v0 v3 s0 S) : P_X4_read_112 Q X8 v0 v3 s0 S := h
theorem u_X4_read_153 {Q : Int32 → HS → Prop} {X8 : Nat → Int32 → HS → Prop} {v0 : Nat} {v3 : Int32} {S : HS} (h : P_X4_read_154 Q X8 v0 v3 (0 : Int32) S) : P_X4_read_153 Q X8 v0 v3 S := h
theorem u_X4_read_154 {Q : Int32 → HS → Prop} {X8 : Nat → Int32 → HS → Prop} {v0 : Nat} {v3 : Int32} {s0 : Int32} {S : HS} (h : P_X4_read_248 Q X8 v0 v3 s0 S) : P_X4_read_154 Q X8 v0 v3 s0 S := h
theorem u_X4_read_194 {Q : Int32 → HS → Prop} {X8 : Nat → Int32 → HS → Prop} {v0 : Nat} {v3 : Int32} {S : HS} (h : P_X4_read_195 Q X8 v0 v3 (0 : Int32) S) : P_X4_read_194 Q X8 v0 v3 S := h
theorem u_X4_read_195 {Q : Int32 → HS → Prop} {X8 : Nat → Int32 → HS → Prop} {v0 : Nat} {v3 : Int32} {s0 : Int32} {S : HS} (h : P_X4_read_248 Q X8 v0 v3 s0 S) : P_X4_read_195 Q X8 v0 v3 s0 S := h
theorem u_X4_read_235 {Q : Int32 → HS → Prop} {X8 : Nat → Int32 → HS → Prop} {v0 : Nat} {v3 : Int32} {S : HS} (h : P_X4_read_236 Q X8 v0 v3 (0 : Int32) S) : P_X4_read_235 Q X8 v0 v3 S := h
theorem u_X4_read_236 {Q : Int32 → HS → Prop} {X8 : Nat → Int32 → HS → Prop} {v0 : Nat} {v3 : Int32} {s0 : Int32} {S : HS} (h : P_X4_read_248 Q X8 v0 v3 s0 S) : P_X4_read_236 Q X8 v0 v3 s0 S := h
theorem u_X4_read_248 {Q : Int32 → HS → Prop} {X8 : Nat → Int32 → HS → Prop} {v0 : Nat} {v3 : Int32} {v4 : Int32} {S : HS} (h : ((v4 = 0) → (P_X4_read_295 Q X8 v0 v3 v4 S)) ∧ ((¬ v4 = 0) → (ob S v0 4 ∧ (∀ x2 : Int32, x2 = fI S v0 6 → (((¬ x2 = 0) → (P_X4_read_295 Q X8 v0 v3 v4 S)) ∧ ((x2 = 0) → (∃ a4 : Nat, fR S v0 5 = some a4 ∧ (ob S a4 8 ∧ (∀ x5 : Int32, x5 = fI S a4 2 → (((x5 ≤ 0) → (P_X4_read_280 Q v0 S)) ∧ ((¬ x5 ≤ 0) → (∃ a7 : Nat, fR S v0 5 = some a7 ∧ (ob S a7 8 ∧ (∀ x8 : Int32, x8 = fI S a7 4 → (((0 < x8) → (Q (1 : Int32) S)) ∧ ((¬ 0 < x8) → (P_X4_read_280 Q v0 S))))))))))))))))) : P_X4_read_248 Q X8 v0 v3 v4 S := h
theorem u_X4_read_280 {Q : Int32 → HS → Prop} {v0 : Nat} {S : HS} (h : ob S v0 4 ∧ (P_X4_fail v0 (6 : Int32) (fun x3 S1 => Gr S S1 → bl x3 → (((x3 = 0) → (Q (0 : Int32) S1)) ∧ ((¬ x3 = 0) → (Q (1 : Int32) S1)))) S)) : P_X4_read_280 Q v0 S := h
theorem u_X4_read_295 {Q : Int32 → HS → Prop} {X8 : Nat → Int32 → HS → Prop} {v0 : Nat} {v3 : Int32} {v4 : Int32} {S : HS} (h : ((v4 = 0) → (Q (0 : Int32) S)) ∧ ((¬ v4 = 0) → (ob S v0 4 ∧ (P_X4_sign v0 (3 : Int32) (fun x4 S2 => Gr S S2 → bl x4 → (((¬ x4 = 0) → (∀ x6 : Int32, x6 = v3 + (1 : Int32) → (X8 v0 x6 S2))) ∧ ((x4 = 0) → (Q (0 : Int32) S2)))) S)))) : P_X4_read_295 Q X8 v0 v3 v4 S := h
theorem u_X4_roadLine {v0 : Nat} {Q : Int32 → HS → Prop} {S : HS} (h : P_X4_roadLine_0 Q v0 S) : P_X4_roadLine v0 Q S := h
theorem u_X4_roadLine_0 {Q : Int32 → HS → Prop} {v0 : Nat} {S : HS} (h : ob S v0 4 ∧ (∃ a1 : Nat, fR S v0 5 = some a1 ∧ (ob S a1 8 ∧ (∃ a2 : Nat, fR S a1 8 = some a2 ∧ (∃ a3 : Nat, fR S v0 5 = some a3 ∧ (ob S a3 8 ∧ (∀ x4 : Int32, x4 = fI S a3 3 → (ob S a2 18 ∧ (vp_in x4 (hN S a2) ∧ ∃ a6 : Nat, fR S a2 x4.toNatClampNeg = some a6 ∧ (P_X4_placeBut v0 (-1 : Int32) (fun x9 S7 => Gr S S7 → bl x9 → (((¬ x9 = 0) → (∀ x11 : Int32, x11 = fI S7 v0 9 → (ob S7 a6 5 ∧ (∀ S12 : HS, S12 = sI S7 a6 0 x11 → (P_X4_side v0 (fun x15 S13 => Gr S12 S13 → bl x15 → (((¬ x15 = 0) → (∀ x17 : Int32, x17 = fI S13 v0 9 → (∀ S18 : HS, S18 = sI S13 a6 2 x17 → (P_X4_whole v0 (1 : Int32) (60 : Int32) (fun x21 S19 => Gr S18 S19 → bl x21 → (((¬ x21 = 0) → (∀ x23 : Int32, x23 = fI S19 v0 9 → (∀ S24 : HS, S24 = sI S19 a6 3 x23 → (∀ x25 : Int32, x25 = fI S24 a6 0 → (P_X4_placeBut v0 x25 (fun x28 S26 => Gr S24 S26 → bl x28 → (((¬ x28 = 0) → (∀ x30 : Int32, x30 = fI S26 v0 9 → (∀ S31 : HS, S31 = sI S26 a6 1 x30 → (∀ S32 : HS, S32 = sI S31 a6 4 (0 : Int32) → (P_X4_is v0 17 (fun x35 S33 => Gr S32 S33 → bl x35 → (((x35 = 0) → (P_X4_roadLine_130 Q v0 S33)) ∧ ((¬ x35 = 0) → (∀ x37 : Int32, x37 = fI S33 a6 3 → (P_X4_wordAndWhole v0 17 (0 : Int32) x37 (fun x40 S38 => Gr S33 S38 → bl x40 → (((¬ x40 = 0) → (∀ x42 : Int32, x42 = fI S38 v0 9 → (∀ S43 : HS, S43 = sI S38 a6 4 x42 → (P_X4_roadLine_130 Q v0 S43)))) ∧ ((x40 = 0) → (Q (0 : Int32) S38)))) S33))))) S32))))) ∧ ((x28 = 0) → (Q (0 : Int32) S26)))) S24))))) ∧ ((x21 = 0) → (Q (0 : Int32) S19)))) S18)))) ∧ ((x15 = 0) → (Q (0 : Int32) S13)))) S12))))) ∧ ((x9 = 0) → (Q (0 : Int32) S7)))) S)))))))))) : P_X4_roadLine_0 Q v0 S := h
theorem u_X4_roadLine_130 {Q : Int32 → HS → Prop} {v0 : Nat} {S : HS} (h : ob S v0 4 ∧ (∃ a1 : Nat, fR S v0 5 = some a1 ∧ (ob S a1 8 ∧ (∀ x2 : Int32, x2 = fI S a1 3 → (∀ x3 : Int32, x3 = x2 + (1 : Int32) → (∀ S4 : HS, S4 = sI S a1 3 x3 → (Q (1 : Int32) S4))))))) : P_X4_roadLine_130 Q v0 S := h
theorem u_X4_seenLine {v0 : Nat} {Q : Int32 → HS → Prop} {S : HS} (h : P_X4_seenLine_0 Q v0 S) : P_X4_seenLine v0 Q S := h
theorem u_X4_seenLine_0 {Q : Int32 → HS → Prop} {v0 : Nat} {S : HS} (h : ob S v0 4 ∧ (P_X4_someWalker v0 (fun x3 S1 => Gr S S1 → bl x3 → (((¬ x3 = 0) → (∃ a5 : Nat, fR S1 v0 5 = some a5 ∧ (ob S1 a5 8 ∧ (∃ a6 : Nat, fR S1 a5 10 = some a6 ∧ (∃ a7 : Nat, fR S1 v0 5 = some a7 ∧ (ob S1 a7 8 ∧ (∀ x8 : Int32, x8 = fI S1 a7 5 → (∀ x9 : Int32, x9 = fI S1 v0 9 → (ob S1 a6 13 ∧ (vp_in x8 (hN S1 a6) ∧ (∀ S11 : HS, S11 = sI S1 a6 x8.toNatClampNeg x9 → (P_X4_seenLine_30 Q v0 (0 : Int32) S11)))))))))))) ∧ ((x3 = 0) → (Q (0 : Int32) S1)))) S)) : P_X4_seenLine_0 Q v0 S := h
theorem u_X4_seenLine_30 {Q : Int32 → HS → Prop} {X30 : Nat → Int32 → HS → Prop} {v0 : Nat} {v1 : Int32} {S : HS} (h : (((5 : Int32) ≤ v1) → (ob S v0 4 ∧ (∃ a2 : Nat, fR S v0 5 = some a2 ∧ (ob S a2 8 ∧ (∀ x3 : Int32, x3 = fI S a2 5 → (∀ x4 : Int32, x4 = x3 + (1 : Int32) → (∀ S5 : HS, S5 = sI S a2 5 x4 → (Q (1 : Int32) S5)))))))) ∧ ((¬ (5 : Int32) ≤ v1) → (((v1 ≤ 0) → (P_X4_seenLine_47 Q X30 v0 v1 S)) ∧ ((¬ v1 ≤ 0) → (ob S v0 4 ∧ (P_X4_sign v0 (4 : Int32) (fun x9 S7 => Gr S S7 → bl x9 → (((x9 = 0) → (Q (0 : Int32) S7)) ∧ ((¬ x9 = 0) → (P_X4_seenLine_47 Q X30 v0 v1 S7)))) S)))))) : B_X4_seenLine_30 Q X30 v0 v1 S := h
theorem i_X4_seenLine_30 {Q : Int32 → HS → Prop} (μ : Nat → Int32 → HS → Nat) (I : Nat → Int32 → HS → Prop) (hs : ∀ (v0 : Nat) (v1 : Int32) (S : HS) (X : Nat → Int32 → HS → Prop), I v0 v1 S → (∀ (w0 : Nat) (w1 : Int32) (T : HS), I w0 w1 T → μ w0 w1 T < μ v0 v1 S → X w0 w1 T) → B_X4_seenLine_30 Q X v0 v1 S) : ∀ (v0 : Nat) (v1 : Int32) (S : HS), I v0 v1 S → P_X4_seenLine_30 Q v0 v1 S := by
  intro v0 v1 S h X hX
  have key : ∀ (z : Nat) (v0 : Nat) (v1 : Int32) (S : HS), μ v0 v1 S < z → I v0 v1 S → X v0 v1 S := by
    intro z
    induction z with
    | zero => intro v0 v1 S hz; exact absurd hz (Nat.not_lt_zero _)
    | succ z ih => intro v0 v1 S hz hI; exact hX _ _ _ (hs _ _ _ _ hI (fun w0 w1 T hT hl => ih _ _ _ (by omega) hT))
  exact key _ _ _ _ (Nat.lt_succ_self _) h
theorem u_X4_seenLine_47 {Q : Int32 → HS → Prop} {X30 : Nat → Int32 → HS → Prop} {v0 : Nat} {v1 : Int32} {S : HS} (h : ob S v0 4 ∧ (P_X4_whole v0 (0 : Int32) (999 : Int32) (fun x3 S1 => Gr S S1 → bl x3 → (((¬ x3 = 0) → (∃ a5 : Nat, fR S1 v0 5 = some a5 ∧ (ob S1 a5 8 ∧ (∃ a6 : Nat, fR S1 a5 11 = some a6 ∧ (∃ a7 : Nat, fR S1 v0 5 = some a7 ∧ (ob S1 a7 8 ∧ (∀ x8 : Int32, x8 = fI S1 a7 5 → (∀ x9 : Int32, x9 = fI S1 v0 9 → (ob S1 a6 13 ∧ (vp_in ((x8 * (5 : Int32)) + v1) (hN S1 a6) ∧ (∀ S11 : HS, S11 = sI S1 a6 ((x8 * (5 : Int32)) + v1).toNatClampNeg x9 → (∀ x12 : Int32, x12 = v1 + (1 : Int32) → (X30 v0 x12 S11))))))))))))) ∧ ((x3 = 0) → (Q (0 : Int32) S1)))) S)) : P_X4_seenLine_47 Q X30 v0 v1 S := h
theorem u_X4_side {v0 : Nat} {Q : Int32 → HS → Prop} {S : HS} (h : P_X4_side_0 Q v0 S) : P_X4_side v0 Q S := h
theorem u_X4_side_0 {Q : Int32 → HS → Prop} {v0 : Nat} {S : HS} (h : ob S v0 4 ∧ (P_X4_is v0 6 (fun x3 S1 => Gr S S1 → bl x3 → (((x3 = 0) → (P_X4_is v0 7 (fun x7 S5 => Gr S1 S5 → bl x7 → (((x7 = 0) → (P_X4_is v0 8 (fun x11 S9 => Gr S5 S9 → bl x11 → (((x11 = 0) → (P_X4_is v0 9 (fun x15 S13 => Gr S9 S13 → bl x15 → (((x15 = 0) → (P_X4_fail v0 (1 : Int32) (fun x19 S17 => Gr S13 S17 → bl x19 → (bl x19 ∧ Q x19 S17)) S13)) ∧ ((¬ x15 = 0) → (∀ S20 : HS, S20 = sI S13 v0 9 (3 : Int32) → (P_X4_side_74 Q v0 S20))))) S9)) ∧ ((¬ x11 = 0) → (∀ S21 : HS, S21 = sI S9 v0 9 (2 : Int32) → (P_X4_side_74 Q v0 S21))))) S5)) ∧ ((¬ x7 = 0) → (∀ S22 : HS, S22 = sI S5 v0 9 (1 : Int32) → (P_X4_side_74 Q v0 S22))))) S1)) ∧ ((¬ x3 = 0) → (∀ S23 : HS, S23 = sI S1 v0 9 (0 : Int32) → (P_X4_side_74 Q v0 S23))))) S)) : P_X4_side_0 Q v0 S := h
theorem u_X4_side_74 {Q : Int32 → HS → Prop} {v0 : Nat} {S : HS} (h : ob S v0 4 ∧ (P_X4_next v0 (fun S1 => Gr S S1 → (Q (1 : Int32) S1)) S)) : P_X4_side_74 Q v0 S := h
theorem u_X4_sign {v0 : Nat} {v1 : Int32} {Q : Int32 → HS → Prop} {S : HS} (h : P_X4_sign_0 Q v0 v1 S) : P_X4_sign v0 v1 Q S := h
theorem u_X4_sign_0 {Q : Int32 → HS → Prop} {v0 : Nat} {v1 : Int32} {S : HS} (h : ob S v0 4 ∧ (∀ x1 : Int32, x1 = fI S v0 6 → (((x1 = v1) → (P_X4_next v0 (fun S3 => Gr S S3 → (Q (1 : Int32) S3)) S)) ∧ ((¬ x1 = v1) → (P_X4_fail v0 (1 : Int32) (fun x8 S6 => Gr S S6 → bl x8 → (bl x8 ∧ Q x8 S6)) S))))) : P_X4_sign_0 Q v0 v1 S := h
theorem u_X4_someWalker {v0 : Nat} {Q : Int32 → HS → Prop} {S : HS} (h : P_X4_someWalker_0 Q v0 S) : P_X4_someWalker v0 Q S := h
theorem u_X4_someWalker_0 {Q : Int32 → HS → Prop} {v0 : Nat} {S : HS} (h : ob S v0 4 ∧ (P_X4_canBeName v0 (fun x3 S1 => Gr S S1 → bl x3 → (((¬ x3 = 0) → (P_X4_findName v0 (fun x7 S5 => Gr S1 S5 → ((((8 : Int32) ≤ x7) → (∀ x9 : Int32, x9 = x7 - (8 : Int32) → (∀ S10 : HS, S10 = sI S5 v0 9 x9 → (P_X4_next v0 (fun S11 => Gr S10 S11 → (Q (1 : Int32) S11)) S10)))) ∧ ((¬ (8 : Int32) ≤ x7) → (P_X4_fail v0 (2 : Int32) (fun x16 S14 => Gr S5 S14 → bl x16 → (bl x16 ∧ Q x16 S14)) S5)))) S1)) ∧ ((x3 = 0) → (P_X4_fail v0 (1 : Int32) (fun x19 S17 => Gr S1 S17 → bl x19 → (bl x19 ∧ Q x19 S17)) S1)))) S)) : P_X4_someWalker_0 Q v0 S := h
theorem u_X4_sortAt {v0 : Nat} {v1 : Int32} {Q : Int32 → HS → Prop} {S : HS} (h : P_X4_sortAt_0 Q v0 v1 S) : P_X4_sortAt v0 v1 Q S := h
theorem u_X4_sortAt_0 {Q : Int32 → HS → Prop} {v0 : Nat} {v1 : Int32} {S : HS} (h : ((v1 < 0) → (Q (0 : Int32) S)) ∧ ((¬ v1 < 0) → (ob S v0 4 ∧ (∀ x2 : Int32, x2 = fI S v0 3 → (((x2 ≤ v1) → (Q (0 : Int32) S)) ∧ ((¬ x2 ≤ v1) → (∃ a4 : Nat, fR S v0 2 = some a4 ∧ (ob S a4 12 ∧ (((v1 < (nI (hN S a4))) → (∃ a6 : Nat, fR S v0 2 = some a6 ∧ (ob S a6 12 ∧ (vp_in v1 (hN S a6) ∧ ∀ x8 : Int32, x8 = fI S a6 v1.toNatClampNeg → (((x8 < (97 : Int32)) → (P_X4_sortAt_44 Q x8 S)) ∧ ((¬ x8 < (97 : Int32)) → ((((122 : Int32) < x8) → (P_X4_sortAt_44 Q x8 S)) ∧ ((¬ (122 : Int32) < x8) → (Q (1 : Int32) S))))))))) ∧ ((¬ v1 < (nI (hN S a4))) → (Q (0 : Int32) S))))))))))) : P_X4_sortAt_0 Q v0 v1 S := h
theorem u_X4_sortAt_44 {Q : Int32 → HS → Prop} {v2 : Int32} {S : HS} (h : ((v2 < (48 : Int32)) → (P_X4_sortAt_58 Q v2 S)) ∧ ((¬ v2 < (48 : Int32)) → ((((57 : Int32) < v2) → (P_X4_sortAt_58 Q v2 S)) ∧ ((¬ (57 : Int32) < v2) → (Q (2 : Int32) S))))) : P_X4_sortAt_44 Q v2 S := h
theorem u_X4_sortAt_58 {Q : Int32 → HS → Prop} {v2 : Int32} {S : HS} (h : (v2.toInt = 32 → (Q (5 : Int32) S)) ∧ (v2.toInt = 44 → (Q (4 : Int32) S)) ∧ (v2.toInt = 59 → (Q (3 : Int32) S)) ∧ (¬ v2.toInt = 32 ∧ ¬ v2.toInt = 44 ∧ ¬ v2.toInt = 59 → (Q (6 : Int32) S))) : P_X4_sortAt_58 Q v2 S := h
theorem u_X4_walkerLine {v0 : Nat} {Q : Int32 → HS → Prop} {S : HS} (h : P_X4_walkerLine_0 Q v0 S) : P_X4_walkerLine v0 Q S := h
theorem u_X4_walkerLine_0 {Q : Int32 → HS → Prop} {v0 : Nat} {S : HS} (h : ob S v0 4 ∧ (∃ a1 : Nat, fR S v0 5 = some a1 ∧ (ob S a1 8 ∧ (∃ a2 : Nat, fR S a1 9 = some a2 ∧ (∃ a3 : Nat, fR S v0 5 = some a3 ∧ (ob S a3 8 ∧ (∀ x4 : Int32, x4 = fI S a3 4 → (ob S a2 19 ∧ (vp_in x4 (hN S a2) ∧ ∃ a6 : Nat, fR S a2 x4.toNatClampNeg = some a6 ∧ (∃ a7 : Nat, fR S v0 5 = some a7 ∧ (ob S a7 8 ∧ (∀ x8 : Int32, x8 = fI S a7 4 → (P_X4_newName v0 ((8 : Int32) + x8) (fun x11 S9 => Gr S S9 → bl x11 → (((x11 = 0) → (Q (0 : Int32) S9)) ∧ ((¬ x11 = 0) → (P_X4_kindOf v0 a6 (fun x15 S13 => Gr S9 S13 → bl x15 → (((x15 = 0) → (Q (0 : Int32) S13)) ∧ ((¬ x15 = 0) → (P_X4_bodyOf v0 a6 (fun x19 S17 => Gr S13 S17 → bl x19 → (((¬ x19 = 0) → (P_X4_wordAndWhole v0 25 (1 : Int32) (9 : Int32) (fun x23 S21 => Gr S17 S21 → bl x23 → (((¬ x23 = 0) → (∀ x25 : Int32, x25 = fI S21 v0 9 → (ob S21 a6 6 ∧ (∀ S26 : HS, S26 = sI S21 a6 5 x25 → (∀ x27 : Int32, x27 = fI S26 a6 5 → (P_X4_wordAndWhole v0 26 x27 (9 : Int32) (fun x30 S28 => Gr S26 S28 → bl x30 → (((¬ x30 = 0) → (∀ x32 : Int32, x32 = fI S28 v0 9 → (∀ S33 : HS, S33 = sI S28 a6 6 x32 → (∃ a34 : Nat, fR S33 v0 5 = some a34 ∧ (ob S33 a34 8 ∧ (∀ x35 : Int32, x35 = fI S33 a34 4 → (∀ x36 : Int32, x36 = x35 + (1 : Int32) → (∀ S37 : HS, S37 = sI S33 a34 4 x36 → (Q (1 : Int32) S37))))))))) ∧ ((x30 = 0) → (Q (0 : Int32) S28)))) S26)))))) ∧ ((x23 = 0) → (Q (0 : Int32) S21)))) S17)) ∧ ((x19 = 0) → (Q (0 : Int32) S17)))) S13)))) S9)))) S))))))))))))) : P_X4_walkerLine_0 Q v0 S := h
theorem u_X4_whole {v0 : Nat} {v1 : Int32} {v2 : Int32} {Q : Int32 → HS → Prop} {S : HS} (h : P_X4_whole_0 Q v0 v1 v2 S) : P_X4_whole v0 v1 v2 Q S := h
theorem u_X4_whole_0 {Q : Int32 → HS → Prop} {v0 : Nat} {v1 : Int32} {v2 : Int32} {S : HS} (h : ob S v0 4 ∧ (∀ x1 : Int32, x1 = fI S v0 6 → (((x1 = (2 : Int32)) → (∀ x3 : Int64, x3 = fJ S v0 8 → ((((lg_cmp x3 v1.toInt64) < 0) → (P_X4_whole_34 Q v0 S)) ∧ ((¬ (lg_cmp x3 v1.toInt64) < 0) → (∀ x5 : Int64, x5 = fJ S v0 8 → ((((lg_cmp x5 v2.toInt64) ≤ 0) → (∀ x7 : Int64, x7 = fJ S v0 8 → (∀ x8 : Int32, x8 = x7.toInt32 → (∀ S9 : HS, S9 = sI S v0 9 x8 → (P_X4_next v0 (fun S10 => Gr S9 S10 → (Q (1 : Int32) S10)) S9))))) ∧ ((¬ (lg_cmp x5 v2.toInt64) ≤ 0) → (P_X4_whole_34 Q v0 S)))))))) ∧ ((¬ x1 = (2 : Int32)) → (P_X4_fail v0 (1 : Int32) (fun x15 S13 => Gr S S13 → bl x15 → (bl x15 ∧ Q x15 S13)) S))))) : P_X4_whole_0 Q v0 v1 v2 S := h
theorem u_X4_whole_34 {Q : Int32 → HS → Prop} {v0 : Nat} {S : HS} (h : ob S v0 4 ∧ (P_X4_fail v0 (4 : Int32) (fun x3 S1 => Gr S S1 → bl x3 → (bl x3 ∧ Q x3 S1)) S)) : P_X4_whole_34 Q v0 S := h
theorem u_X4_word {v0 : Nat} {v1 : Nat} {Q : Int32 → HS → Prop} {S : HS} (h : P_X4_word_0 Q v0 v1 S) : P_X4_word v0 v1 Q S := h
theorem u_X4_word_0 {Q : Int32 → HS → Prop} {v0 : Nat} {v1 : Nat} {S : HS} (h : ob S v0 4 ∧ (P_X4_is v0 v1 (fun x3 S1 => Gr S S1 → bl x3 → (((¬ x3 = 0) → (P_X4_next v0 (fun S5 => Gr S1 S5 → (Q (1 : Int32) S5)) S1)) ∧ ((x3 = 0) → (P_X4_fail v0 (1 : Int32) (fun x10 S8 => Gr S1 S8 → bl x10 → (bl x10 ∧ Q x10 S8)) S1)))) S)) : P_X4_word_0 Q v0 v1 S := h
theorem u_X4_wordAndWhole {v0 : Nat} {v1 : Nat} {v2 : Int32} {v3 : Int32} {Q : Int32 → HS → Prop} {S : HS} (h : P_X4_wordAndWhole_0 Q v0 v1 v2 v3 S) : P_X4_wordAndWhole v0 v1 v2 v3 Q S := h
theorem u_X4_wordAndWhole_0 {Q : Int32 → HS → Prop} {v0 : Nat} {v1 : Nat} {v2 : Int32} {v3 : Int32} {S : HS} (h : ob S v0 4 ∧ (P_X4_word v0 v1 (fun x3 S1 => Gr S S1 → bl x3 → (((x3 = 0) → (Q (0 : Int32) S1)) ∧ ((¬ x3 = 0) → (P_X4_whole v0 v2 v3 (fun x7 S5 => Gr S1 S5 → bl x7 → (((x7 = 0) → (Q (0 : Int32) S5)) ∧ ((¬ x7 = 0) → (Q (1 : Int32) S5)))) S1)))) S)) : P_X4_wordAndWhole_0 Q v0 v1 v2 v3 S := h
theorem u_X4_worldLine {v0 : Nat} {Q : Int32 → HS → Prop} {S : HS} (h : P_X4_worldLine_0 Q v0 S) : P_X4_worldLine v0 Q S := h
theorem u_X4_worldLine_0 {Q : Int32 → HS → Prop} {v0 : Nat} {S : HS} (h : ob S v0 4 ∧ (∃ a1 : Nat, fR S v0 5 = some a1 ∧ (ob S a1 8 ∧ (P_X8_isTold a1 (fun x4 S2 => Gr S S2 → bl x4 → (((x4 = 0) → (P_X4_next v0 (fun S6 => Gr S2 S6 → (P_X4_wordAndWhole v0 1 (5 : Int32) (60 : Int32) (fun x11 S9 => Gr S6 S9 → bl x11 → (((¬ x11 = 0) → (∃ a13 : Nat, fR S9 v0 5 = some a13 ∧ (∀ x14 : Int32, x14 = fI S9 v0 9 → (ob S9 a13 8 ∧ (∀ S15 : HS, S15 = sI S9 a13 0 x14 → (Q (1 : Int32) S15)))))) ∧ ((x11 = 0) → (Q (0 : Int32) S9)))) S6)) S2)) ∧ ((¬ x4 = 0) → (P_X4_fail v0 (3 : Int32) (fun x18 S16 => Gr S2 S16 → bl x18 → (bl x18 ∧ Q x18 S16)) S2)))) S)))) : P_X4_worldLine_0 Q v0 S := h
theorem u_X5_airAlong {v0 : Nat} {v1 : Int32} {v2 : Nat} {Q : Int32 → HS → Prop} {S : HS} (h : P_X5_airAlong_0 Q v0 v1 v2 S) : P_X5_airAlong v0 v1 v2 Q S := h
theorem u_X5_airAlong_0 {Q : Int32 → HS → Prop} {v0 : Nat} {v1 : Int32} {v2 : Nat} {S : HS} (h : ob S v0 5 ∧ (P_X5_turnOf v0 v1 v2 (fun x3 S1 => Gr S S1 → (((¬ x3 = 0) → (((¬ x3 = (2 : Int32)) → (Q (0 : Int32) S1)) ∧ ((x3 = (2 : Int32)) → (ob S1 v2 3 ∧ (∀ x6 : Int32, x6 = fI S1 v2 3 → (Q (-x6) S1)))))) ∧ ((x3 = 0) → (ob S1 v2 3 ∧ (∀ x7 : Int32, x7 = fI S1 v2 3 → (Q x7 S1)))))) S)) : P_X5_airAlong_0 Q v0 v1 v2 S := h
theorem u_X5_endOf {v0 : Nat} {v1 : Int32} {Q : Int32 → HS → Prop} {S : HS} (h : P_X5_endOf_0 Q v0 v1 S) : P_X5_endOf v0 v1 Q S := h
theorem u_X5_endOf_0 {Q : Int32 → HS → Prop} {v0 : Nat} {v1 : Int32} {S : HS} (h : ((¬ v1 = 0) → (ob S v0 5 ∧ (∀ x2 : Int32, x2 = fI S v0 0 → (Q x2 S)))) ∧ ((v1 = 0) → (ob S v0 5 ∧ (∀ x3 : Int32, x3 = fI S v0 1 → (Q x3 S))))) : P_X5_endOf_0 Q v0 v1 S := h
theorem u_X5_minutesAt {v0 : Nat} {v1 : Int32} {Q : Int32 → HS → Prop} {S : HS} (h : P_X5_minutesAt_0 Q v0 v1 S) : P_X5_minutesAt v0 v1 Q S := h
theorem u_X5_minutesAt_0 {Q : Int32 → HS → Prop} {v0 : Nat} {v1 : Int32} {S : HS} (h : ((v1 ≤ 0) → (Q (0 : Int32) S)) ∧ ((¬ v1 ≤ 0) → (ob S v0 5 ∧ (∀ x2 : Int32, x2 = fI S v0 3 → (¬ v1 = 0 ∧ ∀ x4 : Int32, x4 = ((x2 + v1) - (1 : Int32)) / v1 → (Q x4 S)))))) : P_X5_minutesAt_0 Q v0 v1 S := h
theorem u_X5_startOf {v0 : Nat} {v1 : Int32} {Q : Int32 → HS → Prop} {S : HS} (h : P_X5_startOf_0 Q v0 v1 S) : P_X5_startOf v0 v1 Q S := h
theorem u_X5_startOf_0 {Q : Int32 → HS → Prop} {v0 : Nat} {v1 : Int32} {S : HS} (h : ((¬ v1 = 0) → (ob S v0 5 ∧ (∀ x2 : Int32, x2 = fI S v0 1 → (Q x2 S)))) ∧ ((v1 = 0) → (ob S v0 5 ∧ (∀ x3 : Int32, x3 = fI S v0 0 → (Q x3 S))))) : P_X5_startOf_0 Q v0 v1 S := h
theorem u_X5_tell {v0 : Nat} {v1 : Int32} {Q : Int32 → HS → Prop} {S : HS} (h : P_X5_tell_0 Q v0 v1 S) : P_X5_tell v0 v1 Q S := h
theorem u_X5_tell_0 {Q : Int32 → HS → Prop} {v0 : Nat} {v1 : Int32} {S : HS} (h : (v1.toInt < 0 ∨ 3 < v1.toInt → (ob S v0 5 ∧ (∀ x2 : Int32, x2 = fI S v0 4 → (Q x2 S)))) ∧ (v1.toInt = 0 → (ob S v0 5 ∧ (∀ x3 : Int32, x3 = fI S v0 0 → (Q x3 S)))) ∧ (v1.toInt = 1 → (ob S v0 5 ∧ (∀ x4 : Int32, x4 = fI S v0 1 → (Q x4 S)))) ∧ (v1.toInt = 2 → (ob S v0 5 ∧ (∀ x5 : Int32, x5 = fI S v0 2 → (Q x5 S)))) ∧ (v1.toInt = 3 → (ob S v0 5 ∧ (∀ x6 : Int32, x6 = fI S v0 3 → (Q x6 S))))) : P_X5_tell_0 Q v0 v1 S := h
theorem u_X5_touches {v0 : Nat} {v1 : Int32} {Q : Int32 → HS → Prop} {S : HS} (h : P_X5_touches_0 Q v0 v1 S) : P_X5_touches v0 v1 Q S := h
theorem u_X5_touches_0 {Q : Int32 → HS → Prop} {v0 : Nat} {v1 : Int32} {S : HS} (h : ob S v0 5 ∧ (∀ x1 : Int32, x1 = fI S v0 0 → (((x1 = v1) → (Q (1 : Int32) S)) ∧ ((¬ x1 = v1) → (∀ x3 : Int32, x3 = fI S v0 1 → (((¬ x3 = v1) → (Q (0 : Int32) S)) ∧ ((x3 = v1) → (Q (1 : Int32) S)))))))) : P_X5_touches_0 Q v0 v1 S := h
theorem u_X5_turnOf {v0 : Nat} {v1 : Int32} {v2 : Nat} {Q : Int32 → HS → Prop} {S : HS} (h : P_X5_turnOf_0 Q v0 v1 v2 S) : P_X5_turnOf v0 v1 v2 Q S := h
theorem u_X5_turnOf_0 {Q : Int32 → HS → Prop} {v0 : Nat} {v1 : Int32} {v2 : Nat} {S : HS} (h : ((¬ v1 = 0) → (ob S v0 5 ∧ (∀ x2 : Int32, x2 = fI S v0 2 → (P_X5_turnOf_17 Q v2 (x2 + (2 : Int32)) S)))) ∧ ((v1 = 0) → (ob S v0 5 ∧ (∀ x3 : Int32, x3 = fI S v0 2 → (P_X5_turnOf_17 Q v2 x3 S))))) : P_X5_turnOf_0 Q v0 v1 v2 S := h
theorem u_X5_turnOf_17 {Q : Int32 → HS → Prop} {v2 : Nat} {s0 : Int32} {S : HS} (h : ob S v2 3 ∧ (∀ x1 : Int32, x1 = fI S v2 2 → (Q ((x1 - s0) &&& (3 : Int32)) S))) : P_X5_turnOf_17 Q v2 s0 S := h
theorem u_X6_canGo {v0 : Nat} {v1 : Int32} {Q : Int32 → HS → Prop} {S : HS} (h : P_X6_canGo_0 Q v0 v1 S) : P_X6_canGo v0 v1 Q S := h
theorem u_X6_canGo_0 {Q : Int32 → HS → Prop} {v0 : Nat} {v1 : Int32} {S : HS} (h : ob S v0 6 ∧ (∀ x1 : Int32, x1 = fI S v0 5 → (((v1 < x1) → (Q (0 : Int32) S)) ∧ ((¬ v1 < x1) → (∀ x3 : Int32, x3 = fI S v0 6 → (((x3 < v1) → (Q (0 : Int32) S)) ∧ ((¬ x3 < v1) → (((v1 < (1 : Int32)) → (Q (0 : Int32) S)) ∧ ((¬ v1 < (1 : Int32)) → ((((9 : Int32) < v1) → (Q (0 : Int32) S)) ∧ ((¬ (9 : Int32) < v1) → (Q (1 : Int32) S)))))))))))) : P_X6_canGo_0 Q v0 v1 S := h
theorem u_X6_shape {v0 : Nat} {v1 : Int32} {v2 : Int32} {v3 : Int32} {Q : HS → Prop} {S : HS} (h : P_X6_shape_0 Q v0 v1 v2 v3 S) : P_X6_shape v0 v1 v2 v3 Q S := h
theorem u_X6_shape_0 {Q : HS → Prop} {v0 : Nat} {v1 : Int32} {v2 : Int32} {v3 : Int32} {S : HS} (h : ob S v0 6 ∧ (∀ x1 : Int32, x1 = fI S v0 0 → (((¬ x1 = (1 : Int32)) → (P_X6_shape_16 Q v0 v1 v2 v3 (0 : Int32) S)) ∧ ((x1 = (1 : Int32)) → (∀ x3 : Int32, x3 = fI S v0 1 → (P_X6_shape_16 Q v0 v1 v2 v3 x3 S)))))) : P_X6_shape_0 Q v0 v1 v2 v3 S := h
theorem u_X6_shape_16 {Q : HS → Prop} {v0 : Nat} {v1 : Int32} {v2 : Int32} {v3 : Int32} {s0 : Int32} {S : HS} (h : ob S v0 6 ∧ (∀ x1 : Int32, x1 = v1 * (v2 + s0) → (∀ S2 : HS, S2 = sI S v0 2 x1 → (∀ x3 : Int32, x3 = v1 * (v3 - s0) → (∀ S4 : HS, S4 = sI S2 v0 3 x3 → (∀ x5 : Int32, x5 = (v2 + s0) * (v3 - s0) → (∀ S6 : HS, S6 = sI S4 v0 4 x5 → (Q S6)))))))) : P_X6_shape_16 Q v0 v1 v2 v3 s0 S := h
theorem u_X6_shield {v0 : Nat} {Q : Int32 → HS → Prop} {S : HS} (h : P_X6_shield_0 Q v0 S) : P_X6_shield v0 Q S := h
theorem u_X6_shield_0 {Q : Int32 → HS → Prop} {v0 : Nat} {S : HS} (h : ob S v0 6 ∧ (∀ x1 : Int32, x1 = fI S v0 0 → (((¬ x1 = (3 : Int32)) → (Q (0 : Int32) S)) ∧ ((x1 = (3 : Int32)) → (∀ x3 : Int32, x3 = fI S v0 1 → (Q x3 S)))))) : P_X6_shield_0 Q v0 S := h
theorem u_X6_tell {v0 : Nat} {v1 : Int32} {Q : Int32 → HS → Prop} {S : HS} (h : P_X6_tell_0 Q v0 v1 S) : P_X6_tell v0 v1 Q S := h
theorem u_X6_tell_0 {Q : Int32 → HS → Prop} {v0 : Nat} {v1 : Int32} {S : HS} (h : (v1.toInt < 0 ∨ 5 < v1.toInt → (ob S v0 6 ∧ (∀ x2 : Int32, x2 = fI S v0 6 → (Q x2 S)))) ∧ (v1.toInt = 0 → (ob S v0 6 ∧ (∀ x3 : Int32, x3 = fI S v0 0 → (Q x3 S)))) ∧ (v1.toInt = 1 → (ob S v0 6 ∧ (∀ x4 : Int32, x4 = fI S v0 1 → (Q x4 S)))) ∧ (v1.toInt = 2 → (ob S v0 6 ∧ (∀ x5 : Int32, x5 = fI S v0 2 → (Q x5 S)))) ∧ (v1.toInt = 3 → (ob S v0 6 ∧ (∀ x6 : Int32, x6 = fI S v0 3 → (Q x6 S)))) ∧ (v1.toInt = 4 → (ob S v0 6 ∧ (∀ x7 : Int32, x7 = fI S v0 4 → (Q x7 S)))) ∧ (v1.toInt = 5 → (ob S v0 6 ∧ (∀ x8 : Int32, x8 = fI S v0 5 → (Q x8 S))))) : P_X6_tell_0 Q v0 v1 S := h
theorem u_X7_addLeg {v0 : Nat} {v1 : Nat} {v2 : Int32} {v3 : Int32} {v4 : Int64} {v6 : Int32} {Q : HS → Prop} {S : HS} (h : P_X7_addLeg_0 Q v0 v1 v2 v3 v4 v6 S) : P_X7_addLeg v0 v1 v2 v3 v4 v6 Q S := h
theorem u_X7_addLeg_0 {Q : HS → Prop} {v0 : Nat} {v1 : Nat} {v2 : Int32} {v3 : Int32} {v4 : Int64} {v6 : Int32} {S : HS} (h : ob S v1 5 ∧ (P_X5_minutesAt v1 v3 (fun x3 S1 => Gr S S1 → (ob S1 v0 7 ∧ (∀ x4 : Int32, x4 = fI S1 v0 3 → (∀ x5 : Int32, x5 = x4 - (1 : Int32) → (((x5 < 0) → (P_X7_addLeg_82 Q v0 v1 v2 v4 v6 x3 S1)) ∧ ((¬ x5 < 0) → ((((224 : Int32) ≤ x5) → (P_X7_addLeg_82 Q v0 v1 v2 v4 v6 x3 S1)) ∧ ((¬ (224 : Int32) ≤ x5) → (∃ a8 : Nat, fR S1 v0 8 = some a8 ∧ (ob S1 a8 13 ∧ (vp_in x5 (hN S1 a8) ∧ ∀ x10 : Int32, x10 = fI S1 a8 x5.toNatClampNeg → (∀ x11 : Int32, x11 = x10 / (10 : Int32) → (∀ x12 : Int32, x12 = v6 / (10 : Int32) → (((¬ x11 = x12) → (P_X7_addLeg_82 Q v0 v1 v2 v4 v6 x3 S1)) ∧ ((x11 = x12) → (∃ a14 : Nat, fR S1 v0 6 = some a14 ∧ (ob S1 a14 13 ∧ (vp_in x5 (hN S1 a14) ∧ ∀ x16 : Int32, x16 = fI S1 a14 x5.toNatClampNeg → (((¬ x16 = x3) → (P_X7_addLeg_82 Q v0 v1 v2 v4 v6 x3 S1)) ∧ ((x16 = x3) → (∃ a18 : Nat, fR S1 v0 7 = some a18 ∧ (ob S1 a18 14 ∧ (vp_in x5 (hN S1 a18) ∧ ∀ x20 : Int64, x20 = fJ S1 a18 x5.toNatClampNeg → (((0 < (lg_cmp x20 (v4 * (512 : Int64)))) → (∀ S22 : HS, S22 = sI S1 v0 3 x5 → (P_X7_addLeg_82 Q v0 v1 v2 v4 v6 x3 S22))) ∧ ((¬ 0 < (lg_cmp x20 (v4 * (512 : Int64)))) → (Q S1)))))))))))))))))))))))))) S)) : P_X7_addLeg_0 Q v0 v1 v2 v3 v4 v6 S := h
theorem u_X7_addLeg_82 {Q : HS → Prop} {v0 : Nat} {v1 : Nat} {v2 : Int32} {v4 : Int64} {v6 : Int32} {v7 : Int32} {S : HS} (h : ob S v1 5 ∧ (P_X5_startOf v1 v2 (fun x3 S1 => Gr S S1 → (P_X5_endOf v1 v2 (fun x6 S4 => Gr S1 S4 → (ob S4 v0 7 ∧ (P_X7_addMove v0 x3 x6 v7 v4 v6 (fun S7 => Gr S4 S7 → (Q S7)) S4))) S1)) S)) : P_X7_addLeg_82 Q v0 v1 v2 v4 v6 v7 S := h
theorem u_X7_addMove {v0 : Nat} {v1 : Int32} {v2 : Int32} {v3 : Int32} {v4 : Int64} {v6 : Int32} {Q : HS → Prop} {S : HS} (h : P_X7_addMove_0 Q v0 v1 v2 v3 v4 v6 S) : P_X7_addMove v0 v1 v2 v3 v4 v6 Q S := h
theorem u_X7_addMove_0 {Q : HS → Prop} {v0 : Nat} {v1 : Int32} {v2 : Int32} {v3 : Int32} {v4 : Int64} {v6 : Int32} {S : HS} (h : ob S v0 7 ∧ (∀ x1 : Int32, x1 = fI S v0 11 → (((v1 = x1) → (Q S)) ∧ ((¬ v1 = x1) → (∀ x3 : Int32, x3 = fI S v0 3 → (((x3 < 0) → (Q S)) ∧ ((¬ x3 < 0) → (∀ x5 : Int32, x5 = fI S v0 3 → (((x5 < (224 : Int32)) → (∃ a7 : Nat, fR S v0 4 = some a7 ∧ (∀ x8 : Int32, x8 = fI S v0 3 → (ob S a7 13 ∧ (∀ x10 : Int32, x10 = v1 * (401 : Int32) → (vp_in x8 (hN S a7) ∧ (∀ S11 : HS, S11 = sI S a7 x8.toNatClampNeg x10 → (∃ a12 : Nat, fR S11 v0 5 = some a12 ∧ (∀ x13 : Int32, x13 = fI S11 v0 3 → (ob S11 a12 13 ∧ (∀ x15 : Int32, x15 = (v2 * (401 : Int32)) + v3 → (vp_in x13 (hN S11 a12) ∧ (∀ S16 : HS, S16 = sI S11 a12 x13.toNatClampNeg x15 → (∃ a17 : Nat, fR S16 v0 6 = some a17 ∧ (∀ x18 : Int32, x18 = fI S16 v0 3 → (ob S16 a17 13 ∧ (vp_in x18 (hN S16 a17) ∧ (∀ S20 : HS, S20 = sI S16 a17 x18.toNatClampNeg v3 → (∃ a21 : Nat, fR S20 v0 7 = some a21 ∧ (∀ x22 : Int32, x22 = fI S20 v0 3 → (ob S20 a21 14 ∧ (∀ x24 : Int64, x24 = v4 * (512 : Int64) → (vp_in x22 (hN S20 a21) ∧ (∀ S25 : HS, S25 = sJ S20 a21 x22.toNatClampNeg x24 → (∃ a26 : Nat, fR S25 v0 8 = some a26 ∧ (∀ x27 : Int32, x27 = fI S25 v0 3 → (ob S25 a26 13 ∧ (vp_in x27 (hN S25 a26) ∧ (∀ S29 : HS, S29 = sI S25 a26 x27.toNatClampNeg v6 → (∀ x30 : Int32, x30 = fI S29 v0 3 → (∀ x31 : Int32, x31 = x30 + (1 : Int32) → (∀ S32 : HS, S32 = sI S29 v0 3 x31 → (Q S32))))))))))))))))))))))))))))))))) ∧ ((¬ x5 < (224 : Int32)) → (Q S))))))))))) : P_X7_addMove_0 Q v0 v1 v2 v3 v4 v6 S := h
theorem u_X7_endFrom {v0 : Nat} {v1 : Int32} {v2 : Int32} {Q : Int32 → HS → Prop} {S : HS} (h : P_X7_endFrom_0 Q v0 v1 v2 S) : P_X7_endFrom v0 v1 v2 Q S := h
theorem u_X7_endFrom_0 {Q : Int32 → HS → Prop} {v0 : Nat} {v1 : Int32} {v2 : Int32} {S : HS} (h : ob S v0 7 ∧ (P_X7_keyOf v0 v1 v2 (fun x3 S1 => Gr S S1 → (∀ x4 : Int64, x4 = x3 - x3 / (512 : Int64) * (512 : Int64) → (Q x4.toInt32 S1))) S)) : P_X7_endFrom_0 Q v0 v1 v2 S := h
theorem u_X7_forget {v0 : Nat} {Q : HS → Prop} {S : HS} (h : P_X7_forget_0 Q v0 S) : P_X7_forget v0 Q S := h
theorem u_X7_forget_0 {Q : HS → Prop} {v0 : Nat} {S : HS} (h : ob S v0 7 ∧ (∀ S1 : HS, S1 = sI S v0 10 (-1 : Int32) → (Q S1))) : P_X7_forget_0 Q v0 S := h
theorem u_X7_isOpen {v0 : Nat} {v1 : Int32} {v2 : Int32} {Q : Int32 → HS → Prop} {S : HS} (h : P_X7_isOpen_0 Q v0 v1 v2 S) : P_X7_isOpen v0 v1 v2 Q S := h
theorem u_X7_isOpen_0 {Q : Int32 → HS → Prop} {v0 : Nat} {v1 : Int32} {v2 : Int32} {S : HS} (h : ob S v0 7 ∧ (P_X7_keyOf v0 v1 v2 (fun x3 S1 => Gr S S1 → ((((lg_cmp x3 (4611686018427387904 : Int64)) = 0) → (Q (0 : Int32) S1)) ∧ ((¬ (lg_cmp x3 (4611686018427387904 : Int64)) = 0) → (Q (1 : Int32) S1)))) S)) : P_X7_isOpen_0 Q v0 v1 v2 S := h
theorem u_X7_keyOf {v0 : Nat} {v1 : Int32} {v2 : Int32} {Q : Int64 → HS → Prop} {S : HS} (h : P_X7_keyOf_0 Q v0 v1 v2 S) : P_X7_keyOf v0 v1 v2 Q S := h
theorem u_X7_keyOf_0 {Q : Int64 → HS → Prop} {v0 : Nat} {v1 : Int32} {v2 : Int32} {S : HS} (h : ∀ x1 : Int32, x1 = (v1 * (401 : Int32)) + v2 → (((x1 < 0) → (Q (4611686018427387904 : Int64) S)) ∧ ((¬ x1 < 0) → (ob S v0 7 ∧ (∃ a3 : Nat, fR S v0 1 = some a3 ∧ (ob S a3 14 ∧ ((((nI (hN S a3)) ≤ x1) → (Q (4611686018427387904 : Int64) S)) ∧ ((¬ (nI (hN S a3)) ≤ x1) → (∃ a5 : Nat, fR S v0 1 = some a5 ∧ (ob S a5 14 ∧ (vp_in x1 (hN S a5) ∧ ∀ x7 : Int64, x7 = fJ S a5 x1.toNatClampNeg → (Q x7 S)))))))))))) : P_X7_keyOf_0 Q v0 v1 v2 S := h
theorem u_X7_meanFrom {v0 : Nat} {v1 : Int32} {v2 : Int32} {Q : Int64 → HS → Prop} {S : HS} (h : P_X7_meanFrom_0 Q v0 v1 v2 S) : P_X7_meanFrom v0 v1 v2 Q S := h
theorem u_X7_meanFrom_0 {Q : Int64 → HS → Prop} {v0 : Nat} {v1 : Int32} {v2 : Int32} {S : HS} (h : ob S v0 7 ∧ (P_X7_keyOf v0 v1 v2 (fun x3 S1 => Gr S S1 → (∀ x4 : Int64, x4 = x3 / (512 : Int64) → (Q x4 S1))) S)) : P_X7_meanFrom_0 Q v0 v1 v2 S := h
theorem u_X7_price {v0 : Nat} {v1 : Nat} {v2 : Nat} {v3 : Int32} {Q : HS → Prop} {S : HS} (h : P_X7_price_0 Q v0 v1 v2 v3 S) : P_X7_price v0 v1 v2 v3 Q S := h
theorem u_X7_price_0 {Q : HS → Prop} {v0 : Nat} {v1 : Nat} {v2 : Nat} {v3 : Int32} {S : HS} (h : ob S v0 7 ∧ (∀ S1 : HS, S1 = sI S v0 9 v3 → (∀ S2 : HS, S2 = sI S1 v0 3 (0 : Int32) → (∀ x3 : Int32, x3 = fI S2 v0 10 → (ob S2 v1 8 ∧ (P_X8_hasWalker v1 x3 (fun x6 S4 => Gr S2 S4 → bl x6 → (((¬ x6 = 0) → (∃ a8 : Nat, fR S4 v1 9 = some a8 ∧ (∀ x9 : Int32, x9 = fI S4 v0 10 → (ob S4 a8 19 ∧ (vp_in x9 (hN S4 a8) ∧ ∃ a11 : Nat, fR S4 a8 x9.toNatClampNeg = some a11 ∧ (P_X8_hasHour v1 v3 (fun x14 S12 => Gr S4 S12 → bl x14 → (((¬ x14 = 0) → (P_X7_price_46 Q v0 v1 v2 v3 a11 (0 : Int32) S12)) ∧ ((x14 = 0) → (P_X7_price_46 Q v0 v1 v2 v3 a11 (1 : Int32) S12)))) S4)))))) ∧ ((x6 = 0) → (Q S4)))) S2)))))) : P_X7_price_0 Q v0 v1 v2 v3 S := h
theorem u_X7_price_46 {Q : HS → Prop} {v0 : Nat} {v1 : Nat} {v2 : Nat} {v3 : Int32} {v4 : Nat} {s0 : Int32} {S : HS} (h : P_X7_price_51 Q v0 v1 v2 v3 v4 s0 (0 : Int32) S) : P_X7_price_46 Q v0 v1 v2 v3 v4 s0 S := h
theorem u_X7_price_51 {Q : HS → Prop} {X51 : Nat → Nat → Nat → Int32 → Nat → Int32 → Int32 → HS → Prop} {v0 : Nat} {v1 : Nat} {v2 : Nat} {v3 : Int32} {v4 : Nat} {v5 : Int32} {v6 : Int32} {S : HS} (h : ob S v1 8 ∧ (∀ x1 : Int32, x1 = fI S v1 3 → (((((2 : Int32) * x1) ≤ v6) → (P_X7_price_179 Q v0 v1 v3 v4 v5 (0 : Int32) S)) ∧ ((¬ ((2 : Int32) * x1) ≤ v6) → (∃ a3 : Nat, fR S v1 8 = some a3 ∧ (∀ x4 : Int32, x4 = v6 / (2 : Int32) → (ob S a3 18 ∧ (vp_in x4 (hN S a3) ∧ ∃ a6 : Nat, fR S a3 x4.toNatClampNeg = some a6 ∧ (∀ x7 : Int32, x7 = v6 - v6 / (2 : Int32) * (2 : Int32) → (ob S v4 6 ∧ (∀ x8 : Int32, x8 = fI S v4 5 → (P_X7_price_86 Q X51 v0 v1 v2 v3 v4 v5 v6 a6 x7 x8 S)))))))))))) : B_X7_price_51 Q X51 v0 v1 v2 v3 v4 v5 v6 S := h
theorem i_X7_price_51 {Q : HS → Prop} (μ : Nat → Nat → Nat → Int32 → Nat → Int32 → Int32 → HS → Nat) (I : Nat → Nat → Nat → Int32 → Nat → Int32 → Int32 → HS → Prop) (hs : ∀ (v0 : Nat) (v1 : Nat) (v2 : Nat) (v3 : Int32) (v4 : Nat) (v5 : Int32) (v6 : Int32) (S : HS) (X : Nat → Nat → Nat → Int32 → Nat → Int32 → Int32 → HS → Prop), I v0 v1 v2 v3 v4 v5 v6 S → (∀ (w0 : Nat) (w1 : Nat) (w2 : Nat) (w3 : Int32) (w4 : Nat) (w5 : Int32) (w6 : Int32) (T : HS), I w0 w1 w2 w3 w4 w5 w6 T → μ w0 w1 w2 w3 w4 w5 w6 T < μ v0 v1 v2 v3 v4 v5 v6 S → X w0 w1 w2 w3 w4 w5 w6 T) → B_X7_price_51 Q X v0 v1 v2 v3 v4 v5 v6 S) : ∀ (v0 : Nat) (v1 : Nat) (v2 : Nat) (v3 : Int32) (v4 : Nat) (v5 : Int32) (v6 : Int32) (S : HS), I v0 v1 v2 v3 v4 v5 v6 S → P_X7_price_51 Q v0 v1 v2 v3 v4 v5 v6 S := by
  intro v0 v1 v2 v3 v4 v5 v6 S h X hX
  have key : ∀ (z : Nat) (v0 : Nat) (v1 : Nat) (v2 : Nat) (v3 : Int32) (v4 : Nat) (v5 : Int32) (v6 : Int32) (S : HS), μ v0 v1 v2 v3 v4 v5 v6 S < z → I v0 v1 v2 v3 v4 v5 v6 S → X v0 v1 v2 v3 v4 v5 v6 S := by
    intro z
    induction z with
    | zero => intro v0 v1 v2 v3 v4 v5 v6 S hz; exact absurd hz (Nat.not_lt_zero _)
    | succ z ih => intro v0 v1 v2 v3 v4 v5 v6 S hz hI; exact hX _ _ _ _ _ _ _ _ (hs _ _ _ _ _ _ _ _ _ hI (fun w0 w1 w2 w3 w4 w5 w6 T hT hl => ih _ _ _ _ _ _ _ _ (by omega) hT))
  exact key _ _ _ _ _ _ _ _ _ (Nat.lt_succ_self _) h
theorem u_X7_price_86 {Q : HS → Prop} {X51 : Nat → Nat → Nat → Int32 → Nat → Int32 → Int32 → HS → Prop} {X86 : Nat → Nat → Nat → Int32 → Nat → Int32 → Int32 → Nat → Int32 → Int32 → HS → Prop} {v0 : Nat} {v1 : Nat} {v2 : Nat} {v3 : Int32} {v4 : Nat} {v5 : Int32} {v6 : Int32} {v7 : Nat} {v8 : Int32} {v9 : Int32} {S : HS} (h : ob S v4 6 ∧ (∀ x1 : Int32, x1 = fI S v4 6 → (((x1 < v9) → (∀ x3 : Int32, x3 = v6 + (1 : Int32) → (X51 v0 v1 v2 v3 v4 v5 x3 S))) ∧ ((¬ x1 < v9) → (((v5 = 0) → (ob S v1 8 ∧ (∃ a5 : Nat, fR S v1 6 = some a5 ∧ (ob S a5 17 ∧ (vp_in v3 (hN S a5) ∧ ∃ a7 : Nat, fR S a5 v3.toNatClampNeg = some a7 ∧ (ob S v2 1 ∧ (P_X1_wetOf v2 v4 v7 v8 a7 v9 (fun x10 S8 => Gr S S8 → (∃ a11 : Nat, fR S8 v1 6 = some a11 ∧ (ob S8 a11 17 ∧ (vp_in v3 (hN S8 a11) ∧ ∃ a13 : Nat, fR S8 a11 v3.toNatClampNeg = some a13 ∧ (ob S8 a13 3 ∧ (∀ x14 : Int32, x14 = fI S8 a13 4 → (P_X7_price_134 Q X51 X86 v0 v1 v2 v3 v4 v5 v6 v7 v8 v9 (x10 * x14.toInt64) S8))))))) S))))))) ∧ ((¬ v5 = 0) → (P_X7_price_134 Q X51 X86 v0 v1 v2 v3 v4 v5 v6 v7 v8 v9 (0 : Int64) S))))))) : B_X7_price_86 Q X51 X86 v0 v1 v2 v3 v4 v5 v6 v7 v8 v9 S := h
theorem i_X7_price_86 {Q : HS → Prop} {X51 : Nat → Nat → Nat → Int32 → Nat → Int32 → Int32 → HS → Prop} (μ : Nat → Nat → Nat → Int32 → Nat → Int32 → Int32 → Nat → Int32 → Int32 → HS → Nat) (I : Nat → Nat → Nat → Int32 → Nat → Int32 → Int32 → Nat → Int32 → Int32 → HS → Prop) (hs : ∀ (v0 : Nat) (v1 : Nat) (v2 : Nat) (v3 : Int32) (v4 : Nat) (v5 : Int32) (v6 : Int32) (v7 : Nat) (v8 : Int32) (v9 : Int32) (S : HS) (X : Nat → Nat → Nat → Int32 → Nat → Int32 → Int32 → Nat → Int32 → Int32 → HS → Prop), I v0 v1 v2 v3 v4 v5 v6 v7 v8 v9 S → (∀ (w0 : Nat) (w1 : Nat) (w2 : Nat) (w3 : Int32) (w4 : Nat) (w5 : Int32) (w6 : Int32) (w7 : Nat) (w8 : Int32) (w9 : Int32) (T : HS), I w0 w1 w2 w3 w4 w5 w6 w7 w8 w9 T → μ w0 w1 w2 w3 w4 w5 w6 w7 w8 w9 T < μ v0 v1 v2 v3 v4 v5 v6 v7 v8 v9 S → X w0 w1 w2 w3 w4 w5 w6 w7 w8 w9 T) → B_X7_price_86 Q X51 X v0 v1 v2 v3 v4 v5 v6 v7 v8 v9 S) : ∀ (v0 : Nat) (v1 : Nat) (v2 : Nat) (v3 : Int32) (v4 : Nat) (v5 : Int32) (v6 : Int32) (v7 : Nat) (v8 : Int32) (v9 : Int32) (S : HS), I v0 v1 v2 v3 v4 v5 v6 v7 v8 v9 S → P_X7_price_86 Q X51 v0 v1 v2 v3 v4 v5 v6 v7 v8 v9 S := by
  intro v0 v1 v2 v3 v4 v5 v6 v7 v8 v9 S h X hX
  have key : ∀ (z : Nat) (v0 : Nat) (v1 : Nat) (v2 : Nat) (v3 : Int32) (v4 : Nat) (v5 : Int32) (v6 : Int32) (v7 : Nat) (v8 : Int32) (v9 : Int32) (S : HS), μ v0 v1 v2 v3 v4 v5 v6 v7 v8 v9 S < z → I v0 v1 v2 v3 v4 v5 v6 v7 v8 v9 S → X v0 v1 v2 v3 v4 v5 v6 v7 v8 v9 S := by
    intro z
    induction z with
    | zero => intro v0 v1 v2 v3 v4 v5 v6 v7 v8 v9 S hz; exact absurd hz (Nat.not_lt_zero _)
    | succ z ih => intro v0 v1 v2 v3 v4 v5 v6 v7 v8 v9 S hz hI; exact hX _ _ _ _ _ _ _ _ _ _ _ (hs _ _ _ _ _ _ _ _ _ _ _ _ hI (fun w0 w1 w2 w3 w4 w5 w6 w7 w8 w9 T hT hl => ih _ _ _ _ _ _ _ _ _ _ _ (by omega) hT))
  exact key _ _ _ _ _ _ _ _ _ _ _ _ (Nat.lt_succ_self _) h
theorem u_X7_price_134 {Q : HS → Prop} {X51 : Nat → Nat → Nat → Int32 → Nat → Int32 → Int32 → HS → Prop} {X86 : Nat → Nat → Nat → Int32 → Nat → Int32 → Int32 → Nat → Int32 → Int32 → HS → Prop} {v0 : Nat} {v1 : Nat} {v2 : Nat} {v3 : Int32} {v4 : Nat} {v5 : Int32} {v6 : Int32} {v7 : Nat} {v8 : Int32} {v9 : Int32} {s0 : Int64} {S : HS} (h : ∀ x1 : Int32, x1 = v6 / (2 : Int32) → (ob S v0 7 ∧ (P_X7_addLeg v0 v7 v8 v9 s0 ((((100 : Int32) * x1) + ((10 : Int32) * v8)) + v9) (fun S2 => Gr S S2 → (∀ x5 : Int32, x5 = v9 + (1 : Int32) → (X86 v0 v1 v2 v3 v4 v5 v6 v7 v8 x5 S2))) S))) : P_X7_price_134 Q X51 X86 v0 v1 v2 v3 v4 v5 v6 v7 v8 v9 s0 S := h
theorem u_X7_price_179 {Q : HS → Prop} {X179 : Nat → Nat → Int32 → Nat → Int32 → Int32 → HS → Prop} {v0 : Nat} {v1 : Nat} {v3 : Int32} {v4 : Nat} {v5 : Int32} {v6 : Int32} {S : HS} (h : ob S v1 8 ∧ (∀ x1 : Int32, x1 = fI S v1 2 → (((x1 ≤ v6) → (Q S)) ∧ ((¬ x1 ≤ v6) → (P_X8_canWait v1 v6 (fun x5 S3 => Gr S S3 → bl x5 → (((x5 = 0) → (P_X7_price_245 Q X179 v0 v1 v3 v4 v5 v6 S3)) ∧ ((¬ x5 = 0) → (((v5 = 0) → (P_X8_dripOn v1 v4 v6 (fun x10 S8 => Gr S3 S8 → (∃ a11 : Nat, fR S8 v1 6 = some a11 ∧ (ob S8 a11 17 ∧ (vp_in v3 (hN S8 a11) ∧ ∃ a13 : Nat, fR S8 a11 v3.toNatClampNeg = some a13 ∧ (ob S8 a13 3 ∧ (∀ x14 : Int32, x14 = fI S8 a13 4 → (P_X7_price_230 Q X179 v0 v1 v3 v4 v5 v6 ((x10.toInt64 * (2520 : Int64)) * x14.toInt64) S8))))))) S3)) ∧ ((¬ v5 = 0) → (P_X7_price_230 Q X179 v0 v1 v3 v4 v5 v6 (0 : Int64) S3)))))) S))))) : B_X7_price_179 Q X179 v0 v1 v3 v4 v5 v6 S := h
theorem i_X7_price_179 {Q : HS → Prop} (μ : Nat → Nat → Int32 → Nat → Int32 → Int32 → HS → Nat) (I : Nat → Nat → Int32 → Nat → Int32 → Int32 → HS → Prop) (hs : ∀ (v0 : Nat) (v1 : Nat) (v3 : Int32) (v4 : Nat) (v5 : Int32) (v6 : Int32) (S : HS) (X : Nat → Nat → Int32 → Nat → Int32 → Int32 → HS → Prop), I v0 v1 v3 v4 v5 v6 S → (∀ (w0 : Nat) (w1 : Nat) (w3 : Int32) (w4 : Nat) (w5 : Int32) (w6 : Int32) (T : HS), I w0 w1 w3 w4 w5 w6 T → μ w0 w1 w3 w4 w5 w6 T < μ v0 v1 v3 v4 v5 v6 S → X w0 w1 w3 w4 w5 w6 T) → B_X7_price_179 Q X v0 v1 v3 v4 v5 v6 S) : ∀ (v0 : Nat) (v1 : Nat) (v3 : Int32) (v4 : Nat) (v5 : Int32) (v6 : Int32) (S : HS), I v0 v1 v3 v4 v5 v6 S → P_X7_price_179 Q v0 v1 v3 v4 v5 v6 S := by
  intro v0 v1 v3 v4 v5 v6 S h X hX
  have key : ∀ (z : Nat) (v0 : Nat) (v1 : Nat) (v3 : Int32) (v4 : Nat) (v5 : Int32) (v6 : Int32) (S : HS), μ v0 v1 v3 v4 v5 v6 S < z → I v0 v1 v3 v4 v5 v6 S → X v0 v1 v3 v4 v5 v6 S := by
    intro z
    induction z with
    | zero => intro v0 v1 v3 v4 v5 v6 S hz; exact absurd hz (Nat.not_lt_zero _)
    | succ z ih => intro v0 v1 v3 v4 v5 v6 S hz hI; exact hX _ _ _ _ _ _ _ (hs _ _ _ _ _ _ _ _ hI (fun w0 w1 w3 w4 w5 w6 T hT hl => ih _ _ _ _ _ _ _ (by omega) hT))
  exact key _ _ _ _ _ _ _ _ (Nat.lt_succ_self _) h
theorem u_X7_price_230 {Q : HS → Prop} {X179 : Nat → Nat → Int32 → Nat → Int32 → Int32 → HS → Prop} {v0 : Nat} {v1 : Nat} {v3 : Int32} {v4 : Nat} {v5 : Int32} {v6 : Int32} {s0 : Int64} {S : HS} (h : ob S v0 7 ∧ (P_X7_addMove v0 v6 v6 (1 : Int32) s0 (-2 : Int32) (fun S1 => Gr S S1 → (P_X7_price_245 Q X179 v0 v1 v3 v4 v5 v6 S1)) S)) : P_X7_price_230 Q X179 v0 v1 v3 v4 v5 v6 s0 S := h
theorem u_X7_price_245 {Q : HS → Prop} {X179 : Nat → Nat → Int32 → Nat → Int32 → Int32 → HS → Prop} {v0 : Nat} {v1 : Nat} {v3 : Int32} {v4 : Nat} {v5 : Int32} {v6 : Int32} {S : HS} (h : ∀ x1 : Int32, x1 = v6 + (1 : Int32) → (X179 v0 v1 v3 v4 v5 x1 S)) : P_X7_price_245 Q X179 v0 v1 v3 v4 v5 v6 S := h
theorem u_X7_reckon {v0 : Nat} {v1 : Nat} {v2 : Nat} {v3 : Int32} {v4 : Int32} {v5 : Int32} {v6 : Int32} {Q : HS → Prop} {S : HS} (h : P_X7_reckon_0 Q v0 v1 v2 v3 v4 v5 v6 S) : P_X7_reckon v0 v1 v2 v3 v4 v5 v6 Q S := h
theorem u_X7_reckon_0 {Q : HS → Prop} {v0 : Nat} {v1 : Nat} {v2 : Nat} {v3 : Int32} {v4 : Int32} {v5 : Int32} {v6 : Int32} {S : HS} (h : ob S v0 7 ∧ (∃ a1 : Nat, fR S v0 1 = some a1 ∧ (ob S a1 14 ∧ (((¬ (nI (hN S a1)) = 0) → (P_X7_reckon_12 Q v0 v1 v2 v3 v4 v5 v6 S)) ∧ (((nI (hN S a1)) = 0) → (P_X7_makeRows v0 (fun S3 => Gr S S3 → (P_X7_reckon_12 Q v0 v1 v2 v3 v4 v5 v6 S3)) S)))))) : P_X7_reckon_0 Q v0 v1 v2 v3 v4 v5 v6 S := h
theorem u_X7_reckon_12 {Q : HS → Prop} {v0 : Nat} {v1 : Nat} {v2 : Nat} {v3 : Int32} {v4 : Int32} {v5 : Int32} {v6 : Int32} {S : HS} (h : ob S v0 7 ∧ (∀ x1 : Int32, x1 = fI S v0 10 → (((¬ v3 = x1) → (P_X7_reckon_38 Q v0 v1 v2 v3 v4 v5 v6 S)) ∧ ((v3 = x1) → (∀ x3 : Int32, x3 = fI S v0 11 → (((¬ v4 = x3) → (P_X7_reckon_38 Q v0 v1 v2 v3 v4 v5 v6 S)) ∧ ((v4 = x3) → (∀ x5 : Int32, x5 = fI S v0 12 → (((v5 = x5) → (P_X7_reckon_68 Q v0 v1 v2 v6 S)) ∧ ((¬ v5 = x5) → (P_X7_reckon_38 Q v0 v1 v2 v3 v4 v5 v6 S))))))))))) : P_X7_reckon_12 Q v0 v1 v2 v3 v4 v5 v6 S := h
theorem u_X7_reckon_38 {Q : HS → Prop} {v0 : Nat} {v1 : Nat} {v2 : Nat} {v3 : Int32} {v4 : Int32} {v5 : Int32} {v6 : Int32} {S : HS} (h : ob S v0 7 ∧ (∀ S1 : HS, S1 = sI S v0 10 v3 → (∀ S2 : HS, S2 = sI S1 v0 11 v4 → (∀ S3 : HS, S3 = sI S2 v0 12 v5 → (∀ x4 : Int32, x4 = v5 + (1 : Int32) → (∀ S5 : HS, S5 = sI S3 v0 13 x4 → (∀ S6 : HS, S6 = sI S5 v0 9 (-1 : Int32) → (P_X7_reckon_68 Q v0 v1 v2 v6 S6)))))))) : P_X7_reckon_38 Q v0 v1 v2 v3 v4 v5 v6 S := h
theorem u_X7_reckon_68 {Q : HS → Prop} {v0 : Nat} {v1 : Nat} {v2 : Nat} {v6 : Int32} {S : HS} (h : ob S v0 7 ∧ (∀ x1 : Int32, x1 = fI S v0 13 → (∀ x2 : Int32, x2 = x1 - (1 : Int32) → (P_X7_reckon_76 Q v0 v1 v2 v6 x2 S)))) : P_X7_reckon_68 Q v0 v1 v2 v6 S := h
theorem u_X7_reckon_76 {Q : HS → Prop} {X76 : Nat → Nat → Nat → Int32 → Int32 → HS → Prop} {v0 : Nat} {v1 : Nat} {v2 : Nat} {v6 : Int32} {v7 : Int32} {S : HS} (h : ((v7 < v6) → (Q S)) ∧ ((¬ v7 < v6) → (((v7 < 0) → (Q S)) ∧ ((¬ v7 < 0) → (ob S v1 8 ∧ (P_X8_hourOf v1 v7 (fun x5 S3 => Gr S S3 → (∀ x6 : Int32, x6 = fI S3 v1 1 → (∀ x7 : Int32, x7 = (if x6 < x5 then x6 else x5) → (ob S3 v0 7 ∧ (∀ x8 : Int32, x8 = fI S3 v0 9 → (((x7 = x8) → (P_X7_reckon_120 Q X76 v0 v1 v2 v6 v7 S3)) ∧ ((¬ x7 = x8) → (P_X7_price v0 v1 v2 x7 (fun S10 => Gr S3 S10 → (P_X7_reckon_120 Q X76 v0 v1 v2 v6 v7 S10)) S3)))))))) S)))))) : B_X7_reckon_76 Q X76 v0 v1 v2 v6 v7 S := h
theorem i_X7_reckon_76 {Q : HS → Prop} (μ : Nat → Nat → Nat → Int32 → Int32 → HS → Nat) (I : Nat → Nat → Nat → Int32 → Int32 → HS → Prop) (hs : ∀ (v0 : Nat) (v1 : Nat) (v2 : Nat) (v6 : Int32) (v7 : Int32) (S : HS) (X : Nat → Nat → Nat → Int32 → Int32 → HS → Prop), I v0 v1 v2 v6 v7 S → (∀ (w0 : Nat) (w1 : Nat) (w2 : Nat) (w6 : Int32) (w7 : Int32) (T : HS), I w0 w1 w2 w6 w7 T → μ w0 w1 w2 w6 w7 T < μ v0 v1 v2 v6 v7 S → X w0 w1 w2 w6 w7 T) → B_X7_reckon_76 Q X v0 v1 v2 v6 v7 S) : ∀ (v0 : Nat) (v1 : Nat) (v2 : Nat) (v6 : Int32) (v7 : Int32) (S : HS), I v0 v1 v2 v6 v7 S → P_X7_reckon_76 Q v0 v1 v2 v6 v7 S := by
  intro v0 v1 v2 v6 v7 S h X hX
  have key : ∀ (z : Nat) (v0 : Nat) (v1 : Nat) (v2 : Nat) (v6 : Int32) (v7 : Int32) (S : HS), μ v0 v1 v2 v6 v7 S < z → I v0 v1 v2 v6 v7 S → X v0 v1 v2 v6 v7 S := by
    intro z
    induction z with
    | zero => intro v0 v1 v2 v6 v7 S hz; exact absurd hz (Nat.not_lt_zero _)
    | succ z ih => intro v0 v1 v2 v6 v7 S hz hI; exact hX _ _ _ _ _ _ (hs _ _ _ _ _ _ _ hI (fun w0 w1 w2 w6 w7 T hT hl => ih _ _ _ _ _ _ (by omega) hT))
  exact key _ _ _ _ _ _ _ (Nat.lt_succ_self _) h
theorem u_X7_reckon_120 {Q : HS → Prop} {X76 : Nat → Nat → Nat → Int32 → Int32 → HS → Prop} {v0 : Nat} {v1 : Nat} {v2 : Nat} {v6 : Int32} {v7 : Int32} {S : HS} (h : ob S v1 8 ∧ (∀ x1 : Int32, x1 = fI S v1 2 → (ob S v0 7 ∧ (P_X7_reckonMinute v0 x1 v7 (fun S2 => Gr S S2 → (∀ S5 : HS, S5 = sI S2 v0 13 v7 → (∀ x6 : Int32, x6 = v7 + (-1 : Int32) → (X76 v0 v1 v2 v6 x6 S5)))) S)))) : P_X7_reckon_120 Q X76 v0 v1 v2 v6 v7 S := h
theorem u_X7_reckonMinute {v0 : Nat} {v1 : Int32} {v2 : Int32} {Q : HS → Prop} {S : HS} (h : P_X7_reckonMinute_0 Q v0 v1 v2 S) : P_X7_reckonMinute v0 v1 v2 Q S := h
theorem u_X7_reckonMinute_0 {Q : HS → Prop} {v0 : Nat} {v1 : Int32} {v2 : Int32} {S : HS} (h : P_X7_reckonMinute_2 Q v0 v1 v2 (0 : Int32) S) : P_X7_reckonMinute_0 Q v0 v1 v2 S := h
theorem u_X7_reckonMinute_2 {Q : HS → Prop} {X2 : Nat → Int32 → Int32 → Int32 → HS → Prop} {v0 : Nat} {v1 : Int32} {v2 : Int32} {v3 : Int32} {S : HS} (h : ((v1 ≤ v3) → (P_X7_reckonMinute_60 Q v0 v2 S)) ∧ ((¬ v1 ≤ v3) → ((((8 : Int32) ≤ v3) → (P_X7_reckonMinute_60 Q v0 v2 S)) ∧ ((¬ (8 : Int32) ≤ v3) → (ob S v0 7 ∧ (∃ a3 : Nat, fR S v0 1 = some a3 ∧ (∀ x4 : Int32, x4 = fI S v0 11 → (((¬ v3 = x4) → (P_X7_reckonMinute_40 Q X2 v0 v1 v2 v3 a3 ((v3 * (401 : Int32)) + v2) (4611686018427387904 : Int64) S)) ∧ ((v3 = x4) → (P_X7_reckonMinute_40 Q X2 v0 v1 v2 v3 a3 ((v3 * (401 : Int32)) + v2) v2.toInt64 S)))))))))) : B_X7_reckonMinute_2 Q X2 v0 v1 v2 v3 S := h
theorem i_X7_reckonMinute_2 {Q : HS → Prop} (μ : Nat → Int32 → Int32 → Int32 → HS → Nat) (I : Nat → Int32 → Int32 → Int32 → HS → Prop) (hs : ∀ (v0 : Nat) (v1 : Int32) (v2 : Int32) (v3 : Int32) (S : HS) (X : Nat → Int32 → Int32 → Int32 → HS → Prop), I v0 v1 v2 v3 S → (∀ (w0 : Nat) (w1 : Int32) (w2 : Int32) (w3 : Int32) (T : HS), I w0 w1 w2 w3 T → μ w0 w1 w2 w3 T < μ v0 v1 v2 v3 S → X w0 w1 w2 w3 T) → B_X7_reckonMinute_2 Q X v0 v1 v2 v3 S) : ∀ (v0 : Nat) (v1 : Int32) (v2 : Int32) (v3 : Int32) (S : HS), I v0 v1 v2 v3 S → P_X7_reckonMinute_2 Q v0 v1 v2 v3 S := by
  intro v0 v1 v2 v3 S h X hX
  have key : ∀ (z : Nat) (v0 : Nat) (v1 : Int32) (v2 : Int32) (v3 : Int32) (S : HS), μ v0 v1 v2 v3 S < z → I v0 v1 v2 v3 S → X v0 v1 v2 v3 S := by
    intro z
    induction z with
    | zero => intro v0 v1 v2 v3 S hz; exact absurd hz (Nat.not_lt_zero _)
    | succ z ih => intro v0 v1 v2 v3 S hz hI; exact hX _ _ _ _ _ (hs _ _ _ _ _ _ hI (fun w0 w1 w2 w3 T hT hl => ih _ _ _ _ _ (by omega) hT))
  exact key _ _ _ _ _ _ (Nat.lt_succ_self _) h
theorem u_X7_reckonMinute_40 {Q : HS → Prop} {X2 : Nat → Int32 → Int32 → Int32 → HS → Prop} {v0 : Nat} {v1 : Int32} {v2 : Int32} {v3 : Int32} {s0 : Nat} {s1 : Int32} {s2 : Int64} {S : HS} (h : ob S s0 14 ∧ (vp_in s1 (hN S s0) ∧ (∀ S2 : HS, S2 = sJ S s0 s1.toNatClampNeg s2 → (ob S2 v0 7 ∧ (∃ a3 : Nat, fR S2 v0 2 = some a3 ∧ (ob S2 a3 13 ∧ (vp_in ((v3 * (401 : Int32)) + v2) (hN S2 a3) ∧ (∀ S5 : HS, S5 = sI S2 a3 ((v3 * (401 : Int32)) + v2).toNatClampNeg (-1 : Int32) → (∀ x6 : Int32, x6 = v3 + (1 : Int32) → (X2 v0 v1 v2 x6 S5)))))))))) : P_X7_reckonMinute_40 Q X2 v0 v1 v2 v3 s0 s1 s2 S := h
theorem u_X7_reckonMinute_60 {Q : HS → Prop} {v0 : Nat} {v2 : Int32} {S : HS} (h : P_X7_reckonMinute_62 Q v0 v2 (0 : Int32) S) : P_X7_reckonMinute_60 Q v0 v2 S := h
theorem u_X7_reckonMinute_62 {Q : HS → Prop} {X62 : Nat → Int32 → Int32 → HS → Prop} {v0 : Nat} {v2 : Int32} {v3 : Int32} {S : HS} (h : ob S v0 7 ∧ (∀ x1 : Int32, x1 = fI S v0 3 → (((x1 ≤ v3) → (Q S)) ∧ ((¬ x1 ≤ v3) → ((((224 : Int32) ≤ v3) → (Q S)) ∧ ((¬ (224 : Int32) ≤ v3) → (∃ a4 : Nat, fR S v0 4 = some a4 ∧ (ob S a4 13 ∧ (vp_in v3 (hN S a4) ∧ ∀ x6 : Int32, x6 = fI S a4 v3.toNatClampNeg → (∀ x7 : Int32, x7 = x6 + v2 → (∃ a8 : Nat, fR S v0 5 = some a8 ∧ (ob S a8 13 ∧ (vp_in v3 (hN S a8) ∧ ∀ x10 : Int32, x10 = fI S a8 v3.toNatClampNeg → (∀ x11 : Int32, x11 = x10 + v2 → (∃ a12 : Nat, fR S v0 6 = some a12 ∧ (ob S a12 13 ∧ (vp_in v3 (hN S a12) ∧ ∀ x14 : Int32, x14 = fI S a12 v3.toNatClampNeg → (∀ x15 : Int32, x15 = fI S v0 12 → ((((x15 - v2) < x14) → (P_X7_reckonMinute_117 Q X62 v0 v2 v3 x7 x11 (0 : Int32) S)) ∧ ((¬ (x15 - v2) < x14) → (P_X7_reckonMinute_117 Q X62 v0 v2 v3 x7 x11 (1 : Int32) S))))))))))))))))))))) : B_X7_reckonMinute_62 Q X62 v0 v2 v3 S := h
theorem i_X7_reckonMinute_62 {Q : HS → Prop} (μ : Nat → Int32 → Int32 → HS → Nat) (I : Nat → Int32 → Int32 → HS → Prop) (hs : ∀ (v0 : Nat) (v2 : Int32) (v3 : Int32) (S : HS) (X : Nat → Int32 → Int32 → HS → Prop), I v0 v2 v3 S → (∀ (w0 : Nat) (w2 : Int32) (w3 : Int32) (T : HS), I w0 w2 w3 T → μ w0 w2 w3 T < μ v0 v2 v3 S → X w0 w2 w3 T) → B_X7_reckonMinute_62 Q X v0 v2 v3 S) : ∀ (v0 : Nat) (v2 : Int32) (v3 : Int32) (S : HS), I v0 v2 v3 S → P_X7_reckonMinute_62 Q v0 v2 v3 S := by
  intro v0 v2 v3 S h X hX
  have key : ∀ (z : Nat) (v0 : Nat) (v2 : Int32) (v3 : Int32) (S : HS), μ v0 v2 v3 S < z → I v0 v2 v3 S → X v0 v2 v3 S := by
    intro z
    induction z with
    | zero => intro v0 v2 v3 S hz; exact absurd hz (Nat.not_lt_zero _)
    | succ z ih => intro v0 v2 v3 S hz hI; exact hX _ _ _ _ (hs _ _ _ _ _ hI (fun w0 w2 w3 T hT hl => ih _ _ _ _ (by omega) hT))
  exact key _ _ _ _ _ (Nat.lt_succ_self _) h
theorem u_X7_reckonMinute_117 {Q : HS → Prop} {X62 : Nat → Int32 → Int32 → HS → Prop} {v0 : Nat} {v2 : Int32} {v3 : Int32} {v4 : Int32} {v5 : Int32} {s0 : Int32} {S : HS} (h : ((s0 = 0) → (P_X7_reckonMinute_219 Q X62 v0 v2 v3 S)) ∧ ((¬ s0 = 0) → (((v4 < 0) → (P_X7_reckonMinute_219 Q X62 v0 v2 v3 S)) ∧ ((¬ v4 < 0) → (ob S v0 7 ∧ (∃ a3 : Nat, fR S v0 1 = some a3 ∧ (ob S a3 14 ∧ ((((nI (hN S a3)) ≤ v4) → (P_X7_reckonMinute_219 Q X62 v0 v2 v3 S)) ∧ ((¬ (nI (hN S a3)) ≤ v4) → (((v5 < 0) → (P_X7_reckonMinute_219 Q X62 v0 v2 v3 S)) ∧ ((¬ v5 < 0) → (∃ a6 : Nat, fR S v0 1 = some a6 ∧ (ob S a6 14 ∧ ((((nI (hN S a6)) ≤ v5) → (P_X7_reckonMinute_219 Q X62 v0 v2 v3 S)) ∧ ((¬ (nI (hN S a6)) ≤ v5) → (∃ a8 : Nat, fR S v0 1 = some a8 ∧ (ob S a8 14 ∧ (vp_in v5 (hN S a8) ∧ ∀ x10 : Int64, x10 = fJ S a8 v5.toNatClampNeg → ((((lg_cmp x10 (4611686018427387904 : Int64)) = 0) → (P_X7_reckonMinute_219 Q X62 v0 v2 v3 S)) ∧ ((¬ (lg_cmp x10 (4611686018427387904 : Int64)) = 0) → (∃ a12 : Nat, fR S v0 7 = some a12 ∧ (ob S a12 14 ∧ (vp_in v3 (hN S a12) ∧ ∀ x14 : Int64, x14 = fJ S a12 v3.toNatClampNeg → (∃ a15 : Nat, fR S v0 1 = some a15 ∧ (ob S a15 14 ∧ (vp_in v5 (hN S a15) ∧ ∀ x17 : Int64, x17 = fJ S a15 v5.toNatClampNeg → (∀ x18 : Int64, x18 = x14 + x17 → (∃ a19 : Nat, fR S v0 1 = some a19 ∧ (ob S a19 14 ∧ (vp_in v4 (hN S a19) ∧ ∀ x21 : Int64, x21 = fJ S a19 v4.toNatClampNeg → (((0 ≤ (lg_cmp x18 x21)) → (P_X7_reckonMinute_219 Q X62 v0 v2 v3 S)) ∧ ((¬ 0 ≤ (lg_cmp x18 x21)) → (∃ a23 : Nat, fR S v0 1 = some a23 ∧ (ob S a23 14 ∧ (vp_in v4 (hN S a23) ∧ (∀ S25 : HS, S25 = sJ S a23 v4.toNatClampNeg x18 → (∃ a26 : Nat, fR S25 v0 2 = some a26 ∧ (∃ a27 : Nat, fR S25 v0 8 = some a27 ∧ (ob S25 a27 13 ∧ (vp_in v3 (hN S25 a27) ∧ ∀ x29 : Int32, x29 = fI S25 a27 v3.toNatClampNeg → (ob S25 a26 13 ∧ (vp_in v4 (hN S25 a26) ∧ (∀ S31 : HS, S31 = sI S25 a26 v4.toNatClampNeg x29 → (P_X7_reckonMinute_219 Q X62 v0 v2 v3 S31)))))))))))))))))))))))))))))))))))))))))))) : P_X7_reckonMinute_117 Q X62 v0 v2 v3 v4 v5 s0 S := h
theorem u_X7_reckonMinute_219 {Q : HS → Prop} {X62 : Nat → Int32 → Int32 → HS → Prop} {v0 : Nat} {v2 : Int32} {v3 : Int32} {S : HS} (h : ∀ x1 : Int32, x1 = v3 + (1 : Int32) → (X62 v0 v2 x1 S)) : P_X7_reckonMinute_219 Q X62 v0 v2 v3 S := h
theorem u_X7_trace {v0 : Nat} {v1 : Nat} {v2 : Int32} {v3 : Int32} {Q : Int32 → HS → Prop} {S : HS} (h : P_X7_trace_0 Q v0 v1 v2 v3 S) : P_X7_trace v0 v1 v2 v3 Q S := h
theorem u_X7_trace_0 {Q : Int32 → HS → Prop} {v0 : Nat} {v1 : Nat} {v2 : Int32} {v3 : Int32} {S : HS} (h : P_X7_trace_9 Q v0 v1 v2 v3 (0 : Int32) S) : P_X7_trace_0 Q v0 v1 v2 v3 S := h
theorem u_X7_trace_9 {Q : Int32 → HS → Prop} {X9 : Nat → Nat → Int32 → Int32 → Int32 → HS → Prop} {v0 : Nat} {v1 : Nat} {v4 : Int32} {v5 : Int32} {v6 : Int32} {S : HS} (h : ob S v0 7 ∧ (∃ a1 : Nat, fR S v0 0 = some a1 ∧ (ob S a1 13 ∧ ((((nI (hN S a1)) ≤ v6) → (∃ a3 : Nat, fR S v0 0 = some a3 ∧ (ob S a3 13 ∧ (Q (nI (hN S a3)) S)))) ∧ ((¬ (nI (hN S a1)) ≤ v6) → (∀ x4 : Int32, x4 = (v4 * (401 : Int32)) + v5 → (((x4 < 0) → (P_X7_trace_55 Q X9 v0 v1 v4 v5 v6 S)) ∧ ((¬ x4 < 0) → (∃ a6 : Nat, fR S v0 2 = some a6 ∧ (ob S a6 13 ∧ ((((nI (hN S a6)) ≤ x4) → (P_X7_trace_55 Q X9 v0 v1 v4 v5 v6 S)) ∧ ((¬ (nI (hN S a6)) ≤ x4) → (∃ a8 : Nat, fR S v0 2 = some a8 ∧ (ob S a8 13 ∧ (vp_in x4 (hN S a8) ∧ ∀ x10 : Int32, x10 = fI S a8 x4.toNatClampNeg → (P_X7_trace_56 Q X9 v0 v1 v4 v5 v6 x10 S)))))))))))))))) : B_X7_trace_9 Q X9 v0 v1 v4 v5 v6 S := h
theorem i_X7_trace_9 {Q : Int32 → HS → Prop} (μ : Nat → Nat → Int32 → Int32 → Int32 → HS → Nat) (I : Nat → Nat → Int32 → Int32 → Int32 → HS → Prop) (hs : ∀ (v0 : Nat) (v1 : Nat) (v4 : Int32) (v5 : Int32) (v6 : Int32) (S : HS) (X : Nat → Nat → Int32 → Int32 → Int32 → HS → Prop), I v0 v1 v4 v5 v6 S → (∀ (w0 : Nat) (w1 : Nat) (w4 : Int32) (w5 : Int32) (w6 : Int32) (T : HS), I w0 w1 w4 w5 w6 T → μ w0 w1 w4 w5 w6 T < μ v0 v1 v4 v5 v6 S → X w0 w1 w4 w5 w6 T) → B_X7_trace_9 Q X v0 v1 v4 v5 v6 S) : ∀ (v0 : Nat) (v1 : Nat) (v4 : Int32) (v5 : Int32) (v6 : Int32) (S : HS), I v0 v1 v4 v5 v6 S → P_X7_trace_9 Q v0 v1 v4 v5 v6 S := by
  intro v0 v1 v4 v5 v6 S h X hX
  have key : ∀ (z : Nat) (v0 : Nat) (v1 : Nat) (v4 : Int32) (v5 : Int32) (v6 : Int32) (S : HS), μ v0 v1 v4 v5 v6 S < z → I v0 v1 v4 v5 v6 S → X v0 v1 v4 v5 v6 S := by
    intro z
    induction z with
    | zero => intro v0 v1 v4 v5 v6 S hz; exact absurd hz (Nat.not_lt_zero _)
    | succ z ih => intro v0 v1 v4 v5 v6 S hz hI; exact hX _ _ _ _ _ _ (hs _ _ _ _ _ _ _ hI (fun w0 w1 w4 w5 w6 T hT hl => ih _ _ _ _ _ _ (by omega) hT))
  exact key _ _ _ _ _ _ _ (Nat.lt_succ_self _) h
theorem u_X7_trace_55 {Q : Int32 → HS → Prop} {X9 : Nat → Nat → Int32 → Int32 → Int32 → HS → Prop} {v0 : Nat} {v1 : Nat} {v4 : Int32} {v5 : Int32} {v6 : Int32} {S : HS} (h : P_X7_trace_56 Q X9 v0 v1 v4 v5 v6 (-1 : Int32) S) : P_X7_trace_55 Q X9 v0 v1 v4 v5 v6 S := h
theorem u_X7_trace_56 {Q : Int32 → HS → Prop} {X9 : Nat → Nat → Int32 → Int32 → Int32 → HS → Prop} {v0 : Nat} {v1 : Nat} {v4 : Int32} {v5 : Int32} {v6 : Int32} {s0 : Int32} {S : HS} (h : ((¬ s0 = (-1 : Int32)) → (ob S v0 7 ∧ (∃ a2 : Nat, fR S v0 0 = some a2 ∧ (ob S a2 13 ∧ (vp_in v6 (hN S a2) ∧ (∀ S4 : HS, S4 = sI S a2 v6.toNatClampNeg s0 → (((¬ s0 = (-2 : Int32)) → (∀ x6 : Int32, x6 = s0 / (100 : Int32) → (ob S4 v1 8 ∧ (P_X8_hasRoad v1 x6 (fun x9 S7 => Gr S4 S7 → bl x9 → (((x9 = 0) → (P_X7_trace_143 Q X9 v0 v1 v4 v5 v6 S7)) ∧ ((¬ x9 = 0) → (∃ a11 : Nat, fR S7 v1 8 = some a11 ∧ (∀ x12 : Int32, x12 = s0 / (100 : Int32) → (ob S7 a11 18 ∧ (vp_in x12 (hN S7 a11) ∧ ∃ a14 : Nat, fR S7 a11 x12.toNatClampNeg = some a14 ∧ (∀ x15 : Int32, x15 = s0 / (10 : Int32) → (∀ x16 : Int32, x16 = x15 - x15 / (10 : Int32) * (10 : Int32) → (ob S7 a14 5 ∧ (P_X5_endOf a14 x16 (fun x19 S17 => Gr S7 S17 → (∀ x20 : Int32, x20 = s0 - s0 / (10 : Int32) * (10 : Int32) → (P_X5_minutesAt a14 x20 (fun x23 S21 => Gr S17 S21 → (∀ x24 : Int32, x24 = v5 + x23 → (P_X7_trace_143 Q X9 v0 v1 x19 x24 v6 S21))) S17))) S7))))))))))) S4)))) ∧ ((s0 = (-2 : Int32)) → (∀ x25 : Int32, x25 = v5 + (1 : Int32) → (P_X7_trace_143 Q X9 v0 v1 v4 x25 v6 S4)))))))))) ∧ ((s0 = (-1 : Int32)) → (Q v6 S))) : P_X7_trace_56 Q X9 v0 v1 v4 v5 v6 s0 S := h
theorem u_X7_trace_143 {Q : Int32 → HS → Prop} {X9 : Nat → Nat → Int32 → Int32 → Int32 → HS → Prop} {v0 : Nat} {v1 : Nat} {v4 : Int32} {v5 : Int32} {v6 : Int32} {S : HS} (h : ∀ x1 : Int32, x1 = v6 + (1 : Int32) → (X9 v0 v1 v4 v5 x1 S)) : P_X7_trace_143 Q X9 v0 v1 v4 v5 v6 S := h
theorem u_X8_canWait {v0 : Nat} {v1 : Int32} {Q : Int32 → HS → Prop} {S : HS} (h : P_X8_canWait_0 Q v0 v1 S) : P_X8_canWait v0 v1 Q S := h
theorem u_X8_canWait_0 {Q : Int32 → HS → Prop} {v0 : Nat} {v1 : Int32} {S : HS} (h : ob S v0 8 ∧ (P_X8_hasPlace v0 v1 (fun x3 S1 => Gr S S1 → bl x3 → (((x3 = 0) → (Q (0 : Int32) S1)) ∧ ((¬ x3 = 0) → (∃ a5 : Nat, fR S1 v0 7 = some a5 ∧ (ob S1 a5 13 ∧ (vp_in v1 (hN S1 a5) ∧ ∀ x7 : Int32, x7 = fI S1 a5 v1.toNatClampNeg → (((x7 = (-1 : Int32)) → (Q (0 : Int32) S1)) ∧ ((¬ x7 = (-1 : Int32)) → (Q (1 : Int32) S1))))))))) S)) : P_X8_canWait_0 Q v0 v1 S := h
theorem u_X8_clear {v0 : Nat} {Q : HS → Prop} {S : HS} (h : P_X8_clear_0 Q v0 S) : P_X8_clear v0 Q S := h
theorem u_X8_clear_0 {Q : HS → Prop} {v0 : Nat} {S : HS} (h : ob S v0 8 ∧ (∀ S1 : HS, S1 = sI S v0 0 (0 : Int32) → (∀ S2 : HS, S2 = sI S1 v0 1 (0 : Int32) → (∀ S3 : HS, S3 = sI S2 v0 2 (0 : Int32) → (∀ S4 : HS, S4 = sI S3 v0 3 (0 : Int32) → (∀ S5 : HS, S5 = sI S4 v0 4 (0 : Int32) → (∀ S6 : HS, S6 = sI S5 v0 5 (0 : Int32) → (Q S6)))))))) : P_X8_clear_0 Q v0 S := h
theorem u_X8_dripOn {v0 : Nat} {v1 : Nat} {v2 : Int32} {Q : Int32 → HS → Prop} {S : HS} (h : P_X8_dripOn_0 Q v0 v1 v2 S) : P_X8_dripOn v0 v1 v2 Q S := h
theorem u_X8_dripOn_0 {Q : Int32 → HS → Prop} {v0 : Nat} {v1 : Nat} {v2 : Int32} {S : HS} (h : ob S v0 8 ∧ (P_X8_canWait v0 v2 (fun x3 S1 => Gr S S1 → bl x3 → (((x3 = 0) → (Q (0 : Int32) S1)) ∧ ((¬ x3 = 0) → (∃ a5 : Nat, fR S1 v0 7 = some a5 ∧ (ob S1 a5 13 ∧ (vp_in v2 (hN S1 a5) ∧ ∀ x7 : Int32, x7 = fI S1 a5 v2.toNatClampNeg → (ob S1 v1 6 ∧ (∀ x8 : Int32, x8 = fI S1 v1 2 → (P_X6_shield v1 (fun x11 S9 => Gr S1 S9 → (∀ x12 : Int32, x12 = (if x8 - x11 < (0 : Int32) then (0 : Int32) else x8 - x11) → (Q (x7 * x12) S9))) S1))))))))) S)) : P_X8_dripOn_0 Q v0 v1 v2 S := h
theorem u_X8_hasHour {v0 : Nat} {v1 : Int32} {Q : Int32 → HS → Prop} {S : HS} (h : P_X8_hasHour_0 Q v0 v1 S) : P_X8_hasHour v0 v1 Q S := h
theorem u_X8_hasHour_0 {Q : Int32 → HS → Prop} {v0 : Nat} {v1 : Int32} {S : HS} (h : ((v1 < 0) → (Q (0 : Int32) S)) ∧ ((¬ v1 < 0) → (ob S v0 8 ∧ (∀ x2 : Int32, x2 = fI S v0 1 → (((x2 ≤ v1) → (Q (0 : Int32) S)) ∧ ((¬ x2 ≤ v1) → (∃ a4 : Nat, fR S v0 6 = some a4 ∧ (ob S a4 17 ∧ ((((nI (hN S a4)) ≤ v1) → (Q (0 : Int32) S)) ∧ ((¬ (nI (hN S a4)) ≤ v1) → (Q (1 : Int32) S))))))))))) : P_X8_hasHour_0 Q v0 v1 S := h
theorem u_X8_hasPlace {v0 : Nat} {v1 : Int32} {Q : Int32 → HS → Prop} {S : HS} (h : P_X8_hasPlace_0 Q v0 v1 S) : P_X8_hasPlace v0 v1 Q S := h
theorem u_X8_hasPlace_0 {Q : Int32 → HS → Prop} {v0 : Nat} {v1 : Int32} {S : HS} (h : ((v1 < 0) → (Q (0 : Int32) S)) ∧ ((¬ v1 < 0) → (ob S v0 8 ∧ (∀ x2 : Int32, x2 = fI S v0 2 → (((x2 ≤ v1) → (Q (0 : Int32) S)) ∧ ((¬ x2 ≤ v1) → (∃ a4 : Nat, fR S v0 7 = some a4 ∧ (ob S a4 13 ∧ ((((nI (hN S a4)) ≤ v1) → (Q (0 : Int32) S)) ∧ ((¬ (nI (hN S a4)) ≤ v1) → (Q (1 : Int32) S))))))))))) : P_X8_hasPlace_0 Q v0 v1 S := h
theorem u_X8_hasRoad {v0 : Nat} {v1 : Int32} {Q : Int32 → HS → Prop} {S : HS} (h : P_X8_hasRoad_0 Q v0 v1 S) : P_X8_hasRoad v0 v1 Q S := h
theorem u_X8_hasRoad_0 {Q : Int32 → HS → Prop} {v0 : Nat} {v1 : Int32} {S : HS} (h : ((v1 < 0) → (Q (0 : Int32) S)) ∧ ((¬ v1 < 0) → (ob S v0 8 ∧ (∀ x2 : Int32, x2 = fI S v0 3 → (((x2 ≤ v1) → (Q (0 : Int32) S)) ∧ ((¬ x2 ≤ v1) → (∃ a4 : Nat, fR S v0 8 = some a4 ∧ (ob S a4 18 ∧ ((((nI (hN S a4)) ≤ v1) → (Q (0 : Int32) S)) ∧ ((¬ (nI (hN S a4)) ≤ v1) → (Q (1 : Int32) S))))))))))) : P_X8_hasRoad_0 Q v0 v1 S := h
theorem u_X8_hasSeen {v0 : Nat} {v1 : Int32} {Q : Int32 → HS → Prop} {S : HS} (h : P_X8_hasSeen_0 Q v0 v1 S) : P_X8_hasSeen v0 v1 Q S := h
theorem u_X8_hasSeen_0 {Q : Int32 → HS → Prop} {v0 : Nat} {v1 : Int32} {S : HS} (h : ((v1 < 0) → (Q (0 : Int32) S)) ∧ ((¬ v1 < 0) → (ob S v0 8 ∧ (∀ x2 : Int32, x2 = fI S v0 5 → (((x2 ≤ v1) → (Q (0 : Int32) S)) ∧ ((¬ x2 ≤ v1) → (∃ a4 : Nat, fR S v0 10 = some a4 ∧ (ob S a4 13 ∧ ((((nI (hN S a4)) ≤ v1) → (Q (0 : Int32) S)) ∧ ((¬ (nI (hN S a4)) ≤ v1) → (Q (1 : Int32) S))))))))))) : P_X8_hasSeen_0 Q v0 v1 S := h
theorem u_X8_hasWalker {v0 : Nat} {v1 : Int32} {Q : Int32 → HS → Prop} {S : HS} (h : P_X8_hasWalker_0 Q v0 v1 S) : P_X8_hasWalker v0 v1 Q S := h
theorem u_X8_hasWalker_0 {Q : Int32 → HS → Prop} {v0 : Nat} {v1 : Int32} {S : HS} (h : ((v1 < 0) → (Q (0 : Int32) S)) ∧ ((¬ v1 < 0) → (ob S v0 8 ∧ (∀ x2 : Int32, x2 = fI S v0 4 → (((x2 ≤ v1) → (Q (0 : Int32) S)) ∧ ((¬ x2 ≤ v1) → (∃ a4 : Nat, fR S v0 9 = some a4 ∧ (ob S a4 19 ∧ ((((nI (hN S a4)) ≤ v1) → (Q (0 : Int32) S)) ∧ ((¬ (nI (hN S a4)) ≤ v1) → (Q (1 : Int32) S))))))))))) : P_X8_hasWalker_0 Q v0 v1 S := h
theorem u_X8_hourOf {v0 : Nat} {v1 : Int32} {Q : Int32 → HS → Prop} {S : HS} (h : P_X8_hourOf_0 Q v0 v1 S) : P_X8_hourOf v0 v1 Q S := h
theorem u_X8_hourOf_0 {Q : Int32 → HS → Prop} {v0 : Nat} {v1 : Int32} {S : HS} (h : ob S v0 8 ∧ (∀ x1 : Int32, x1 = fI S v0 0 → (((x1 ≤ 0) → (Q (0 : Int32) S)) ∧ ((¬ x1 ≤ 0) → (∀ x3 : Int32, x3 = fI S v0 0 → (¬ x3 = 0 ∧ ∀ x5 : Int32, x5 = v1 / x3 → (Q x5 S))))))) : P_X8_hourOf_0 Q v0 v1 S := h
theorem u_X8_isTold {v0 : Nat} {Q : Int32 → HS → Prop} {S : HS} (h : P_X8_isTold_0 Q v0 S) : P_X8_isTold v0 Q S := h
theorem u_X8_isTold_0 {Q : Int32 → HS → Prop} {v0 : Nat} {S : HS} (h : ob S v0 8 ∧ (∀ x1 : Int32, x1 = fI S v0 0 → (((x1 ≤ 0) → (Q (0 : Int32) S)) ∧ ((¬ x1 ≤ 0) → (Q (1 : Int32) S))))) : P_X8_isTold_0 Q v0 S := h
theorem u_X9_air {v0 : Nat} {v1 : Int32} {v2 : Int32} {v3 : Int32} {Q : Int32 → HS → Prop} {S : HS} (h : P_X9_air_0 Q v0 v1 v2 v3 S) : P_X9_air v0 v1 v2 v3 Q S := h
theorem u_X9_air_0 {Q : Int32 → HS → Prop} {v0 : Nat} {v1 : Int32} {v2 : Int32} {v3 : Int32} {S : HS} (h : ob S v0 9 ∧ (∃ a1 : Nat, fR S v0 2 = some a1 ∧ (ob S a1 8 ∧ (P_X8_hasRoad a1 v1 (fun x4 S2 => Gr S S2 → bl x4 → (((x4 = 0) → (∀ S6 : HS, S6 = sI S2 v0 9 (1 : Int32) → (Q (-100 : Int32) S6))) ∧ ((¬ x4 = 0) → (P_X9_isWay v2 (fun x9 S7 => Gr S2 S7 → bl x9 → (((x9 = 0) → (∀ S11 : HS, S11 = sI S7 v0 9 (1 : Int32) → (Q (-100 : Int32) S11))) ∧ ((¬ x9 = 0) → (∃ a12 : Nat, fR S7 v0 2 = some a12 ∧ (ob S7 a12 8 ∧ (P_X8_hasHour a12 v3 (fun x15 S13 => Gr S7 S13 → bl x15 → (((¬ x15 = 0) → (∃ a17 : Nat, fR S13 v0 2 = some a17 ∧ (ob S13 a17 8 ∧ (∃ a18 : Nat, fR S13 a17 8 = some a18 ∧ (ob S13 a18 18 ∧ (vp_in v1 (hN S13 a18) ∧ ∃ a20 : Nat, fR S13 a18 v1.toNatClampNeg = some a20 ∧ (∃ a21 : Nat, fR S13 v0 2 = some a21 ∧ (ob S13 a21 8 ∧ (∃ a22 : Nat, fR S13 a21 6 = some a22 ∧ (ob S13 a22 17 ∧ (vp_in v3 (hN S13 a22) ∧ ∃ a24 : Nat, fR S13 a22 v3.toNatClampNeg = some a24 ∧ (ob S13 a20 5 ∧ (P_X5_airAlong a20 v2 a24 (fun x27 S25 => Gr S13 S25 → (P_X9_grant v0 x27 (fun x30 S28 => Gr S25 S28 → (Q x30 S28)) S25)) S13))))))))))))) ∧ ((x15 = 0) → (∀ S31 : HS, S31 = sI S13 v0 9 (1 : Int32) → (Q (-100 : Int32) S31))))) S7)))))) S2)))) S)))) : P_X9_air_0 Q v0 v1 v2 v3 S := h
theorem u_X9_back {v0 : Nat} {v1 : Int32} {Q : Int32 → HS → Prop} {S : HS} (h : P_X9_back_0 Q v0 v1 S) : P_X9_back v0 v1 Q S := h
theorem u_X9_back_0 {Q : Int32 → HS → Prop} {v0 : Nat} {v1 : Int32} {S : HS} (h : ob S v0 9 ∧ (∃ a1 : Nat, fR S v0 6 = some a1 ∧ (ob S a1 0 ∧ (P_X0_returnTo a1 v1 (fun x4 S2 => Gr S S2 → bl x4 → (((x4 = 0) → (P_X9_back_17 Q v0 (1 : Int32) S2)) ∧ ((¬ x4 = 0) → (P_X9_back_17 Q v0 (0 : Int32) S2)))) S)))) : P_X9_back_0 Q v0 v1 S := h
theorem u_X9_back_17 {Q : Int32 → HS → Prop} {s0 : Nat} {s1 : Int32} {S : HS} (h : ob S s0 9 ∧ (P_X9_refusedBy s0 s1 (fun x3 S1 => Gr S S1 → bl x3 → (((¬ x3 = 0) → (Q (0 : Int32) S1)) ∧ ((x3 = 0) → (Q (1 : Int32) S1)))) S)) : P_X9_back_17 Q s0 s1 S := h
theorem u_X9_best {v0 : Nat} {v1 : Int32} {v2 : Int32} {v3 : Int32} {v4 : Int32} {Q : Int32 → HS → Prop} {S : HS} (h : P_X9_best_0 Q v0 v1 v2 v3 v4 S) : P_X9_best v0 v1 v2 v3 v4 Q S := h
theorem u_X9_best_0 {Q : Int32 → HS → Prop} {v0 : Nat} {v1 : Int32} {v2 : Int32} {v3 : Int32} {v4 : Int32} {S : HS} (h : ob S v0 9 ∧ (P_X9_tripTrouble v0 v1 v2 v3 v4 (fun x3 S1 => Gr S S1 → (P_X9_refusedBy v0 x3 (fun x6 S4 => Gr S1 S4 → bl x6 → (((x6 = 0) → (∃ a8 : Nat, fR S4 v0 4 = some a8 ∧ (∃ a9 : Nat, fR S4 v0 2 = some a9 ∧ (ob S4 a9 8 ∧ (∃ a10 : Nat, fR S4 a9 9 = some a10 ∧ (ob S4 a10 19 ∧ (vp_in v1 (hN S4 a10) ∧ ∃ a12 : Nat, fR S4 a10 v1.toNatClampNeg = some a12 ∧ (∃ a13 : Nat, fR S4 v0 2 = some a13 ∧ (ob S4 a13 8 ∧ (∃ a14 : Nat, fR S4 a13 8 = some a14 ∧ (ob S4 a14 18 ∧ (vp_in v2 (hN S4 a14) ∧ ∃ a16 : Nat, fR S4 a14 v2.toNatClampNeg = some a16 ∧ (∃ a17 : Nat, fR S4 v0 2 = some a17 ∧ (ob S4 a17 8 ∧ (∃ a18 : Nat, fR S4 a17 6 = some a18 ∧ (ob S4 a18 17 ∧ (vp_in v4 (hN S4 a18) ∧ ∃ a20 : Nat, fR S4 a18 v4.toNatClampNeg = some a20 ∧ (ob S4 a8 1 ∧ (P_X1_bestSpeed a8 a12 a16 v3 a20 (fun x23 S21 => Gr S4 S21 → (Q x23 S21)) S4))))))))))))))))))) ∧ ((¬ x6 = 0) → (Q (-1 : Int32) S4)))) S1)) S)) : P_X9_best_0 Q v0 v1 v2 v3 v4 S := h
theorem u_X9_coatParts {v0 : Nat} {Q : Int64 → HS → Prop} {S : HS} (h : P_X9_coatParts_0 Q v0 S) : P_X9_coatParts v0 Q S := h
theorem u_X9_coatParts_0 {Q : Int64 → HS → Prop} {v0 : Nat} {S : HS} (h : ob S v0 6 ∧ (∀ x1 : Int32, x1 = fI S v0 0 → (((¬ x1 = (2 : Int32)) → (Q (0 : Int64) S)) ∧ ((x1 = (2 : Int32)) → (∀ x3 : Int32, x3 = fI S v0 1 → (Q (x3.toInt64 * (2520 : Int64)) S)))))) : P_X9_coatParts_0 Q v0 S := h
theorem u_X9_commonDivisor {v0 : Int64} {v2 : Int64} {Q : Int64 → HS → Prop} {S : HS} (h : P_X9_commonDivisor_0 Q v0 v2 S) : P_X9_commonDivisor v0 v2 Q S := h
theorem u_X9_commonDivisor_0 {Q : Int64 → HS → Prop} {v0 : Int64} {v2 : Int64} {S : HS} (h : P_X9_commonDivisor_9 Q v0 v2 (0 : Int32) S) : P_X9_commonDivisor_0 Q v0 v2 S := h
theorem u_X9_commonDivisor_9 {Q : Int64 → HS → Prop} {X9 : Int64 → Int64 → Int32 → HS → Prop} {v4 : Int64} {v6 : Int64} {v8 : Int32} {S : HS} (h : (((200 : Int32) ≤ v8) → (Q v4 S)) ∧ ((¬ (200 : Int32) ≤ v8) → ((((lg_cmp v6 (0 : Int64)) = 0) → (Q v4 S)) ∧ ((¬ (lg_cmp v6 (0 : Int64)) = 0) → (¬ v6 = 0 ∧ ∀ x4 : Int64, x4 = v4 - v4 / v6 * v6 → (∀ x5 : Int32, x5 = v8 + (1 : Int32) → (X9 v6 x4 x5 S))))))) : B_X9_commonDivisor_9 Q X9 v4 v6 v8 S := h
theorem i_X9_commonDivisor_9 {Q : Int64 → HS → Prop} (μ : Int64 → Int64 → Int32 → HS → Nat) (I : Int64 → Int64 → Int32 → HS → Prop) (hs : ∀ (v4 : Int64) (v6 : Int64) (v8 : Int32) (S : HS) (X : Int64 → Int64 → Int32 → HS → Prop), I v4 v6 v8 S → (∀ (w4 : Int64) (w6 : Int64) (w8 : Int32) (T : HS), I w4 w6 w8 T → μ w4 w6 w8 T < μ v4 v6 v8 S → X w4 w6 w8 T) → B_X9_commonDivisor_9 Q X v4 v6 v8 S) : ∀ (v4 : Int64) (v6 : Int64) (v8 : Int32) (S : HS), I v4 v6 v8 S → P_X9_commonDivisor_9 Q v4 v6 v8 S := by
  intro v4 v6 v8 S h X hX
  have key : ∀ (z : Nat) (v4 : Int64) (v6 : Int64) (v8 : Int32) (S : HS), μ v4 v6 v8 S < z → I v4 v6 v8 S → X v4 v6 v8 S := by
    intro z
    induction z with
    | zero => intro v4 v6 v8 S hz; exact absurd hz (Nat.not_lt_zero _)
    | succ z ih => intro v4 v6 v8 S hz hI; exact hX _ _ _ _ (hs _ _ _ _ _ hI (fun w4 w6 w8 T hT hl => ih _ _ _ _ (by omega) hT))
  exact key _ _ _ _ _ (Nat.lt_succ_self _) h
theorem u_X9_day {v0 : Nat} {v1 : Int32} {v2 : Int32} {v3 : Int32} {v4 : Int32} {Q : Int32 → HS → Prop} {S : HS} (h : P_X9_day_0 Q v0 v1 v2 v3 v4 S) : P_X9_day v0 v1 v2 v3 v4 Q S := h
theorem u_X9_day_0 {Q : Int32 → HS → Prop} {v0 : Nat} {v1 : Int32} {v2 : Int32} {v3 : Int32} {v4 : Int32} {S : HS} (h : ob S v0 9 ∧ (∃ a1 : Nat, fR S v0 2 = some a1 ∧ (ob S a1 8 ∧ (P_X8_hasWalker a1 v1 (fun x4 S2 => Gr S S2 → bl x4 → (((x4 = 0) → (P_X9_day_22 Q v0 S2)) ∧ ((¬ x4 = 0) → (∃ a6 : Nat, fR S2 v0 2 = some a6 ∧ (ob S2 a6 8 ∧ (P_X8_hasPlace a6 v2 (fun x9 S7 => Gr S2 S7 → bl x9 → (((¬ x9 = 0) → (((v3 < 0) → (P_X9_day_52 Q v0 S7)) ∧ ((¬ v3 < 0) → ((((400 : Int32) < v3) → (P_X9_day_52 Q v0 S7)) ∧ ((¬ (400 : Int32) < v3) → (((v4 < 0) → (P_X9_day_52 Q v0 S7)) ∧ ((¬ v4 < 0) → (((v4 < (65537 : Int32)) → (∃ a15 : Nat, fR S7 v0 6 = some a15 ∧ (ob S7 a15 0 ∧ (P_X0_begin a15 v1 v2 v3 (fun S16 => Gr S7 S16 → (∃ a19 : Nat, fR S16 v0 6 = some a19 ∧ (∃ a20 : Nat, fR S16 v0 2 = some a20 ∧ (ob S16 a19 0 ∧ (P_X0_draw a19 a20 v4 (fun S21 => Gr S16 S21 → (∃ a24 : Nat, fR S21 v0 6 = some a24 ∧ (ob S21 a24 0 ∧ (∀ x25 : Int32, x25 = fI S21 a24 1 → (P_X9_grant v0 x25 (fun x28 S26 => Gr S21 S26 → (Q x28 S26)) S21))))) S16))))) S7)))) ∧ ((¬ v4 < (65537 : Int32)) → (P_X9_day_52 Q v0 S7)))))))))) ∧ ((x9 = 0) → (P_X9_day_22 Q v0 S7)))) S2)))))) S)))) : P_X9_day_0 Q v0 v1 v2 v3 v4 S := h
theorem u_X9_day_22 {Q : Int32 → HS → Prop} {v0 : Nat} {S : HS} (h : ob S v0 9 ∧ (P_X9_refuse v0 (1 : Int32) (fun x3 S1 => Gr S S1 → (Q x3 S1)) S)) : P_X9_day_22 Q v0 S := h
theorem u_X9_day_52 {Q : Int32 → HS → Prop} {v0 : Nat} {S : HS} (h : ob S v0 9 ∧ (P_X9_refuse v0 (2 : Int32) (fun x3 S1 => Gr S S1 → (Q x3 S1)) S)) : P_X9_day_52 Q v0 S := h
theorem u_X9_driest {v0 : Nat} {v1 : Int32} {v2 : Int32} {v3 : Int32} {Q : Int32 → HS → Prop} {S : HS} (h : P_X9_driest_0 Q v0 v1 v2 v3 S) : P_X9_driest v0 v1 v2 v3 Q S := h
theorem u_X9_driest_0 {Q : Int32 → HS → Prop} {v0 : Nat} {v1 : Int32} {v2 : Int32} {v3 : Int32} {S : HS} (h : ob S v0 9 ∧ (∃ a1 : Nat, fR S v0 2 = some a1 ∧ (ob S a1 8 ∧ (P_X8_hasWalker a1 v1 (fun x4 S2 => Gr S S2 → bl x4 → (((x4 = 0) → (P_X9_driest_29 Q v0 S2)) ∧ ((¬ x4 = 0) → (∃ a6 : Nat, fR S2 v0 2 = some a6 ∧ (ob S2 a6 8 ∧ (P_X8_hasRoad a6 v2 (fun x9 S7 => Gr S2 S7 → bl x9 → (((x9 = 0) → (P_X9_driest_29 Q v0 S7)) ∧ ((¬ x9 = 0) → (P_X9_isWay v3 (fun x13 S11 => Gr S7 S11 → bl x13 → (((¬ x13 = 0) → (∃ a15 : Nat, fR S11 v0 2 = some a15 ∧ (ob S11 a15 8 ∧ (∀ x16 : Int32, x16 = fI S11 a15 1 → (((¬ x16 = 0) → (P_X9_driest_63 Q v0 v1 v2 v3 (0 : Int32) (4611686018427387904 : Int64) (0 : Int32) S11)) ∧ ((x16 = 0) → (P_X9_refuse v0 (6 : Int32) (fun x20 S18 => Gr S11 S18 → (Q x20 S18)) S11))))))) ∧ ((x13 = 0) → (P_X9_driest_29 Q v0 S11)))) S7)))) S2)))))) S)))) : P_X9_driest_0 Q v0 v1 v2 v3 S := h
theorem u_X9_driest_29 {Q : Int32 → HS → Prop} {v0 : Nat} {S : HS} (h : ob S v0 9 ∧ (P_X9_refuse v0 (1 : Int32) (fun x3 S1 => Gr S S1 → (Q x3 S1)) S)) : P_X9_driest_29 Q v0 S := h
theorem u_X9_driest_63 {Q : Int32 → HS → Prop} {X63 : Nat → Int32 → Int32 → Int32 → Int32 → Int64 → Int32 → HS → Prop} {v0 : Nat} {v1 : Int32} {v2 : Int32} {v3 : Int32} {v4 : Int32} {v5 : Int64} {v7 : Int32} {S : HS} (h : ob S v0 9 ∧ (∃ a1 : Nat, fR S v0 2 = some a1 ∧ (ob S a1 8 ∧ (∀ x2 : Int32, x2 = fI S a1 1 → (((x2 ≤ v7) → (P_X9_grant v0 v4 (fun x6 S4 => Gr S S4 → (Q x6 S4)) S)) ∧ ((¬ x2 ≤ v7) → (∃ a7 : Nat, fR S v0 2 = some a7 ∧ (ob S a7 8 ∧ (∃ a8 : Nat, fR S a7 6 = some a8 ∧ (ob S a8 17 ∧ (vp_in v7 (hN S a8) ∧ ∃ a10 : Nat, fR S a8 v7.toNatClampNeg = some a10 ∧ (∃ a11 : Nat, fR S v0 4 = some a11 ∧ (∃ a12 : Nat, fR S v0 2 = some a12 ∧ (ob S a12 8 ∧ (∃ a13 : Nat, fR S a12 9 = some a13 ∧ (ob S a13 19 ∧ (vp_in v1 (hN S a13) ∧ ∃ a15 : Nat, fR S a13 v1.toNatClampNeg = some a15 ∧ (∃ a16 : Nat, fR S v0 2 = some a16 ∧ (ob S a16 8 ∧ (∃ a17 : Nat, fR S a16 8 = some a17 ∧ (ob S a17 18 ∧ (vp_in v2 (hN S a17) ∧ ∃ a19 : Nat, fR S a17 v2.toNatClampNeg = some a19 ∧ (ob S a11 1 ∧ (P_X1_leastWet a11 a15 a19 v3 a10 (fun x22 S20 => Gr S S20 → (ob S20 a10 3 ∧ (∀ x23 : Int32, x23 = fI S20 a10 4 → (∀ x24 : Int64, x24 = x22 * x23.toInt64 → (((0 ≤ (lg_cmp x24 v5)) → (P_X9_driest_140 Q X63 v0 v1 v2 v3 v4 v5 v7 S20)) ∧ ((¬ 0 ≤ (lg_cmp x24 v5)) → (P_X9_driest_140 Q X63 v0 v1 v2 v3 v7 x24 v7 S20))))))) S)))))))))))))))))))))))) : B_X9_driest_63 Q X63 v0 v1 v2 v3 v4 v5 v7 S := h
theorem i_X9_driest_63 {Q : Int32 → HS → Prop} (μ : Nat → Int32 → Int32 → Int32 → Int32 → Int64 → Int32 → HS → Nat) (I : Nat → Int32 → Int32 → Int32 → Int32 → Int64 → Int32 → HS → Prop) (hs : ∀ (v0 : Nat) (v1 : Int32) (v2 : Int32) (v3 : Int32) (v4 : Int32) (v5 : Int64) (v7 : Int32) (S : HS) (X : Nat → Int32 → Int32 → Int32 → Int32 → Int64 → Int32 → HS → Prop), I v0 v1 v2 v3 v4 v5 v7 S → (∀ (w0 : Nat) (w1 : Int32) (w2 : Int32) (w3 : Int32) (w4 : Int32) (w5 : Int64) (w7 : Int32) (T : HS), I w0 w1 w2 w3 w4 w5 w7 T → μ w0 w1 w2 w3 w4 w5 w7 T < μ v0 v1 v2 v3 v4 v5 v7 S → X w0 w1 w2 w3 w4 w5 w7 T) → B_X9_driest_63 Q X v0 v1 v2 v3 v4 v5 v7 S) : ∀ (v0 : Nat) (v1 : Int32) (v2 : Int32) (v3 : Int32) (v4 : Int32) (v5 : Int64) (v7 : Int32) (S : HS), I v0 v1 v2 v3 v4 v5 v7 S → P_X9_driest_63 Q v0 v1 v2 v3 v4 v5 v7 S := by
  intro v0 v1 v2 v3 v4 v5 v7 S h X hX
  have key : ∀ (z : Nat) (v0 : Nat) (v1 : Int32) (v2 : Int32) (v3 : Int32) (v4 : Int32) (v5 : Int64) (v7 : Int32) (S : HS), μ v0 v1 v2 v3 v4 v5 v7 S < z → I v0 v1 v2 v3 v4 v5 v7 S → X v0 v1 v2 v3 v4 v5 v7 S := by
    intro z
    induction z with
    | zero => intro v0 v1 v2 v3 v4 v5 v7 S hz; exact absurd hz (Nat.not_lt_zero _)
    | succ z ih => intro v0 v1 v2 v3 v4 v5 v7 S hz hI; exact hX _ _ _ _ _ _ _ _ (hs _ _ _ _ _ _ _ _ _ hI (fun w0 w1 w2 w3 w4 w5 w7 T hT hl => ih _ _ _ _ _ _ _ _ (by omega) hT))
  exact key _ _ _ _ _ _ _ _ _ (Nat.lt_succ_self _) h
theorem u_X9_driest_140 {Q : Int32 → HS → Prop} {X63 : Nat → Int32 → Int32 → Int32 → Int32 → Int64 → Int32 → HS → Prop} {v0 : Nat} {v1 : Int32} {v2 : Int32} {v3 : Int32} {v4 : Int32} {v5 : Int64} {v7 : Int32} {S : HS} (h : ∀ x1 : Int32, x1 = v7 + (1 : Int32) → (X63 v0 v1 v2 v3 v4 v5 x1 S)) : P_X9_driest_140 Q X63 v0 v1 v2 v3 v4 v5 v7 S := h
theorem u_X9_even {v0 : Nat} {v1 : Int32} {v2 : Int32} {v3 : Int32} {v4 : Int32} {Q : Int32 → HS → Prop} {S : HS} (h : P_X9_even_0 Q v0 v1 v2 v3 v4 S) : P_X9_even v0 v1 v2 v3 v4 Q S := h
theorem u_X9_even_0 {Q : Int32 → HS → Prop} {v0 : Nat} {v1 : Int32} {v2 : Int32} {v3 : Int32} {v4 : Int32} {S : HS} (h : ob S v0 9 ∧ (P_X9_tripTrouble v0 v1 v2 v3 v4 (fun x3 S1 => Gr S S1 → (P_X9_refusedBy v0 x3 (fun x6 S4 => Gr S1 S4 → bl x6 → (((x6 = 0) → (∃ a8 : Nat, fR S4 v0 2 = some a8 ∧ (ob S4 a8 8 ∧ (∃ a9 : Nat, fR S4 a8 9 = some a9 ∧ (ob S4 a9 19 ∧ (vp_in v1 (hN S4 a9) ∧ ∃ a11 : Nat, fR S4 a9 v1.toNatClampNeg = some a11 ∧ (∃ a12 : Nat, fR S4 v0 4 = some a12 ∧ (∃ a13 : Nat, fR S4 v0 2 = some a13 ∧ (ob S4 a13 8 ∧ (∃ a14 : Nat, fR S4 a13 8 = some a14 ∧ (ob S4 a14 18 ∧ (vp_in v2 (hN S4 a14) ∧ ∃ a16 : Nat, fR S4 a14 v2.toNatClampNeg = some a16 ∧ (∃ a17 : Nat, fR S4 v0 2 = some a17 ∧ (ob S4 a17 8 ∧ (∃ a18 : Nat, fR S4 a17 6 = some a18 ∧ (ob S4 a18 17 ∧ (vp_in v4 (hN S4 a18) ∧ ∃ a20 : Nat, fR S4 a18 v4.toNatClampNeg = some a20 ∧ (ob S4 a12 1 ∧ (P_X1_worstSpeed a12 a11 a16 v3 a20 (fun x23 S21 => Gr S4 S21 → (∃ a24 : Nat, fR S21 v0 4 = some a24 ∧ (∃ a25 : Nat, fR S21 v0 2 = some a25 ∧ (ob S21 a25 8 ∧ (∃ a26 : Nat, fR S21 a25 8 = some a26 ∧ (ob S21 a26 18 ∧ (vp_in v2 (hN S21 a26) ∧ ∃ a28 : Nat, fR S21 a26 v2.toNatClampNeg = some a28 ∧ (∃ a29 : Nat, fR S21 v0 2 = some a29 ∧ (ob S21 a29 8 ∧ (∃ a30 : Nat, fR S21 a29 6 = some a30 ∧ (ob S21 a30 17 ∧ (vp_in v4 (hN S21 a30) ∧ ∃ a32 : Nat, fR S21 a30 v4.toNatClampNeg = some a32 ∧ (ob S21 a24 1 ∧ (P_X1_leastWet a24 a11 a28 v3 a32 (fun x35 S33 => Gr S21 S33 → (∃ a36 : Nat, fR S33 v0 4 = some a36 ∧ (∃ a37 : Nat, fR S33 v0 2 = some a37 ∧ (ob S33 a37 8 ∧ (∃ a38 : Nat, fR S33 a37 8 = some a38 ∧ (ob S33 a38 18 ∧ (vp_in v2 (hN S33 a38) ∧ ∃ a40 : Nat, fR S33 a38 v2.toNatClampNeg = some a40 ∧ (∃ a41 : Nat, fR S33 v0 2 = some a41 ∧ (ob S33 a41 8 ∧ (∃ a42 : Nat, fR S33 a41 6 = some a42 ∧ (ob S33 a42 17 ∧ (vp_in v4 (hN S33 a42) ∧ ∃ a44 : Nat, fR S33 a42 v4.toNatClampNeg = some a44 ∧ (ob S33 a36 1 ∧ (P_X1_wetOf a36 a11 a40 v3 a44 x23 (fun x47 S45 => Gr S33 S45 → (((¬ (lg_cmp x47 x35) = 0) → (Q (0 : Int32) S45)) ∧ (((lg_cmp x47 x35) = 0) → (Q (1 : Int32) S45)))) S33)))))))))))))) S21)))))))))))))) S4))))))))))))))))))) ∧ ((¬ x6 = 0) → (Q (-1 : Int32) S4)))) S1)) S)) : P_X9_even_0 Q v0 v1 v2 v3 v4 S := h
theorem u_X9_face {v0 : Nat} {v1 : Int32} {v2 : Int32} {v3 : Int32} {v4 : Int32} {v5 : Int32} {v6 : Int32} {v7 : Int32} {Q : Int64 → HS → Prop} {S : HS} (h : P_X9_face_0 Q v0 v1 v2 v3 v4 v5 v6 v7 S) : P_X9_face v0 v1 v2 v3 v4 v5 v6 v7 Q S := h
theorem u_X9_face_0 {Q : Int64 → HS → Prop} {v0 : Nat} {v1 : Int32} {v2 : Int32} {v3 : Int32} {v4 : Int32} {v5 : Int32} {v6 : Int32} {v7 : Int32} {S : HS} (h : P_X9_isFace v6 (fun x3 S1 => Gr S S1 → bl x3 → (((x3 = 0) → (P_X9_face_23 Q v0 v1 v2 v3 v4 v5 v6 v7 (1 : Int32) S1)) ∧ ((¬ x3 = 0) → (ob S1 v0 9 ∧ (P_X9_legTrouble v0 v1 v2 v3 v4 v5 (fun x7 S5 => Gr S1 S5 → (P_X9_face_23 Q v0 v1 v2 v3 v4 v5 v6 v7 x7 S5)) S1))))) S) : P_X9_face_0 Q v0 v1 v2 v3 v4 v5 v6 v7 S := h
theorem u_X9_face_23 {Q : Int64 → HS → Prop} {v0 : Nat} {v1 : Int32} {v2 : Int32} {v3 : Int32} {v4 : Int32} {v5 : Int32} {v6 : Int32} {v7 : Int32} {s0 : Int32} {S : HS} (h : ob S v0 9 ∧ (P_X9_refusedBy v0 s0 (fun x3 S1 => Gr S S1 → bl x3 → (((x3 = 0) → (∃ a5 : Nat, fR S1 v0 4 = some a5 ∧ (∃ a6 : Nat, fR S1 v0 2 = some a6 ∧ (ob S1 a6 8 ∧ (∃ a7 : Nat, fR S1 a6 9 = some a7 ∧ (ob S1 a7 19 ∧ (vp_in v1 (hN S1 a7) ∧ ∃ a9 : Nat, fR S1 a7 v1.toNatClampNeg = some a9 ∧ (∃ a10 : Nat, fR S1 v0 2 = some a10 ∧ (ob S1 a10 8 ∧ (∃ a11 : Nat, fR S1 a10 8 = some a11 ∧ (ob S1 a11 18 ∧ (vp_in v2 (hN S1 a11) ∧ ∃ a13 : Nat, fR S1 a11 v2.toNatClampNeg = some a13 ∧ (∃ a14 : Nat, fR S1 v0 2 = some a14 ∧ (ob S1 a14 8 ∧ (∃ a15 : Nat, fR S1 a14 6 = some a15 ∧ (ob S1 a15 17 ∧ (vp_in v4 (hN S1 a15) ∧ ∃ a17 : Nat, fR S1 a15 v4.toNatClampNeg = some a17 ∧ (ob S1 a5 1 ∧ (P_X1_wetOf a5 a9 a13 v3 a17 v5 (fun x20 S18 => Gr S1 S18 → (∃ a21 : Nat, fR S18 v0 4 = some a21 ∧ (ob S18 a21 1 ∧ (∃ a22 : Nat, fR S18 a21 0 = some a22 ∧ (ob S18 a22 14 ∧ (vp_in v6 (hN S18 a22) ∧ ∀ x24 : Int64, x24 = fJ S18 a22 v6.toNatClampNeg → (P_X9_fraction x24 (2520 : Int64) v7 (fun x27 S25 => Gr S18 S25 → (Q x27 S25)) S18))))))) S1))))))))))))))))))) ∧ ((¬ x3 = 0) → (Q (-1 : Int64) S1)))) S)) : P_X9_face_23 Q v0 v1 v2 v3 v4 v5 v6 v7 s0 S := h
theorem u_X9_fault {v0 : Nat} {Q : Int32 → HS → Prop} {S : HS} (h : P_X9_fault_0 Q v0 S) : P_X9_fault v0 Q S := h
theorem u_X9_fault_0 {Q : Int32 → HS → Prop} {v0 : Nat} {S : HS} (h : ob S v0 9 ∧ (∀ x1 : Int32, x1 = fI S v0 7 → (Q x1 S))) : P_X9_fault_0 Q v0 S := h
theorem u_X9_feed {v0 : Nat} {v1 : Int32} {v2 : Int32} {v3 : Int32} {v4 : Int32} {v5 : Int32} {Q : Int32 → HS → Prop} {S : HS} (h : P_X9_feed_0 Q v0 v1 v2 v3 v4 v5 S) : P_X9_feed v0 v1 v2 v3 v4 v5 Q S := h
theorem u_X9_feed_0 {Q : Int32 → HS → Prop} {v0 : Nat} {v1 : Int32} {v2 : Int32} {v3 : Int32} {v4 : Int32} {v5 : Int32} {S : HS} (h : ob S v0 9 ∧ (∀ x1 : Int32, x1 = fI S v0 1 → ((((x1 + (20 : Int32)) ≤ (900 : Int32)) → (P_X9_putBytes v0 v1 (fun S3 => Gr S S3 → (P_X9_putBytes v0 v2 (fun S6 => Gr S3 S6 → (P_X9_putBytes v0 v3 (fun S9 => Gr S6 S9 → (P_X9_putBytes v0 v4 (fun S12 => Gr S9 S12 → (P_X9_putBytes v0 v5 (fun S15 => Gr S12 S15 → (∀ x18 : Int32, x18 = fI S15 v0 1 → (Q x18 S15))) S12)) S9)) S6)) S3)) S)) ∧ ((¬ (x1 + (20 : Int32)) ≤ (900 : Int32)) → (Q (-1 : Int32) S))))) : P_X9_feed_0 Q v0 v1 v2 v3 v4 v5 S := h
theorem u_X9_first {v0 : Nat} {v1 : Int32} {v2 : Int32} {v3 : Int32} {v4 : Int32} {v5 : Int32} {v6 : Int32} {Q : Int32 → HS → Prop} {S : HS} (h : P_X9_first_0 Q v0 v1 v2 v3 v4 v5 v6 S) : P_X9_first v0 v1 v2 v3 v4 v5 v6 Q S := h
theorem u_X9_first_0 {Q : Int32 → HS → Prop} {v0 : Nat} {v1 : Int32} {v2 : Int32} {v3 : Int32} {v4 : Int32} {v5 : Int32} {v6 : Int32} {S : HS} (h : ob S v0 9 ∧ (P_X9_leeTrouble v0 v1 v2 v3 v4 v5 v6 (fun x3 S1 => Gr S S1 → (P_X9_refusedBy v0 x3 (fun x6 S4 => Gr S1 S4 → bl x6 → (((x6 = 0) → (∃ a8 : Nat, fR S4 v0 4 = some a8 ∧ (∃ a9 : Nat, fR S4 v0 2 = some a9 ∧ (ob S4 a9 8 ∧ (∃ a10 : Nat, fR S4 a9 8 = some a10 ∧ (ob S4 a10 18 ∧ (vp_in v3 (hN S4 a10) ∧ ∃ a12 : Nat, fR S4 a10 v3.toNatClampNeg = some a12 ∧ (∃ a13 : Nat, fR S4 v0 2 = some a13 ∧ (ob S4 a13 8 ∧ (∃ a14 : Nat, fR S4 a13 6 = some a14 ∧ (ob S4 a14 17 ∧ (vp_in v5 (hN S4 a14) ∧ ∃ a16 : Nat, fR S4 a14 v5.toNatClampNeg = some a16 ∧ (ob S4 a8 1 ∧ (P_X1_lay a8 a12 v4 a16 v6 (fun S17 => Gr S4 S17 → (∃ a20 : Nat, fR S17 v0 4 = some a20 ∧ (∃ a21 : Nat, fR S17 v0 2 = some a21 ∧ (ob S17 a21 8 ∧ (∃ a22 : Nat, fR S17 a21 9 = some a22 ∧ (ob S17 a22 19 ∧ (vp_in v1 (hN S17 a22) ∧ ∃ a24 : Nat, fR S17 a22 v1.toNatClampNeg = some a24 ∧ (∃ a25 : Nat, fR S17 v0 2 = some a25 ∧ (ob S17 a25 8 ∧ (∃ a26 : Nat, fR S17 a25 9 = some a26 ∧ (ob S17 a26 19 ∧ (vp_in v2 (hN S17 a26) ∧ ∃ a28 : Nat, fR S17 a26 v2.toNatClampNeg = some a28 ∧ (ob S17 a20 1 ∧ (P_X1_wetInLee a20 a24 a28 (fun x31 S29 => Gr S17 S29 → (∃ a32 : Nat, fR S29 v0 4 = some a32 ∧ (∃ a33 : Nat, fR S29 v0 2 = some a33 ∧ (ob S29 a33 8 ∧ (∃ a34 : Nat, fR S29 a33 9 = some a34 ∧ (ob S29 a34 19 ∧ (vp_in v2 (hN S29 a34) ∧ ∃ a36 : Nat, fR S29 a34 v2.toNatClampNeg = some a36 ∧ (∃ a37 : Nat, fR S29 v0 2 = some a37 ∧ (ob S29 a37 8 ∧ (∃ a38 : Nat, fR S29 a37 9 = some a38 ∧ (ob S29 a38 19 ∧ (vp_in v1 (hN S29 a38) ∧ ∃ a40 : Nat, fR S29 a38 v1.toNatClampNeg = some a40 ∧ (ob S29 a32 1 ∧ (P_X1_wetInLee a32 a36 a40 (fun x43 S41 => Gr S29 S41 → (((¬ (lg_cmp x31 x43) = 0) → (((0 ≤ (lg_cmp x31 x43)) → (Q (1 : Int32) S41)) ∧ ((¬ 0 ≤ (lg_cmp x31 x43)) → (Q (0 : Int32) S41)))) ∧ (((lg_cmp x31 x43) = 0) → (Q (-2 : Int32) S41)))) S29)))))))))))))) S17)))))))))))))) S4)))))))))))))) ∧ ((¬ x6 = 0) → (Q (-1 : Int32) S4)))) S1)) S)) : P_X9_first_0 Q v0 v1 v2 v3 v4 v5 v6 S := h
theorem u_X9_fit {v0 : Nat} {v1 : Int32} {v2 : Int32} {Q : Int32 → HS → Prop} {S : HS} (h : P_X9_fit_0 Q v0 v1 v2 S) : P_X9_fit v0 v1 v2 Q S := h
theorem u_X9_fit_0 {Q : Int32 → HS → Prop} {v0 : Nat} {v1 : Int32} {v2 : Int32} {S : HS} (h : ob S v0 9 ∧ (∃ a1 : Nat, fR S v0 2 = some a1 ∧ (ob S a1 8 ∧ (P_X8_hasSeen a1 v1 (fun x4 S2 => Gr S S2 → bl x4 → (((x4 = 0) → (P_X9_fit_15 Q v0 S2)) ∧ ((¬ x4 = 0) → (((0 ≤ v2) → (∃ a7 : Nat, fR S2 v0 4 = some a7 ∧ (∃ a8 : Nat, fR S2 v0 2 = some a8 ∧ (ob S2 a7 1 ∧ (P_X1_findFit a7 a8 v1 v2 (fun x11 S9 => Gr S2 S9 → (((¬ x11 = (-1 : Int32)) → (P_X9_grant v0 x11 (fun x15 S13 => Gr S9 S13 → (Q x15 S13)) S9)) ∧ ((x11 = (-1 : Int32)) → (P_X9_refuse v0 (1 : Int32) (fun x18 S16 => Gr S9 S16 → (Q x18 S16)) S9)))) S2))))) ∧ ((¬ 0 ≤ v2) → (P_X9_fit_15 Q v0 S2)))))) S)))) : P_X9_fit_0 Q v0 v1 v2 S := h
theorem u_X9_fit_15 {Q : Int32 → HS → Prop} {v0 : Nat} {S : HS} (h : ob S v0 9 ∧ (P_X9_refuse v0 (1 : Int32) (fun x3 S1 => Gr S S1 → (Q x3 S1)) S)) : P_X9_fit_15 Q v0 S := h
theorem u_X9_fits {v0 : Nat} {v1 : Int32} {Q : Int32 → HS → Prop} {S : HS} (h : P_X9_fits_0 Q v0 v1 S) : P_X9_fits v0 v1 Q S := h
theorem u_X9_fits_0 {Q : Int32 → HS → Prop} {v0 : Nat} {v1 : Int32} {S : HS} (h : ob S v0 9 ∧ (∃ a1 : Nat, fR S v0 2 = some a1 ∧ (ob S a1 8 ∧ (P_X8_hasSeen a1 v1 (fun x4 S2 => Gr S S2 → bl x4 → (((¬ x4 = 0) → (∃ a6 : Nat, fR S2 v0 4 = some a6 ∧ (∃ a7 : Nat, fR S2 v0 2 = some a7 ∧ (ob S2 a6 1 ∧ (P_X1_countFits a6 a7 v1 (fun x10 S8 => Gr S2 S8 → (P_X9_grant v0 x10 (fun x13 S11 => Gr S8 S11 → (Q x13 S11)) S8)) S2))))) ∧ ((x4 = 0) → (P_X9_refuse v0 (1 : Int32) (fun x16 S14 => Gr S2 S14 → (Q x16 S14)) S2)))) S)))) : P_X9_fits_0 Q v0 v1 S := h
theorem u_X9_fraction {v0 : Int64} {v2 : Int64} {v4 : Int32} {Q : Int64 → HS → Prop} {S : HS} (h : P_X9_fraction_0 Q v0 v2 v4 S) : P_X9_fraction v0 v2 v4 Q S := h
theorem u_X9_fraction_0 {Q : Int64 → HS → Prop} {v0 : Int64} {v2 : Int64} {v4 : Int32} {S : HS} (h : P_X9_commonDivisor v0 v2 (fun x3 S1 => Gr S S1 → (((0 < (lg_cmp x3 (0 : Int64))) → (((v4 = 0) → (¬ x3 = 0 ∧ ∀ x7 : Int64, x7 = v0 / x3 → (Q x7 S1))) ∧ ((¬ v4 = 0) → (¬ x3 = 0 ∧ ∀ x9 : Int64, x9 = v2 / x3 → (Q x9 S1))))) ∧ ((¬ 0 < (lg_cmp x3 (0 : Int64))) → (((v4 = 0) → (Q (0 : Int64) S1)) ∧ ((¬ v4 = 0) → (Q (1 : Int64) S1)))))) S) : P_X9_fraction_0 Q v0 v2 v4 S := h
theorem u_X9_go {v0 : Nat} {v1 : Int32} {v2 : Int32} {v3 : Int32} {Q : Int32 → HS → Prop} {S : HS} (h : P_X9_go_0 Q v0 v1 v2 v3 S) : P_X9_go v0 v1 v2 v3 Q S := h
theorem u_X9_go_0 {Q : Int32 → HS → Prop} {v0 : Nat} {v1 : Int32} {v2 : Int32} {v3 : Int32} {S : HS} (h : ob S v0 9 ∧ (∃ a1 : Nat, fR S v0 6 = some a1 ∧ (ob S a1 0 ∧ (P_X0_isOn a1 (fun x4 S2 => Gr S S2 → bl x4 → (((x4 = 0) → (P_X9_go_45 Q v0 S2)) ∧ ((¬ x4 = 0) → (∃ a6 : Nat, fR S2 v0 2 = some a6 ∧ (∃ a7 : Nat, fR S2 v0 6 = some a7 ∧ (ob S2 a7 0 ∧ (∀ x8 : Int32, x8 = fI S2 a7 0 → (ob S2 a6 8 ∧ (P_X8_hasWalker a6 x8 (fun x11 S9 => Gr S2 S9 → bl x11 → (((x11 = 0) → (P_X9_go_45 Q v0 S9)) ∧ ((¬ x11 = 0) → (∃ a13 : Nat, fR S9 v0 2 = some a13 ∧ (ob S9 a13 8 ∧ (P_X8_hasRoad a13 v1 (fun x16 S14 => Gr S9 S14 → bl x16 → (((x16 = 0) → (P_X9_go_45 Q v0 S14)) ∧ ((¬ x16 = 0) → (P_X9_isWay v2 (fun x20 S18 => Gr S14 S18 → bl x20 → (((¬ x20 = 0) → (∃ a22 : Nat, fR S18 v0 2 = some a22 ∧ (ob S18 a22 8 ∧ (∃ a23 : Nat, fR S18 a22 9 = some a23 ∧ (∃ a24 : Nat, fR S18 v0 6 = some a24 ∧ (ob S18 a24 0 ∧ (∀ x25 : Int32, x25 = fI S18 a24 0 → (ob S18 a23 19 ∧ (vp_in x25 (hN S18 a23) ∧ ∃ a27 : Nat, fR S18 a23 x25.toNatClampNeg = some a27 ∧ (∃ a28 : Nat, fR S18 v0 2 = some a28 ∧ (ob S18 a28 8 ∧ (∃ a29 : Nat, fR S18 a28 8 = some a29 ∧ (ob S18 a29 18 ∧ (vp_in v1 (hN S18 a29) ∧ ∃ a31 : Nat, fR S18 a29 v1.toNatClampNeg = some a31 ∧ (ob S18 a27 6 ∧ (P_X6_canGo a27 v3 (fun x34 S32 => Gr S18 S32 → bl x34 → (((¬ x34 = 0) → (ob S32 a31 5 ∧ (P_X5_startOf a31 v2 (fun x38 S36 => Gr S32 S36 → (∃ a39 : Nat, fR S36 v0 6 = some a39 ∧ (ob S36 a39 0 ∧ (∃ a40 : Nat, fR S36 a39 4 = some a40 ∧ (ob S36 a40 2 ∧ (∀ x41 : Int32, x41 = fI S36 a40 0 → (((x38 = x41) → (∃ a43 : Nat, fR S36 v0 6 = some a43 ∧ (ob S36 a43 0 ∧ (∃ a44 : Nat, fR S36 a43 4 = some a44 ∧ (ob S36 a44 2 ∧ (∀ x45 : Int32, x45 = fI S36 a44 1 → (P_X5_minutesAt a31 v3 (fun x48 S46 => Gr S36 S46 → (∀ x49 : Int32, x49 = x45 + x48 → (((x49 ≤ (999 : Int32)) → (∃ a51 : Nat, fR S46 v0 6 = some a51 ∧ (ob S46 a51 0 ∧ (P_X0_keepForUndo a51 (fun S52 => Gr S46 S52 → (∃ a55 : Nat, fR S52 v0 2 = some a55 ∧ (∃ a56 : Nat, fR S52 v0 6 = some a56 ∧ (ob S52 a56 0 ∧ (∃ a57 : Nat, fR S52 a56 4 = some a57 ∧ (ob S52 a57 2 ∧ (∀ x58 : Int32, x58 = fI S52 a57 1 → (ob S52 a55 8 ∧ (P_X8_hourOf a55 x58 (fun x61 S59 => Gr S52 S59 → (∃ a62 : Nat, fR S59 v0 2 = some a62 ∧ (ob S59 a62 8 ∧ (P_X8_hasHour a62 x61 (fun x65 S63 => Gr S59 S63 → bl x65 → (((x65 = 0) → (P_X9_go_243 Q v0 v2 a31 x49 S63)) ∧ ((¬ x65 = 0) → (∃ a67 : Nat, fR S63 v0 6 = some a67 ∧ (ob S63 a67 0 ∧ (P_X0_rainsIn a67 x61 (fun x70 S68 => Gr S63 S68 → bl x70 → (((x70 = 0) → (P_X9_go_243 Q v0 v2 a31 x49 S68)) ∧ ((¬ x70 = 0) → (∃ a72 : Nat, fR S68 v0 4 = some a72 ∧ (∃ a73 : Nat, fR S68 v0 2 = some a73 ∧ (ob S68 a73 8 ∧ (∃ a74 : Nat, fR S68 a73 6 = some a74 ∧ (ob S68 a74 17 ∧ (vp_in x61 (hN S68 a74) ∧ ∃ a76 : Nat, fR S68 a74 x61.toNatClampNeg = some a76 ∧ (ob S68 a72 1 ∧ (P_X1_wetOf a72 a27 a31 v2 a76 v3 (fun x79 S77 => Gr S68 S77 → (∃ a80 : Nat, fR S77 v0 6 = some a80 ∧ (ob S77 a80 0 ∧ (∃ a81 : Nat, fR S77 a80 4 = some a81 ∧ (∃ a82 : Nat, fR S77 v0 4 = some a82 ∧ (ob S77 a82 1 ∧ (∃ a83 : Nat, fR S77 a82 0 = some a83 ∧ (ob S77 a81 2 ∧ (P_X2_addFaces a81 a83 (fun S84 => Gr S77 S84 → (P_X9_go_243 Q v0 v2 a31 x49 S84)) S77))))))))) S68))))))))))) S63)))))) S59)))) S52))))))))) S46)))) ∧ ((¬ x49 ≤ (999 : Int32)) → (P_X9_refuse v0 (3 : Int32) (fun x89 S87 => Gr S46 S87 → (Q x89 S87)) S46))))) S36))))))) ∧ ((¬ x38 = x41) → (P_X9_refuse v0 (5 : Int32) (fun x92 S90 => Gr S36 S90 → (Q x92 S90)) S36))))))))) S32))) ∧ ((x34 = 0) → (P_X9_refuse v0 (2 : Int32) (fun x95 S93 => Gr S32 S93 → (Q x95 S93)) S32)))) S18)))))))))))))))) ∧ ((x20 = 0) → (P_X9_go_45 Q v0 S18)))) S14)))) S9)))))) S2))))))))) S)))) : P_X9_go_0 Q v0 v1 v2 v3 S := h
theorem u_X9_go_45 {Q : Int32 → HS → Prop} {v0 : Nat} {S : HS} (h : ob S v0 9 ∧ (P_X9_refuse v0 (1 : Int32) (fun x3 S1 => Gr S S1 → (Q x3 S1)) S)) : P_X9_go_45 Q v0 S := h
theorem u_X9_go_243 {Q : Int32 → HS → Prop} {v0 : Nat} {v2 : Int32} {v5 : Nat} {v6 : Int32} {S : HS} (h : ob S v0 9 ∧ (∃ a1 : Nat, fR S v0 6 = some a1 ∧ (ob S a1 0 ∧ (∃ a2 : Nat, fR S a1 4 = some a2 ∧ (ob S v5 5 ∧ (P_X5_endOf v5 v2 (fun x5 S3 => Gr S S3 → (ob S3 a2 2 ∧ (∀ S6 : HS, S6 = sI S3 a2 0 x5 → (∃ a7 : Nat, fR S6 v0 6 = some a7 ∧ (ob S6 a7 0 ∧ (∃ a8 : Nat, fR S6 a7 4 = some a8 ∧ (ob S6 a8 2 ∧ (∀ S9 : HS, S9 = sI S6 a8 1 v6 → (P_X9_grant v0 v6 (fun x12 S10 => Gr S9 S10 → (Q x12 S10)) S9))))))))) S)))))) : P_X9_go_243 Q v0 v2 v5 v6 S := h
theorem u_X9_got {v0 : Nat} {v1 : Int32} {v2 : Int32} {Q : Int64 → HS → Prop} {S : HS} (h : P_X9_got_0 Q v0 v1 v2 S) : P_X9_got v0 v1 v2 Q S := h
theorem u_X9_got_0 {Q : Int64 → HS → Prop} {v0 : Nat} {v1 : Int32} {v2 : Int32} {S : HS} (h : ob S v0 9 ∧ (∃ a1 : Nat, fR S v0 6 = some a1 ∧ (ob S a1 0 ∧ (P_X0_isOn a1 (fun x4 S2 => Gr S S2 → bl x4 → (((x4 = 0) → (P_X9_got_17 Q v0 S2)) ∧ ((¬ x4 = 0) → (P_X9_isFace v1 (fun x8 S6 => Gr S2 S6 → bl x8 → (((¬ x8 = 0) → (∀ S10 : HS, S10 = sI S6 v0 9 (0 : Int32) → (∃ a11 : Nat, fR S10 v0 6 = some a11 ∧ (ob S10 a11 0 ∧ (∃ a12 : Nat, fR S10 a11 4 = some a12 ∧ (ob S10 a12 2 ∧ (∃ a13 : Nat, fR S10 a12 2 = some a13 ∧ (ob S10 a13 14 ∧ (vp_in v1 (hN S10 a13) ∧ ∀ x15 : Int64, x15 = fJ S10 a13 v1.toNatClampNeg → (P_X9_fraction x15 (2520 : Int64) v2 (fun x18 S16 => Gr S10 S16 → (Q x18 S16)) S10)))))))))) ∧ ((x8 = 0) → (P_X9_got_17 Q v0 S6)))) S2)))) S)))) : P_X9_got_0 Q v0 v1 v2 S := h
theorem u_X9_got_17 {Q : Int64 → HS → Prop} {v0 : Nat} {S : HS} (h : ob S v0 9 ∧ (P_X9_refuse v0 (1 : Int32) (fun x3 S1 => Gr S S1 → (Q x3.toInt64 S1)) S)) : P_X9_got_17 Q v0 S := h
theorem u_X9_grant {v0 : Nat} {v1 : Int32} {Q : Int32 → HS → Prop} {S : HS} (h : P_X9_grant_0 Q v0 v1 S) : P_X9_grant v0 v1 Q S := h
theorem u_X9_grant_0 {Q : Int32 → HS → Prop} {v0 : Nat} {v1 : Int32} {S : HS} (h : ob S v0 9 ∧ (∀ S1 : HS, S1 = sI S v0 9 (0 : Int32) → (Q v1 S1))) : P_X9_grant_0 Q v0 v1 S := h
theorem u_X9_held {v0 : Nat} {v1 : Int32} {v2 : Int32} {v3 : Int32} {v4 : Int32} {v5 : Int32} {Q : Int32 → HS → Prop} {S : HS} (h : P_X9_held_0 Q v0 v1 v2 v3 v4 v5 S) : P_X9_held v0 v1 v2 v3 v4 v5 Q S := h
theorem u_X9_held_0 {Q : Int32 → HS → Prop} {v0 : Nat} {v1 : Int32} {v2 : Int32} {v3 : Int32} {v4 : Int32} {v5 : Int32} {S : HS} (h : ob S v0 9 ∧ (P_X9_legTrouble v0 v1 v2 v3 v4 v5 (fun x3 S1 => Gr S S1 → (P_X9_refusedBy v0 x3 (fun x6 S4 => Gr S1 S4 → bl x6 → (((x6 = 0) → (∃ a8 : Nat, fR S4 v0 2 = some a8 ∧ (ob S4 a8 8 ∧ (∃ a9 : Nat, fR S4 a8 9 = some a9 ∧ (ob S4 a9 19 ∧ (vp_in v1 (hN S4 a9) ∧ ∃ a11 : Nat, fR S4 a9 v1.toNatClampNeg = some a11 ∧ (ob S4 a11 6 ∧ (∀ x12 : Int32, x12 = fI S4 a11 0 → (((x12 = (3 : Int32)) → (∃ a14 : Nat, fR S4 v0 4 = some a14 ∧ (∃ a15 : Nat, fR S4 v0 2 = some a15 ∧ (ob S4 a15 8 ∧ (∃ a16 : Nat, fR S4 a15 8 = some a16 ∧ (ob S4 a16 18 ∧ (vp_in v2 (hN S4 a16) ∧ ∃ a18 : Nat, fR S4 a16 v2.toNatClampNeg = some a18 ∧ (∃ a19 : Nat, fR S4 v0 2 = some a19 ∧ (ob S4 a19 8 ∧ (∃ a20 : Nat, fR S4 a19 6 = some a20 ∧ (ob S4 a20 17 ∧ (vp_in v4 (hN S4 a20) ∧ ∃ a22 : Nat, fR S4 a20 v4.toNatClampNeg = some a22 ∧ (ob S4 a14 1 ∧ (P_X1_lay a14 a18 v3 a22 v5 (fun S23 => Gr S4 S23 → (∃ a26 : Nat, fR S23 v0 4 = some a26 ∧ (∃ a27 : Nat, fR S23 v0 2 = some a27 ∧ (ob S23 a27 8 ∧ (∃ a28 : Nat, fR S23 a27 9 = some a28 ∧ (ob S23 a28 19 ∧ (vp_in v1 (hN S23 a28) ∧ ∃ a30 : Nat, fR S23 a28 v1.toNatClampNeg = some a30 ∧ (ob S23 a26 1 ∧ (P_X1_isForward a26 a30 (fun x33 S31 => Gr S23 S31 → bl x33 → (((x33 = 0) → (Q (0 : Int32) S31)) ∧ ((¬ x33 = 0) → (Q (1 : Int32) S31)))) S23))))))))) S4)))))))))))))) ∧ ((¬ x12 = (3 : Int32)) → (Q (-2 : Int32) S4))))))))))) ∧ ((¬ x6 = 0) → (Q (-1 : Int32) S4)))) S1)) S)) : P_X9_held_0 Q v0 v1 v2 v3 v4 v5 S := h
theorem u_X9_isFace {v0 : Int32} {Q : Int32 → HS → Prop} {S : HS} (h : P_X9_isFace_0 Q v0 S) : P_X9_isFace v0 Q S := h
theorem u_X9_isFace_0 {Q : Int32 → HS → Prop} {v0 : Int32} {S : HS} (h : ((v0 < 0) → (Q (0 : Int32) S)) ∧ ((¬ v0 < 0) → ((((5 : Int32) ≤ v0) → (Q (0 : Int32) S)) ∧ ((¬ (5 : Int32) ≤ v0) → (Q (1 : Int32) S))))) : P_X9_isFace_0 Q v0 S := h
theorem u_X9_isTill {v0 : Int32} {Q : Int32 → HS → Prop} {S : HS} (h : P_X9_isTill_0 Q v0 S) : P_X9_isTill v0 Q S := h
theorem u_X9_isTill_0 {Q : Int32 → HS → Prop} {v0 : Int32} {S : HS} (h : ((v0 < 0) → (Q (0 : Int32) S)) ∧ ((¬ v0 < 0) → ((((400 : Int32) < v0) → (Q (0 : Int32) S)) ∧ ((¬ (400 : Int32) < v0) → (Q (1 : Int32) S))))) : P_X9_isTill_0 Q v0 S := h
theorem u_X9_isWay {v0 : Int32} {Q : Int32 → HS → Prop} {S : HS} (h : P_X9_isWay_0 Q v0 S) : P_X9_isWay v0 Q S := h
theorem u_X9_isWay_0 {Q : Int32 → HS → Prop} {v0 : Int32} {S : HS} (h : ((v0 = 0) → (Q (1 : Int32) S)) ∧ ((¬ v0 = 0) → (((¬ v0 = (1 : Int32)) → (Q (0 : Int32) S)) ∧ ((v0 = (1 : Int32)) → (Q (1 : Int32) S))))) : P_X9_isWay_0 Q v0 S := h
theorem u_X9_least {v0 : Nat} {v1 : Int32} {v2 : Int32} {v3 : Int32} {v4 : Int32} {v5 : Int32} {v6 : Int32} {Q : Int64 → HS → Prop} {S : HS} (h : P_X9_least_0 Q v0 v1 v2 v3 v4 v5 v6 S) : P_X9_least v0 v1 v2 v3 v4 v5 v6 Q S := h
theorem u_X9_least_0 {Q : Int64 → HS → Prop} {v0 : Nat} {v1 : Int32} {v2 : Int32} {v3 : Int32} {v4 : Int32} {v5 : Int32} {v6 : Int32} {S : HS} (h : ob S v0 9 ∧ (P_X9_wayTrouble v0 v1 v2 v3 v4 v5 (fun x3 S1 => Gr S S1 → (P_X9_refusedBy v0 x3 (fun x6 S4 => Gr S1 S4 → bl x6 → (((x6 = 0) → (∃ a8 : Nat, fR S4 v0 5 = some a8 ∧ (ob S4 a8 7 ∧ (P_X7_meanFrom a8 v2 v4 (fun x11 S9 => Gr S4 S9 → (P_X9_fraction x11 (252000 : Int64) v6 (fun x14 S12 => Gr S9 S12 → (Q x14 S12)) S9)) S4)))) ∧ ((¬ x6 = 0) → (Q (-1 : Int64) S4)))) S1)) S)) : P_X9_least_0 Q v0 v1 v2 v3 v4 v5 v6 S := h
theorem u_X9_lee {v0 : Nat} {v1 : Int32} {v2 : Int32} {v3 : Int32} {v4 : Int32} {v5 : Int32} {v6 : Int32} {v7 : Int32} {Q : Int64 → HS → Prop} {S : HS} (h : P_X9_lee_0 Q v0 v1 v2 v3 v4 v5 v6 v7 S) : P_X9_lee v0 v1 v2 v3 v4 v5 v6 v7 Q S := h
theorem u_X9_lee_0 {Q : Int64 → HS → Prop} {v0 : Nat} {v1 : Int32} {v2 : Int32} {v3 : Int32} {v4 : Int32} {v5 : Int32} {v6 : Int32} {v7 : Int32} {S : HS} (h : ob S v0 9 ∧ (P_X9_leeTrouble v0 v1 v2 v3 v4 v5 v6 (fun x3 S1 => Gr S S1 → (P_X9_refusedBy v0 x3 (fun x6 S4 => Gr S1 S4 → bl x6 → (((x6 = 0) → (∃ a8 : Nat, fR S4 v0 4 = some a8 ∧ (∃ a9 : Nat, fR S4 v0 2 = some a9 ∧ (ob S4 a9 8 ∧ (∃ a10 : Nat, fR S4 a9 8 = some a10 ∧ (ob S4 a10 18 ∧ (vp_in v3 (hN S4 a10) ∧ ∃ a12 : Nat, fR S4 a10 v3.toNatClampNeg = some a12 ∧ (∃ a13 : Nat, fR S4 v0 2 = some a13 ∧ (ob S4 a13 8 ∧ (∃ a14 : Nat, fR S4 a13 6 = some a14 ∧ (ob S4 a14 17 ∧ (vp_in v5 (hN S4 a14) ∧ ∃ a16 : Nat, fR S4 a14 v5.toNatClampNeg = some a16 ∧ (ob S4 a8 1 ∧ (P_X1_lay a8 a12 v4 a16 v6 (fun S17 => Gr S4 S17 → (∃ a20 : Nat, fR S17 v0 4 = some a20 ∧ (∃ a21 : Nat, fR S17 v0 2 = some a21 ∧ (ob S17 a21 8 ∧ (∃ a22 : Nat, fR S17 a21 9 = some a22 ∧ (ob S17 a22 19 ∧ (vp_in v1 (hN S17 a22) ∧ ∃ a24 : Nat, fR S17 a22 v1.toNatClampNeg = some a24 ∧ (∃ a25 : Nat, fR S17 v0 2 = some a25 ∧ (ob S17 a25 8 ∧ (∃ a26 : Nat, fR S17 a25 9 = some a26 ∧ (ob S17 a26 19 ∧ (vp_in v2 (hN S17 a26) ∧ ∃ a28 : Nat, fR S17 a26 v2.toNatClampNeg = some a28 ∧ (ob S17 a20 1 ∧ (P_X1_wetInLee a20 a24 a28 (fun x31 S29 => Gr S17 S29 → (P_X9_fraction x31 (2520 : Int64) v7 (fun x34 S32 => Gr S29 S32 → (Q x34 S32)) S29)) S17)))))))))))))) S4)))))))))))))) ∧ ((¬ x6 = 0) → (Q (-1 : Int64) S4)))) S1)) S)) : P_X9_lee_0 Q v0 v1 v2 v3 v4 v5 v6 v7 S := h
theorem u_X9_leeTrouble {v0 : Nat} {v1 : Int32} {v2 : Int32} {v3 : Int32} {v4 : Int32} {v5 : Int32} {v6 : Int32} {Q : Int32 → HS → Prop} {S : HS} (h : P_X9_leeTrouble_0 Q v0 v1 v2 v3 v4 v5 v6 S) : P_X9_leeTrouble v0 v1 v2 v3 v4 v5 v6 Q S := h
theorem u_X9_leeTrouble_0 {Q : Int32 → HS → Prop} {v0 : Nat} {v1 : Int32} {v2 : Int32} {v3 : Int32} {v4 : Int32} {v5 : Int32} {v6 : Int32} {S : HS} (h : ((v1 = v2) → (Q (1 : Int32) S)) ∧ ((¬ v1 = v2) → (ob S v0 9 ∧ (∃ a2 : Nat, fR S v0 2 = some a2 ∧ (ob S a2 8 ∧ (P_X8_hasWalker a2 v1 (fun x5 S3 => Gr S S3 → bl x5 → (((x5 = 0) → (Q (1 : Int32) S3)) ∧ ((¬ x5 = 0) → (∃ a7 : Nat, fR S3 v0 2 = some a7 ∧ (ob S3 a7 8 ∧ (P_X8_hasWalker a7 v2 (fun x10 S8 => Gr S3 S8 → bl x10 → (((¬ x10 = 0) → (P_X9_legTrouble v0 v1 v3 v4 v5 v6 (fun x14 S12 => Gr S8 S12 → (((x14 = 0) → (∃ a16 : Nat, fR S12 v0 2 = some a16 ∧ (ob S12 a16 8 ∧ (∃ a17 : Nat, fR S12 a16 9 = some a17 ∧ (ob S12 a17 19 ∧ (vp_in v2 (hN S12 a17) ∧ ∃ a19 : Nat, fR S12 a17 v2.toNatClampNeg = some a19 ∧ (ob S12 a19 6 ∧ (P_X6_canGo a19 v6 (fun x22 S20 => Gr S12 S20 → bl x22 → (((x22 = 0) → (Q (2 : Int32) S20)) ∧ ((¬ x22 = 0) → (Q (0 : Int32) S20)))) S12)))))))) ∧ ((¬ x14 = 0) → (Q x14 S12)))) S8)) ∧ ((x10 = 0) → (Q (1 : Int32) S8)))) S3)))))) S)))))) : P_X9_leeTrouble_0 Q v0 v1 v2 v3 v4 v5 v6 S := h
theorem u_X9_legTrouble {v0 : Nat} {v1 : Int32} {v2 : Int32} {v3 : Int32} {v4 : Int32} {v5 : Int32} {Q : Int32 → HS → Prop} {S : HS} (h : P_X9_legTrouble_0 Q v0 v1 v2 v3 v4 v5 S) : P_X9_legTrouble v0 v1 v2 v3 v4 v5 Q S := h
theorem u_X9_legTrouble_0 {Q : Int32 → HS → Prop} {v0 : Nat} {v1 : Int32} {v2 : Int32} {v3 : Int32} {v4 : Int32} {v5 : Int32} {S : HS} (h : ob S v0 9 ∧ (P_X9_tripTrouble v0 v1 v2 v3 v4 (fun x3 S1 => Gr S S1 → (((x3 = 0) → (∃ a5 : Nat, fR S1 v0 2 = some a5 ∧ (ob S1 a5 8 ∧ (∃ a6 : Nat, fR S1 a5 9 = some a6 ∧ (ob S1 a6 19 ∧ (vp_in v1 (hN S1 a6) ∧ ∃ a8 : Nat, fR S1 a6 v1.toNatClampNeg = some a8 ∧ (ob S1 a8 6 ∧ (P_X6_canGo a8 v5 (fun x11 S9 => Gr S1 S9 → bl x11 → (((x11 = 0) → (Q (2 : Int32) S9)) ∧ ((¬ x11 = 0) → (Q (0 : Int32) S9)))) S1)))))))) ∧ ((¬ x3 = 0) → (Q x3 S1)))) S)) : P_X9_legTrouble_0 Q v0 v1 v2 v3 v4 v5 S := h
theorem u_X9_lies {v0 : Nat} {Q : Int32 → HS → Prop} {S : HS} (h : P_X9_lies_0 Q v0 S) : P_X9_lies v0 Q S := h
theorem u_X9_lies_0 {Q : Int32 → HS → Prop} {v0 : Nat} {S : HS} (h : ob S v0 9 ∧ (∃ a1 : Nat, fR S v0 2 = some a1 ∧ (ob S a1 8 ∧ (P_X8_isTold a1 (fun x4 S2 => Gr S S2 → bl x4 → (((¬ x4 = 0) → (P_X9_lies_20 Q v0 (0 : Int32) (0 : Int32) S2)) ∧ ((x4 = 0) → (P_X9_refuse v0 (1 : Int32) (fun x8 S6 => Gr S2 S6 → (Q x8 S6)) S2)))) S)))) : P_X9_lies_0 Q v0 S := h
theorem u_X9_lies_20 {Q : Int32 → HS → Prop} {X20 : Nat → Int32 → Int32 → HS → Prop} {v0 : Nat} {v1 : Int32} {v2 : Int32} {S : HS} (h : ob S v0 9 ∧ (∃ a1 : Nat, fR S v0 2 = some a1 ∧ (ob S a1 8 ∧ (∀ x2 : Int32, x2 = fI S a1 5 → (((x2 ≤ v2) → (P_X9_grant v0 v1 (fun x6 S4 => Gr S S4 → (Q x6 S4)) S)) ∧ ((¬ x2 ≤ v2) → (∃ a7 : Nat, fR S v0 4 = some a7 ∧ (∃ a8 : Nat, fR S v0 2 = some a8 ∧ (ob S a7 1 ∧ (P_X1_findFit a7 a8 v2 (0 : Int32) (fun x11 S9 => Gr S S9 → (((¬ x11 = (-1 : Int32)) → (P_X9_lies_54 Q X20 v0 v1 v2 S9)) ∧ ((x11 = (-1 : Int32)) → (∀ x13 : Int32, x13 = v1 ||| ((1 : Int32) <<< (v2 &&& 31)) → (P_X9_lies_54 Q X20 v0 x13 v2 S9))))) S)))))))))) : B_X9_lies_20 Q X20 v0 v1 v2 S := h
theorem i_X9_lies_20 {Q : Int32 → HS → Prop} (μ : Nat → Int32 → Int32 → HS → Nat) (I : Nat → Int32 → Int32 → HS → Prop) (hs : ∀ (v0 : Nat) (v1 : Int32) (v2 : Int32) (S : HS) (X : Nat → Int32 → Int32 → HS → Prop), I v0 v1 v2 S → (∀ (w0 : Nat) (w1 : Int32) (w2 : Int32) (T : HS), I w0 w1 w2 T → μ w0 w1 w2 T < μ v0 v1 v2 S → X w0 w1 w2 T) → B_X9_lies_20 Q X v0 v1 v2 S) : ∀ (v0 : Nat) (v1 : Int32) (v2 : Int32) (S : HS), I v0 v1 v2 S → P_X9_lies_20 Q v0 v1 v2 S := by
  intro v0 v1 v2 S h X hX
  have key : ∀ (z : Nat) (v0 : Nat) (v1 : Int32) (v2 : Int32) (S : HS), μ v0 v1 v2 S < z → I v0 v1 v2 S → X v0 v1 v2 S := by
    intro z
    induction z with
    | zero => intro v0 v1 v2 S hz; exact absurd hz (Nat.not_lt_zero _)
    | succ z ih => intro v0 v1 v2 S hz hI; exact hX _ _ _ _ (hs _ _ _ _ _ hI (fun w0 w1 w2 T hT hl => ih _ _ _ _ (by omega) hT))
  exact key _ _ _ _ _ (Nat.lt_succ_self _) h
theorem u_X9_lies_54 {Q : Int32 → HS → Prop} {X20 : Nat → Int32 → Int32 → HS → Prop} {v0 : Nat} {v1 : Int32} {v2 : Int32} {S : HS} (h : ∀ x1 : Int32, x1 = v2 + (1 : Int32) → (X20 v0 v1 x1 S)) : P_X9_lies_54 Q X20 v0 v1 v2 S := h
theorem u_X9_mark {v0 : Nat} {Q : Int32 → HS → Prop} {S : HS} (h : P_X9_mark_0 Q v0 S) : P_X9_mark v0 Q S := h
theorem u_X9_mark_0 {Q : Int32 → HS → Prop} {v0 : Nat} {S : HS} (h : ob S v0 9 ∧ (∃ a1 : Nat, fR S v0 6 = some a1 ∧ (ob S a1 0 ∧ (P_X0_isOn a1 (fun x4 S2 => Gr S S2 → bl x4 → (((¬ x4 = 0) → (∃ a6 : Nat, fR S2 v0 6 = some a6 ∧ (ob S2 a6 0 ∧ (P_X0_setMark a6 (fun x9 S7 => Gr S2 S7 → (((¬ x9 = (-1 : Int32)) → (P_X9_grant v0 x9 (fun x13 S11 => Gr S7 S11 → (Q x13 S11)) S7)) ∧ ((x9 = (-1 : Int32)) → (P_X9_refuse v0 (3 : Int32) (fun x16 S14 => Gr S7 S14 → (Q x16 S14)) S7)))) S2)))) ∧ ((x4 = 0) → (P_X9_refuse v0 (1 : Int32) (fun x19 S17 => Gr S2 S17 → (Q x19 S17)) S2)))) S)))) : P_X9_mark_0 Q v0 S := h
theorem u_X9_mean {v0 : Nat} {v1 : Int32} {v2 : Int32} {v3 : Int32} {v4 : Int32} {v5 : Int32} {v6 : Int32} {Q : Int64 → HS → Prop} {S : HS} (h : P_X9_mean_0 Q v0 v1 v2 v3 v4 v5 v6 S) : P_X9_mean v0 v1 v2 v3 v4 v5 v6 Q S := h
theorem u_X9_mean_0 {Q : Int64 → HS → Prop} {v0 : Nat} {v1 : Int32} {v2 : Int32} {v3 : Int32} {v4 : Int32} {v5 : Int32} {v6 : Int32} {S : HS} (h : ob S v0 9 ∧ (P_X9_legTrouble v0 v1 v2 v3 v4 v5 (fun x3 S1 => Gr S S1 → (P_X9_refusedBy v0 x3 (fun x6 S4 => Gr S1 S4 → bl x6 → (((x6 = 0) → (∃ a8 : Nat, fR S4 v0 4 = some a8 ∧ (∃ a9 : Nat, fR S4 v0 2 = some a9 ∧ (ob S4 a9 8 ∧ (∃ a10 : Nat, fR S4 a9 9 = some a10 ∧ (ob S4 a10 19 ∧ (vp_in v1 (hN S4 a10) ∧ ∃ a12 : Nat, fR S4 a10 v1.toNatClampNeg = some a12 ∧ (∃ a13 : Nat, fR S4 v0 2 = some a13 ∧ (ob S4 a13 8 ∧ (∃ a14 : Nat, fR S4 a13 8 = some a14 ∧ (ob S4 a14 18 ∧ (vp_in v2 (hN S4 a14) ∧ ∃ a16 : Nat, fR S4 a14 v2.toNatClampNeg = some a16 ∧ (∃ a17 : Nat, fR S4 v0 2 = some a17 ∧ (ob S4 a17 8 ∧ (∃ a18 : Nat, fR S4 a17 6 = some a18 ∧ (ob S4 a18 17 ∧ (vp_in v4 (hN S4 a18) ∧ ∃ a20 : Nat, fR S4 a18 v4.toNatClampNeg = some a20 ∧ (ob S4 a8 1 ∧ (P_X1_wetOf a8 a12 a16 v3 a20 v5 (fun x23 S21 => Gr S4 S21 → (∃ a24 : Nat, fR S21 v0 2 = some a24 ∧ (ob S21 a24 8 ∧ (∃ a25 : Nat, fR S21 a24 6 = some a25 ∧ (ob S21 a25 17 ∧ (vp_in v4 (hN S21 a25) ∧ ∃ a27 : Nat, fR S21 a25 v4.toNatClampNeg = some a27 ∧ (ob S21 a27 3 ∧ (∀ x28 : Int32, x28 = fI S21 a27 4 → (P_X9_fraction (x23 * x28.toInt64) (252000 : Int64) v6 (fun x31 S29 => Gr S21 S29 → (Q x31 S29)) S21))))))))) S4))))))))))))))))))) ∧ ((¬ x6 = 0) → (Q (-1 : Int64) S4)))) S1)) S)) : P_X9_mean_0 Q v0 v1 v2 v3 v4 v5 v6 S := h
theorem u_X9_minutes {v0 : Nat} {v1 : Int32} {v2 : Int32} {v3 : Int32} {Q : Int32 → HS → Prop} {S : HS} (h : P_X9_minutes_0 Q v0 v1 v2 v3 S) : P_X9_minutes v0 v1 v2 v3 Q S := h
theorem u_X9_minutes_0 {Q : Int32 → HS → Prop} {v0 : Nat} {v1 : Int32} {v2 : Int32} {v3 : Int32} {S : HS} (h : ob S v0 9 ∧ (∃ a1 : Nat, fR S v0 2 = some a1 ∧ (ob S a1 8 ∧ (P_X8_hasWalker a1 v1 (fun x4 S2 => Gr S S2 → bl x4 → (((x4 = 0) → (P_X9_minutes_22 Q v0 S2)) ∧ ((¬ x4 = 0) → (∃ a6 : Nat, fR S2 v0 2 = some a6 ∧ (ob S2 a6 8 ∧ (P_X8_hasRoad a6 v2 (fun x9 S7 => Gr S2 S7 → bl x9 → (((¬ x9 = 0) → (∃ a11 : Nat, fR S7 v0 2 = some a11 ∧ (ob S7 a11 8 ∧ (∃ a12 : Nat, fR S7 a11 9 = some a12 ∧ (ob S7 a12 19 ∧ (vp_in v1 (hN S7 a12) ∧ ∃ a14 : Nat, fR S7 a12 v1.toNatClampNeg = some a14 ∧ (ob S7 a14 6 ∧ (P_X6_canGo a14 v3 (fun x17 S15 => Gr S7 S15 → bl x17 → (((¬ x17 = 0) → (∃ a19 : Nat, fR S15 v0 2 = some a19 ∧ (ob S15 a19 8 ∧ (∃ a20 : Nat, fR S15 a19 8 = some a20 ∧ (ob S15 a20 18 ∧ (vp_in v2 (hN S15 a20) ∧ ∃ a22 : Nat, fR S15 a20 v2.toNatClampNeg = some a22 ∧ (ob S15 a22 5 ∧ (P_X5_minutesAt a22 v3 (fun x25 S23 => Gr S15 S23 → (P_X9_grant v0 x25 (fun x28 S26 => Gr S23 S26 → (Q x28 S26)) S23)) S15)))))))) ∧ ((x17 = 0) → (P_X9_refuse v0 (2 : Int32) (fun x31 S29 => Gr S15 S29 → (Q x31 S29)) S15)))) S7)))))))) ∧ ((x9 = 0) → (P_X9_minutes_22 Q v0 S7)))) S2)))))) S)))) : P_X9_minutes_0 Q v0 v1 v2 v3 S := h
theorem u_X9_minutes_22 {Q : Int32 → HS → Prop} {v0 : Nat} {S : HS} (h : ob S v0 9 ∧ (P_X9_refuse v0 (1 : Int32) (fun x3 S1 => Gr S S1 → (Q x3 S1)) S)) : P_X9_minutes_22 Q v0 S := h
theorem u_X9_off {v0 : Nat} {v1 : Int32} {v2 : Int32} {v3 : Int32} {v4 : Int32} {Q : Int32 → HS → Prop} {S : HS} (h : P_X9_off_0 Q v0 v1 v2 v3 v4 S) : P_X9_off v0 v1 v2 v3 v4 Q S := h
theorem u_X9_off_0 {Q : Int32 → HS → Prop} {v0 : Nat} {v1 : Int32} {v2 : Int32} {v3 : Int32} {v4 : Int32} {S : HS} (h : ob S v0 9 ∧ (P_X9_placesTrouble v0 v1 v2 v3 (fun x3 S1 => Gr S S1 → (((¬ x3 = 0) → (P_X9_off_25 Q v0 v1 v2 v3 v4 x3 S1)) ∧ ((x3 = 0) → (P_X9_isTill v4 (fun x7 S5 => Gr S1 S5 → bl x7 → (((¬ x7 = 0) → (P_X9_off_25 Q v0 v1 v2 v3 v4 x3 S5)) ∧ ((x7 = 0) → (P_X9_off_25 Q v0 v1 v2 v3 v4 (2 : Int32) S5)))) S1)))) S)) : P_X9_off_0 Q v0 v1 v2 v3 v4 S := h
theorem u_X9_off_25 {Q : Int32 → HS → Prop} {v0 : Nat} {v1 : Int32} {v2 : Int32} {v3 : Int32} {v4 : Int32} {v5 : Int32} {S : HS} (h : ob S v0 9 ∧ (P_X9_refusedBy v0 v5 (fun x3 S1 => Gr S S1 → bl x3 → (((x3 = 0) → (∃ a5 : Nat, fR S1 v0 5 = some a5 ∧ (∃ a6 : Nat, fR S1 v0 2 = some a6 ∧ (∃ a7 : Nat, fR S1 v0 4 = some a7 ∧ (ob S1 a5 7 ∧ (P_X7_reckon a5 a6 a7 v1 v3 v4 (0 : Int32) (fun S8 => Gr S1 S8 → (P_X9_off_62 Q v0 v2 v4 (-1 : Int32) (0 : Int32) S8)) S1)))))) ∧ ((¬ x3 = 0) → (Q (-1 : Int32) S1)))) S)) : P_X9_off_25 Q v0 v1 v2 v3 v4 v5 S := h
theorem u_X9_off_62 {Q : Int32 → HS → Prop} {X62 : Nat → Int32 → Int32 → Int32 → Int32 → HS → Prop} {v0 : Nat} {v2 : Int32} {v4 : Int32} {v6 : Int32} {v7 : Int32} {S : HS} (h : ((v4 < v7) → (((¬ v6 = (-1 : Int32)) → (Q v6 S)) ∧ ((v6 = (-1 : Int32)) → (ob S v0 9 ∧ (P_X9_refuse v0 (6 : Int32) (fun x5 S3 => Gr S S3 → (Q x5 S3)) S))))) ∧ ((¬ v4 < v7) → (((v6 = (-1 : Int32)) → (P_X9_off_99 Q X62 v0 v2 v4 v6 v7 S)) ∧ ((¬ v6 = (-1 : Int32)) → (ob S v0 9 ∧ (∃ a7 : Nat, fR S v0 5 = some a7 ∧ (ob S a7 7 ∧ (P_X7_meanFrom a7 v2 v7 (fun x10 S8 => Gr S S8 → (∃ a11 : Nat, fR S8 v0 5 = some a11 ∧ (ob S8 a11 7 ∧ (P_X7_meanFrom a11 v2 v6 (fun x14 S12 => Gr S8 S12 → (((0 ≤ (lg_cmp x10 x14)) → (P_X9_off_104 Q X62 v0 v2 v4 v6 v7 (0 : Int32) S12)) ∧ ((¬ 0 ≤ (lg_cmp x10 x14)) → (P_X9_off_99 Q X62 v0 v2 v4 v6 v7 S12)))) S8)))) S)))))))) : B_X9_off_62 Q X62 v0 v2 v4 v6 v7 S := h
theorem i_X9_off_62 {Q : Int32 → HS → Prop} (μ : Nat → Int32 → Int32 → Int32 → Int32 → HS → Nat) (I : Nat → Int32 → Int32 → Int32 → Int32 → HS → Prop) (hs : ∀ (v0 : Nat) (v2 : Int32) (v4 : Int32) (v6 : Int32) (v7 : Int32) (S : HS) (X : Nat → Int32 → Int32 → Int32 → Int32 → HS → Prop), I v0 v2 v4 v6 v7 S → (∀ (w0 : Nat) (w2 : Int32) (w4 : Int32) (w6 : Int32) (w7 : Int32) (T : HS), I w0 w2 w4 w6 w7 T → μ w0 w2 w4 w6 w7 T < μ v0 v2 v4 v6 v7 S → X w0 w2 w4 w6 w7 T) → B_X9_off_62 Q X v0 v2 v4 v6 v7 S) : ∀ (v0 : Nat) (v2 : Int32) (v4 : Int32) (v6 : Int32) (v7 : Int32) (S : HS), I v0 v2 v4 v6 v7 S → P_X9_off_62 Q v0 v2 v4 v6 v7 S := by
  intro v0 v2 v4 v6 v7 S h X hX
  have key : ∀ (z : Nat) (v0 : Nat) (v2 : Int32) (v4 : Int32) (v6 : Int32) (v7 : Int32) (S : HS), μ v0 v2 v4 v6 v7 S < z → I v0 v2 v4 v6 v7 S → X v0 v2 v4 v6 v7 S := by
    intro z
    induction z with
    | zero => intro v0 v2 v4 v6 v7 S hz; exact absurd hz (Nat.not_lt_zero _)
    | succ z ih => intro v0 v2 v4 v6 v7 S hz hI; exact hX _ _ _ _ _ _ (hs _ _ _ _ _ _ _ hI (fun w0 w2 w4 w6 w7 T hT hl => ih _ _ _ _ _ _ (by omega) hT))
  exact key _ _ _ _ _ _ _ (Nat.lt_succ_self _) h
theorem u_X9_off_99 {Q : Int32 → HS → Prop} {X62 : Nat → Int32 → Int32 → Int32 → Int32 → HS → Prop} {v0 : Nat} {v2 : Int32} {v4 : Int32} {v6 : Int32} {v7 : Int32} {S : HS} (h : P_X9_off_104 Q X62 v0 v2 v4 v6 v7 (1 : Int32) S) : P_X9_off_99 Q X62 v0 v2 v4 v6 v7 S := h
theorem u_X9_off_104 {Q : Int32 → HS → Prop} {X62 : Nat → Int32 → Int32 → Int32 → Int32 → HS → Prop} {v0 : Nat} {v2 : Int32} {v4 : Int32} {v6 : Int32} {v7 : Int32} {s0 : Int32} {S : HS} (h : ob S v0 9 ∧ (∃ a1 : Nat, fR S v0 5 = some a1 ∧ (ob S a1 7 ∧ (P_X7_isOpen a1 v2 v7 (fun x4 S2 => Gr S S2 → bl x4 → (((x4 = 0) → (P_X9_off_128 Q X62 v0 v2 v4 v6 v7 S2)) ∧ ((¬ x4 = 0) → (((s0 = 0) → (P_X9_off_128 Q X62 v0 v2 v4 v6 v7 S2)) ∧ ((¬ s0 = 0) → (P_X9_off_128 Q X62 v0 v2 v4 v7 v7 S2)))))) S)))) : P_X9_off_104 Q X62 v0 v2 v4 v6 v7 s0 S := h
theorem u_X9_off_128 {Q : Int32 → HS → Prop} {X62 : Nat → Int32 → Int32 → Int32 → Int32 → HS → Prop} {v0 : Nat} {v2 : Int32} {v4 : Int32} {v6 : Int32} {v7 : Int32} {S : HS} (h : ∀ x1 : Int32, x1 = v7 + (1 : Int32) → (X62 v0 v2 v4 v6 x1 S)) : P_X9_off_128 Q X62 v0 v2 v4 v6 v7 S := h
theorem u_X9_placesTrouble {v0 : Nat} {v1 : Int32} {v2 : Int32} {v3 : Int32} {Q : Int32 → HS → Prop} {S : HS} (h : P_X9_placesTrouble_0 Q v0 v1 v2 v3 S) : P_X9_placesTrouble v0 v1 v2 v3 Q S := h
theorem u_X9_placesTrouble_0 {Q : Int32 → HS → Prop} {v0 : Nat} {v1 : Int32} {v2 : Int32} {v3 : Int32} {S : HS} (h : ob S v0 9 ∧ (∃ a1 : Nat, fR S v0 2 = some a1 ∧ (ob S a1 8 ∧ (P_X8_hasWalker a1 v1 (fun x4 S2 => Gr S S2 → bl x4 → (((x4 = 0) → (P_X9_placesTrouble_37 Q S2)) ∧ ((¬ x4 = 0) → (∃ a6 : Nat, fR S2 v0 2 = some a6 ∧ (ob S2 a6 8 ∧ (P_X8_hasPlace a6 v2 (fun x9 S7 => Gr S2 S7 → bl x9 → (((x9 = 0) → (P_X9_placesTrouble_37 Q S7)) ∧ ((¬ x9 = 0) → (∃ a11 : Nat, fR S7 v0 2 = some a11 ∧ (ob S7 a11 8 ∧ (P_X8_hasPlace a11 v3 (fun x14 S12 => Gr S7 S12 → bl x14 → (((x14 = 0) → (P_X9_placesTrouble_37 Q S12)) ∧ ((¬ x14 = 0) → (P_X9_placesTrouble_38 Q (1 : Int32) S12)))) S7)))))) S2)))))) S)))) : P_X9_placesTrouble_0 Q v0 v1 v2 v3 S := h
theorem u_X9_placesTrouble_37 {Q : Int32 → HS → Prop}  {S : HS} (h : P_X9_placesTrouble_38 Q (0 : Int32) S) : P_X9_placesTrouble_37 Q S := h
theorem u_X9_placesTrouble_38 {Q : Int32 → HS → Prop} {s0 : Int32} {S : HS} (h : ((s0 = 0) → (Q (1 : Int32) S)) ∧ ((¬ s0 = 0) → (Q (0 : Int32) S))) : P_X9_placesTrouble_38 Q s0 S := h
theorem u_X9_putBytes {v0 : Nat} {v1 : Int32} {Q : HS → Prop} {S : HS} (h : P_X9_putBytes_0 Q v0 v1 S) : P_X9_putBytes v0 v1 Q S := h
theorem u_X9_putBytes_0 {Q : HS → Prop} {v0 : Nat} {v1 : Int32} {S : HS} (h : P_X9_putBytes_3 Q v0 v1 (24 : Int32) S) : P_X9_putBytes_0 Q v0 v1 S := h
theorem u_X9_putBytes_3 {Q : HS → Prop} {X3 : Nat → Int32 → Int32 → HS → Prop} {v0 : Nat} {v1 : Int32} {v2 : Int32} {S : HS} (h : ((v2 < 0) → (Q S)) ∧ ((¬ v2 < 0) → (ob S v0 9 ∧ (∀ x2 : Int32, x2 = fI S v0 1 → (((x2 < 0) → (P_X9_putBytes_49 Q X3 v0 v1 v2 S)) ∧ ((¬ x2 < 0) → (∀ x4 : Int32, x4 = fI S v0 1 → (∃ a5 : Nat, fR S v0 0 = some a5 ∧ (ob S a5 12 ∧ ((((nI (hN S a5)) ≤ x4) → (P_X9_putBytes_49 Q X3 v0 v1 v2 S)) ∧ ((¬ (nI (hN S a5)) ≤ x4) → (∃ a7 : Nat, fR S v0 0 = some a7 ∧ (∀ x8 : Int32, x8 = fI S v0 1 → (ob S a7 12 ∧ (∀ x10 : Int32, x10 = ((v1.toUInt32 >>> (v2.toUInt32 &&& Int32.toUInt32 31)).toInt32).toInt8.toInt32 → (vp_in x8 (hN S a7) ∧ (∀ S11 : HS, S11 = sI S a7 x8.toNatClampNeg (vp_nar .byte x10) → (∀ x12 : Int32, x12 = fI S11 v0 1 → (∀ x13 : Int32, x13 = x12 + (1 : Int32) → (∀ S14 : HS, S14 = sI S11 v0 1 x13 → (P_X9_putBytes_49 Q X3 v0 v1 v2 S14))))))))))))))))))))) : B_X9_putBytes_3 Q X3 v0 v1 v2 S := h
theorem i_X9_putBytes_3 {Q : HS → Prop} (μ : Nat → Int32 → Int32 → HS → Nat) (I : Nat → Int32 → Int32 → HS → Prop) (hs : ∀ (v0 : Nat) (v1 : Int32) (v2 : Int32) (S : HS) (X : Nat → Int32 → Int32 → HS → Prop), I v0 v1 v2 S → (∀ (w0 : Nat) (w1 : Int32) (w2 : Int32) (T : HS), I w0 w1 w2 T → μ w0 w1 w2 T < μ v0 v1 v2 S → X w0 w1 w2 T) → B_X9_putBytes_3 Q X v0 v1 v2 S) : ∀ (v0 : Nat) (v1 : Int32) (v2 : Int32) (S : HS), I v0 v1 v2 S → P_X9_putBytes_3 Q v0 v1 v2 S := by
  intro v0 v1 v2 S h X hX
  have key : ∀ (z : Nat) (v0 : Nat) (v1 : Int32) (v2 : Int32) (S : HS), μ v0 v1 v2 S < z → I v0 v1 v2 S → X v0 v1 v2 S := by
    intro z
    induction z with
    | zero => intro v0 v1 v2 S hz; exact absurd hz (Nat.not_lt_zero _)
    | succ z ih => intro v0 v1 v2 S hz hI; exact hX _ _ _ _ (hs _ _ _ _ _ hI (fun w0 w1 w2 T hT hl => ih _ _ _ _ (by omega) hT))
  exact key _ _ _ _ _ (Nat.lt_succ_self _) h
theorem u_X9_putBytes_49 {Q : HS → Prop} {X3 : Nat → Int32 → Int32 → HS → Prop} {v0 : Nat} {v1 : Int32} {v2 : Int32} {S : HS} (h : ∀ x1 : Int32, x1 = v2 + (-8 : Int32) → (X3 v0 v1 x1 S)) : P_X9_putBytes_49 Q X3 v0 v1 v2 S := h
theorem u_X9_refuse {v0 : Nat} {v1 : Int32} {Q : Int32 → HS → Prop} {S : HS} (h : P_X9_refuse_0 Q v0 v1 S) : P_X9_refuse v0 v1 Q S := h
theorem u_X9_refuse_0 {Q : Int32 → HS → Prop} {v0 : Nat} {v1 : Int32} {S : HS} (h : ob S v0 9 ∧ (∀ S1 : HS, S1 = sI S v0 9 v1 → (Q (-1 : Int32) S1))) : P_X9_refuse_0 Q v0 v1 S := h
theorem u_X9_refusedBy {v0 : Nat} {v1 : Int32} {Q : Int32 → HS → Prop} {S : HS} (h : P_X9_refusedBy_0 Q v0 v1 S) : P_X9_refusedBy v0 v1 Q S := h
theorem u_X9_refusedBy_0 {Q : Int32 → HS → Prop} {v0 : Nat} {v1 : Int32} {S : HS} (h : ob S v0 9 ∧ (∀ S1 : HS, S1 = sI S v0 9 v1 → (((v1 = 0) → (Q (0 : Int32) S1)) ∧ ((¬ v1 = 0) → (Q (1 : Int32) S1))))) : P_X9_refusedBy_0 Q v0 v1 S := h
theorem u_X9_road {v0 : Nat} {v1 : Int32} {v2 : Int32} {Q : Int32 → HS → Prop} {S : HS} (h : P_X9_road_0 Q v0 v1 v2 S) : P_X9_road v0 v1 v2 Q S := h
theorem u_X9_road_0 {Q : Int32 → HS → Prop} {v0 : Nat} {v1 : Int32} {v2 : Int32} {S : HS} (h : ob S v0 9 ∧ (∃ a1 : Nat, fR S v0 2 = some a1 ∧ (ob S a1 8 ∧ (P_X8_hasRoad a1 v1 (fun x4 S2 => Gr S S2 → bl x4 → (((x4 = 0) → (P_X9_road_20 Q v0 S2)) ∧ ((¬ x4 = 0) → (((v2 < 0) → (P_X9_road_20 Q v0 S2)) ∧ ((¬ v2 < 0) → (((v2 ≤ (4 : Int32)) → (∃ a8 : Nat, fR S2 v0 2 = some a8 ∧ (ob S2 a8 8 ∧ (∃ a9 : Nat, fR S2 a8 8 = some a9 ∧ (ob S2 a9 18 ∧ (vp_in v1 (hN S2 a9) ∧ ∃ a11 : Nat, fR S2 a9 v1.toNatClampNeg = some a11 ∧ (ob S2 a11 5 ∧ (P_X5_tell a11 v2 (fun x14 S12 => Gr S2 S12 → (P_X9_grant v0 x14 (fun x17 S15 => Gr S12 S15 → (Q x17 S15)) S12)) S2)))))))) ∧ ((¬ v2 ≤ (4 : Int32)) → (P_X9_road_20 Q v0 S2)))))))) S)))) : P_X9_road_0 Q v0 v1 v2 S := h
theorem u_X9_road_20 {Q : Int32 → HS → Prop} {v0 : Nat} {S : HS} (h : ob S v0 9 ∧ (P_X9_refuse v0 (1 : Int32) (fun x3 S1 => Gr S S1 → (Q x3 S1)) S)) : P_X9_road_20 Q v0 S := h
theorem u_X9_round {v0 : Nat} {v1 : Int32} {v2 : Int32} {v3 : Int32} {v4 : Int32} {Q : Int64 → HS → Prop} {S : HS} (h : P_X9_round_0 Q v0 v1 v2 v3 v4 S) : P_X9_round v0 v1 v2 v3 v4 Q S := h
theorem u_X9_round_0 {Q : Int64 → HS → Prop} {v0 : Nat} {v1 : Int32} {v2 : Int32} {v3 : Int32} {v4 : Int32} {S : HS} (h : ob S v0 9 ∧ (P_X9_tripTrouble v0 v1 v2 (0 : Int32) v3 (fun x3 S1 => Gr S S1 → (P_X9_refusedBy v0 x3 (fun x6 S4 => Gr S1 S4 → bl x6 → (((x6 = 0) → (∃ a8 : Nat, fR S4 v0 4 = some a8 ∧ (∃ a9 : Nat, fR S4 v0 2 = some a9 ∧ (ob S4 a9 8 ∧ (∃ a10 : Nat, fR S4 a9 9 = some a10 ∧ (ob S4 a10 19 ∧ (vp_in v1 (hN S4 a10) ∧ ∃ a12 : Nat, fR S4 a10 v1.toNatClampNeg = some a12 ∧ (∃ a13 : Nat, fR S4 v0 2 = some a13 ∧ (ob S4 a13 8 ∧ (∃ a14 : Nat, fR S4 a13 8 = some a14 ∧ (ob S4 a14 18 ∧ (vp_in v2 (hN S4 a14) ∧ ∃ a16 : Nat, fR S4 a14 v2.toNatClampNeg = some a16 ∧ (∃ a17 : Nat, fR S4 v0 2 = some a17 ∧ (ob S4 a17 8 ∧ (∃ a18 : Nat, fR S4 a17 6 = some a18 ∧ (ob S4 a18 17 ∧ (vp_in v3 (hN S4 a18) ∧ ∃ a20 : Nat, fR S4 a18 v3.toNatClampNeg = some a20 ∧ (ob S4 a8 1 ∧ (P_X1_leastWet a8 a12 a16 (0 : Int32) a20 (fun x23 S21 => Gr S4 S21 → (∃ a24 : Nat, fR S21 v0 4 = some a24 ∧ (∃ a25 : Nat, fR S21 v0 2 = some a25 ∧ (ob S21 a25 8 ∧ (∃ a26 : Nat, fR S21 a25 9 = some a26 ∧ (ob S21 a26 19 ∧ (vp_in v1 (hN S21 a26) ∧ ∃ a28 : Nat, fR S21 a26 v1.toNatClampNeg = some a28 ∧ (∃ a29 : Nat, fR S21 v0 2 = some a29 ∧ (ob S21 a29 8 ∧ (∃ a30 : Nat, fR S21 a29 8 = some a30 ∧ (ob S21 a30 18 ∧ (vp_in v2 (hN S21 a30) ∧ ∃ a32 : Nat, fR S21 a30 v2.toNatClampNeg = some a32 ∧ (∃ a33 : Nat, fR S21 v0 2 = some a33 ∧ (ob S21 a33 8 ∧ (∃ a34 : Nat, fR S21 a33 6 = some a34 ∧ (ob S21 a34 17 ∧ (vp_in v3 (hN S21 a34) ∧ ∃ a36 : Nat, fR S21 a34 v3.toNatClampNeg = some a36 ∧ (ob S21 a24 1 ∧ (P_X1_leastWet a24 a28 a32 (1 : Int32) a36 (fun x39 S37 => Gr S21 S37 → (P_X9_fraction (x23 + x39) (2520 : Int64) v4 (fun x42 S40 => Gr S37 S40 → (Q x42 S40)) S37)) S21))))))))))))))))))) S4))))))))))))))))))) ∧ ((¬ x6 = 0) → (Q (-1 : Int64) S4)))) S1)) S)) : P_X9_round_0 Q v0 v1 v2 v3 v4 S := h
theorem u_X9_saves {v0 : Nat} {v1 : Int32} {v2 : Int32} {v3 : Int32} {v4 : Int32} {v5 : Int32} {Q : Int64 → HS → Prop} {S : HS} (h : P_X9_saves_0 Q v0 v1 v2 v3 v4 v5 S) : P_X9_saves v0 v1 v2 v3 v4 v5 Q S := h
theorem u_X9_saves_0 {Q : Int64 → HS → Prop} {v0 : Nat} {v1 : Int32} {v2 : Int32} {v3 : Int32} {v4 : Int32} {v5 : Int32} {S : HS} (h : ob S v0 9 ∧ (P_X9_tripTrouble v0 v1 v2 v3 v4 (fun x3 S1 => Gr S S1 → (P_X9_refusedBy v0 x3 (fun x6 S4 => Gr S1 S4 → bl x6 → (((x6 = 0) → (∃ a8 : Nat, fR S4 v0 2 = some a8 ∧ (ob S4 a8 8 ∧ (∃ a9 : Nat, fR S4 a8 9 = some a9 ∧ (ob S4 a9 19 ∧ (vp_in v1 (hN S4 a9) ∧ ∃ a11 : Nat, fR S4 a9 v1.toNatClampNeg = some a11 ∧ (∃ a12 : Nat, fR S4 v0 4 = some a12 ∧ (∃ a13 : Nat, fR S4 v0 2 = some a13 ∧ (ob S4 a13 8 ∧ (∃ a14 : Nat, fR S4 a13 8 = some a14 ∧ (ob S4 a14 18 ∧ (vp_in v2 (hN S4 a14) ∧ ∃ a16 : Nat, fR S4 a14 v2.toNatClampNeg = some a16 ∧ (∃ a17 : Nat, fR S4 v0 2 = some a17 ∧ (ob S4 a17 8 ∧ (∃ a18 : Nat, fR S4 a17 6 = some a18 ∧ (ob S4 a18 17 ∧ (vp_in v4 (hN S4 a18) ∧ ∃ a20 : Nat, fR S4 a18 v4.toNatClampNeg = some a20 ∧ (ob S4 a11 6 ∧ (∀ x21 : Int32, x21 = fI S4 a11 5 → (ob S4 a12 1 ∧ (P_X1_wetOf a12 a11 a16 v3 a20 x21 (fun x24 S22 => Gr S4 S22 → (∃ a25 : Nat, fR S22 v0 4 = some a25 ∧ (∃ a26 : Nat, fR S22 v0 2 = some a26 ∧ (ob S22 a26 8 ∧ (∃ a27 : Nat, fR S22 a26 8 = some a27 ∧ (ob S22 a27 18 ∧ (vp_in v2 (hN S22 a27) ∧ ∃ a29 : Nat, fR S22 a27 v2.toNatClampNeg = some a29 ∧ (∃ a30 : Nat, fR S22 v0 2 = some a30 ∧ (ob S22 a30 8 ∧ (∃ a31 : Nat, fR S22 a30 6 = some a31 ∧ (ob S22 a31 17 ∧ (vp_in v4 (hN S22 a31) ∧ ∃ a33 : Nat, fR S22 a31 v4.toNatClampNeg = some a33 ∧ (ob S22 a25 1 ∧ (P_X1_leastWet a25 a11 a29 v3 a33 (fun x36 S34 => Gr S22 S34 → (P_X9_fraction (x24 - x36) (2520 : Int64) v5 (fun x39 S37 => Gr S34 S37 → (Q x39 S37)) S34)) S22)))))))))))))) S4))))))))))))))))))))) ∧ ((¬ x6 = 0) → (Q (-1 : Int64) S4)))) S1)) S)) : P_X9_saves_0 Q v0 v1 v2 v3 v4 v5 S := h
theorem u_X9_size {v0 : Nat} {v1 : Int32} {Q : Int32 → HS → Prop} {S : HS} (h : P_X9_size_0 Q v0 v1 S) : P_X9_size v0 v1 Q S := h
theorem u_X9_size_0 {Q : Int32 → HS → Prop} {v0 : Nat} {v1 : Int32} {S : HS} (h : (v1.toInt < 0 ∨ 11 < v1.toInt → (Q (-1 : Int32) S)) ∧ (v1.toInt = 0 → (ob S v0 9 ∧ (∃ a2 : Nat, fR S v0 2 = some a2 ∧ (ob S a2 8 ∧ (∀ x3 : Int32, x3 = fI S a2 0 → (Q x3 S)))))) ∧ (v1.toInt = 1 → (ob S v0 9 ∧ (∃ a4 : Nat, fR S v0 2 = some a4 ∧ (ob S a4 8 ∧ (∀ x5 : Int32, x5 = fI S a4 1 → (Q x5 S)))))) ∧ (v1.toInt = 2 → (ob S v0 9 ∧ (∃ a6 : Nat, fR S v0 2 = some a6 ∧ (ob S a6 8 ∧ (∀ x7 : Int32, x7 = fI S a6 2 → (Q x7 S)))))) ∧ (v1.toInt = 3 → (ob S v0 9 ∧ (∃ a8 : Nat, fR S v0 2 = some a8 ∧ (ob S a8 8 ∧ (∀ x9 : Int32, x9 = fI S a8 3 → (Q x9 S)))))) ∧ (v1.toInt = 4 → (ob S v0 9 ∧ (∃ a10 : Nat, fR S v0 2 = some a10 ∧ (ob S a10 8 ∧ (∀ x11 : Int32, x11 = fI S a10 4 → (Q x11 S)))))) ∧ (v1.toInt = 5 → (ob S v0 9 ∧ (∃ a12 : Nat, fR S v0 2 = some a12 ∧ (ob S a12 8 ∧ (∀ x13 : Int32, x13 = fI S a12 5 → (Q x13 S)))))) ∧ (v1.toInt = 6 → (ob S v0 9 ∧ (∃ a14 : Nat, fR S v0 6 = some a14 ∧ (ob S a14 0 ∧ (P_X0_isOn a14 (fun x17 S15 => Gr S S15 → bl x17 → (((x17 = 0) → (Q (-2 : Int32) S15)) ∧ ((¬ x17 = 0) → (∃ a19 : Nat, fR S15 v0 6 = some a19 ∧ (ob S15 a19 0 ∧ (∀ x20 : Int32, x20 = fI S15 a19 0 → (Q x20 S15))))))) S))))) ∧ (v1.toInt = 7 → (ob S v0 9 ∧ (∃ a21 : Nat, fR S v0 6 = some a21 ∧ (ob S a21 0 ∧ (P_X0_isOn a21 (fun x24 S22 => Gr S S22 → bl x24 → (((x24 = 0) → (Q (-2 : Int32) S22)) ∧ ((¬ x24 = 0) → (∃ a26 : Nat, fR S22 v0 6 = some a26 ∧ (ob S22 a26 0 ∧ (∃ a27 : Nat, fR S22 a26 4 = some a27 ∧ (ob S22 a27 2 ∧ (∀ x28 : Int32, x28 = fI S22 a27 0 → (Q x28 S22))))))))) S))))) ∧ (v1.toInt = 8 → (ob S v0 9 ∧ (∃ a29 : Nat, fR S v0 6 = some a29 ∧ (ob S a29 0 ∧ (P_X0_isOn a29 (fun x32 S30 => Gr S S30 → bl x32 → (((x32 = 0) → (Q (0 : Int32) S30)) ∧ ((¬ x32 = 0) → (∃ a34 : Nat, fR S30 v0 6 = some a34 ∧ (ob S30 a34 0 ∧ (∃ a35 : Nat, fR S30 a34 4 = some a35 ∧ (ob S30 a35 2 ∧ (∀ x36 : Int32, x36 = fI S30 a35 1 → (Q x36 S30))))))))) S))))) ∧ (v1.toInt = 9 → (ob S v0 9 ∧ (∃ a37 : Nat, fR S v0 6 = some a37 ∧ (ob S a37 0 ∧ (∀ x38 : Int32, x38 = fI S a37 2 → (Q x38 S)))))) ∧ (v1.toInt = 10 → (ob S v0 9 ∧ (∃ a39 : Nat, fR S v0 6 = some a39 ∧ (ob S a39 0 ∧ (∀ x40 : Int32, x40 = fI S a39 3 → (Q x40 S)))))) ∧ (v1.toInt = 11 → (ob S v0 9 ∧ (∀ x41 : Int32, x41 = fI S v0 1 → (Q x41 S))))) : P_X9_size_0 Q v0 v1 S := h
theorem u_X9_soaked {v0 : Nat} {Q : Int32 → HS → Prop} {S : HS} (h : P_X9_soaked_0 Q v0 S) : P_X9_soaked v0 Q S := h
theorem u_X9_soaked_0 {Q : Int32 → HS → Prop} {v0 : Nat} {S : HS} (h : ob S v0 9 ∧ (∃ a1 : Nat, fR S v0 6 = some a1 ∧ (ob S a1 0 ∧ (P_X0_isOn a1 (fun x4 S2 => Gr S S2 → bl x4 → (((x4 = 0) → (P_X9_soaked_27 Q v0 S2)) ∧ ((¬ x4 = 0) → (∃ a6 : Nat, fR S2 v0 2 = some a6 ∧ (∃ a7 : Nat, fR S2 v0 6 = some a7 ∧ (ob S2 a7 0 ∧ (∀ x8 : Int32, x8 = fI S2 a7 0 → (ob S2 a6 8 ∧ (P_X8_hasWalker a6 x8 (fun x11 S9 => Gr S2 S9 → bl x11 → (((¬ x11 = 0) → (∃ a13 : Nat, fR S9 v0 2 = some a13 ∧ (ob S9 a13 8 ∧ (∃ a14 : Nat, fR S9 a13 9 = some a14 ∧ (∃ a15 : Nat, fR S9 v0 6 = some a15 ∧ (ob S9 a15 0 ∧ (∀ x16 : Int32, x16 = fI S9 a15 0 → (ob S9 a14 19 ∧ (vp_in x16 (hN S9 a14) ∧ ∃ a18 : Nat, fR S9 a14 x16.toNatClampNeg = some a18 ∧ (ob S9 a18 6 ∧ (∀ x19 : Int32, x19 = fI S9 a18 0 → (((x19 = (2 : Int32)) → (∃ a21 : Nat, fR S9 v0 6 = some a21 ∧ (ob S9 a21 0 ∧ (∃ a22 : Nat, fR S9 a21 4 = some a22 ∧ (ob S9 a22 2 ∧ (P_X2_allGot a22 (fun x25 S23 => Gr S9 S23 → (P_X9_coatParts a18 (fun x28 S26 => Gr S23 S26 → ((((lg_cmp x25 x28) ≤ 0) → (P_X9_soaked_88 Q v0 (0 : Int32) S26)) ∧ ((¬ (lg_cmp x25 x28) ≤ 0) → (P_X9_soaked_88 Q v0 (1 : Int32) S26)))) S23)) S9)))))) ∧ ((¬ x19 = (2 : Int32)) → (P_X9_grant v0 (-2 : Int32) (fun x32 S30 => Gr S9 S30 → (Q x32 S30)) S9)))))))))))))) ∧ ((x11 = 0) → (P_X9_soaked_27 Q v0 S9)))) S2))))))))) S)))) : P_X9_soaked_0 Q v0 S := h
theorem u_X9_soaked_27 {Q : Int32 → HS → Prop} {v0 : Nat} {S : HS} (h : ob S v0 9 ∧ (P_X9_refuse v0 (1 : Int32) (fun x3 S1 => Gr S S1 → (Q x3 S1)) S)) : P_X9_soaked_27 Q v0 S := h
theorem u_X9_soaked_88 {Q : Int32 → HS → Prop} {s0 : Nat} {s1 : Int32} {S : HS} (h : ob S s0 9 ∧ (P_X9_grant s0 s1 (fun x3 S1 => Gr S S1 → (Q x3 S1)) S)) : P_X9_soaked_88 Q s0 s1 S := h
theorem u_X9_stay {v0 : Nat} {v1 : Int32} {Q : Int32 → HS → Prop} {S : HS} (h : P_X9_stay_0 Q v0 v1 S) : P_X9_stay v0 v1 Q S := h
theorem u_X9_stay_0 {Q : Int32 → HS → Prop} {v0 : Nat} {v1 : Int32} {S : HS} (h : ob S v0 9 ∧ (P_X9_stayTrouble v0 v1 (fun x3 S1 => Gr S S1 → (P_X9_refusedBy v0 x3 (fun x6 S4 => Gr S1 S4 → bl x6 → (((x6 = 0) → (∃ a8 : Nat, fR S4 v0 6 = some a8 ∧ (ob S4 a8 0 ∧ (P_X0_keepForUndo a8 (fun S9 => Gr S4 S9 → (∃ a12 : Nat, fR S9 v0 2 = some a12 ∧ (∃ a13 : Nat, fR S9 v0 2 = some a13 ∧ (ob S9 a13 8 ∧ (∃ a14 : Nat, fR S9 a13 9 = some a14 ∧ (∃ a15 : Nat, fR S9 v0 6 = some a15 ∧ (ob S9 a15 0 ∧ (∀ x16 : Int32, x16 = fI S9 a15 0 → (ob S9 a14 19 ∧ (vp_in x16 (hN S9 a14) ∧ ∃ a18 : Nat, fR S9 a14 x16.toNatClampNeg = some a18 ∧ (∃ a19 : Nat, fR S9 v0 6 = some a19 ∧ (ob S9 a19 0 ∧ (∃ a20 : Nat, fR S9 a19 4 = some a20 ∧ (ob S9 a20 2 ∧ (∀ x21 : Int32, x21 = fI S9 a20 0 → (ob S9 a12 8 ∧ (P_X8_dripOn a12 a18 x21 (fun x24 S22 => Gr S9 S22 → (∀ x25 : Int64, x25 = x24.toInt64 → (P_X9_stay_58 Q v0 v1 x25 (0 : Int32) S22))) S9))))))))))))))))) S4)))) ∧ ((¬ x6 = 0) → (Q (0 : Int32) S4)))) S1)) S)) : P_X9_stay_0 Q v0 v1 S := h
theorem u_X9_stay_58 {Q : Int32 → HS → Prop} {X58 : Nat → Int32 → Int64 → Int32 → HS → Prop} {v0 : Nat} {v1 : Int32} {v2 : Int64} {v4 : Int32} {S : HS} (h : ((v1 ≤ v4) → (Q (1 : Int32) S)) ∧ ((¬ v1 ≤ v4) → (ob S v0 9 ∧ (∃ a2 : Nat, fR S v0 6 = some a2 ∧ (∃ a3 : Nat, fR S v0 2 = some a3 ∧ (∃ a4 : Nat, fR S v0 6 = some a4 ∧ (ob S a4 0 ∧ (∃ a5 : Nat, fR S a4 4 = some a5 ∧ (ob S a5 2 ∧ (∀ x6 : Int32, x6 = fI S a5 1 → (ob S a3 8 ∧ (P_X8_hourOf a3 x6 (fun x9 S7 => Gr S S7 → (ob S7 a2 0 ∧ (P_X0_rainsIn a2 x9 (fun x12 S10 => Gr S7 S10 → bl x12 → (((x12 = 0) → (P_X9_stay_111 Q X58 v0 v1 v2 v4 S10)) ∧ ((¬ x12 = 0) → (∃ a14 : Nat, fR S10 v0 6 = some a14 ∧ (ob S10 a14 0 ∧ (∃ a15 : Nat, fR S10 a14 4 = some a15 ∧ (ob S10 a15 2 ∧ (∃ a16 : Nat, fR S10 a15 2 = some a16 ∧ (ob S10 a16 14 ∧ (vp_in (0 : Int32) (hN S10 a16) ∧ ∀ x18 : Int64, x18 = fJ S10 a16 (0 : Int32).toNatClampNeg → (∀ x20 : Int64, x20 = x18 + (v2 * (2520 : Int64)) → (vp_in (0 : Int32) (hN S10 a16) ∧ (∀ S21 : HS, S21 = sJ S10 a16 (0 : Int32).toNatClampNeg x20 → (P_X9_stay_111 Q X58 v0 v1 v2 v4 S21)))))))))))))) S7))) S)))))))))))) : B_X9_stay_58 Q X58 v0 v1 v2 v4 S := h
theorem i_X9_stay_58 {Q : Int32 → HS → Prop} (μ : Nat → Int32 → Int64 → Int32 → HS → Nat) (I : Nat → Int32 → Int64 → Int32 → HS → Prop) (hs : ∀ (v0 : Nat) (v1 : Int32) (v2 : Int64) (v4 : Int32) (S : HS) (X : Nat → Int32 → Int64 → Int32 → HS → Prop), I v0 v1 v2 v4 S → (∀ (w0 : Nat) (w1 : Int32) (w2 : Int64) (w4 : Int32) (T : HS), I w0 w1 w2 w4 T → μ w0 w1 w2 w4 T < μ v0 v1 v2 v4 S → X w0 w1 w2 w4 T) → B_X9_stay_58 Q X v0 v1 v2 v4 S) : ∀ (v0 : Nat) (v1 : Int32) (v2 : Int64) (v4 : Int32) (S : HS), I v0 v1 v2 v4 S → P_X9_stay_58 Q v0 v1 v2 v4 S := by
  intro v0 v1 v2 v4 S h X hX
  have key : ∀ (z : Nat) (v0 : Nat) (v1 : Int32) (v2 : Int64) (v4 : Int32) (S : HS), μ v0 v1 v2 v4 S < z → I v0 v1 v2 v4 S → X v0 v1 v2 v4 S := by
    intro z
    induction z with
    | zero => intro v0 v1 v2 v4 S hz; exact absurd hz (Nat.not_lt_zero _)
    | succ z ih => intro v0 v1 v2 v4 S hz hI; exact hX _ _ _ _ _ (hs _ _ _ _ _ _ hI (fun w0 w1 w2 w4 T hT hl => ih _ _ _ _ _ (by omega) hT))
  exact key _ _ _ _ _ _ (Nat.lt_succ_self _) h
theorem u_X9_stay_111 {Q : Int32 → HS → Prop} {X58 : Nat → Int32 → Int64 → Int32 → HS → Prop} {v0 : Nat} {v1 : Int32} {v2 : Int64} {v4 : Int32} {S : HS} (h : ob S v0 9 ∧ (∃ a1 : Nat, fR S v0 6 = some a1 ∧ (ob S a1 0 ∧ (∃ a2 : Nat, fR S a1 4 = some a2 ∧ (ob S a2 2 ∧ (∀ x3 : Int32, x3 = fI S a2 1 → (∀ x4 : Int32, x4 = x3 + (1 : Int32) → (∀ S5 : HS, S5 = sI S a2 1 x4 → (∀ x6 : Int32, x6 = v4 + (1 : Int32) → (X58 v0 v1 v2 x6 S5)))))))))) : P_X9_stay_111 Q X58 v0 v1 v2 v4 S := h
theorem u_X9_stayTrouble {v0 : Nat} {v1 : Int32} {Q : Int32 → HS → Prop} {S : HS} (h : P_X9_stayTrouble_0 Q v0 v1 S) : P_X9_stayTrouble v0 v1 Q S := h
theorem u_X9_stayTrouble_0 {Q : Int32 → HS → Prop} {v0 : Nat} {v1 : Int32} {S : HS} (h : ob S v0 9 ∧ (∃ a1 : Nat, fR S v0 6 = some a1 ∧ (ob S a1 0 ∧ (P_X0_isOn a1 (fun x4 S2 => Gr S S2 → bl x4 → (((x4 = 0) → (Q (1 : Int32) S2)) ∧ ((¬ x4 = 0) → (∃ a6 : Nat, fR S2 v0 2 = some a6 ∧ (∃ a7 : Nat, fR S2 v0 6 = some a7 ∧ (ob S2 a7 0 ∧ (∀ x8 : Int32, x8 = fI S2 a7 0 → (ob S2 a6 8 ∧ (P_X8_hasWalker a6 x8 (fun x11 S9 => Gr S2 S9 → bl x11 → (((¬ x11 = 0) → (((v1 < (1 : Int32)) → (Q (2 : Int32) S9)) ∧ ((¬ v1 < (1 : Int32)) → (((v1 ≤ (60 : Int32)) → (∃ a15 : Nat, fR S9 v0 2 = some a15 ∧ (∃ a16 : Nat, fR S9 v0 6 = some a16 ∧ (ob S9 a16 0 ∧ (∃ a17 : Nat, fR S9 a16 4 = some a17 ∧ (ob S9 a17 2 ∧ (∀ x18 : Int32, x18 = fI S9 a17 0 → (ob S9 a15 8 ∧ (P_X8_canWait a15 x18 (fun x21 S19 => Gr S9 S19 → bl x21 → (((¬ x21 = 0) → (∃ a23 : Nat, fR S19 v0 6 = some a23 ∧ (ob S19 a23 0 ∧ (∃ a24 : Nat, fR S19 a23 4 = some a24 ∧ (ob S19 a24 2 ∧ (∀ x25 : Int32, x25 = fI S19 a24 1 → ((((x25 + v1) ≤ (999 : Int32)) → (Q (0 : Int32) S19)) ∧ ((¬ (x25 + v1) ≤ (999 : Int32)) → (Q (3 : Int32) S19))))))))) ∧ ((x21 = 0) → (Q (5 : Int32) S19)))) S9))))))))) ∧ ((¬ v1 ≤ (60 : Int32)) → (Q (2 : Int32) S9)))))) ∧ ((x11 = 0) → (Q (1 : Int32) S9)))) S2))))))))) S)))) : P_X9_stayTrouble_0 Q v0 v1 S := h
theorem u_X9_step {v0 : Nat} {v1 : Int32} {v2 : Int32} {v3 : Int32} {v4 : Int32} {v5 : Int32} {v6 : Int32} {Q : Int32 → HS → Prop} {S : HS} (h : P_X9_step_0 Q v0 v1 v2 v3 v4 v5 v6 S) : P_X9_step v0 v1 v2 v3 v4 v5 v6 Q S := h
theorem u_X9_step_0 {Q : Int32 → HS → Prop} {v0 : Nat} {v1 : Int32} {v2 : Int32} {v3 : Int32} {v4 : Int32} {v5 : Int32} {v6 : Int32} {S : HS} (h : ob S v0 9 ∧ (P_X9_wayTrouble v0 v1 v2 v3 v4 v5 (fun x3 S1 => Gr S S1 → (P_X9_refusedBy v0 x3 (fun x6 S4 => Gr S1 S4 → bl x6 → (((x6 = 0) → (∃ a8 : Nat, fR S4 v0 5 = some a8 ∧ (∃ a9 : Nat, fR S4 v0 2 = some a9 ∧ (ob S4 a8 7 ∧ (P_X7_trace a8 a9 v2 v4 (fun x12 S10 => Gr S4 S10 → (((v6 < 0) → (P_X9_step_61 Q v0 S10)) ∧ ((¬ v6 < 0) → (((x12 ≤ v6) → (P_X9_step_61 Q v0 S10)) ∧ ((¬ x12 ≤ v6) → (∃ a15 : Nat, fR S10 v0 5 = some a15 ∧ (ob S10 a15 7 ∧ (∃ a16 : Nat, fR S10 a15 0 = some a16 ∧ (ob S10 a16 13 ∧ (((v6 < (nI (hN S10 a16))) → (∃ a18 : Nat, fR S10 v0 5 = some a18 ∧ (ob S10 a18 7 ∧ (∃ a19 : Nat, fR S10 a18 0 = some a19 ∧ (ob S10 a19 13 ∧ (vp_in v6 (hN S10 a19) ∧ ∀ x21 : Int32, x21 = fI S10 a19 v6.toNatClampNeg → (Q x21 S10))))))) ∧ ((¬ v6 < (nI (hN S10 a16))) → (P_X9_step_61 Q v0 S10)))))))))))) S4))))) ∧ ((¬ x6 = 0) → (Q (-1 : Int32) S4)))) S1)) S)) : P_X9_step_0 Q v0 v1 v2 v3 v4 v5 v6 S := h
theorem u_X9_step_61 {Q : Int32 → HS → Prop} {v0 : Nat} {S : HS} (h : ob S v0 9 ∧ (P_X9_refuse v0 (1 : Int32) (fun x3 S1 => Gr S S1 → (Q x3 S1)) S)) : P_X9_step_61 Q v0 S := h
theorem u_X9_steps {v0 : Nat} {v1 : Int32} {v2 : Int32} {v3 : Int32} {v4 : Int32} {v5 : Int32} {Q : Int32 → HS → Prop} {S : HS} (h : P_X9_steps_0 Q v0 v1 v2 v3 v4 v5 S) : P_X9_steps v0 v1 v2 v3 v4 v5 Q S := h
theorem u_X9_steps_0 {Q : Int32 → HS → Prop} {v0 : Nat} {v1 : Int32} {v2 : Int32} {v3 : Int32} {v4 : Int32} {v5 : Int32} {S : HS} (h : ob S v0 9 ∧ (P_X9_wayTrouble v0 v1 v2 v3 v4 v5 (fun x3 S1 => Gr S S1 → (P_X9_refusedBy v0 x3 (fun x6 S4 => Gr S1 S4 → bl x6 → (((x6 = 0) → (∃ a8 : Nat, fR S4 v0 5 = some a8 ∧ (∃ a9 : Nat, fR S4 v0 2 = some a9 ∧ (ob S4 a8 7 ∧ (P_X7_trace a8 a9 v2 v4 (fun x12 S10 => Gr S4 S10 → (Q x12 S10)) S4))))) ∧ ((¬ x6 = 0) → (Q (-1 : Int32) S4)))) S1)) S)) : P_X9_steps_0 Q v0 v1 v2 v3 v4 v5 S := h
theorem u_X9_there {v0 : Nat} {v1 : Int32} {v2 : Int32} {v3 : Int32} {v4 : Int32} {v5 : Int32} {Q : Int32 → HS → Prop} {S : HS} (h : P_X9_there_0 Q v0 v1 v2 v3 v4 v5 S) : P_X9_there v0 v1 v2 v3 v4 v5 Q S := h
theorem u_X9_there_0 {Q : Int32 → HS → Prop} {v0 : Nat} {v1 : Int32} {v2 : Int32} {v3 : Int32} {v4 : Int32} {v5 : Int32} {S : HS} (h : ob S v0 9 ∧ (P_X9_wayTrouble v0 v1 v2 v3 v4 v5 (fun x3 S1 => Gr S S1 → (P_X9_refusedBy v0 x3 (fun x6 S4 => Gr S1 S4 → bl x6 → (((x6 = 0) → (∃ a8 : Nat, fR S4 v0 5 = some a8 ∧ (ob S4 a8 7 ∧ (P_X7_endFrom a8 v2 v4 (fun x11 S9 => Gr S4 S9 → (Q x11 S9)) S4)))) ∧ ((¬ x6 = 0) → (Q (-1 : Int32) S4)))) S1)) S)) : P_X9_there_0 Q v0 v1 v2 v3 v4 v5 S := h
theorem u_X9_tripTrouble {v0 : Nat} {v1 : Int32} {v2 : Int32} {v3 : Int32} {v4 : Int32} {Q : Int32 → HS → Prop} {S : HS} (h : P_X9_tripTrouble_0 Q v0 v1 v2 v3 v4 S) : P_X9_tripTrouble v0 v1 v2 v3 v4 Q S := h
theorem u_X9_tripTrouble_0 {Q : Int32 → HS → Prop} {v0 : Nat} {v1 : Int32} {v2 : Int32} {v3 : Int32} {v4 : Int32} {S : HS} (h : ob S v0 9 ∧ (∃ a1 : Nat, fR S v0 2 = some a1 ∧ (ob S a1 8 ∧ (P_X8_hasWalker a1 v1 (fun x4 S2 => Gr S S2 → bl x4 → (((x4 = 0) → (P_X9_tripTrouble_45 Q S2)) ∧ ((¬ x4 = 0) → (∃ a6 : Nat, fR S2 v0 2 = some a6 ∧ (ob S2 a6 8 ∧ (P_X8_hasRoad a6 v2 (fun x9 S7 => Gr S2 S7 → bl x9 → (((x9 = 0) → (P_X9_tripTrouble_45 Q S7)) ∧ ((¬ x9 = 0) → (P_X9_isWay v3 (fun x13 S11 => Gr S7 S11 → bl x13 → (((x13 = 0) → (P_X9_tripTrouble_45 Q S11)) ∧ ((¬ x13 = 0) → (∃ a15 : Nat, fR S11 v0 2 = some a15 ∧ (ob S11 a15 8 ∧ (P_X8_hasHour a15 v4 (fun x18 S16 => Gr S11 S16 → bl x18 → (((x18 = 0) → (P_X9_tripTrouble_45 Q S16)) ∧ ((¬ x18 = 0) → (P_X9_tripTrouble_46 Q (1 : Int32) S16)))) S11)))))) S7)))) S2)))))) S)))) : P_X9_tripTrouble_0 Q v0 v1 v2 v3 v4 S := h
theorem u_X9_tripTrouble_45 {Q : Int32 → HS → Prop}  {S : HS} (h : P_X9_tripTrouble_46 Q (0 : Int32) S) : P_X9_tripTrouble_45 Q S := h
theorem u_X9_tripTrouble_46 {Q : Int32 → HS → Prop} {s0 : Int32} {S : HS} (h : ((s0 = 0) → (Q (1 : Int32) S)) ∧ ((¬ s0 = 0) → (Q (0 : Int32) S))) : P_X9_tripTrouble_46 Q s0 S := h
theorem u_X9_trouble {v0 : Nat} {Q : Int32 → HS → Prop} {S : HS} (h : P_X9_trouble_0 Q v0 S) : P_X9_trouble v0 Q S := h
theorem u_X9_trouble_0 {Q : Int32 → HS → Prop} {v0 : Nat} {S : HS} (h : ob S v0 9 ∧ (∀ x1 : Int32, x1 = fI S v0 9 → (Q x1 S))) : P_X9_trouble_0 Q v0 S := h
theorem u_X9_undo {v0 : Nat} {Q : Int32 → HS → Prop} {S : HS} (h : P_X9_undo_0 Q v0 S) : P_X9_undo v0 Q S := h
theorem u_X9_undo_0 {Q : Int32 → HS → Prop} {v0 : Nat} {S : HS} (h : ob S v0 9 ∧ (∃ a1 : Nat, fR S v0 6 = some a1 ∧ (ob S a1 0 ∧ (P_X0_takeBack a1 (fun x4 S2 => Gr S S2 → bl x4 → (((x4 = 0) → (P_X9_undo_17 Q v0 (6 : Int32) S2)) ∧ ((¬ x4 = 0) → (P_X9_undo_17 Q v0 (0 : Int32) S2)))) S)))) : P_X9_undo_0 Q v0 S := h
theorem u_X9_undo_17 {Q : Int32 → HS → Prop} {s0 : Nat} {s1 : Int32} {S : HS} (h : ob S s0 9 ∧ (P_X9_refusedBy s0 s1 (fun x3 S1 => Gr S S1 → bl x3 → (((¬ x3 = 0) → (Q (0 : Int32) S1)) ∧ ((x3 = 0) → (Q (1 : Int32) S1)))) S)) : P_X9_undo_17 Q s0 s1 S := h
theorem u_X9_walker {v0 : Nat} {v1 : Int32} {v2 : Int32} {Q : Int32 → HS → Prop} {S : HS} (h : P_X9_walker_0 Q v0 v1 v2 S) : P_X9_walker v0 v1 v2 Q S := h
theorem u_X9_walker_0 {Q : Int32 → HS → Prop} {v0 : Nat} {v1 : Int32} {v2 : Int32} {S : HS} (h : ob S v0 9 ∧ (∃ a1 : Nat, fR S v0 2 = some a1 ∧ (ob S a1 8 ∧ (P_X8_hasWalker a1 v1 (fun x4 S2 => Gr S S2 → bl x4 → (((x4 = 0) → (P_X9_walker_21 Q v0 S2)) ∧ ((¬ x4 = 0) → (((v2 < 0) → (P_X9_walker_21 Q v0 S2)) ∧ ((¬ v2 < 0) → (((v2 ≤ (6 : Int32)) → (∃ a8 : Nat, fR S2 v0 2 = some a8 ∧ (ob S2 a8 8 ∧ (∃ a9 : Nat, fR S2 a8 9 = some a9 ∧ (ob S2 a9 19 ∧ (vp_in v1 (hN S2 a9) ∧ ∃ a11 : Nat, fR S2 a9 v1.toNatClampNeg = some a11 ∧ (ob S2 a11 6 ∧ (P_X6_tell a11 v2 (fun x14 S12 => Gr S2 S12 → (P_X9_grant v0 x14 (fun x17 S15 => Gr S12 S15 → (Q x17 S15)) S12)) S2)))))))) ∧ ((¬ v2 ≤ (6 : Int32)) → (P_X9_walker_21 Q v0 S2)))))))) S)))) : P_X9_walker_0 Q v0 v1 v2 S := h
theorem u_X9_walker_21 {Q : Int32 → HS → Prop} {v0 : Nat} {S : HS} (h : ob S v0 9 ∧ (P_X9_refuse v0 (1 : Int32) (fun x3 S1 => Gr S S1 → (Q x3 S1)) S)) : P_X9_walker_21 Q v0 S := h
theorem u_X9_wayTrouble {v0 : Nat} {v1 : Int32} {v2 : Int32} {v3 : Int32} {v4 : Int32} {v5 : Int32} {Q : Int32 → HS → Prop} {S : HS} (h : P_X9_wayTrouble_0 Q v0 v1 v2 v3 v4 v5 S) : P_X9_wayTrouble v0 v1 v2 v3 v4 v5 Q S := h
theorem u_X9_wayTrouble_0 {Q : Int32 → HS → Prop} {v0 : Nat} {v1 : Int32} {v2 : Int32} {v3 : Int32} {v4 : Int32} {v5 : Int32} {S : HS} (h : ob S v0 9 ∧ (P_X9_placesTrouble v0 v1 v2 v3 (fun x3 S1 => Gr S S1 → (((x3 = 0) → (P_X9_isTill v5 (fun x7 S5 => Gr S1 S5 → bl x7 → (((x7 = 0) → (Q (2 : Int32) S5)) ∧ ((¬ x7 = 0) → (((v4 < 0) → (Q (2 : Int32) S5)) ∧ ((¬ v4 < 0) → (((v4 ≤ v5) → (∃ a11 : Nat, fR S5 v0 5 = some a11 ∧ (∃ a12 : Nat, fR S5 v0 2 = some a12 ∧ (∃ a13 : Nat, fR S5 v0 4 = some a13 ∧ (ob S5 a11 7 ∧ (P_X7_reckon a11 a12 a13 v1 v3 v5 v4 (fun S14 => Gr S5 S14 → (∃ a17 : Nat, fR S14 v0 5 = some a17 ∧ (ob S14 a17 7 ∧ (P_X7_isOpen a17 v2 v4 (fun x20 S18 => Gr S14 S18 → bl x20 → (((x20 = 0) → (Q (6 : Int32) S18)) ∧ ((¬ x20 = 0) → (Q (0 : Int32) S18)))) S14)))) S5)))))) ∧ ((¬ v4 ≤ v5) → (Q (2 : Int32) S5)))))))) S1)) ∧ ((¬ x3 = 0) → (Q x3 S1)))) S)) : P_X9_wayTrouble_0 Q v0 v1 v2 v3 v4 v5 S := h
theorem u_X9_wet {v0 : Nat} {v1 : Int32} {v2 : Int32} {v3 : Int32} {v4 : Int32} {v5 : Int32} {v6 : Int32} {Q : Int64 → HS → Prop} {S : HS} (h : P_X9_wet_0 Q v0 v1 v2 v3 v4 v5 v6 S) : P_X9_wet v0 v1 v2 v3 v4 v5 v6 Q S := h
theorem u_X9_wet_0 {Q : Int64 → HS → Prop} {v0 : Nat} {v1 : Int32} {v2 : Int32} {v3 : Int32} {v4 : Int32} {v5 : Int32} {v6 : Int32} {S : HS} (h : ob S v0 9 ∧ (P_X9_legTrouble v0 v1 v2 v3 v4 v5 (fun x3 S1 => Gr S S1 → (P_X9_refusedBy v0 x3 (fun x6 S4 => Gr S1 S4 → bl x6 → (((x6 = 0) → (∃ a8 : Nat, fR S4 v0 4 = some a8 ∧ (∃ a9 : Nat, fR S4 v0 2 = some a9 ∧ (ob S4 a9 8 ∧ (∃ a10 : Nat, fR S4 a9 9 = some a10 ∧ (ob S4 a10 19 ∧ (vp_in v1 (hN S4 a10) ∧ ∃ a12 : Nat, fR S4 a10 v1.toNatClampNeg = some a12 ∧ (∃ a13 : Nat, fR S4 v0 2 = some a13 ∧ (ob S4 a13 8 ∧ (∃ a14 : Nat, fR S4 a13 8 = some a14 ∧ (ob S4 a14 18 ∧ (vp_in v2 (hN S4 a14) ∧ ∃ a16 : Nat, fR S4 a14 v2.toNatClampNeg = some a16 ∧ (∃ a17 : Nat, fR S4 v0 2 = some a17 ∧ (ob S4 a17 8 ∧ (∃ a18 : Nat, fR S4 a17 6 = some a18 ∧ (ob S4 a18 17 ∧ (vp_in v4 (hN S4 a18) ∧ ∃ a20 : Nat, fR S4 a18 v4.toNatClampNeg = some a20 ∧ (ob S4 a8 1 ∧ (P_X1_wetOf a8 a12 a16 v3 a20 v5 (fun x23 S21 => Gr S4 S21 → (P_X9_fraction x23 (2520 : Int64) v6 (fun x26 S24 => Gr S21 S24 → (Q x26 S24)) S21)) S4))))))))))))))))))) ∧ ((¬ x6 = 0) → (Q (-1 : Int64) S4)))) S1)) S)) : P_X9_wet_0 Q v0 v1 v2 v3 v4 v5 v6 S := h
theorem u_X9_wetness {v0 : Nat} {v1 : Int32} {Q : Int64 → HS → Prop} {S : HS} (h : P_X9_wetness_0 Q v0 v1 S) : P_X9_wetness v0 v1 Q S := h
theorem u_X9_wetness_0 {Q : Int64 → HS → Prop} {v0 : Nat} {v1 : Int32} {S : HS} (h : ob S v0 9 ∧ (∃ a1 : Nat, fR S v0 6 = some a1 ∧ (ob S a1 0 ∧ (P_X0_isOn a1 (fun x4 S2 => Gr S S2 → bl x4 → (((x4 = 0) → (P_X9_wetness_27 Q v0 S2)) ∧ ((¬ x4 = 0) → (∃ a6 : Nat, fR S2 v0 2 = some a6 ∧ (∃ a7 : Nat, fR S2 v0 6 = some a7 ∧ (ob S2 a7 0 ∧ (∀ x8 : Int32, x8 = fI S2 a7 0 → (ob S2 a6 8 ∧ (P_X8_hasWalker a6 x8 (fun x11 S9 => Gr S2 S9 → bl x11 → (((¬ x11 = 0) → (∀ S13 : HS, S13 = sI S9 v0 9 (0 : Int32) → (∃ a14 : Nat, fR S13 v0 6 = some a14 ∧ (ob S13 a14 0 ∧ (∃ a15 : Nat, fR S13 a14 4 = some a15 ∧ (ob S13 a15 2 ∧ (P_X2_allGot a15 (fun x18 S16 => Gr S13 S16 → (∃ a19 : Nat, fR S16 v0 2 = some a19 ∧ (ob S16 a19 8 ∧ (∃ a20 : Nat, fR S16 a19 9 = some a20 ∧ (∃ a21 : Nat, fR S16 v0 6 = some a21 ∧ (ob S16 a21 0 ∧ (∀ x22 : Int32, x22 = fI S16 a21 0 → (ob S16 a20 19 ∧ (vp_in x22 (hN S16 a20) ∧ ∃ a24 : Nat, fR S16 a20 x22.toNatClampNeg = some a24 ∧ (P_X9_coatParts a24 (fun x27 S25 => Gr S16 S25 → (∀ x28 : Int64, x28 = x18 - x27 → (∀ x29 : Int64, x29 = (if (0 : Int64) < x28 then x28 else (0 : Int64)) → (P_X9_fraction x29 (2520 : Int64) v1 (fun x32 S30 => Gr S25 S30 → (Q x32 S30)) S25)))) S16)))))))))) S13))))))) ∧ ((x11 = 0) → (P_X9_wetness_27 Q v0 S9)))) S2))))))))) S)))) : P_X9_wetness_0 Q v0 v1 S := h
theorem u_X9_wetness_27 {Q : Int64 → HS → Prop} {v0 : Nat} {S : HS} (h : ob S v0 9 ∧ (P_X9_refuse v0 (1 : Int32) (fun x3 S1 => Gr S S1 → (Q x3.toInt64 S1)) S)) : P_X9_wetness_27 Q v0 S := h
theorem u_X9_where {v0 : Nat} {Q : Int32 → HS → Prop} {S : HS} (h : P_X9_where_0 Q v0 S) : P_X9_where v0 Q S := h
theorem u_X9_where_0 {Q : Int32 → HS → Prop} {v0 : Nat} {S : HS} (h : ob S v0 9 ∧ (∀ x1 : Int32, x1 = fI S v0 9 → (((¬ x1 = (4 : Int32)) → (Q (-1 : Int32) S)) ∧ ((x1 = (4 : Int32)) → (∀ x3 : Int32, x3 = fI S v0 8 → (Q x3 S)))))) : P_X9_where_0 Q v0 S := h
theorem u_X9_world {v0 : Nat} {v1 : Int32} {Q : Int32 → HS → Prop} {S : HS} (h : P_X9_world_0 Q v0 v1 S) : P_X9_world v0 v1 Q S := h
theorem u_X9_world_0 {Q : Int32 → HS → Prop} {v0 : Nat} {v1 : Int32} {S : HS} (h : ((v1 < 0) → (P_X9_world_12 Q v0 S)) ∧ ((¬ v1 < 0) → (ob S v0 9 ∧ (∀ x2 : Int32, x2 = fI S v0 1 → (((v1 ≤ x2) → (∃ a4 : Nat, fR S v0 3 = some a4 ∧ (∃ a5 : Nat, fR S v0 0 = some a5 ∧ (ob S a4 4 ∧ (P_X4_read a4 a5 v1 (fun x8 S6 => Gr S S6 → bl x8 → (∀ S9 : HS, S9 = sI S6 v0 1 (0 : Int32) → (∃ a10 : Nat, fR S9 v0 3 = some a10 ∧ (ob S9 a10 4 ∧ (∀ x11 : Int32, x11 = fI S9 a10 0 → (∀ S12 : HS, S12 = sI S9 v0 7 x11 → (∃ a13 : Nat, fR S12 v0 3 = some a13 ∧ (ob S12 a13 4 ∧ (∀ x14 : Int32, x14 = fI S12 a13 1 → (∀ S15 : HS, S15 = sI S12 v0 8 x14 → (((¬ x8 = 0) → (∃ a17 : Nat, fR S15 v0 3 = some a17 ∧ (∃ a18 : Nat, fR S15 v0 2 = some a18 ∧ (ob S15 a17 4 ∧ (P_X4_exchange a17 a18 (fun a21 S19 => Gr S15 S19 → (∀ S22 : HS, S22 = sR S19 v0 2 (some a21) → (∃ a23 : Nat, fR S22 v0 5 = some a23 ∧ (ob S22 a23 7 ∧ (P_X7_forget a23 (fun S24 => Gr S22 S24 → (∃ a27 : Nat, fR S24 v0 6 = some a27 ∧ (ob S24 a27 0 ∧ (P_X0_end a27 (fun S28 => Gr S24 S28 → (∃ a31 : Nat, fR S28 v0 2 = some a31 ∧ (ob S28 a31 8 ∧ (∀ x32 : Int32, x32 = fI S28 a31 4 → (P_X9_grant v0 x32 (fun x35 S33 => Gr S28 S33 → (Q x35 S33)) S28))))) S24)))) S22))))) S15))))) ∧ ((x8 = 0) → (P_X9_refuse v0 (4 : Int32) (fun x38 S36 => Gr S15 S36 → (Q x38 S36)) S15))))))))))))) S))))) ∧ ((¬ v1 ≤ x2) → (P_X9_world_12 Q v0 S))))))) : P_X9_world_0 Q v0 v1 S := h
theorem u_X9_world_12 {Q : Int32 → HS → Prop} {v0 : Nat} {S : HS} (h : ob S v0 9 ∧ (P_X9_refuse v0 (2 : Int32) (fun x3 S1 => Gr S S1 → (Q x3 S1)) S)) : P_X9_world_12 Q v0 S := h
theorem u_X9_worst {v0 : Nat} {v1 : Int32} {v2 : Int32} {v3 : Int32} {v4 : Int32} {Q : Int32 → HS → Prop} {S : HS} (h : P_X9_worst_0 Q v0 v1 v2 v3 v4 S) : P_X9_worst v0 v1 v2 v3 v4 Q S := h
theorem u_X9_worst_0 {Q : Int32 → HS → Prop} {v0 : Nat} {v1 : Int32} {v2 : Int32} {v3 : Int32} {v4 : Int32} {S : HS} (h : ob S v0 9 ∧ (P_X9_tripTrouble v0 v1 v2 v3 v4 (fun x3 S1 => Gr S S1 → (P_X9_refusedBy v0 x3 (fun x6 S4 => Gr S1 S4 → bl x6 → (((x6 = 0) → (∃ a8 : Nat, fR S4 v0 4 = some a8 ∧ (∃ a9 : Nat, fR S4 v0 2 = some a9 ∧ (ob S4 a9 8 ∧ (∃ a10 : Nat, fR S4 a9 9 = some a10 ∧ (ob S4 a10 19 ∧ (vp_in v1 (hN S4 a10) ∧ ∃ a12 : Nat, fR S4 a10 v1.toNatClampNeg = some a12 ∧ (∃ a13 : Nat, fR S4 v0 2 = some a13 ∧ (ob S4 a13 8 ∧ (∃ a14 : Nat, fR S4 a13 8 = some a14 ∧ (ob S4 a14 18 ∧ (vp_in v2 (hN S4 a14) ∧ ∃ a16 : Nat, fR S4 a14 v2.toNatClampNeg = some a16 ∧ (∃ a17 : Nat, fR S4 v0 2 = some a17 ∧ (ob S4 a17 8 ∧ (∃ a18 : Nat, fR S4 a17 6 = some a18 ∧ (ob S4 a18 17 ∧ (vp_in v4 (hN S4 a18) ∧ ∃ a20 : Nat, fR S4 a18 v4.toNatClampNeg = some a20 ∧ (ob S4 a8 1 ∧ (P_X1_worstSpeed a8 a12 a16 v3 a20 (fun x23 S21 => Gr S4 S21 → (Q x23 S21)) S4))))))))))))))))))) ∧ ((¬ x6 = 0) → (Q (-1 : Int32) S4)))) S1)) S)) : P_X9_worst_0 Q v0 v1 v2 v3 v4 S := h
end
section
set_option maxHeartbeats 4000000 in
set_option maxRecDepth 20000 in
theorem m_X0_begin {v0 : Nat} {v1 : Int32} {v2 : Int32} {v3 : Int32} {Q : HS → Prop} {S : HS} (hI : IV S) (o_v0 : ob S v0 0)   (h1 : -1 ≤ v1 ∧ v1 ≤ 3)  (hq : ∀ (T : HS), IV T → Gr S T → FRI [(0, 0), (0, 2), (0, 3), (2, 0), (2, 1)] [] S T → Q T) : P_X0_begin v0 v1 v2 v3 Q S := by
  have g0 := gr_rf S
  have f0 := fri_rf [(0, 0), (0, 2), (0, 3), (2, 0), (2, 1)] [] S
  refine u_X0_begin ?_
  refine u_X0_begin_0 ?_
  refine ⟨o_v0, ?_⟩
  refine u_X0_end ?_
  refine u_X0_end_0 ?_
  refine ⟨o_v0, ?_⟩
  intro S1 eS1
  have hI : IV S1 := by rw [eS1]; exact iv_sI hI o_v0 (by decide) (nu_one (lo := (-1 : Int32)) (hi := (3 : Int32)) (by decide) (q1413))
  have f0 := fr_I eS1 g0 f0 o_v0 (by decide)
  obtain ⟨y2, hy2⟩ : ∃ z : Int32, z = (-1 : Int32) := ⟨_, rfl⟩
  have d_y2 := rd_Is eS1 hy2
  have g0 := gr_I eS1 g0
  have o_v0 := ob_I eS1 o_v0
  intro S3 eS3
  have hI : IV S3 := by rw [eS3]; exact iv_sI hI o_v0 (by decide) (nu_one (lo := (0 : Int32)) (hi := (16 : Int32)) (by decide) (q1414))
  have f0 := fr_I eS3 g0 f0 o_v0 (by decide)
  have d_y2 := rd_Ij eS3 (by decide) d_y2
  obtain ⟨y4, hy4⟩ : ∃ z : Int32, z = (0 : Int32) := ⟨_, rfl⟩
  have d_y4 := rd_Is eS3 hy4
  have g0 := gr_I eS3 g0
  have o_v0 := ob_I eS3 o_v0
  intro S5 eS5
  have hI : IV S5 := by rw [eS5]; exact iv_sI hI o_v0 (by decide) (nu_one (lo := (0 : Int32)) (hi := (3 : Int32)) (by decide) (q1415))
  have f0 := fr_I eS5 g0 f0 o_v0 (by decide)
  have d_y2 := rd_Ij eS5 (by decide) d_y2
  have d_y4 := rd_Ij eS5 (by decide) d_y4
  obtain ⟨y6, hy6⟩ : ∃ z : Int32, z = (0 : Int32) := ⟨_, rfl⟩
  have d_y6 := rd_Is eS5 hy6
  have g0 := gr_I eS5 g0
  have o_v0 := ob_I eS5 o_v0
  intro _
  intro S7 eS7
  have hI : IV S7 := by rw [eS7]; exact iv_sI hI o_v0 (by decide) (nu_one (lo := (-1 : Int32)) (hi := (3 : Int32)) (by decide) (q1416 h1))
  have f0 := fr_I eS7 g0 f0 o_v0 (by decide)
  have d_y4 := rd_Ij eS7 (by decide) d_y4
  have d_y6 := rd_Ij eS7 (by decide) d_y6
  have d_v1 := rd_Is eS7 (rfl : v1 = v1)
  have g0 := gr_I eS7 g0
  have o_v0 := ob_I eS7 o_v0
  obtain ⟨a8, ea8, o_a8, -⟩ := sh 6 rfl hI o_v0
  refine ⟨a8, ea8, ?_⟩
  refine ⟨o_a8, ?_⟩
  intro S9 eS9
  have hI : IV S9 := by rw [eS9]; exact iv_sI hI o_a8 (by decide) (nu_free (by decide))
  have f0 := fr_I eS9 g0 f0 o_a8 (by decide)
  have d_y4 := rd_Ik eS9 o_a8 o_v0 (by decide) d_y4
  have d_y6 := rd_Ik eS9 o_a8 o_v0 (by decide) d_y6
  have d_v1 := rd_Ik eS9 o_a8 o_v0 (by decide) d_v1
  have d_v2 := rd_Is eS9 (rfl : v2 = v2)
  have ea8 := rf_I eS9 ea8
  have g0 := gr_I eS9 g0
  have o_a8 := ob_I eS9 o_a8
  have o_v0 := ob_I eS9 o_v0
  refine ⟨a8, ea8, ?_⟩
  refine ⟨o_a8, ?_⟩
  intro S11 eS11
  have hI : IV S11 := by rw [eS11]; exact iv_sI hI o_a8 (by decide) (nu_free (by decide))
  have f0 := fr_I eS11 g0 f0 o_a8 (by decide)
  have d_y4 := rd_Ik eS11 o_a8 o_v0 (by decide) d_y4
  have d_y6 := rd_Ik eS11 o_a8 o_v0 (by decide) d_y6
  have d_v1 := rd_Ik eS11 o_a8 o_v0 (by decide) d_v1
  have d_v2 := rd_Ij eS11 (by decide) d_v2
  have d_v3 := rd_Is eS11 (rfl : v3 = v3)
  have ea8 := rf_I eS11 ea8
  have g0 := gr_I eS11 g0
  have o_a8 := ob_I eS11 o_a8
  have o_v0 := ob_I eS11 o_v0
  refine i_X0_begin_28 (fun (y0 : Nat) (y4 : Int32) (Z : HS) => ((2147483647 : Int32).toInt - y4.toInt).toNat) (fun (y0 : Nat) (y4 : Int32) (Z : HS) => (IV Z) ∧ (Gr S11 Z) ∧ (FRI [] [] S11 Z) ∧ (v0 = y0) ∧ (0 ≤ y4)) ?_ _ _ _ ⟨hI, (gr_rf _), (fri_rf _ _ _), rfl, (q82)⟩
  intro w16 w18 S13 X19 ⟨hI, gL14, fL15, q17, i1u12⟩ ih20
  subst q17
  have d_y4 := d_y4.trans (fri_at fL15 (by decide) (by decide) o_v0).symm
  have d_y6 := d_y6.trans (fri_at fL15 (by decide) (by decide) o_v0).symm
  have d_v1 := d_v1.trans (fri_at fL15 (by decide) (by decide) o_v0).symm
  have d_v2 := d_v2.trans (fri_at fL15 (by decide) (by decide) o_a8).symm
  have d_v3 := d_v3.trans (fri_at fL15 (by decide) (by decide) o_a8).symm
  have ea8 := (frr_at fL15 (by decide) (by decide) o_v0).trans ea8
  have f0 := fri_tr (S := S11) g0 f0 fL15 (by decide) (by decide)
  have o_a8 := gr_ob gL14 o_a8
  have o_v0 := gr_ob gL14 o_v0
  have g0 := gr_tr (T := S11) g0 gL14
  refine u_X0_begin_28 ?_
  refine ⟨fun c21 => ?_, fun c21 => ?_⟩
  · exact hq _ hI g0 f0
  · refine ⟨o_v0, ?_⟩
    refine ⟨a8, ea8, ?_⟩
    refine ⟨o_a8, ?_⟩
    obtain ⟨a23, ea23, o_a23, l_a23⟩ := shl 11 rfl hI o_a8
    refine ⟨a23, ea23, ?_⟩
    refine ⟨o_a23, ?_⟩
    have i24 : vp_in w18 (hN _ a23) := (vin l_a23 (m := 5) (by decide) (q731 i1u12 c21))
    refine ⟨i24, ?_⟩
    intro S25 eS25
    have hI : IV S25 := by rw [eS25]; exact iv_aJ hI o_a8 (by decide) ea23 o_a23 (by decide)
    have f0 := fr_J eS25 f0
    have fL15 := fr_J eS25 fL15
    have d_y4 := rd_J eS25 d_y4
    have d_y6 := rd_J eS25 d_y6
    have d_v1 := rd_J eS25 d_v1
    have d_v2 := rd_J eS25 d_v2
    have d_v3 := rd_J eS25 d_v3
    have ea8 := rf_J eS25 ea8
    have ea23 := rf_J eS25 ea23
    have l_a23 := ln_J eS25 l_a23
    have g0 := gr_J eS25 g0
    have gL14 := gr_J eS25 gL14
    have o_a23 := ob_J eS25 o_a23
    have o_a8 := ob_J eS25 o_a8
    have o_v0 := ob_J eS25 o_v0
    intro x26 ex26
    exact ih20 _ _ _ ⟨hI, gL14, fL15, rfl, (q732 i1u12 c21 ex26)⟩ (mu_up (q733 i1u12 c21 ex26) (q734 i1u12 c21 ex26))
set_option maxHeartbeats 4000000 in
set_option maxRecDepth 20000 in
theorem m_X0_draw {v0 : Nat} {v1 : Nat} {v2 : Int32} {Q : HS → Prop} {S : HS} (hI : IV S) (o_v0 : ob S v0 0) (o_v1 : ob S v1 8)     (hq : ∀ (T : HS), IV T → Gr S T → FRI [(0, 1)] [] S T → Q T) : P_X0_draw v0 v1 v2 Q S := by
  have g0 := gr_rf S
  have f0 := fri_rf [(0, 1)] [] S
  refine u_X0_draw ?_
  refine u_X0_draw_0 ?_
  refine ⟨o_v0, ?_⟩
  intro S1 eS1
  have hI : IV S1 := by rw [eS1]; exact iv_sI hI o_v0 (by decide) (nu_free (by decide))
  have f0 := fr_I eS1 g0 f0 o_v0 (by decide)
  obtain ⟨y2, hy2⟩ : ∃ z : Int32, z = (0 : Int32) := ⟨_, rfl⟩
  have d_y2 := rd_Is eS1 hy2
  have g0 := gr_I eS1 g0
  have o_v0 := ob_I eS1 o_v0
  have o_v1 := ob_I eS1 o_v1
  refine i_X0_draw_10 (fun (y0 : Nat) (y1 : Nat) (y3 : Int32) (y4 : Int32) (Z : HS) => ((2147483647 : Int32).toInt - y4.toInt).toNat) (fun (y0 : Nat) (y1 : Nat) (y3 : Int32) (y4 : Int32) (Z : HS) => (IV Z) ∧ (Gr S1 Z) ∧ (FRI [(0, 1)] [] S1 Z) ∧ (v0 = y0) ∧ (v1 = y1) ∧ (0 ≤ y4)) ?_ _ _ _ _ _ ⟨hI, (gr_rf _), (fri_rf _ _ _), rfl, rfl, (q82)⟩
  intro w7 w9 w11 w12 S4 X13 ⟨hI, gL5, fL6, q8, q10, i1u3⟩ ih14
  subst q8
  subst q10
  have f0 := fri_tr (S := S1) g0 f0 fL6 (by decide) (by decide)
  have o_v0 := gr_ob gL5 o_v0
  have o_v1 := gr_ob gL5 o_v1
  have g0 := gr_tr (T := S1) g0 gL5
  refine u_X0_draw_10 ?_
  refine ⟨o_v1, ?_⟩
  intro x15 ex15
  have r_x15 : (0 : Int32) ≤ x15 ∧ x15 ≤ (6 : Int32) := by rw [ex15]; exact nu 11 rfl hI o_v1
  have d_x15 := ex15
  refine ⟨fun c16 => ?_, fun c16 => ?_⟩
  · exact hq _ hI g0 f0
  · intro x17 ex17
    intro x18 ex18
    obtain ⟨a19, ea19, o_a19, l_a19⟩ := shl 15 rfl hI o_v1
    refine ⟨a19, ea19, ?_⟩
    refine ⟨o_a19, ?_⟩
    have i21 : vp_in w12 (hN _ a19) := (vin l_a19 (m := 6) (by decide) (q1406 i1u3 r_x15 c16))
    obtain ⟨a20, ea20, o_a20⟩ := ae hI o_a19 (by decide) (by decide) i21
    replace o_a20 : ob _ a20 3 := o_a20
    refine ⟨i21, a20, ea20, ?_⟩
    refine ⟨o_a20, ?_⟩
    intro x22 ex22
    have d_x22 := ex22
    refine ⟨fun c23 => ?_, fun c23 => ?_⟩
    · refine u_X0_draw_60 ?_
      intro x24 ex24
      exact ih14 _ _ _ _ _ ⟨hI, gL5, fL6, rfl, rfl, (q1407 i1u3 r_x15 c16 ex17 ex18 c23 ex24)⟩ (mu_up (q1408 i1u3 r_x15 c16 ex17 ex18 c23 ex24) (q1409 i1u3 r_x15 c16 ex17 ex18 c23 ex24))
    · refine ⟨o_v0, ?_⟩
      intro x25 ex25
      have d_x25 := ex25
      intro x26 ex26
      intro S27 eS27
      have hI : IV S27 := by rw [eS27]; exact iv_sI hI o_v0 (by decide) (nu_free (by decide))
      have f0 := fr_I eS27 g0 f0 o_v0 (by decide)
      have fL6 := fr_I eS27 gL5 fL6 o_v0 (by decide)
      have d_x15 := rd_Ik eS27 o_v0 o_v1 (by decide) d_x15
      have d_x22 := rd_Ik eS27 o_v0 o_a20 (by decide) d_x22
      have d_x26 := rd_Is eS27 (rfl : x26 = x26)
      have ea19 := rf_I eS27 ea19
      have l_a19 := ln_I eS27 l_a19
      have g0 := gr_I eS27 g0
      have gL5 := gr_I eS27 gL5
      have o_a19 := ob_I eS27 o_a19
      have o_a20 := ob_I eS27 o_a20
      have o_v0 := ob_I eS27 o_v0
      have o_v1 := ob_I eS27 o_v1
      refine u_X0_draw_60 ?_
      intro x28 ex28
      exact ih14 _ _ _ _ _ ⟨hI, gL5, fL6, rfl, rfl, (q1410 i1u3 r_x15 c16 ex17 ex18 c23 ex26 ex28)⟩ (mu_up (q1411 i1u3 r_x15 c16 ex17 ex18 c23 ex26 ex28) (q1412 i1u3 r_x15 c16 ex17 ex18 c23 ex26 ex28))
set_option maxHeartbeats 4000000 in
set_option maxRecDepth 20000 in
theorem m_X0_isOn {v0 : Nat} {Q : Int32 → HS → Prop} {S : HS} (hI : IV S) (o_v0 : ob S v0 0)     (hq : ∀ (r : Int32) (T : HS), IV T → Gr S T → bl r → (S = T) → Q r T) : P_X0_isOn v0 Q S := by
  have g0 := gr_rf S
  refine u_X0_isOn ?_
  refine u_X0_isOn_0 ?_
  refine ⟨o_v0, ?_⟩
  intro x1 ex1
  have r_x1 : (-1 : Int32) ≤ x1 ∧ x1 ≤ (3 : Int32) := by rw [ex1]; exact nu 1 rfl hI o_v0
  have d_x1 := ex1
  refine ⟨fun c2 => ?_, fun c2 => ?_⟩
  · exact hq _ _ hI g0 (Or.inl rfl) rfl
  · exact hq _ _ hI g0 (Or.inr rfl) rfl
set_option maxHeartbeats 4000000 in
set_option maxRecDepth 20000 in
theorem m_X2_copy {v0 : Nat} {v1 : Nat} {Q : HS → Prop} {S : HS} (hI : IV S) (o_v0 : ob S v0 2) (o_v1 : ob S v1 2)     (hq : ∀ (T : HS), IV T → Gr S T → FRI [(2, 0), (2, 1)] [] S T → Q T) : P_X2_copy v0 v1 Q S := by
  have g0 := gr_rf S
  have f0 := fri_rf [(2, 0), (2, 1)] [] S
  refine u_X2_copy ?_
  refine u_X2_copy_0 ?_
  refine ⟨o_v1, ?_⟩
  intro x1 ex1
  have d_x1 := ex1
  refine ⟨o_v0, ?_⟩
  intro S2 eS2
  have hI : IV S2 := by rw [eS2]; exact iv_sI hI o_v0 (by decide) (nu_free (by decide))
  have f0 := fr_I eS2 g0 f0 o_v0 (by decide)
  obtain ⟨y3, hy3⟩ : ∃ z : Int32, z = x1 := ⟨_, rfl⟩
  have d_y3 := rd_Is eS2 hy3
  have g0 := gr_I eS2 g0
  have o_v0 := ob_I eS2 o_v0
  have o_v1 := ob_I eS2 o_v1
  intro x4 ex4
  have d_x4 := ex4
  intro S5 eS5
  have hI : IV S5 := by rw [eS5]; exact iv_sI hI o_v0 (by decide) (nu_free (by decide))
  have f0 := fr_I eS5 g0 f0 o_v0 (by decide)
  have d_y3 := rd_Ij eS5 (by decide) d_y3
  obtain ⟨y6, hy6⟩ : ∃ z : Int32, z = x4 := ⟨_, rfl⟩
  have d_y6 := rd_Is eS5 hy6
  have g0 := gr_I eS5 g0
  have o_v0 := ob_I eS5 o_v0
  have o_v1 := ob_I eS5 o_v1
  refine i_X2_copy_18 (fun (y0 : Nat) (y1 : Nat) (y2 : Int32) (Z : HS) => ((5 : Int32).toInt - y2.toInt).toNat) (fun (y0 : Nat) (y1 : Nat) (y2 : Int32) (Z : HS) => (IV Z) ∧ (Gr S5 Z) ∧ (FRI [] [] S5 Z) ∧ (v0 = y0) ∧ (v1 = y1) ∧ (0 ≤ y2 ∧ y2 ≤ 5)) ?_ _ _ _ _ ⟨hI, (gr_rf _), (fri_rf _ _ _), rfl, rfl, (q1047)⟩
  intro w11 w13 w15 S8 X16 ⟨hI, gL9, fL10, q12, q14, i1u7⟩ ih17
  subst q12
  subst q14
  have d_y3 := d_y3.trans (fri_at fL10 (by decide) (by decide) o_v0).symm
  have d_y6 := d_y6.trans (fri_at fL10 (by decide) (by decide) o_v0).symm
  have f0 := fri_tr (S := S5) g0 f0 fL10 (by decide) (by decide)
  have o_v0 := gr_ob gL9 o_v0
  have o_v1 := gr_ob gL9 o_v1
  have g0 := gr_tr (T := S5) g0 gL9
  refine u_X2_copy_18 ?_
  refine ⟨fun c18 => ?_, fun c18 => ?_⟩
  · exact hq _ hI g0 f0
  · refine ⟨o_v0, ?_⟩
    obtain ⟨a19, ea19, o_a19, l_a19⟩ := shl 11 rfl hI o_v0
    refine ⟨a19, ea19, ?_⟩
    refine ⟨o_v1, ?_⟩
    obtain ⟨a20, ea20, o_a20, l_a20⟩ := shl 11 rfl hI o_v1
    refine ⟨a20, ea20, ?_⟩
    refine ⟨o_a20, ?_⟩
    refine ⟨(vin l_a20 (m := 5) (by decide) (q1048 i1u7 c18)), ?_⟩
    intro x21 ex21
    refine ⟨o_a19, ?_⟩
    have i22 : vp_in w15 (hN _ a19) := (vin l_a19 (m := 5) (by decide) (q1048 i1u7 c18))
    refine ⟨i22, ?_⟩
    intro S23 eS23
    have hI : IV S23 := by rw [eS23]; exact iv_aJ hI o_v0 (by decide) ea19 o_a19 (by decide)
    have f0 := fr_J eS23 f0
    have fL10 := fr_J eS23 fL10
    have d_y3 := rd_J eS23 d_y3
    have d_y6 := rd_J eS23 d_y6
    have ea19 := rf_J eS23 ea19
    have ea20 := rf_J eS23 ea20
    have l_a19 := ln_J eS23 l_a19
    have l_a20 := ln_J eS23 l_a20
    have g0 := gr_J eS23 g0
    have gL9 := gr_J eS23 gL9
    have o_a19 := ob_J eS23 o_a19
    have o_a20 := ob_J eS23 o_a20
    have o_v0 := ob_J eS23 o_v0
    have o_v1 := ob_J eS23 o_v1
    intro x24 ex24
    exact ih17 _ _ _ _ ⟨hI, gL9, fL10, rfl, rfl, (q1049 i1u7 c18 ex24)⟩ (mu_up (q1050 i1u7 c18 ex24) (q1051 i1u7 c18 ex24))
set_option maxHeartbeats 4000000 in
set_option maxRecDepth 20000 in
theorem m_X0_keepForUndo {v0 : Nat} {Q : HS → Prop} {S : HS} (hI : IV S) (o_v0 : ob S v0 0)     (hq : ∀ (T : HS), IV T → Gr S T → FRI [(0, 2), (2, 0), (2, 1)] [] S T → Q T) : P_X0_keepForUndo v0 Q S := by
  have g0 := gr_rf S
  have f0 := fri_rf [(0, 2), (2, 0), (2, 1)] [] S
  refine u_X0_keepForUndo ?_
  refine u_X0_keepForUndo_0 ?_
  refine ⟨o_v0, ?_⟩
  intro x1 ex1
  have r_x1 : (0 : Int32) ≤ x1 ∧ x1 ≤ (16 : Int32) := by rw [ex1]; exact nu 2 rfl hI o_v0
  have d_x1 := ex1
  refine ⟨fun c2 => ?_, fun c2 => ?_⟩
  · refine u_X0_keepForUndo_58 ?_
    refine ⟨o_v0, ?_⟩
    obtain ⟨a3, ea3, o_a3, l_a3⟩ := shl 7 rfl hI o_v0
    refine ⟨a3, ea3, ?_⟩
    intro x4 ex4
    have r_x4 : (0 : Int32) ≤ x4 ∧ x4 ≤ (16 : Int32) := by rw [ex4]; exact nu 2 rfl hI o_v0
    have q_x4 : x4 = x1 := ex4.trans d_x1.symm
    have d_x4 := ex4
    refine ⟨o_a3, ?_⟩
    have i6 : vp_in x4 (hN _ a3) := (vin l_a3 (m := 16) (by decide) (q1107 r_x1 c2 r_x4 q_x4))
    obtain ⟨a5, ea5, o_a5⟩ := ae hI o_a3 (by decide) (by decide) i6
    replace o_a5 : ob _ a5 2 := o_a5
    refine ⟨i6, a5, ea5, ?_⟩
    obtain ⟨a7, ea7, o_a7, -⟩ := sh 6 rfl hI o_v0
    refine ⟨a7, ea7, ?_⟩
    refine ⟨o_a5, ?_⟩
    refine m_X2_copy hI o_a5 o_a7 (fun S9 hJ g10 fc11 => ?_)
    have hI := hJ
    have l_a3 := (gr_len g10 o_a3).trans l_a3
    have d_x4 := d_x4.trans (fri_at fc11 (by decide) (by decide) o_v0).symm
    have ea3 := (frr_at fc11 (by decide) (by decide) o_v0).trans ea3
    have ea7 := (frr_at fc11 (by decide) (by decide) o_v0).trans ea7
    have f0 := fri_tr (S := S) g0 f0 fc11 (by decide) (by decide)
    have o_a3 := gr_ob g10 o_a3
    have o_a5 := gr_ob g10 o_a5
    have o_a7 := gr_ob g10 o_a7
    have o_v0 := gr_ob g10 o_v0
    have g0 := gr_tr (T := S) g0 g10
    intro _
    intro x12 ex12
    have r_x12 : (0 : Int32) ≤ x12 ∧ x12 ≤ (16 : Int32) := by rw [ex12]; exact nu 2 rfl hI o_v0
    have q_x12 : x12 = x4 := ex12.trans d_x4.symm
    have d_x12 := ex12
    intro x13 ex13
    intro S14 eS14
    have hI : IV S14 := by rw [eS14]; exact iv_sI hI o_v0 (by decide) (nu_one (lo := (0 : Int32)) (hi := (16 : Int32)) (by decide) (q1108 r_x1 c2 r_x4 q_x4 r_x12 q_x12 ex13))
    have f0 := fr_I eS14 g0 f0 o_v0 (by decide)
    have d_x13 := rd_Is eS14 (rfl : x13 = x13)
    have ea3 := rf_I eS14 ea3
    have ea7 := rf_I eS14 ea7
    have l_a3 := ln_I eS14 l_a3
    have g0 := gr_I eS14 g0
    have o_a3 := ob_I eS14 o_a3
    have o_a5 := ob_I eS14 o_a5
    have o_a7 := ob_I eS14 o_a7
    have o_v0 := ob_I eS14 o_v0
    exact hq _ hI g0 f0
  · obtain ⟨a15, ea15, o_a15, l_a15⟩ := shl 7 rfl hI o_v0
    refine ⟨a15, ea15, ?_⟩
    refine ⟨o_a15, ?_⟩
    have i17 : vp_in (0 : Int32) (hN _ a15) := (vin l_a15 (m := 16) (by decide) (q1109 r_x1 c2))
    obtain ⟨a16, ea16, o_a16⟩ := ae hI o_a15 (by decide) (by decide) i17
    replace o_a16 : ob _ a16 2 := o_a16
    refine ⟨i17, a16, ea16, ?_⟩
    refine i_X0_keepForUndo_18 (fun (y0 : Nat) (y1 : Nat) (y2 : Int32) (Z : HS) => ((16 : Int32).toInt - y2.toInt).toNat) (fun (y0 : Nat) (y1 : Nat) (y2 : Int32) (Z : HS) => (IV Z) ∧ (Gr S Z) ∧ (FRI [] [] S Z) ∧ (v0 = y0) ∧ (a16 = y1) ∧ (1 ≤ y2 ∧ y2 ≤ 16)) ?_ _ _ _ _ ⟨hI, (gr_rf _), (fri_rf _ _ _), rfl, rfl, (q1110 r_x1 c2)⟩
    intro w22 w24 w26 S19 X27 ⟨hI, gL20, fL21, q23, q25, i1u18⟩ ih28
    subst q23
    subst q25
    have l_a15 := (gr_len gL20 o_a15).trans l_a15
    have d_x1 := d_x1.trans (fri_at fL21 (by decide) (by decide) o_v0).symm
    have ea15 := (frr_at fL21 (by decide) (by decide) o_v0).trans ea15
    have f0 := fri_tr (S := S) g0 f0 fL21 (by decide) (by decide)
    have o_a15 := gr_ob gL20 o_a15
    have o_a16 := gr_ob gL20 o_a16
    have o_v0 := gr_ob gL20 o_v0
    have g0 := gr_tr (T := S) g0 gL20
    refine u_X0_keepForUndo_18 ?_
    refine ⟨fun c29 => ?_, fun c29 => ?_⟩
    · refine ⟨o_v0, ?_⟩
      refine ⟨a15, ea15, ?_⟩
      refine ⟨o_a15, ?_⟩
      refine ⟨o_a16, ?_⟩
      have i31 : vp_in (15 : Int32) (hN _ a15) := (vin l_a15 (m := 16) (by decide) (q1111 r_x1 c2 i1u18 c29))
      refine ⟨i31, ?_⟩
      intro S32 eS32
      have hI : IV S32 := by rw [eS32]; exact iv_aR hI o_a15 (by decide) (by decide) o_a16
      have f0 := fr_AR eS32 g0 f0 o_a15 (by decide)
      have d_x1 := rd_R eS32 d_x1
      have ea15 := rf_Rk eS32 o_a15 o_v0 (by decide) ea15
      have l_a15 := ln_R eS32 l_a15
      have g0 := gr_R eS32 g0
      have o_a15 := ob_R eS32 o_a15
      have o_a16 := ob_R eS32 o_a16
      have o_v0 := ob_R eS32 o_v0
      intro S33 eS33
      have hI : IV S33 := by rw [eS33]; exact iv_sI hI o_v0 (by decide) (nu_one (lo := (0 : Int32)) (hi := (16 : Int32)) (by decide) (q1112 r_x1 c2 i1u18 c29))
      have f0 := fr_I eS33 g0 f0 o_v0 (by decide)
      obtain ⟨y34, hy34⟩ : ∃ z : Int32, z = (15 : Int32) := ⟨_, rfl⟩
      have d_y34 := rd_Is eS33 hy34
      have ea15 := rf_I eS33 ea15
      have l_a15 := ln_I eS33 l_a15
      have g0 := gr_I eS33 g0
      have o_a15 := ob_I eS33 o_a15
      have o_a16 := ob_I eS33 o_a16
      have o_v0 := ob_I eS33 o_v0
      refine u_X0_keepForUndo_58 ?_
      refine ⟨o_v0, ?_⟩
      refine ⟨a15, ea15, ?_⟩
      intro x36 ex36
      have r_x36 : (0 : Int32) ≤ x36 ∧ x36 ≤ (16 : Int32) := by rw [ex36]; exact nu 2 rfl hI o_v0
      have q_x36 : x36 = y34 := ex36.trans d_y34.symm
      have d_x36 := ex36
      refine ⟨o_a15, ?_⟩
      have i38 : vp_in x36 (hN _ a15) := (vin l_a15 (m := 16) (by decide) (q1113 r_x1 c2 i1u18 c29 hy34 r_x36 q_x36))
      obtain ⟨a37, ea37, o_a37⟩ := ae hI o_a15 (by decide) (by decide) i38
      replace o_a37 : ob _ a37 2 := o_a37
      refine ⟨i38, a37, ea37, ?_⟩
      obtain ⟨a39, ea39, o_a39, -⟩ := sh 6 rfl hI o_v0
      refine ⟨a39, ea39, ?_⟩
      refine ⟨o_a37, ?_⟩
      refine m_X2_copy hI o_a37 o_a39 (fun S41 hJ g42 fc43 => ?_)
      have hI := hJ
      have l_a15 := (gr_len g42 o_a15).trans l_a15
      have d_x36 := d_x36.trans (fri_at fc43 (by decide) (by decide) o_v0).symm
      have ea15 := (frr_at fc43 (by decide) (by decide) o_v0).trans ea15
      have ea39 := (frr_at fc43 (by decide) (by decide) o_v0).trans ea39
      have f0 := fri_tr (S := S33) g0 f0 fc43 (by decide) (by decide)
      have o_a15 := gr_ob g42 o_a15
      have o_a16 := gr_ob g42 o_a16
      have o_a37 := gr_ob g42 o_a37
      have o_a39 := gr_ob g42 o_a39
      have o_v0 := gr_ob g42 o_v0
      have g0 := gr_tr (T := S33) g0 g42
      intro _
      intro x44 ex44
      have r_x44 : (0 : Int32) ≤ x44 ∧ x44 ≤ (16 : Int32) := by rw [ex44]; exact nu 2 rfl hI o_v0
      have q_x44 : x44 = x36 := ex44.trans d_x36.symm
      have d_x44 := ex44
      intro x45 ex45
      intro S46 eS46
      have hI : IV S46 := by rw [eS46]; exact iv_sI hI o_v0 (by decide) (nu_one (lo := (0 : Int32)) (hi := (16 : Int32)) (by decide) (q1114 r_x1 c2 i1u18 c29 hy34 r_x36 q_x36 r_x44 q_x44 ex45))
      have f0 := fr_I eS46 g0 f0 o_v0 (by decide)
      have d_x45 := rd_Is eS46 (rfl : x45 = x45)
      have ea15 := rf_I eS46 ea15
      have ea39 := rf_I eS46 ea39
      have l_a15 := ln_I eS46 l_a15
      have g0 := gr_I eS46 g0
      have o_a15 := ob_I eS46 o_a15
      have o_a16 := ob_I eS46 o_a16
      have o_a37 := ob_I eS46 o_a37
      have o_a39 := ob_I eS46 o_a39
      have o_v0 := ob_I eS46 o_v0
      exact hq _ hI g0 f0
    · refine ⟨o_v0, ?_⟩
      refine ⟨a15, ea15, ?_⟩
      refine ⟨a15, ea15, ?_⟩
      refine ⟨o_a15, ?_⟩
      have i50 : vp_in w26 (hN _ a15) := (vin l_a15 (m := 16) (by decide) (q1115 r_x1 c2 i1u18 c29))
      obtain ⟨a49, ea49, o_a49⟩ := ae hI o_a15 (by decide) (by decide) i50
      replace o_a49 : ob _ a49 2 := o_a49
      refine ⟨i50, a49, ea49, ?_⟩
      refine ⟨o_a15, ?_⟩
      refine ⟨o_a49, ?_⟩
      have i51 : vp_in (w26 - (1 : Int32)) (hN _ a15) := (vin l_a15 (m := 16) (by decide) (q1116 r_x1 c2 i1u18 c29))
      refine ⟨i51, ?_⟩
      intro S52 eS52
      have hI : IV S52 := by rw [eS52]; exact iv_aR hI o_a15 (by decide) (by decide) o_a49
      have f0 := fr_AR eS52 g0 f0 o_a15 (by decide)
      have fL21 := fr_AR eS52 gL20 fL21 o_a15 (by decide)
      have d_x1 := rd_R eS52 d_x1
      have ea15 := rf_Rk eS52 o_a15 o_v0 (by decide) ea15
      have l_a15 := ln_R eS52 l_a15
      have g0 := gr_R eS52 g0
      have gL20 := gr_R eS52 gL20
      have o_a15 := ob_R eS52 o_a15
      have o_a16 := ob_R eS52 o_a16
      have o_a49 := ob_R eS52 o_a49
      have o_v0 := ob_R eS52 o_v0
      intro x53 ex53
      exact ih28 _ _ _ _ ⟨hI, gL20, fL21, rfl, rfl, (q1117 r_x1 c2 i1u18 c29 ex53)⟩ (mu_up (q1118 r_x1 c2 i1u18 c29 ex53) (q1119 r_x1 c2 i1u18 c29 ex53))
set_option maxHeartbeats 4000000 in
set_option maxRecDepth 20000 in
theorem m_X0_rainsIn {v0 : Nat} {v1 : Int32} {Q : Int32 → HS → Prop} {S : HS} (hI : IV S) (o_v0 : ob S v0 0)     (hq : ∀ (r : Int32) (T : HS), IV T → Gr S T → bl r → (S = T) → Q r T) : P_X0_rainsIn v0 v1 Q S := by
  have g0 := gr_rf S
  refine u_X0_rainsIn ?_
  refine u_X0_rainsIn_0 ?_
  refine ⟨fun c1 => ?_, fun c1 => ?_⟩
  · exact hq _ _ hI g0 (Or.inl rfl) rfl
  · refine ⟨fun c2 => ?_, fun c2 => ?_⟩
    · exact hq _ _ hI g0 (Or.inl rfl) rfl
    · refine ⟨o_v0, ?_⟩
      intro x3 ex3
      have d_x3 := ex3
      refine ⟨fun c4 => ?_, fun c4 => ?_⟩
      · exact hq _ _ hI g0 (Or.inl rfl) rfl
      · exact hq _ _ hI g0 (Or.inr rfl) rfl
set_option maxHeartbeats 4000000 in
set_option maxRecDepth 20000 in
theorem m_X0_returnTo {v0 : Nat} {v1 : Int32} {Q : Int32 → HS → Prop} {S : HS} (hI : IV S) (o_v0 : ob S v0 0)     (hq : ∀ (r : Int32) (T : HS), IV T → Gr S T → FRI [(0, 2), (2, 0), (2, 1)] [] S T → bl r → Q r T) : P_X0_returnTo v0 v1 Q S := by
  have g0 := gr_rf S
  have f0 := fri_rf [(0, 2), (2, 0), (2, 1)] [] S
  refine u_X0_returnTo ?_
  refine u_X0_returnTo_0 ?_
  refine ⟨fun c1 => ?_, fun c1 => ?_⟩
  · exact hq _ _ hI g0 f0 (Or.inl rfl)
  · refine ⟨o_v0, ?_⟩
    intro x2 ex2
    have r_x2 : (0 : Int32) ≤ x2 ∧ x2 ≤ (3 : Int32) := by rw [ex2]; exact nu 3 rfl hI o_v0
    have d_x2 := ex2
    refine ⟨fun c3 => ?_, fun c3 => ?_⟩
    · obtain ⟨a4, ea4, o_a4, -⟩ := sh 6 rfl hI o_v0
      refine ⟨a4, ea4, ?_⟩
      obtain ⟨a5, ea5, o_a5, l_a5⟩ := shl 8 rfl hI o_v0
      refine ⟨a5, ea5, ?_⟩
      refine ⟨o_a5, ?_⟩
      have i7 : vp_in v1 (hN _ a5) := (vin l_a5 (m := 3) (by decide) (q1417 c1 r_x2 c3))
      obtain ⟨a6, ea6, o_a6⟩ := ae hI o_a5 (by decide) (by decide) i7
      replace o_a6 : ob _ a6 2 := o_a6
      refine ⟨i7, a6, ea6, ?_⟩
      refine ⟨o_a4, ?_⟩
      refine m_X2_copy hI o_a4 o_a6 (fun S9 hJ g10 fc11 => ?_)
      have hI := hJ
      have l_a5 := (gr_len g10 o_a5).trans l_a5
      have d_x2 := d_x2.trans (fri_at fc11 (by decide) (by decide) o_v0).symm
      have ea4 := (frr_at fc11 (by decide) (by decide) o_v0).trans ea4
      have ea5 := (frr_at fc11 (by decide) (by decide) o_v0).trans ea5
      have f0 := fri_tr (S := S) g0 f0 fc11 (by decide) (by decide)
      have o_a4 := gr_ob g10 o_a4
      have o_a5 := gr_ob g10 o_a5
      have o_a6 := gr_ob g10 o_a6
      have o_v0 := gr_ob g10 o_v0
      have g0 := gr_tr (T := S) g0 g10
      intro _
      intro S12 eS12
      have hI : IV S12 := by rw [eS12]; exact iv_sI hI o_v0 (by decide) (nu_one (lo := (0 : Int32)) (hi := (16 : Int32)) (by decide) (q1418 c1 r_x2 c3))
      have f0 := fr_I eS12 g0 f0 o_v0 (by decide)
      have d_x2 := rd_Ij eS12 (by decide) d_x2
      obtain ⟨y13, hy13⟩ : ∃ z : Int32, z = (0 : Int32) := ⟨_, rfl⟩
      have d_y13 := rd_Is eS12 hy13
      have ea4 := rf_I eS12 ea4
      have ea5 := rf_I eS12 ea5
      have l_a5 := ln_I eS12 l_a5
      have g0 := gr_I eS12 g0
      have o_a4 := ob_I eS12 o_a4
      have o_a5 := ob_I eS12 o_a5
      have o_a6 := ob_I eS12 o_a6
      have o_v0 := ob_I eS12 o_v0
      exact hq _ _ hI g0 f0 (Or.inr rfl)
    · exact hq _ _ hI g0 f0 (Or.inl rfl)
set_option maxHeartbeats 4000000 in
set_option maxRecDepth 20000 in
theorem m_X0_setMark {v0 : Nat} {Q : Int32 → HS → Prop} {S : HS} (hI : IV S) (o_v0 : ob S v0 0)     (hq : ∀ (r : Int32) (T : HS), IV T → Gr S T → FRI [(0, 3), (2, 0), (2, 1)] [] S T → Q r T) : P_X0_setMark v0 Q S := by
  have g0 := gr_rf S
  have f0 := fri_rf [(0, 3), (2, 0), (2, 1)] [] S
  refine u_X0_setMark ?_
  refine u_X0_setMark_0 ?_
  refine ⟨o_v0, ?_⟩
  intro x1 ex1
  have r_x1 : (0 : Int32) ≤ x1 ∧ x1 ≤ (3 : Int32) := by rw [ex1]; exact nu 3 rfl hI o_v0
  have d_x1 := ex1
  refine ⟨fun c2 => ?_, fun c2 => ?_⟩
  · obtain ⟨a3, ea3, o_a3, l_a3⟩ := shl 8 rfl hI o_v0
    refine ⟨a3, ea3, ?_⟩
    intro x4 ex4
    have r_x4 : (0 : Int32) ≤ x4 ∧ x4 ≤ (3 : Int32) := by rw [ex4]; exact nu 3 rfl hI o_v0
    have q_x4 : x4 = x1 := ex4.trans d_x1.symm
    have d_x4 := ex4
    refine ⟨o_a3, ?_⟩
    have i6 : vp_in x4 (hN _ a3) := (vin l_a3 (m := 3) (by decide) (q1309 r_x1 c2 r_x4 q_x4))
    obtain ⟨a5, ea5, o_a5⟩ := ae hI o_a3 (by decide) (by decide) i6
    replace o_a5 : ob _ a5 2 := o_a5
    refine ⟨i6, a5, ea5, ?_⟩
    obtain ⟨a7, ea7, o_a7, -⟩ := sh 6 rfl hI o_v0
    refine ⟨a7, ea7, ?_⟩
    refine ⟨o_a5, ?_⟩
    refine m_X2_copy hI o_a5 o_a7 (fun S9 hJ g10 fc11 => ?_)
    have hI := hJ
    have l_a3 := (gr_len g10 o_a3).trans l_a3
    have d_x4 := d_x4.trans (fri_at fc11 (by decide) (by decide) o_v0).symm
    have ea3 := (frr_at fc11 (by decide) (by decide) o_v0).trans ea3
    have ea7 := (frr_at fc11 (by decide) (by decide) o_v0).trans ea7
    have f0 := fri_tr (S := S) g0 f0 fc11 (by decide) (by decide)
    have o_a3 := gr_ob g10 o_a3
    have o_a5 := gr_ob g10 o_a5
    have o_a7 := gr_ob g10 o_a7
    have o_v0 := gr_ob g10 o_v0
    have g0 := gr_tr (T := S) g0 g10
    intro _
    intro x12 ex12
    have r_x12 : (0 : Int32) ≤ x12 ∧ x12 ≤ (3 : Int32) := by rw [ex12]; exact nu 3 rfl hI o_v0
    have q_x12 : x12 = x4 := ex12.trans d_x4.symm
    have d_x12 := ex12
    intro x13 ex13
    intro S14 eS14
    have hI : IV S14 := by rw [eS14]; exact iv_sI hI o_v0 (by decide) (nu_one (lo := (0 : Int32)) (hi := (3 : Int32)) (by decide) (q1310 r_x1 c2 r_x4 q_x4 r_x12 q_x12 ex13))
    have f0 := fr_I eS14 g0 f0 o_v0 (by decide)
    have d_x13 := rd_Is eS14 (rfl : x13 = x13)
    have ea3 := rf_I eS14 ea3
    have ea7 := rf_I eS14 ea7
    have l_a3 := ln_I eS14 l_a3
    have g0 := gr_I eS14 g0
    have o_a3 := ob_I eS14 o_a3
    have o_a5 := ob_I eS14 o_a5
    have o_a7 := ob_I eS14 o_a7
    have o_v0 := ob_I eS14 o_v0
    intro x15 ex15
    have r_x15 : (0 : Int32) ≤ x15 ∧ x15 ≤ (3 : Int32) := by rw [ex15]; exact nu 3 rfl hI o_v0
    have q_x15 : x15 = x13 := ex15.trans d_x13.symm
    have d_x15 := ex15
    exact hq _ _ hI g0 f0
  · exact hq _ _ hI g0 f0
set_option maxHeartbeats 4000000 in
set_option maxRecDepth 20000 in
theorem m_X0_takeBack {v0 : Nat} {Q : Int32 → HS → Prop} {S : HS} (hI : IV S) (o_v0 : ob S v0 0)     (hq : ∀ (r : Int32) (T : HS), IV T → Gr S T → FRI [(0, 2), (2, 0), (2, 1)] [] S T → bl r → Q r T) : P_X0_takeBack v0 Q S := by
  have g0 := gr_rf S
  have f0 := fri_rf [(0, 2), (2, 0), (2, 1)] [] S
  refine u_X0_takeBack ?_
  refine u_X0_takeBack_0 ?_
  refine ⟨o_v0, ?_⟩
  intro x1 ex1
  have r_x1 : (0 : Int32) ≤ x1 ∧ x1 ≤ (16 : Int32) := by rw [ex1]; exact nu 2 rfl hI o_v0
  have d_x1 := ex1
  refine ⟨fun c2 => ?_, fun c2 => ?_⟩
  · intro x3 ex3
    have r_x3 : (0 : Int32) ≤ x3 ∧ x3 ≤ (16 : Int32) := by rw [ex3]; exact nu 2 rfl hI o_v0
    have q_x3 : x3 = x1 := ex3.trans d_x1.symm
    have d_x3 := ex3
    intro x4 ex4
    intro S5 eS5
    have hI : IV S5 := by rw [eS5]; exact iv_sI hI o_v0 (by decide) (nu_one (lo := (0 : Int32)) (hi := (16 : Int32)) (by decide) (q1045 r_x1 c2 r_x3 q_x3 ex4))
    have f0 := fr_I eS5 g0 f0 o_v0 (by decide)
    have d_x4 := rd_Is eS5 (rfl : x4 = x4)
    have g0 := gr_I eS5 g0
    have o_v0 := ob_I eS5 o_v0
    obtain ⟨a6, ea6, o_a6, -⟩ := sh 6 rfl hI o_v0
    refine ⟨a6, ea6, ?_⟩
    obtain ⟨a7, ea7, o_a7, l_a7⟩ := shl 7 rfl hI o_v0
    refine ⟨a7, ea7, ?_⟩
    intro x8 ex8
    have r_x8 : (0 : Int32) ≤ x8 ∧ x8 ≤ (16 : Int32) := by rw [ex8]; exact nu 2 rfl hI o_v0
    have q_x8 : x8 = x4 := ex8.trans d_x4.symm
    have d_x8 := ex8
    refine ⟨o_a7, ?_⟩
    have i10 : vp_in x8 (hN _ a7) := (vin l_a7 (m := 16) (by decide) (q1046 r_x1 c2 r_x3 q_x3 ex4 r_x8 q_x8))
    obtain ⟨a9, ea9, o_a9⟩ := ae hI o_a7 (by decide) (by decide) i10
    replace o_a9 : ob _ a9 2 := o_a9
    refine ⟨i10, a9, ea9, ?_⟩
    refine ⟨o_a6, ?_⟩
    refine m_X2_copy hI o_a6 o_a9 (fun S12 hJ g13 fc14 => ?_)
    have hI := hJ
    have l_a7 := (gr_len g13 o_a7).trans l_a7
    have d_x8 := d_x8.trans (fri_at fc14 (by decide) (by decide) o_v0).symm
    have ea6 := (frr_at fc14 (by decide) (by decide) o_v0).trans ea6
    have ea7 := (frr_at fc14 (by decide) (by decide) o_v0).trans ea7
    have f0 := fri_tr (S := S5) g0 f0 fc14 (by decide) (by decide)
    have o_a6 := gr_ob g13 o_a6
    have o_a7 := gr_ob g13 o_a7
    have o_a9 := gr_ob g13 o_a9
    have o_v0 := gr_ob g13 o_v0
    have g0 := gr_tr (T := S5) g0 g13
    intro _
    exact hq _ _ hI g0 f0 (Or.inr rfl)
  · exact hq _ _ hI g0 f0 (Or.inl rfl)
set_option maxHeartbeats 4000000 in
set_option maxRecDepth 20000 in
theorem m_X5_turnOf {v0 : Nat} {v1 : Int32} {v2 : Nat} {Q : Int32 → HS → Prop} {S : HS} (hI : IV S) (o_v0 : ob S v0 5) (o_v2 : ob S v2 3)     (hq : ∀ (r : Int32) (T : HS), IV T → Gr S T → (S = T) → Q r T) : P_X5_turnOf v0 v1 v2 Q S := by
  have g0 := gr_rf S
  refine u_X5_turnOf ?_
  refine u_X5_turnOf_0 ?_
  refine ⟨fun c1 => ?_, fun c1 => ?_⟩
  · refine ⟨o_v0, ?_⟩
    intro x2 ex2
    have d_x2 := ex2
    refine u_X5_turnOf_17 ?_
    refine ⟨o_v2, ?_⟩
    intro x3 ex3
    have d_x3 := ex3
    exact hq _ _ hI g0 rfl
  · refine ⟨o_v0, ?_⟩
    intro x4 ex4
    have d_x4 := ex4
    refine u_X5_turnOf_17 ?_
    refine ⟨o_v2, ?_⟩
    intro x5 ex5
    have d_x5 := ex5
    exact hq _ _ hI g0 rfl
set_option maxHeartbeats 4000000 in
set_option maxRecDepth 20000 in
theorem m_X5_airAlong {v0 : Nat} {v1 : Int32} {v2 : Nat} {Q : Int32 → HS → Prop} {S : HS} (hI : IV S) (o_v0 : ob S v0 5) (o_v2 : ob S v2 3)     (hq : ∀ (r : Int32) (T : HS), IV T → Gr S T → (S = T) → Q r T) : P_X5_airAlong v0 v1 v2 Q S := by
  have g0 := gr_rf S
  refine u_X5_airAlong ?_
  refine u_X5_airAlong_0 ?_
  refine ⟨o_v0, ?_⟩
  refine m_X5_turnOf hI o_v0 o_v2 (fun x1 S2 hI2 g3 p_x1 => ?_)
  subst p_x1
  intro _
  refine ⟨fun c5 => ?_, fun c5 => ?_⟩
  · refine ⟨fun c6 => ?_, fun c6 => ?_⟩
    · exact hq _ _ hI g0 rfl
    · refine ⟨o_v2, ?_⟩
      intro x7 ex7
      have d_x7 := ex7
      exact hq _ _ hI g0 rfl
  · refine ⟨o_v2, ?_⟩
    intro x8 ex8
    have d_x8 := ex8
    exact hq _ _ hI g0 rfl
set_option maxHeartbeats 4000000 in
set_option maxRecDepth 20000 in
theorem m_X1_lay {v0 : Nat} {v1 : Nat} {v2 : Int32} {v3 : Nat} {v4 : Int32} {Q : HS → Prop} {S : HS} (hI : IV S) (o_v0 : ob S v0 1) (o_v1 : ob S v1 5) (o_v3 : ob S v3 3)     (hq : ∀ (T : HS), IV T → Gr S T → FRI [] [] S T → Q T) : P_X1_lay v0 v1 v2 v3 v4 Q S := by
  have g0 := gr_rf S
  have f0 := fri_rf [] [] S
  refine u_X1_lay ?_
  refine u_X1_lay_0 ?_
  refine ⟨fun c1 => ?_, fun c1 => ?_⟩
  · refine u_X1_lay_27 ?_
    refine ⟨o_v3, ?_⟩
    intro x2 ex2
    have d_x2 := ex2
    intro x3 ex3
    refine ⟨o_v1, ?_⟩
    refine m_X5_turnOf hI o_v1 o_v3 (fun x4 S5 hI2 g6 p_x4 => ?_)
    subst p_x4
    intro _
    refine m_X5_airAlong hI o_v1 o_v3 (fun x8 S9 hI2 g10 p_x8 => ?_)
    subst p_x8
    intro _
    refine ⟨o_v0, ?_⟩
    obtain ⟨a12, ea12, o_a12, l_a12⟩ := shl 10 rfl hI o_v0
    refine ⟨a12, ea12, ?_⟩
    intro x13 ex13
    have d_x13 := ex13
    refine ⟨o_a12, ?_⟩
    intro x14 ex14
    have i15 : vp_in (0 : Int32) (hN _ a12) := (vin l_a12 (m := 5) (by decide) (q55 c1))
    refine ⟨i15, ?_⟩
    intro S16 eS16
    have hI : IV S16 := by rw [eS16]; exact iv_aJ hI o_v0 (by decide) ea12 o_a12 (by decide)
    have f0 := fr_J eS16 f0
    have d_x2 := rd_J eS16 d_x2
    have d_x13 := rd_J eS16 d_x13
    have ea12 := rf_J eS16 ea12
    have l_a12 := ln_J eS16 l_a12
    have g0 := gr_J eS16 g0
    have o_a12 := ob_J eS16 o_a12
    have o_v0 := ob_J eS16 o_v0
    have o_v1 := ob_J eS16 o_v1
    have o_v3 := ob_J eS16 o_v3
    refine ⟨a12, ea12, ?_⟩
    intro x18 ex18
    refine ⟨o_a12, ?_⟩
    intro x19 ex19
    have i20 : vp_in (1 : Int32) (hN _ a12) := (vin l_a12 (m := 5) (by decide) (q56 c1 ex18))
    refine ⟨i20, ?_⟩
    intro S21 eS21
    have hI : IV S21 := by rw [eS21]; exact iv_aJ hI o_v0 (by decide) ea12 o_a12 (by decide)
    have f0 := fr_J eS21 f0
    have d_x2 := rd_J eS21 d_x2
    have d_x13 := rd_J eS21 d_x13
    have ea12 := rf_J eS21 ea12
    have l_a12 := ln_J eS21 l_a12
    have g0 := gr_J eS21 g0
    have o_a12 := ob_J eS21 o_a12
    have o_v0 := ob_J eS21 o_v0
    have o_v1 := ob_J eS21 o_v1
    have o_v3 := ob_J eS21 o_v3
    refine ⟨a12, ea12, ?_⟩
    intro x23 ex23
    refine ⟨o_a12, ?_⟩
    intro x24 ex24
    have i25 : vp_in (2 : Int32) (hN _ a12) := (vin l_a12 (m := 5) (by decide) (q57 c1 ex18 ex23))
    refine ⟨i25, ?_⟩
    intro S26 eS26
    have hI : IV S26 := by rw [eS26]; exact iv_aJ hI o_v0 (by decide) ea12 o_a12 (by decide)
    have f0 := fr_J eS26 f0
    have d_x2 := rd_J eS26 d_x2
    have d_x13 := rd_J eS26 d_x13
    have ea12 := rf_J eS26 ea12
    have l_a12 := ln_J eS26 l_a12
    have g0 := gr_J eS26 g0
    have o_a12 := ob_J eS26 o_a12
    have o_v0 := ob_J eS26 o_v0
    have o_v1 := ob_J eS26 o_v1
    have o_v3 := ob_J eS26 o_v3
    refine ⟨a12, ea12, ?_⟩
    refine ⟨fun c28 => ?_, fun c28 => ?_⟩
    · refine u_X1_lay_130 ?_
      refine ⟨o_a12, ?_⟩
      have i29 : vp_in (3 : Int32) (hN _ a12) := (vin l_a12 (m := 5) (by decide) (q58 c1 ex18 ex23 c28))
      refine ⟨i29, ?_⟩
      intro S30 eS30
      have hI : IV S30 := by rw [eS30]; exact iv_aJ hI o_v0 (by decide) ea12 o_a12 (by decide)
      have f0 := fr_J eS30 f0
      have d_x2 := rd_J eS30 d_x2
      have d_x13 := rd_J eS30 d_x13
      have ea12 := rf_J eS30 ea12
      have l_a12 := ln_J eS30 l_a12
      have g0 := gr_J eS30 g0
      have o_a12 := ob_J eS30 o_a12
      have o_v0 := ob_J eS30 o_v0
      have o_v1 := ob_J eS30 o_v1
      have o_v3 := ob_J eS30 o_v3
      refine ⟨o_v0, ?_⟩
      refine ⟨a12, ea12, ?_⟩
      refine ⟨fun c32 => ?_, fun c32 => ?_⟩
      · refine ⟨o_a12, ?_⟩
        have i33 : vp_in (4 : Int32) (hN _ a12) := (vin l_a12 (m := 5) (by decide) (q59 c1 ex18 ex23 c28 c32))
        refine ⟨i33, ?_⟩
        intro S34 eS34
        have hI : IV S34 := by rw [eS34]; exact iv_aJ hI o_v0 (by decide) ea12 o_a12 (by decide)
        have f0 := fr_J eS34 f0
        have d_x2 := rd_J eS34 d_x2
        have d_x13 := rd_J eS34 d_x13
        have ea12 := rf_J eS34 ea12
        have l_a12 := ln_J eS34 l_a12
        have g0 := gr_J eS34 g0
        have o_a12 := ob_J eS34 o_a12
        have o_v0 := ob_J eS34 o_v0
        have o_v1 := ob_J eS34 o_v1
        have o_v3 := ob_J eS34 o_v3
        exact hq _ hI g0 f0
      · refine ⟨o_v3, ?_⟩
        intro x35 ex35
        have d_x35 := ex35
        refine ⟨o_a12, ?_⟩
        intro x36 ex36
        have i37 : vp_in (4 : Int32) (hN _ a12) := (vin l_a12 (m := 5) (by decide) (q60 c1 ex18 ex23 c28 c32))
        refine ⟨i37, ?_⟩
        intro S38 eS38
        have hI : IV S38 := by rw [eS38]; exact iv_aJ hI o_v0 (by decide) ea12 o_a12 (by decide)
        have f0 := fr_J eS38 f0
        have d_x2 := rd_J eS38 d_x2
        have d_x13 := rd_J eS38 d_x13
        have d_x35 := rd_J eS38 d_x35
        have ea12 := rf_J eS38 ea12
        have l_a12 := ln_J eS38 l_a12
        have g0 := gr_J eS38 g0
        have o_a12 := ob_J eS38 o_a12
        have o_v0 := ob_J eS38 o_v0
        have o_v1 := ob_J eS38 o_v1
        have o_v3 := ob_J eS38 o_v3
        exact hq _ hI g0 f0
    · intro x39 ex39
      have d_x39 := ex39
      refine u_X1_lay_130 ?_
      refine ⟨o_a12, ?_⟩
      have i40 : vp_in (3 : Int32) (hN _ a12) := (vin l_a12 (m := 5) (by decide) (q61 c1 ex18 ex23 c28))
      refine ⟨i40, ?_⟩
      intro S41 eS41
      have hI : IV S41 := by rw [eS41]; exact iv_aJ hI o_v0 (by decide) ea12 o_a12 (by decide)
      have f0 := fr_J eS41 f0
      have d_x2 := rd_J eS41 d_x2
      have d_x13 := rd_J eS41 d_x13
      have d_x39 := rd_J eS41 d_x39
      have ea12 := rf_J eS41 ea12
      have l_a12 := ln_J eS41 l_a12
      have g0 := gr_J eS41 g0
      have o_a12 := ob_J eS41 o_a12
      have o_v0 := ob_J eS41 o_v0
      have o_v1 := ob_J eS41 o_v1
      have o_v3 := ob_J eS41 o_v3
      refine ⟨o_v0, ?_⟩
      refine ⟨a12, ea12, ?_⟩
      refine ⟨fun c43 => ?_, fun c43 => ?_⟩
      · refine ⟨o_a12, ?_⟩
        have i44 : vp_in (4 : Int32) (hN _ a12) := (vin l_a12 (m := 5) (by decide) (q62 c1 ex18 ex23 c28 c43))
        refine ⟨i44, ?_⟩
        intro S45 eS45
        have hI : IV S45 := by rw [eS45]; exact iv_aJ hI o_v0 (by decide) ea12 o_a12 (by decide)
        have f0 := fr_J eS45 f0
        have d_x2 := rd_J eS45 d_x2
        have d_x13 := rd_J eS45 d_x13
        have d_x39 := rd_J eS45 d_x39
        have ea12 := rf_J eS45 ea12
        have l_a12 := ln_J eS45 l_a12
        have g0 := gr_J eS45 g0
        have o_a12 := ob_J eS45 o_a12
        have o_v0 := ob_J eS45 o_v0
        have o_v1 := ob_J eS45 o_v1
        have o_v3 := ob_J eS45 o_v3
        exact hq _ hI g0 f0
      · refine ⟨o_v3, ?_⟩
        intro x46 ex46
        have q_x46 : x46 = x39 := ex46.trans d_x39.symm
        have d_x46 := ex46
        refine ⟨o_a12, ?_⟩
        intro x47 ex47
        have i48 : vp_in (4 : Int32) (hN _ a12) := (vin l_a12 (m := 5) (by decide) (q63 c1 ex18 ex23 c28 c43))
        refine ⟨i48, ?_⟩
        intro S49 eS49
        have hI : IV S49 := by rw [eS49]; exact iv_aJ hI o_v0 (by decide) ea12 o_a12 (by decide)
        have f0 := fr_J eS49 f0
        have d_x2 := rd_J eS49 d_x2
        have d_x13 := rd_J eS49 d_x13
        have d_x46 := rd_J eS49 d_x46
        have ea12 := rf_J eS49 ea12
        have l_a12 := ln_J eS49 l_a12
        have g0 := gr_J eS49 g0
        have o_a12 := ob_J eS49 o_a12
        have o_v0 := ob_J eS49 o_v0
        have o_v1 := ob_J eS49 o_v1
        have o_v3 := ob_J eS49 o_v3
        exact hq _ hI g0 f0
  · refine ⟨o_v1, ?_⟩
    intro x50 ex50
    have d_x50 := ex50
    intro x51 ex51
    have d_x51 := ex51
    refine ⟨(q64 c1), ?_⟩
    intro x52 ex52
    refine u_X1_lay_27 ?_
    refine ⟨o_v3, ?_⟩
    intro x53 ex53
    have d_x53 := ex53
    intro x54 ex54
    refine ⟨o_v1, ?_⟩
    refine m_X5_turnOf hI o_v1 o_v3 (fun x55 S56 hI2 g57 p_x55 => ?_)
    subst p_x55
    intro _
    refine m_X5_airAlong hI o_v1 o_v3 (fun x59 S60 hI2 g61 p_x59 => ?_)
    subst p_x59
    intro _
    refine ⟨o_v0, ?_⟩
    obtain ⟨a63, ea63, o_a63, l_a63⟩ := shl 10 rfl hI o_v0
    refine ⟨a63, ea63, ?_⟩
    intro x64 ex64
    have d_x64 := ex64
    refine ⟨o_a63, ?_⟩
    intro x65 ex65
    have i66 : vp_in (0 : Int32) (hN _ a63) := (vin l_a63 (m := 5) (by decide) (q65 c1 ex52))
    refine ⟨i66, ?_⟩
    intro S67 eS67
    have hI : IV S67 := by rw [eS67]; exact iv_aJ hI o_v0 (by decide) ea63 o_a63 (by decide)
    have f0 := fr_J eS67 f0
    have d_x50 := rd_J eS67 d_x50
    have d_x51 := rd_J eS67 d_x51
    have d_x53 := rd_J eS67 d_x53
    have d_x64 := rd_J eS67 d_x64
    have ea63 := rf_J eS67 ea63
    have l_a63 := ln_J eS67 l_a63
    have g0 := gr_J eS67 g0
    have o_a63 := ob_J eS67 o_a63
    have o_v0 := ob_J eS67 o_v0
    have o_v1 := ob_J eS67 o_v1
    have o_v3 := ob_J eS67 o_v3
    refine ⟨a63, ea63, ?_⟩
    intro x69 ex69
    refine ⟨o_a63, ?_⟩
    intro x70 ex70
    have i71 : vp_in (1 : Int32) (hN _ a63) := (vin l_a63 (m := 5) (by decide) (q66 c1 ex52 ex69))
    refine ⟨i71, ?_⟩
    intro S72 eS72
    have hI : IV S72 := by rw [eS72]; exact iv_aJ hI o_v0 (by decide) ea63 o_a63 (by decide)
    have f0 := fr_J eS72 f0
    have d_x50 := rd_J eS72 d_x50
    have d_x51 := rd_J eS72 d_x51
    have d_x53 := rd_J eS72 d_x53
    have d_x64 := rd_J eS72 d_x64
    have ea63 := rf_J eS72 ea63
    have l_a63 := ln_J eS72 l_a63
    have g0 := gr_J eS72 g0
    have o_a63 := ob_J eS72 o_a63
    have o_v0 := ob_J eS72 o_v0
    have o_v1 := ob_J eS72 o_v1
    have o_v3 := ob_J eS72 o_v3
    refine ⟨a63, ea63, ?_⟩
    intro x74 ex74
    refine ⟨o_a63, ?_⟩
    intro x75 ex75
    have i76 : vp_in (2 : Int32) (hN _ a63) := (vin l_a63 (m := 5) (by decide) (q67 c1 ex52 ex69 ex74))
    refine ⟨i76, ?_⟩
    intro S77 eS77
    have hI : IV S77 := by rw [eS77]; exact iv_aJ hI o_v0 (by decide) ea63 o_a63 (by decide)
    have f0 := fr_J eS77 f0
    have d_x50 := rd_J eS77 d_x50
    have d_x51 := rd_J eS77 d_x51
    have d_x53 := rd_J eS77 d_x53
    have d_x64 := rd_J eS77 d_x64
    have ea63 := rf_J eS77 ea63
    have l_a63 := ln_J eS77 l_a63
    have g0 := gr_J eS77 g0
    have o_a63 := ob_J eS77 o_a63
    have o_v0 := ob_J eS77 o_v0
    have o_v1 := ob_J eS77 o_v1
    have o_v3 := ob_J eS77 o_v3
    refine ⟨a63, ea63, ?_⟩
    refine ⟨fun c79 => ?_, fun c79 => ?_⟩
    · refine u_X1_lay_130 ?_
      refine ⟨o_a63, ?_⟩
      have i80 : vp_in (3 : Int32) (hN _ a63) := (vin l_a63 (m := 5) (by decide) (q68 c1 ex52 ex69 ex74 c79))
      refine ⟨i80, ?_⟩
      intro S81 eS81
      have hI : IV S81 := by rw [eS81]; exact iv_aJ hI o_v0 (by decide) ea63 o_a63 (by decide)
      have f0 := fr_J eS81 f0
      have d_x50 := rd_J eS81 d_x50
      have d_x51 := rd_J eS81 d_x51
      have d_x53 := rd_J eS81 d_x53
      have d_x64 := rd_J eS81 d_x64
      have ea63 := rf_J eS81 ea63
      have l_a63 := ln_J eS81 l_a63
      have g0 := gr_J eS81 g0
      have o_a63 := ob_J eS81 o_a63
      have o_v0 := ob_J eS81 o_v0
      have o_v1 := ob_J eS81 o_v1
      have o_v3 := ob_J eS81 o_v3
      refine ⟨o_v0, ?_⟩
      refine ⟨a63, ea63, ?_⟩
      refine ⟨fun c83 => ?_, fun c83 => ?_⟩
      · refine ⟨o_a63, ?_⟩
        have i84 : vp_in (4 : Int32) (hN _ a63) := (vin l_a63 (m := 5) (by decide) (q69 c1 ex52 ex69 ex74 c79 c83))
        refine ⟨i84, ?_⟩
        intro S85 eS85
        have hI : IV S85 := by rw [eS85]; exact iv_aJ hI o_v0 (by decide) ea63 o_a63 (by decide)
        have f0 := fr_J eS85 f0
        have d_x50 := rd_J eS85 d_x50
        have d_x51 := rd_J eS85 d_x51
        have d_x53 := rd_J eS85 d_x53
        have d_x64 := rd_J eS85 d_x64
        have ea63 := rf_J eS85 ea63
        have l_a63 := ln_J eS85 l_a63
        have g0 := gr_J eS85 g0
        have o_a63 := ob_J eS85 o_a63
        have o_v0 := ob_J eS85 o_v0
        have o_v1 := ob_J eS85 o_v1
        have o_v3 := ob_J eS85 o_v3
        exact hq _ hI g0 f0
      · refine ⟨o_v3, ?_⟩
        intro x86 ex86
        have d_x86 := ex86
        refine ⟨o_a63, ?_⟩
        intro x87 ex87
        have i88 : vp_in (4 : Int32) (hN _ a63) := (vin l_a63 (m := 5) (by decide) (q70 c1 ex52 ex69 ex74 c79 c83))
        refine ⟨i88, ?_⟩
        intro S89 eS89
        have hI : IV S89 := by rw [eS89]; exact iv_aJ hI o_v0 (by decide) ea63 o_a63 (by decide)
        have f0 := fr_J eS89 f0
        have d_x50 := rd_J eS89 d_x50
        have d_x51 := rd_J eS89 d_x51
        have d_x53 := rd_J eS89 d_x53
        have d_x64 := rd_J eS89 d_x64
        have d_x86 := rd_J eS89 d_x86
        have ea63 := rf_J eS89 ea63
        have l_a63 := ln_J eS89 l_a63
        have g0 := gr_J eS89 g0
        have o_a63 := ob_J eS89 o_a63
        have o_v0 := ob_J eS89 o_v0
        have o_v1 := ob_J eS89 o_v1
        have o_v3 := ob_J eS89 o_v3
        exact hq _ hI g0 f0
    · intro x90 ex90
      have d_x90 := ex90
      refine u_X1_lay_130 ?_
      refine ⟨o_a63, ?_⟩
      have i91 : vp_in (3 : Int32) (hN _ a63) := (vin l_a63 (m := 5) (by decide) (q71 c1 ex52 ex69 ex74 c79))
      refine ⟨i91, ?_⟩
      intro S92 eS92
      have hI : IV S92 := by rw [eS92]; exact iv_aJ hI o_v0 (by decide) ea63 o_a63 (by decide)
      have f0 := fr_J eS92 f0
      have d_x50 := rd_J eS92 d_x50
      have d_x51 := rd_J eS92 d_x51
      have d_x53 := rd_J eS92 d_x53
      have d_x64 := rd_J eS92 d_x64
      have d_x90 := rd_J eS92 d_x90
      have ea63 := rf_J eS92 ea63
      have l_a63 := ln_J eS92 l_a63
      have g0 := gr_J eS92 g0
      have o_a63 := ob_J eS92 o_a63
      have o_v0 := ob_J eS92 o_v0
      have o_v1 := ob_J eS92 o_v1
      have o_v3 := ob_J eS92 o_v3
      refine ⟨o_v0, ?_⟩
      refine ⟨a63, ea63, ?_⟩
      refine ⟨fun c94 => ?_, fun c94 => ?_⟩
      · refine ⟨o_a63, ?_⟩
        have i95 : vp_in (4 : Int32) (hN _ a63) := (vin l_a63 (m := 5) (by decide) (q72 c1 ex52 ex69 ex74 c79 c94))
        refine ⟨i95, ?_⟩
        intro S96 eS96
        have hI : IV S96 := by rw [eS96]; exact iv_aJ hI o_v0 (by decide) ea63 o_a63 (by decide)
        have f0 := fr_J eS96 f0
        have d_x50 := rd_J eS96 d_x50
        have d_x51 := rd_J eS96 d_x51
        have d_x53 := rd_J eS96 d_x53
        have d_x64 := rd_J eS96 d_x64
        have d_x90 := rd_J eS96 d_x90
        have ea63 := rf_J eS96 ea63
        have l_a63 := ln_J eS96 l_a63
        have g0 := gr_J eS96 g0
        have o_a63 := ob_J eS96 o_a63
        have o_v0 := ob_J eS96 o_v0
        have o_v1 := ob_J eS96 o_v1
        have o_v3 := ob_J eS96 o_v3
        exact hq _ hI g0 f0
      · refine ⟨o_v3, ?_⟩
        intro x97 ex97
        have q_x97 : x97 = x90 := ex97.trans d_x90.symm
        have d_x97 := ex97
        refine ⟨o_a63, ?_⟩
        intro x98 ex98
        have i99 : vp_in (4 : Int32) (hN _ a63) := (vin l_a63 (m := 5) (by decide) (q73 c1 ex52 ex69 ex74 c79 c94))
        refine ⟨i99, ?_⟩
        intro S100 eS100
        have hI : IV S100 := by rw [eS100]; exact iv_aJ hI o_v0 (by decide) ea63 o_a63 (by decide)
        have f0 := fr_J eS100 f0
        have d_x50 := rd_J eS100 d_x50
        have d_x51 := rd_J eS100 d_x51
        have d_x53 := rd_J eS100 d_x53
        have d_x64 := rd_J eS100 d_x64
        have d_x97 := rd_J eS100 d_x97
        have ea63 := rf_J eS100 ea63
        have l_a63 := ln_J eS100 l_a63
        have g0 := gr_J eS100 g0
        have o_a63 := ob_J eS100 o_a63
        have o_v0 := ob_J eS100 o_v0
        have o_v1 := ob_J eS100 o_v1
        have o_v3 := ob_J eS100 o_v3
        exact hq _ hI g0 f0
end
section
set_option maxHeartbeats 4000000 in
set_option maxRecDepth 20000 in
theorem m_X6_shield {v0 : Nat} {Q : Int32 → HS → Prop} {S : HS} (hI : IV S) (o_v0 : ob S v0 6)     (hq : ∀ (r : Int32) (T : HS), IV T → Gr S T → (S = T) → Q r T) : P_X6_shield v0 Q S := by
  have g0 := gr_rf S
  refine u_X6_shield ?_
  refine u_X6_shield_0 ?_
  refine ⟨o_v0, ?_⟩
  intro x1 ex1
  have d_x1 := ex1
  refine ⟨fun c2 => ?_, fun c2 => ?_⟩
  · exact hq _ _ hI g0 rfl
  · intro x3 ex3
    have d_x3 := ex3
    exact hq _ _ hI g0 rfl
set_option maxHeartbeats 4000000 in
set_option maxRecDepth 20000 in
theorem m_X1_isForward {v0 : Nat} {v1 : Nat} {Q : Int32 → HS → Prop} {S : HS} (hI : IV S) (o_v0 : ob S v0 1) (o_v1 : ob S v1 6)     (hq : ∀ (r : Int32) (T : HS), IV T → Gr S T → bl r → (S = T) → Q r T) : P_X1_isForward v0 v1 Q S := by
  have g0 := gr_rf S
  refine u_X1_isForward ?_
  refine u_X1_isForward_0 ?_
  refine ⟨o_v0, ?_⟩
  obtain ⟨a1, ea1, o_a1, l_a1⟩ := shl 10 rfl hI o_v0
  refine ⟨a1, ea1, ?_⟩
  refine ⟨o_a1, ?_⟩
  refine ⟨(vin l_a1 (m := 5) (by decide) (q74)), ?_⟩
  intro x2 ex2
  refine ⟨o_v1, ?_⟩
  refine m_X6_shield hI o_v1 (fun x3 S4 hI2 g5 p_x3 => ?_)
  subst p_x3
  intro _
  intro x7 ex7
  have d_x7 := ex7
  intro x8 ex8
  intro x9 ex9
  refine ⟨a1, ea1, ?_⟩
  refine ⟨o_a1, ?_⟩
  refine ⟨(vin l_a1 (m := 5) (by decide) (q75)), ?_⟩
  intro x11 ex11
  refine m_X6_shield hI o_v1 (fun x12 S13 hI2 g14 p_x12 => ?_)
  subst p_x12
  intro _
  intro x16 ex16
  have d_x16 := ex16
  intro x17 ex17
  intro x18 ex18
  refine ⟨fun c19 => ?_, fun c19 => ?_⟩
  · exact hq _ _ hI g0 (Or.inl rfl) rfl
  · exact hq _ _ hI g0 (Or.inr rfl) rfl
set_option maxHeartbeats 4000000 in
set_option maxRecDepth 20000 in
theorem m_X1_soak {v0 : Nat} {v1 : Nat} {v2 : Int32} {v3 : Int32} {Q : Int64 → HS → Prop} {S : HS} (hI : IV S) (o_v0 : ob S v0 1) (o_v1 : ob S v1 6)     (hq : ∀ (r : Int64) (T : HS), IV T → Gr S T → FRI [] [] S T → Q r T) : P_X1_soak v0 v1 v2 v3 Q S := by
  have g0 := gr_rf S
  have f0 := fri_rf [] [] S
  refine u_X1_soak ?_
  refine u_X1_soak_0 ?_
  refine ⟨o_v0, ?_⟩
  refine m_X1_isForward hI o_v0 o_v1 (fun x1 S2 hI2 g3 b_x1 p_x1 => ?_)
  subst p_x1
  intro _ _
  have bb_x1 : x1 = 0 ∨ x1 = 1 := b_x1
  refine ⟨fun c5 => ?_, fun c5 => ?_⟩
  · refine ⟨o_v1, ?_⟩
    refine m_X6_shield hI o_v1 (fun x6 S7 hI2 g8 p_x6 => ?_)
    subst p_x6
    intro _
    refine u_X1_soak_20 ?_
    refine ⟨fun c10 => ?_, fun c10 => ?_⟩
    · refine u_X1_soak_35 ?_
      refine ⟨o_v0, ?_⟩
      obtain ⟨a11, ea11, o_a11, l_a11⟩ := shl 9 rfl hI o_v0
      refine ⟨a11, ea11, ?_⟩
      obtain ⟨a12, ea12, o_a12, l_a12⟩ := shl 10 rfl hI o_v0
      refine ⟨a12, ea12, ?_⟩
      refine ⟨o_a12, ?_⟩
      refine ⟨(vin l_a12 (m := 5) (by decide) (q35 bb_x1 c5 c10)), ?_⟩
      intro x13 ex13
      refine ⟨o_v1, ?_⟩
      intro x14 ex14
      have d_x14 := ex14
      intro x15 ex15
      refine ⟨o_a11, ?_⟩
      intro x16 ex16
      have i17 : vp_in (0 : Int32) (hN _ a11) := (vin l_a11 (m := 5) (by decide) (q35 bb_x1 c5 c10))
      refine ⟨i17, ?_⟩
      intro S18 eS18
      have hI : IV S18 := by rw [eS18]; exact iv_aJ hI o_v0 (by decide) ea11 o_a11 (by decide)
      have f0 := fr_J eS18 f0
      have d_x14 := rd_J eS18 d_x14
      have ea11 := rf_J eS18 ea11
      have ea12 := rf_J eS18 ea12
      have l_a11 := ln_J eS18 l_a11
      have l_a12 := ln_J eS18 l_a12
      have g0 := gr_J eS18 g0
      have o_a11 := ob_J eS18 o_a11
      have o_a12 := ob_J eS18 o_a12
      have o_v0 := ob_J eS18 o_v0
      have o_v1 := ob_J eS18 o_v1
      refine ⟨a11, ea11, ?_⟩
      refine ⟨a12, ea12, ?_⟩
      refine ⟨o_a12, ?_⟩
      refine ⟨(vin l_a12 (m := 5) (by decide) (q36 bb_x1 c5 c10)), ?_⟩
      intro x21 ex21
      intro x22 ex22
      have d_x22 := ex22
      intro x23 ex23
      refine ⟨o_a11, ?_⟩
      intro x24 ex24
      have i25 : vp_in (1 : Int32) (hN _ a11) := (vin l_a11 (m := 5) (by decide) (q36 bb_x1 c5 c10))
      refine ⟨i25, ?_⟩
      intro S26 eS26
      have hI : IV S26 := by rw [eS26]; exact iv_aJ hI o_v0 (by decide) ea11 o_a11 (by decide)
      have f0 := fr_J eS26 f0
      have d_x14 := rd_J eS26 d_x14
      have d_x22 := rd_J eS26 d_x22
      have ea11 := rf_J eS26 ea11
      have ea12 := rf_J eS26 ea12
      have l_a11 := ln_J eS26 l_a11
      have l_a12 := ln_J eS26 l_a12
      have g0 := gr_J eS26 g0
      have o_a11 := ob_J eS26 o_a11
      have o_a12 := ob_J eS26 o_a12
      have o_v0 := ob_J eS26 o_v0
      have o_v1 := ob_J eS26 o_v1
      refine ⟨a11, ea11, ?_⟩
      refine ⟨a12, ea12, ?_⟩
      refine ⟨o_a12, ?_⟩
      refine ⟨(vin l_a12 (m := 5) (by decide) (q37 bb_x1 c5 c10)), ?_⟩
      intro x29 ex29
      intro x30 ex30
      have q_x30 : x30 = x22 := ex30.trans d_x22.symm
      have d_x30 := ex30
      intro x31 ex31
      refine ⟨o_a11, ?_⟩
      intro x32 ex32
      have i33 : vp_in (2 : Int32) (hN _ a11) := (vin l_a11 (m := 5) (by decide) (q37 bb_x1 c5 c10))
      refine ⟨i33, ?_⟩
      intro S34 eS34
      have hI : IV S34 := by rw [eS34]; exact iv_aJ hI o_v0 (by decide) ea11 o_a11 (by decide)
      have f0 := fr_J eS34 f0
      have d_x14 := rd_J eS34 d_x14
      have d_x30 := rd_J eS34 d_x30
      have ea11 := rf_J eS34 ea11
      have ea12 := rf_J eS34 ea12
      have l_a11 := ln_J eS34 l_a11
      have l_a12 := ln_J eS34 l_a12
      have g0 := gr_J eS34 g0
      have o_a11 := ob_J eS34 o_a11
      have o_a12 := ob_J eS34 o_a12
      have o_v0 := ob_J eS34 o_v0
      have o_v1 := ob_J eS34 o_v1
      refine ⟨a11, ea11, ?_⟩
      refine ⟨a12, ea12, ?_⟩
      refine ⟨o_a12, ?_⟩
      refine ⟨(vin l_a12 (m := 5) (by decide) (q38 bb_x1 c5 c10)), ?_⟩
      intro x37 ex37
      intro x38 ex38
      have d_x38 := ex38
      refine ⟨o_a11, ?_⟩
      intro x39 ex39
      have i40 : vp_in (3 : Int32) (hN _ a11) := (vin l_a11 (m := 5) (by decide) (q38 bb_x1 c5 c10))
      refine ⟨i40, ?_⟩
      intro S41 eS41
      have hI : IV S41 := by rw [eS41]; exact iv_aJ hI o_v0 (by decide) ea11 o_a11 (by decide)
      have f0 := fr_J eS41 f0
      have d_x14 := rd_J eS41 d_x14
      have d_x30 := rd_J eS41 d_x30
      have d_x38 := rd_J eS41 d_x38
      have ea11 := rf_J eS41 ea11
      have ea12 := rf_J eS41 ea12
      have l_a11 := ln_J eS41 l_a11
      have l_a12 := ln_J eS41 l_a12
      have g0 := gr_J eS41 g0
      have o_a11 := ob_J eS41 o_a11
      have o_a12 := ob_J eS41 o_a12
      have o_v0 := ob_J eS41 o_v0
      have o_v1 := ob_J eS41 o_v1
      refine ⟨a11, ea11, ?_⟩
      refine ⟨a12, ea12, ?_⟩
      refine ⟨o_a12, ?_⟩
      refine ⟨(vin l_a12 (m := 5) (by decide) (q39 bb_x1 c5 c10)), ?_⟩
      intro x44 ex44
      intro x45 ex45
      have q_x45 : x45 = x38 := ex45.trans d_x38.symm
      have d_x45 := ex45
      refine ⟨o_a11, ?_⟩
      intro x46 ex46
      have i47 : vp_in (4 : Int32) (hN _ a11) := (vin l_a11 (m := 5) (by decide) (q39 bb_x1 c5 c10))
      refine ⟨i47, ?_⟩
      intro S48 eS48
      have hI : IV S48 := by rw [eS48]; exact iv_aJ hI o_v0 (by decide) ea11 o_a11 (by decide)
      have f0 := fr_J eS48 f0
      have d_x14 := rd_J eS48 d_x14
      have d_x30 := rd_J eS48 d_x30
      have d_x45 := rd_J eS48 d_x45
      have ea11 := rf_J eS48 ea11
      have ea12 := rf_J eS48 ea12
      have l_a11 := ln_J eS48 l_a11
      have l_a12 := ln_J eS48 l_a12
      have g0 := gr_J eS48 g0
      have o_a11 := ob_J eS48 o_a11
      have o_a12 := ob_J eS48 o_a12
      have o_v0 := ob_J eS48 o_v0
      have o_v1 := ob_J eS48 o_v1
      refine ⟨a11, ea11, ?_⟩
      refine ⟨o_a11, ?_⟩
      refine ⟨(vin l_a11 (m := 5) (by decide) (q35 bb_x1 c5 c10)), ?_⟩
      intro x50 ex50
      refine ⟨a11, ea11, ?_⟩
      refine ⟨o_a11, ?_⟩
      refine ⟨(vin l_a11 (m := 5) (by decide) (q36 bb_x1 c5 c10)), ?_⟩
      intro x52 ex52
      refine ⟨a11, ea11, ?_⟩
      refine ⟨o_a11, ?_⟩
      refine ⟨(vin l_a11 (m := 5) (by decide) (q37 bb_x1 c5 c10)), ?_⟩
      intro x54 ex54
      refine ⟨a11, ea11, ?_⟩
      refine ⟨o_a11, ?_⟩
      refine ⟨(vin l_a11 (m := 5) (by decide) (q38 bb_x1 c5 c10)), ?_⟩
      intro x56 ex56
      refine ⟨a11, ea11, ?_⟩
      refine ⟨o_a11, ?_⟩
      refine ⟨(vin l_a11 (m := 5) (by decide) (q39 bb_x1 c5 c10)), ?_⟩
      intro x58 ex58
      exact hq _ _ hI g0 f0
    · refine ⟨o_v1, ?_⟩
      refine m_X6_shield hI o_v1 (fun x59 S60 hI2 g61 p_x59 => ?_)
      subst p_x59
      intro _
      refine u_X1_soak_35 ?_
      refine ⟨o_v0, ?_⟩
      obtain ⟨a63, ea63, o_a63, l_a63⟩ := shl 9 rfl hI o_v0
      refine ⟨a63, ea63, ?_⟩
      obtain ⟨a64, ea64, o_a64, l_a64⟩ := shl 10 rfl hI o_v0
      refine ⟨a64, ea64, ?_⟩
      refine ⟨o_a64, ?_⟩
      refine ⟨(vin l_a64 (m := 5) (by decide) (q40 bb_x1 c5 c10)), ?_⟩
      intro x65 ex65
      refine ⟨o_v1, ?_⟩
      intro x66 ex66
      have d_x66 := ex66
      intro x67 ex67
      refine ⟨o_a63, ?_⟩
      intro x68 ex68
      have i69 : vp_in (0 : Int32) (hN _ a63) := (vin l_a63 (m := 5) (by decide) (q40 bb_x1 c5 c10))
      refine ⟨i69, ?_⟩
      intro S70 eS70
      have hI : IV S70 := by rw [eS70]; exact iv_aJ hI o_v0 (by decide) ea63 o_a63 (by decide)
      have f0 := fr_J eS70 f0
      have d_x66 := rd_J eS70 d_x66
      have ea63 := rf_J eS70 ea63
      have ea64 := rf_J eS70 ea64
      have l_a63 := ln_J eS70 l_a63
      have l_a64 := ln_J eS70 l_a64
      have g0 := gr_J eS70 g0
      have o_a63 := ob_J eS70 o_a63
      have o_a64 := ob_J eS70 o_a64
      have o_v0 := ob_J eS70 o_v0
      have o_v1 := ob_J eS70 o_v1
      refine ⟨a63, ea63, ?_⟩
      refine ⟨a64, ea64, ?_⟩
      refine ⟨o_a64, ?_⟩
      refine ⟨(vin l_a64 (m := 5) (by decide) (q41 bb_x1 c5 c10)), ?_⟩
      intro x73 ex73
      intro x74 ex74
      have d_x74 := ex74
      intro x75 ex75
      refine ⟨o_a63, ?_⟩
      intro x76 ex76
      have i77 : vp_in (1 : Int32) (hN _ a63) := (vin l_a63 (m := 5) (by decide) (q41 bb_x1 c5 c10))
      refine ⟨i77, ?_⟩
      intro S78 eS78
      have hI : IV S78 := by rw [eS78]; exact iv_aJ hI o_v0 (by decide) ea63 o_a63 (by decide)
      have f0 := fr_J eS78 f0
      have d_x66 := rd_J eS78 d_x66
      have d_x74 := rd_J eS78 d_x74
      have ea63 := rf_J eS78 ea63
      have ea64 := rf_J eS78 ea64
      have l_a63 := ln_J eS78 l_a63
      have l_a64 := ln_J eS78 l_a64
      have g0 := gr_J eS78 g0
      have o_a63 := ob_J eS78 o_a63
      have o_a64 := ob_J eS78 o_a64
      have o_v0 := ob_J eS78 o_v0
      have o_v1 := ob_J eS78 o_v1
      refine ⟨a63, ea63, ?_⟩
      refine ⟨a64, ea64, ?_⟩
      refine ⟨o_a64, ?_⟩
      refine ⟨(vin l_a64 (m := 5) (by decide) (q42 bb_x1 c5 c10)), ?_⟩
      intro x81 ex81
      intro x82 ex82
      have q_x82 : x82 = x74 := ex82.trans d_x74.symm
      have d_x82 := ex82
      intro x83 ex83
      refine ⟨o_a63, ?_⟩
      intro x84 ex84
      have i85 : vp_in (2 : Int32) (hN _ a63) := (vin l_a63 (m := 5) (by decide) (q42 bb_x1 c5 c10))
      refine ⟨i85, ?_⟩
      intro S86 eS86
      have hI : IV S86 := by rw [eS86]; exact iv_aJ hI o_v0 (by decide) ea63 o_a63 (by decide)
      have f0 := fr_J eS86 f0
      have d_x66 := rd_J eS86 d_x66
      have d_x82 := rd_J eS86 d_x82
      have ea63 := rf_J eS86 ea63
      have ea64 := rf_J eS86 ea64
      have l_a63 := ln_J eS86 l_a63
      have l_a64 := ln_J eS86 l_a64
      have g0 := gr_J eS86 g0
      have o_a63 := ob_J eS86 o_a63
      have o_a64 := ob_J eS86 o_a64
      have o_v0 := ob_J eS86 o_v0
      have o_v1 := ob_J eS86 o_v1
      refine ⟨a63, ea63, ?_⟩
      refine ⟨a64, ea64, ?_⟩
      refine ⟨o_a64, ?_⟩
      refine ⟨(vin l_a64 (m := 5) (by decide) (q43 bb_x1 c5 c10)), ?_⟩
      intro x89 ex89
      intro x90 ex90
      have d_x90 := ex90
      refine ⟨o_a63, ?_⟩
      intro x91 ex91
      have i92 : vp_in (3 : Int32) (hN _ a63) := (vin l_a63 (m := 5) (by decide) (q43 bb_x1 c5 c10))
      refine ⟨i92, ?_⟩
      intro S93 eS93
      have hI : IV S93 := by rw [eS93]; exact iv_aJ hI o_v0 (by decide) ea63 o_a63 (by decide)
      have f0 := fr_J eS93 f0
      have d_x66 := rd_J eS93 d_x66
      have d_x82 := rd_J eS93 d_x82
      have d_x90 := rd_J eS93 d_x90
      have ea63 := rf_J eS93 ea63
      have ea64 := rf_J eS93 ea64
      have l_a63 := ln_J eS93 l_a63
      have l_a64 := ln_J eS93 l_a64
      have g0 := gr_J eS93 g0
      have o_a63 := ob_J eS93 o_a63
      have o_a64 := ob_J eS93 o_a64
      have o_v0 := ob_J eS93 o_v0
      have o_v1 := ob_J eS93 o_v1
      refine ⟨a63, ea63, ?_⟩
      refine ⟨a64, ea64, ?_⟩
      refine ⟨o_a64, ?_⟩
      refine ⟨(vin l_a64 (m := 5) (by decide) (q44 bb_x1 c5 c10)), ?_⟩
      intro x96 ex96
      intro x97 ex97
      have q_x97 : x97 = x90 := ex97.trans d_x90.symm
      have d_x97 := ex97
      refine ⟨o_a63, ?_⟩
      intro x98 ex98
      have i99 : vp_in (4 : Int32) (hN _ a63) := (vin l_a63 (m := 5) (by decide) (q44 bb_x1 c5 c10))
      refine ⟨i99, ?_⟩
      intro S100 eS100
      have hI : IV S100 := by rw [eS100]; exact iv_aJ hI o_v0 (by decide) ea63 o_a63 (by decide)
      have f0 := fr_J eS100 f0
      have d_x66 := rd_J eS100 d_x66
      have d_x82 := rd_J eS100 d_x82
      have d_x97 := rd_J eS100 d_x97
      have ea63 := rf_J eS100 ea63
      have ea64 := rf_J eS100 ea64
      have l_a63 := ln_J eS100 l_a63
      have l_a64 := ln_J eS100 l_a64
      have g0 := gr_J eS100 g0
      have o_a63 := ob_J eS100 o_a63
      have o_a64 := ob_J eS100 o_a64
      have o_v0 := ob_J eS100 o_v0
      have o_v1 := ob_J eS100 o_v1
      refine ⟨a63, ea63, ?_⟩
      refine ⟨o_a63, ?_⟩
      refine ⟨(vin l_a63 (m := 5) (by decide) (q40 bb_x1 c5 c10)), ?_⟩
      intro x102 ex102
      refine ⟨a63, ea63, ?_⟩
      refine ⟨o_a63, ?_⟩
      refine ⟨(vin l_a63 (m := 5) (by decide) (q41 bb_x1 c5 c10)), ?_⟩
      intro x104 ex104
      refine ⟨a63, ea63, ?_⟩
      refine ⟨o_a63, ?_⟩
      refine ⟨(vin l_a63 (m := 5) (by decide) (q42 bb_x1 c5 c10)), ?_⟩
      intro x106 ex106
      refine ⟨a63, ea63, ?_⟩
      refine ⟨o_a63, ?_⟩
      refine ⟨(vin l_a63 (m := 5) (by decide) (q43 bb_x1 c5 c10)), ?_⟩
      intro x108 ex108
      refine ⟨a63, ea63, ?_⟩
      refine ⟨o_a63, ?_⟩
      refine ⟨(vin l_a63 (m := 5) (by decide) (q44 bb_x1 c5 c10)), ?_⟩
      intro x110 ex110
      exact hq _ _ hI g0 f0
  · refine u_X1_soak_20 ?_
    refine ⟨fun c111 => ?_, fun c111 => ?_⟩
    · refine u_X1_soak_35 ?_
      refine ⟨o_v0, ?_⟩
      obtain ⟨a112, ea112, o_a112, l_a112⟩ := shl 9 rfl hI o_v0
      refine ⟨a112, ea112, ?_⟩
      obtain ⟨a113, ea113, o_a113, l_a113⟩ := shl 10 rfl hI o_v0
      refine ⟨a113, ea113, ?_⟩
      refine ⟨o_a113, ?_⟩
      refine ⟨(vin l_a113 (m := 5) (by decide) (q45 bb_x1 c5 c111)), ?_⟩
      intro x114 ex114
      refine ⟨o_v1, ?_⟩
      intro x115 ex115
      have d_x115 := ex115
      intro x116 ex116
      refine ⟨o_a112, ?_⟩
      intro x117 ex117
      have i118 : vp_in (0 : Int32) (hN _ a112) := (vin l_a112 (m := 5) (by decide) (q45 bb_x1 c5 c111))
      refine ⟨i118, ?_⟩
      intro S119 eS119
      have hI : IV S119 := by rw [eS119]; exact iv_aJ hI o_v0 (by decide) ea112 o_a112 (by decide)
      have f0 := fr_J eS119 f0
      have d_x115 := rd_J eS119 d_x115
      have ea112 := rf_J eS119 ea112
      have ea113 := rf_J eS119 ea113
      have l_a112 := ln_J eS119 l_a112
      have l_a113 := ln_J eS119 l_a113
      have g0 := gr_J eS119 g0
      have o_a112 := ob_J eS119 o_a112
      have o_a113 := ob_J eS119 o_a113
      have o_v0 := ob_J eS119 o_v0
      have o_v1 := ob_J eS119 o_v1
      refine ⟨a112, ea112, ?_⟩
      refine ⟨a113, ea113, ?_⟩
      refine ⟨o_a113, ?_⟩
      refine ⟨(vin l_a113 (m := 5) (by decide) (q46 bb_x1 c5 c111)), ?_⟩
      intro x122 ex122
      intro x123 ex123
      have d_x123 := ex123
      intro x124 ex124
      refine ⟨o_a112, ?_⟩
      intro x125 ex125
      have i126 : vp_in (1 : Int32) (hN _ a112) := (vin l_a112 (m := 5) (by decide) (q46 bb_x1 c5 c111))
      refine ⟨i126, ?_⟩
      intro S127 eS127
      have hI : IV S127 := by rw [eS127]; exact iv_aJ hI o_v0 (by decide) ea112 o_a112 (by decide)
      have f0 := fr_J eS127 f0
      have d_x115 := rd_J eS127 d_x115
      have d_x123 := rd_J eS127 d_x123
      have ea112 := rf_J eS127 ea112
      have ea113 := rf_J eS127 ea113
      have l_a112 := ln_J eS127 l_a112
      have l_a113 := ln_J eS127 l_a113
      have g0 := gr_J eS127 g0
      have o_a112 := ob_J eS127 o_a112
      have o_a113 := ob_J eS127 o_a113
      have o_v0 := ob_J eS127 o_v0
      have o_v1 := ob_J eS127 o_v1
      refine ⟨a112, ea112, ?_⟩
      refine ⟨a113, ea113, ?_⟩
      refine ⟨o_a113, ?_⟩
      refine ⟨(vin l_a113 (m := 5) (by decide) (q47 bb_x1 c5 c111)), ?_⟩
      intro x130 ex130
      intro x131 ex131
      have q_x131 : x131 = x123 := ex131.trans d_x123.symm
      have d_x131 := ex131
      intro x132 ex132
      refine ⟨o_a112, ?_⟩
      intro x133 ex133
      have i134 : vp_in (2 : Int32) (hN _ a112) := (vin l_a112 (m := 5) (by decide) (q47 bb_x1 c5 c111))
      refine ⟨i134, ?_⟩
      intro S135 eS135
      have hI : IV S135 := by rw [eS135]; exact iv_aJ hI o_v0 (by decide) ea112 o_a112 (by decide)
      have f0 := fr_J eS135 f0
      have d_x115 := rd_J eS135 d_x115
      have d_x131 := rd_J eS135 d_x131
      have ea112 := rf_J eS135 ea112
      have ea113 := rf_J eS135 ea113
      have l_a112 := ln_J eS135 l_a112
      have l_a113 := ln_J eS135 l_a113
      have g0 := gr_J eS135 g0
      have o_a112 := ob_J eS135 o_a112
      have o_a113 := ob_J eS135 o_a113
      have o_v0 := ob_J eS135 o_v0
      have o_v1 := ob_J eS135 o_v1
      refine ⟨a112, ea112, ?_⟩
      refine ⟨a113, ea113, ?_⟩
      refine ⟨o_a113, ?_⟩
      refine ⟨(vin l_a113 (m := 5) (by decide) (q48 bb_x1 c5 c111)), ?_⟩
      intro x138 ex138
      intro x139 ex139
      have d_x139 := ex139
      refine ⟨o_a112, ?_⟩
      intro x140 ex140
      have i141 : vp_in (3 : Int32) (hN _ a112) := (vin l_a112 (m := 5) (by decide) (q48 bb_x1 c5 c111))
      refine ⟨i141, ?_⟩
      intro S142 eS142
      have hI : IV S142 := by rw [eS142]; exact iv_aJ hI o_v0 (by decide) ea112 o_a112 (by decide)
      have f0 := fr_J eS142 f0
      have d_x115 := rd_J eS142 d_x115
      have d_x131 := rd_J eS142 d_x131
      have d_x139 := rd_J eS142 d_x139
      have ea112 := rf_J eS142 ea112
      have ea113 := rf_J eS142 ea113
      have l_a112 := ln_J eS142 l_a112
      have l_a113 := ln_J eS142 l_a113
      have g0 := gr_J eS142 g0
      have o_a112 := ob_J eS142 o_a112
      have o_a113 := ob_J eS142 o_a113
      have o_v0 := ob_J eS142 o_v0
      have o_v1 := ob_J eS142 o_v1
      refine ⟨a112, ea112, ?_⟩
      refine ⟨a113, ea113, ?_⟩
      refine ⟨o_a113, ?_⟩
      refine ⟨(vin l_a113 (m := 5) (by decide) (q49 bb_x1 c5 c111)), ?_⟩
      intro x145 ex145
      intro x146 ex146
      have q_x146 : x146 = x139 := ex146.trans d_x139.symm
      have d_x146 := ex146
      refine ⟨o_a112, ?_⟩
      intro x147 ex147
      have i148 : vp_in (4 : Int32) (hN _ a112) := (vin l_a112 (m := 5) (by decide) (q49 bb_x1 c5 c111))
      refine ⟨i148, ?_⟩
      intro S149 eS149
      have hI : IV S149 := by rw [eS149]; exact iv_aJ hI o_v0 (by decide) ea112 o_a112 (by decide)
      have f0 := fr_J eS149 f0
      have d_x115 := rd_J eS149 d_x115
      have d_x131 := rd_J eS149 d_x131
      have d_x146 := rd_J eS149 d_x146
      have ea112 := rf_J eS149 ea112
      have ea113 := rf_J eS149 ea113
      have l_a112 := ln_J eS149 l_a112
      have l_a113 := ln_J eS149 l_a113
      have g0 := gr_J eS149 g0
      have o_a112 := ob_J eS149 o_a112
      have o_a113 := ob_J eS149 o_a113
      have o_v0 := ob_J eS149 o_v0
      have o_v1 := ob_J eS149 o_v1
      refine ⟨a112, ea112, ?_⟩
      refine ⟨o_a112, ?_⟩
      refine ⟨(vin l_a112 (m := 5) (by decide) (q45 bb_x1 c5 c111)), ?_⟩
      intro x151 ex151
      refine ⟨a112, ea112, ?_⟩
      refine ⟨o_a112, ?_⟩
      refine ⟨(vin l_a112 (m := 5) (by decide) (q46 bb_x1 c5 c111)), ?_⟩
      intro x153 ex153
      refine ⟨a112, ea112, ?_⟩
      refine ⟨o_a112, ?_⟩
      refine ⟨(vin l_a112 (m := 5) (by decide) (q47 bb_x1 c5 c111)), ?_⟩
      intro x155 ex155
      refine ⟨a112, ea112, ?_⟩
      refine ⟨o_a112, ?_⟩
      refine ⟨(vin l_a112 (m := 5) (by decide) (q48 bb_x1 c5 c111)), ?_⟩
      intro x157 ex157
      refine ⟨a112, ea112, ?_⟩
      refine ⟨o_a112, ?_⟩
      refine ⟨(vin l_a112 (m := 5) (by decide) (q49 bb_x1 c5 c111)), ?_⟩
      intro x159 ex159
      exact hq _ _ hI g0 f0
    · refine ⟨o_v1, ?_⟩
      refine m_X6_shield hI o_v1 (fun x160 S161 hI2 g162 p_x160 => ?_)
      subst p_x160
      intro _
      refine u_X1_soak_35 ?_
      refine ⟨o_v0, ?_⟩
      obtain ⟨a164, ea164, o_a164, l_a164⟩ := shl 9 rfl hI o_v0
      refine ⟨a164, ea164, ?_⟩
      obtain ⟨a165, ea165, o_a165, l_a165⟩ := shl 10 rfl hI o_v0
      refine ⟨a165, ea165, ?_⟩
      refine ⟨o_a165, ?_⟩
      refine ⟨(vin l_a165 (m := 5) (by decide) (q50 bb_x1 c5 c111)), ?_⟩
      intro x166 ex166
      refine ⟨o_v1, ?_⟩
      intro x167 ex167
      have d_x167 := ex167
      intro x168 ex168
      refine ⟨o_a164, ?_⟩
      intro x169 ex169
      have i170 : vp_in (0 : Int32) (hN _ a164) := (vin l_a164 (m := 5) (by decide) (q50 bb_x1 c5 c111))
      refine ⟨i170, ?_⟩
      intro S171 eS171
      have hI : IV S171 := by rw [eS171]; exact iv_aJ hI o_v0 (by decide) ea164 o_a164 (by decide)
      have f0 := fr_J eS171 f0
      have d_x167 := rd_J eS171 d_x167
      have ea164 := rf_J eS171 ea164
      have ea165 := rf_J eS171 ea165
      have l_a164 := ln_J eS171 l_a164
      have l_a165 := ln_J eS171 l_a165
      have g0 := gr_J eS171 g0
      have o_a164 := ob_J eS171 o_a164
      have o_a165 := ob_J eS171 o_a165
      have o_v0 := ob_J eS171 o_v0
      have o_v1 := ob_J eS171 o_v1
      refine ⟨a164, ea164, ?_⟩
      refine ⟨a165, ea165, ?_⟩
      refine ⟨o_a165, ?_⟩
      refine ⟨(vin l_a165 (m := 5) (by decide) (q51 bb_x1 c5 c111)), ?_⟩
      intro x174 ex174
      intro x175 ex175
      have d_x175 := ex175
      intro x176 ex176
      refine ⟨o_a164, ?_⟩
      intro x177 ex177
      have i178 : vp_in (1 : Int32) (hN _ a164) := (vin l_a164 (m := 5) (by decide) (q51 bb_x1 c5 c111))
      refine ⟨i178, ?_⟩
      intro S179 eS179
      have hI : IV S179 := by rw [eS179]; exact iv_aJ hI o_v0 (by decide) ea164 o_a164 (by decide)
      have f0 := fr_J eS179 f0
      have d_x167 := rd_J eS179 d_x167
      have d_x175 := rd_J eS179 d_x175
      have ea164 := rf_J eS179 ea164
      have ea165 := rf_J eS179 ea165
      have l_a164 := ln_J eS179 l_a164
      have l_a165 := ln_J eS179 l_a165
      have g0 := gr_J eS179 g0
      have o_a164 := ob_J eS179 o_a164
      have o_a165 := ob_J eS179 o_a165
      have o_v0 := ob_J eS179 o_v0
      have o_v1 := ob_J eS179 o_v1
      refine ⟨a164, ea164, ?_⟩
      refine ⟨a165, ea165, ?_⟩
      refine ⟨o_a165, ?_⟩
      refine ⟨(vin l_a165 (m := 5) (by decide) (q52 bb_x1 c5 c111)), ?_⟩
      intro x182 ex182
      intro x183 ex183
      have q_x183 : x183 = x175 := ex183.trans d_x175.symm
      have d_x183 := ex183
      intro x184 ex184
      refine ⟨o_a164, ?_⟩
      intro x185 ex185
      have i186 : vp_in (2 : Int32) (hN _ a164) := (vin l_a164 (m := 5) (by decide) (q52 bb_x1 c5 c111))
      refine ⟨i186, ?_⟩
      intro S187 eS187
      have hI : IV S187 := by rw [eS187]; exact iv_aJ hI o_v0 (by decide) ea164 o_a164 (by decide)
      have f0 := fr_J eS187 f0
      have d_x167 := rd_J eS187 d_x167
      have d_x183 := rd_J eS187 d_x183
      have ea164 := rf_J eS187 ea164
      have ea165 := rf_J eS187 ea165
      have l_a164 := ln_J eS187 l_a164
      have l_a165 := ln_J eS187 l_a165
      have g0 := gr_J eS187 g0
      have o_a164 := ob_J eS187 o_a164
      have o_a165 := ob_J eS187 o_a165
      have o_v0 := ob_J eS187 o_v0
      have o_v1 := ob_J eS187 o_v1
      refine ⟨a164, ea164, ?_⟩
      refine ⟨a165, ea165, ?_⟩
      refine ⟨o_a165, ?_⟩
      refine ⟨(vin l_a165 (m := 5) (by decide) (q53 bb_x1 c5 c111)), ?_⟩
      intro x190 ex190
      intro x191 ex191
      have d_x191 := ex191
      refine ⟨o_a164, ?_⟩
      intro x192 ex192
      have i193 : vp_in (3 : Int32) (hN _ a164) := (vin l_a164 (m := 5) (by decide) (q53 bb_x1 c5 c111))
      refine ⟨i193, ?_⟩
      intro S194 eS194
      have hI : IV S194 := by rw [eS194]; exact iv_aJ hI o_v0 (by decide) ea164 o_a164 (by decide)
      have f0 := fr_J eS194 f0
      have d_x167 := rd_J eS194 d_x167
      have d_x183 := rd_J eS194 d_x183
      have d_x191 := rd_J eS194 d_x191
      have ea164 := rf_J eS194 ea164
      have ea165 := rf_J eS194 ea165
      have l_a164 := ln_J eS194 l_a164
      have l_a165 := ln_J eS194 l_a165
      have g0 := gr_J eS194 g0
      have o_a164 := ob_J eS194 o_a164
      have o_a165 := ob_J eS194 o_a165
      have o_v0 := ob_J eS194 o_v0
      have o_v1 := ob_J eS194 o_v1
      refine ⟨a164, ea164, ?_⟩
      refine ⟨a165, ea165, ?_⟩
      refine ⟨o_a165, ?_⟩
      refine ⟨(vin l_a165 (m := 5) (by decide) (q54 bb_x1 c5 c111)), ?_⟩
      intro x197 ex197
      intro x198 ex198
      have q_x198 : x198 = x191 := ex198.trans d_x191.symm
      have d_x198 := ex198
      refine ⟨o_a164, ?_⟩
      intro x199 ex199
      have i200 : vp_in (4 : Int32) (hN _ a164) := (vin l_a164 (m := 5) (by decide) (q54 bb_x1 c5 c111))
      refine ⟨i200, ?_⟩
      intro S201 eS201
      have hI : IV S201 := by rw [eS201]; exact iv_aJ hI o_v0 (by decide) ea164 o_a164 (by decide)
      have f0 := fr_J eS201 f0
      have d_x167 := rd_J eS201 d_x167
      have d_x183 := rd_J eS201 d_x183
      have d_x198 := rd_J eS201 d_x198
      have ea164 := rf_J eS201 ea164
      have ea165 := rf_J eS201 ea165
      have l_a164 := ln_J eS201 l_a164
      have l_a165 := ln_J eS201 l_a165
      have g0 := gr_J eS201 g0
      have o_a164 := ob_J eS201 o_a164
      have o_a165 := ob_J eS201 o_a165
      have o_v0 := ob_J eS201 o_v0
      have o_v1 := ob_J eS201 o_v1
      refine ⟨a164, ea164, ?_⟩
      refine ⟨o_a164, ?_⟩
      refine ⟨(vin l_a164 (m := 5) (by decide) (q50 bb_x1 c5 c111)), ?_⟩
      intro x203 ex203
      refine ⟨a164, ea164, ?_⟩
      refine ⟨o_a164, ?_⟩
      refine ⟨(vin l_a164 (m := 5) (by decide) (q51 bb_x1 c5 c111)), ?_⟩
      intro x205 ex205
      refine ⟨a164, ea164, ?_⟩
      refine ⟨o_a164, ?_⟩
      refine ⟨(vin l_a164 (m := 5) (by decide) (q52 bb_x1 c5 c111)), ?_⟩
      intro x207 ex207
      refine ⟨a164, ea164, ?_⟩
      refine ⟨o_a164, ?_⟩
      refine ⟨(vin l_a164 (m := 5) (by decide) (q53 bb_x1 c5 c111)), ?_⟩
      intro x209 ex209
      refine ⟨a164, ea164, ?_⟩
      refine ⟨o_a164, ?_⟩
      refine ⟨(vin l_a164 (m := 5) (by decide) (q54 bb_x1 c5 c111)), ?_⟩
      intro x211 ex211
      exact hq _ _ hI g0 f0
set_option maxHeartbeats 4000000 in
set_option maxRecDepth 20000 in
theorem m_X1_wetOf {v0 : Nat} {v1 : Nat} {v2 : Nat} {v3 : Int32} {v4 : Nat} {v5 : Int32} {Q : Int64 → HS → Prop} {S : HS} (hI : IV S) (o_v0 : ob S v0 1) (o_v1 : ob S v1 6) (o_v2 : ob S v2 5) (o_v4 : ob S v4 3)     (hq : ∀ (r : Int64) (T : HS), IV T → Gr S T → FRI [] [] S T → Q r T) : P_X1_wetOf v0 v1 v2 v3 v4 v5 Q S := by
  have g0 := gr_rf S
  have f0 := fri_rf [] [] S
  refine u_X1_wetOf ?_
  refine u_X1_wetOf_0 ?_
  refine ⟨o_v0, ?_⟩
  refine m_X1_lay hI o_v0 o_v2 o_v4 (fun S2 hJ g3 fc4 => ?_)
  have hI := hJ
  have f0 := fri_tr (S := S) g0 f0 fc4 (by decide) (by decide)
  have o_v0 := gr_ob g3 o_v0
  have o_v1 := gr_ob g3 o_v1
  have o_v2 := gr_ob g3 o_v2
  have o_v4 := gr_ob g3 o_v4
  have g0 := gr_tr (T := S) g0 g3
  intro _
  refine m_X1_soak hI o_v0 o_v1 (fun x5 S6 hJ g7 fc8 => ?_)
  have hI := hJ
  have f0 := fri_tr (S := S2) g0 f0 fc8 (by decide) (by decide)
  have o_v0 := gr_ob g7 o_v0
  have o_v1 := gr_ob g7 o_v1
  have o_v2 := gr_ob g7 o_v2
  have o_v4 := gr_ob g7 o_v4
  have g0 := gr_tr (T := S2) g0 g7
  intro _
  exact hq _ _ hI g0 f0
set_option maxHeartbeats 4000000 in
set_option maxRecDepth 20000 in
theorem m_X1_bestSpeed {v0 : Nat} {v1 : Nat} {v2 : Nat} {v3 : Int32} {v4 : Nat} {Q : Int32 → HS → Prop} {S : HS} (hI : IV S) (o_v0 : ob S v0 1) (o_v1 : ob S v1 6) (o_v2 : ob S v2 5) (o_v4 : ob S v4 3)     (hq : ∀ (r : Int32) (T : HS), IV T → Gr S T → FRI [] [] S T → Q r T) : P_X1_bestSpeed v0 v1 v2 v3 v4 Q S := by
  have g0 := gr_rf S
  have f0 := fri_rf [] [] S
  refine u_X1_bestSpeed ?_
  refine u_X1_bestSpeed_0 ?_
  refine ⟨o_v1, ?_⟩
  intro x1 ex1
  have r_x1 : (0 : Int32) ≤ x1 ∧ x1 ≤ (9 : Int32) := by rw [ex1]; exact nu 4 rfl hI o_v1
  have d_x1 := ex1
  intro x2 ex2
  have r_x2 : (0 : Int32) ≤ x2 ∧ x2 ≤ (9 : Int32) := by rw [ex2]; exact nu 4 rfl hI o_v1
  have q_x2 : x2 = x1 := ex2.trans d_x1.symm
  have d_x2 := ex2
  refine i_X1_bestSpeed_17 (fun (y0 : Nat) (y1 : Nat) (y2 : Nat) (y3 : Int32) (y4 : Nat) (y5 : Int32) (y6 : Int64) (y8 : Int32) (Z : HS) => ((2147483647 : Int32).toInt - y8.toInt).toNat) (fun (y0 : Nat) (y1 : Nat) (y2 : Nat) (y3 : Int32) (y4 : Nat) (y5 : Int32) (y6 : Int64) (y8 : Int32) (Z : HS) => (IV Z) ∧ (Gr S Z) ∧ (FRI [] [] S Z) ∧ (v0 = y0) ∧ (v1 = y1) ∧ (v2 = y2) ∧ (v3 = y3) ∧ (v4 = y4)) ?_ _ _ _ _ _ _ _ _ _ ⟨hI, (gr_rf _), (fri_rf _ _ _), rfl, rfl, rfl, rfl, rfl⟩
  intro w7 w9 w11 w13 w15 w17 w18 w19 S4 X20 ⟨hI, gL5, fL6, q8, q10, q12, q14, q16⟩ ih21
  subst q8
  subst q10
  subst q12
  subst q14
  subst q16
  have d_x2 := d_x2.trans (fri_at fL6 (by decide) (by decide) o_v1).symm
  have f0 := fri_tr (S := S) g0 f0 fL6 (by decide) (by decide)
  have o_v0 := gr_ob gL5 o_v0
  have o_v1 := gr_ob gL5 o_v1
  have o_v2 := gr_ob gL5 o_v2
  have o_v4 := gr_ob gL5 o_v4
  have g0 := gr_tr (T := S) g0 gL5
  refine u_X1_bestSpeed_17 ?_
  refine ⟨o_v1, ?_⟩
  intro x22 ex22
  have r_x22 : (0 : Int32) ≤ x22 ∧ x22 ≤ (9 : Int32) := by rw [ex22]; exact nu 5 rfl hI o_v1
  have d_x22 := ex22
  refine ⟨fun c23 => ?_, fun c23 => ?_⟩
  · exact hq _ _ hI g0 f0
  · refine ⟨o_v0, ?_⟩
    refine m_X1_wetOf hI o_v0 o_v1 o_v2 o_v4 (fun x24 S25 hJ g26 fc27 => ?_)
    have hI := hJ
    have d_x2 := d_x2.trans (fri_at fc27 (by decide) (by decide) o_v1).symm
    have d_x22 := d_x22.trans (fri_at fc27 (by decide) (by decide) o_v1).symm
    have f0 := fri_tr (S := S4) g0 f0 fc27 (by decide) (by decide)
    have fL6 := fri_tr (S := S4) gL5 fL6 fc27 (by decide) (by decide)
    have o_v0 := gr_ob g26 o_v0
    have o_v1 := gr_ob g26 o_v1
    have o_v2 := gr_ob g26 o_v2
    have o_v4 := gr_ob g26 o_v4
    have g0 := gr_tr (T := S4) g0 g26
    have gL5 := gr_tr (T := S4) gL5 g26
    intro _
    refine ⟨fun c28 => ?_, fun c28 => ?_⟩
    · refine u_X1_bestSpeed_55 ?_
      intro x29 ex29
      exact ih21 _ _ _ _ _ _ _ _ _ ⟨hI, gL5, fL6, rfl, rfl, rfl, rfl, rfl⟩ (mu_up (q1120 r_x22 c23 c28 ex29) (q1121 r_x22 c23 c28 ex29))
    · refine u_X1_bestSpeed_55 ?_
      intro x30 ex30
      exact ih21 _ _ _ _ _ _ _ _ _ ⟨hI, gL5, fL6, rfl, rfl, rfl, rfl, rfl⟩ (mu_up (q1122 r_x22 c23 c28 ex30) (q1123 r_x22 c23 c28 ex30))
set_option maxHeartbeats 4000000 in
set_option maxRecDepth 20000 in
theorem m_X6_canGo {v0 : Nat} {v1 : Int32} {Q : Int32 → HS → Prop} {S : HS} (hI : IV S) (o_v0 : ob S v0 6)     (hq : ∀ (r : Int32) (T : HS), IV T → Gr S T → bl r → (S = T) → Q r T) : P_X6_canGo v0 v1 Q S := by
  have g0 := gr_rf S
  refine u_X6_canGo ?_
  refine u_X6_canGo_0 ?_
  refine ⟨o_v0, ?_⟩
  intro x1 ex1
  have r_x1 : (0 : Int32) ≤ x1 ∧ x1 ≤ (9 : Int32) := by rw [ex1]; exact nu 4 rfl hI o_v0
  have d_x1 := ex1
  refine ⟨fun c2 => ?_, fun c2 => ?_⟩
  · exact hq _ _ hI g0 (Or.inl rfl) rfl
  · intro x3 ex3
    have r_x3 : (0 : Int32) ≤ x3 ∧ x3 ≤ (9 : Int32) := by rw [ex3]; exact nu 5 rfl hI o_v0
    have d_x3 := ex3
    refine ⟨fun c4 => ?_, fun c4 => ?_⟩
    · exact hq _ _ hI g0 (Or.inl rfl) rfl
    · refine ⟨fun c5 => ?_, fun c5 => ?_⟩
      · exact hq _ _ hI g0 (Or.inl rfl) rfl
      · refine ⟨fun c6 => ?_, fun c6 => ?_⟩
        · exact hq _ _ hI g0 (Or.inl rfl) rfl
        · exact hq _ _ hI g0 (Or.inr rfl) rfl
set_option maxHeartbeats 4000000 in
set_option maxRecDepth 20000 in
theorem m_X8_hasRoad {v0 : Nat} {v1 : Int32} {Q : Int32 → HS → Prop} {S : HS} (hI : IV S) (o_v0 : ob S v0 8)     (hq : ∀ (r : Int32) (T : HS), IV T → Gr S T → bl r → (S = T) ∧ (r = 1 → 0 ≤ v1 ∧ v1 < 12) → Q r T) : P_X8_hasRoad v0 v1 Q S := by
  have g0 := gr_rf S
  refine u_X8_hasRoad ?_
  refine u_X8_hasRoad_0 ?_
  refine ⟨fun c1 => ?_, fun c1 => ?_⟩
  · exact hq _ _ hI g0 (Or.inl rfl) ⟨rfl, (q23 c1)⟩
  · refine ⟨o_v0, ?_⟩
    intro x2 ex2
    have r_x2 : (0 : Int32) ≤ x2 ∧ x2 ≤ (12 : Int32) := by rw [ex2]; exact nu 13 rfl hI o_v0
    have d_x2 := ex2
    refine ⟨fun c3 => ?_, fun c3 => ?_⟩
    · exact hq _ _ hI g0 (Or.inl rfl) ⟨rfl, (q24 c1 r_x2 c3)⟩
    · obtain ⟨a4, ea4, o_a4, l_a4⟩ := shl 17 rfl hI o_v0
      refine ⟨a4, ea4, ?_⟩
      refine ⟨o_a4, ?_⟩
      have n_a4 : nI (hN S a4) = 12 := by rw [show hN S a4 = 12 from l_a4]; decide
      refine ⟨fun c5 => ?_, fun c5 => ?_⟩
      · rw [n_a4] at c5
        exact hq _ _ hI g0 (Or.inl rfl) ⟨rfl, (q25 c1 r_x2 c3 c5)⟩
      · rw [n_a4] at c5
        exact hq _ _ hI g0 (Or.inr rfl) ⟨rfl, (q26 c1 r_x2 c3 c5)⟩
set_option maxHeartbeats 4000000 in
set_option maxRecDepth 20000 in
theorem m_X8_hasSeen {v0 : Nat} {v1 : Int32} {Q : Int32 → HS → Prop} {S : HS} (hI : IV S) (o_v0 : ob S v0 8)     (hq : ∀ (r : Int32) (T : HS), IV T → Gr S T → bl r → (S = T) ∧ (r = 1 → 0 ≤ v1 ∧ v1 < 4) → Q r T) : P_X8_hasSeen v0 v1 Q S := by
  have g0 := gr_rf S
  refine u_X8_hasSeen ?_
  refine u_X8_hasSeen_0 ?_
  refine ⟨fun c1 => ?_, fun c1 => ?_⟩
  · exact hq _ _ hI g0 (Or.inl rfl) ⟨rfl, (q19 c1)⟩
  · refine ⟨o_v0, ?_⟩
    intro x2 ex2
    have r_x2 : (0 : Int32) ≤ x2 ∧ x2 ≤ (4 : Int32) := by rw [ex2]; exact nu 15 rfl hI o_v0
    have d_x2 := ex2
    refine ⟨fun c3 => ?_, fun c3 => ?_⟩
    · exact hq _ _ hI g0 (Or.inl rfl) ⟨rfl, (q20 c1 r_x2 c3)⟩
    · obtain ⟨a4, ea4, o_a4, l_a4⟩ := shl 19 rfl hI o_v0
      refine ⟨a4, ea4, ?_⟩
      refine ⟨o_a4, ?_⟩
      have n_a4 : nI (hN S a4) = 4 := by rw [show hN S a4 = 4 from l_a4]; decide
      refine ⟨fun c5 => ?_, fun c5 => ?_⟩
      · rw [n_a4] at c5
        exact hq _ _ hI g0 (Or.inl rfl) ⟨rfl, (q21 c1 r_x2 c3 c5)⟩
      · rw [n_a4] at c5
        exact hq _ _ hI g0 (Or.inr rfl) ⟨rfl, (q22 c1 r_x2 c3 c5)⟩
set_option maxHeartbeats 4000000 in
set_option maxRecDepth 20000 in
theorem m_X8_hasWalker {v0 : Nat} {v1 : Int32} {Q : Int32 → HS → Prop} {S : HS} (hI : IV S) (o_v0 : ob S v0 8)     (hq : ∀ (r : Int32) (T : HS), IV T → Gr S T → bl r → (S = T) ∧ (r = 1 → 0 ≤ v1 ∧ v1 < 4) → Q r T) : P_X8_hasWalker v0 v1 Q S := by
  have g0 := gr_rf S
  refine u_X8_hasWalker ?_
  refine u_X8_hasWalker_0 ?_
  refine ⟨fun c1 => ?_, fun c1 => ?_⟩
  · exact hq _ _ hI g0 (Or.inl rfl) ⟨rfl, (q19 c1)⟩
  · refine ⟨o_v0, ?_⟩
    intro x2 ex2
    have r_x2 : (0 : Int32) ≤ x2 ∧ x2 ≤ (4 : Int32) := by rw [ex2]; exact nu 14 rfl hI o_v0
    have d_x2 := ex2
    refine ⟨fun c3 => ?_, fun c3 => ?_⟩
    · exact hq _ _ hI g0 (Or.inl rfl) ⟨rfl, (q20 c1 r_x2 c3)⟩
    · obtain ⟨a4, ea4, o_a4, l_a4⟩ := shl 18 rfl hI o_v0
      refine ⟨a4, ea4, ?_⟩
      refine ⟨o_a4, ?_⟩
      have n_a4 : nI (hN S a4) = 4 := by rw [show hN S a4 = 4 from l_a4]; decide
      refine ⟨fun c5 => ?_, fun c5 => ?_⟩
      · rw [n_a4] at c5
        exact hq _ _ hI g0 (Or.inl rfl) ⟨rfl, (q21 c1 r_x2 c3 c5)⟩
      · rw [n_a4] at c5
        exact hq _ _ hI g0 (Or.inr rfl) ⟨rfl, (q22 c1 r_x2 c3 c5)⟩
set_option maxHeartbeats 4000000 in
set_option maxRecDepth 20000 in
theorem m_X1_fitCode {v0 : Nat} {v1 : Nat} {v2 : Int32} {v3 : Int32} {Q : Int32 → HS → Prop} {S : HS} (hI : IV S) (o_v0 : ob S v0 1) (o_v1 : ob S v1 8)     (hq : ∀ (r : Int32) (T : HS), IV T → Gr S T → FRI [] [] S T → Q r T) : P_X1_fitCode v0 v1 v2 v3 Q S := by
  have g0 := gr_rf S
  have f0 := fri_rf [] [] S
  refine u_X1_fitCode ?_
  refine u_X1_fitCode_0 ?_
  refine ⟨fun c1 => ?_, fun c1 => ?_⟩
  · exact hq _ _ hI g0 f0
  · refine u_X1_legsOf ?_
    refine u_X1_legsOf_0 ?_
    refine ⟨o_v1, ?_⟩
    intro x2 ex2
    have r_x2 : (0 : Int32) ≤ x2 ∧ x2 ≤ (12 : Int32) := by rw [ex2]; exact nu 13 rfl hI o_v1
    have d_x2 := ex2
    intro x3 ex3
    have r_x3 : (0 : Int32) ≤ x3 ∧ x3 ≤ (6 : Int32) := by rw [ex3]; exact nu 11 rfl hI o_v1
    have d_x3 := ex3
    intro _
    refine ⟨fun c5 => ?_, fun c5 => ?_⟩
    · exact hq _ _ hI g0 f0
    · refine ⟨o_v1, ?_⟩
      refine m_X8_hasSeen hI o_v1 (fun x6 S7 hI2 g8 b_x6 p_x6 => ?_)
      obtain ⟨z_S7, p_x6⟩ := p_x6
      subst z_S7
      intro _ _
      have bb_x6 : x6 = 0 ∨ x6 = 1 := b_x6
      refine ⟨fun c10 => ?_, fun c10 => ?_⟩
      · exact hq _ _ hI g0 f0
      · intro x11 ex11
        have r_x11 : (0 : Int32) ≤ x11 ∧ x11 ≤ (6 : Int32) := by rw [ex11]; exact nu 11 rfl hI o_v1
        have q_x11 : x11 = x3 := ex11.trans d_x3.symm
        have d_x11 := ex11
        refine ⟨fun c12 => ?_, fun c12 => ?_⟩
        · intro x13 ex13
          intro x14 ex14
          intro x15 ex15
          have dv_x15 : 0 ≤ x15 ∧ x15 ≤ v3 := by rw [ex15]; exact dv0 (q1329 c1 r_x3 c5 p_x6 bb_x6 c10 r_x11 q_x11 c12 ex13 ex14 ex15) (by decide)
          intro x16 ex16
          have r_x16 : (0 : Int32) ≤ x16 ∧ x16 ≤ (6 : Int32) := by rw [ex16]; exact nu 11 rfl hI o_v1
          have q_x16 : x16 = x11 := ex16.trans d_x11.symm
          have d_x16 := ex16
          refine ⟨(q1330 c1 r_x3 c5 p_x6 bb_x6 c10 r_x11 q_x11 c12 ex13 ex14 ex15 dv_x15 r_x16 q_x16), ?_⟩
          intro x17 ex17
          have dv_x17 : 0 ≤ x17 ∧ x17 < x16 := by rw [ex17]; exact rm_rng (q1331 c1 r_x3 c5 p_x6 bb_x6 c10 r_x11 q_x11 c12 ex13 ex14 ex15 dv_x15 r_x16 q_x16) (q1332 c1 r_x3 c5 p_x6 bb_x6 c10 r_x11 q_x11 c12 ex13 ex14 ex15 dv_x15 r_x16 q_x16)
          intro x18 ex18
          intro x19 ex19
          have r_x19 : (0 : Int32) ≤ x19 ∧ x19 ≤ (6 : Int32) := by rw [ex19]; exact nu 11 rfl hI o_v1
          have q_x19 : x19 = x16 := ex19.trans d_x16.symm
          have d_x19 := ex19
          refine ⟨(q1333 c1 r_x3 c5 p_x6 bb_x6 c10 r_x11 q_x11 c12 ex13 ex14 ex15 dv_x15 r_x16 q_x16 dv_x17 ex18 r_x19 q_x19), ?_⟩
          intro x20 ex20
          obtain ⟨a21, ea21, o_a21, l_a21⟩ := shl 19 rfl hI o_v1
          refine ⟨a21, ea21, ?_⟩
          refine ⟨o_a21, ?_⟩
          refine ⟨(vin l_a21 (m := 4) (by decide) (q1334 c1 r_x3 c5 p_x6 bb_x6 c10 r_x11 q_x11 c12 ex13 ex14 ex15 dv_x15 r_x16 q_x16 dv_x17 ex18 r_x19 q_x19 ex20)), ?_⟩
          intro x22 ex22
          refine m_X8_hasWalker hI o_v1 (fun x23 S24 hI2 g25 b_x23 p_x23 => ?_)
          obtain ⟨z_S24, p_x23⟩ := p_x23
          subst z_S24
          intro _ _
          have bb_x23 : x23 = 0 ∨ x23 = 1 := b_x23
          refine ⟨fun c27 => ?_, fun c27 => ?_⟩
          · exact hq _ _ hI g0 f0
          · intro x28 ex28
            refine m_X8_hasRoad hI o_v1 (fun x29 S30 hI2 g31 b_x29 p_x29 => ?_)
            obtain ⟨z_S30, p_x29⟩ := p_x29
            subst z_S30
            intro _ _
            have bb_x29 : x29 = 0 ∨ x29 = 1 := b_x29
            refine ⟨fun c33 => ?_, fun c33 => ?_⟩
            · exact hq _ _ hI g0 f0
            · obtain ⟨a34, ea34, o_a34, l_a34⟩ := shl 18 rfl hI o_v1
              refine ⟨a34, ea34, ?_⟩
              refine ⟨o_a34, ?_⟩
              have i36 : vp_in x22 (hN _ a34) := (vin l_a34 (m := 4) (by decide) (q1335 c1 r_x3 c5 p_x6 bb_x6 c10 r_x11 q_x11 c12 ex13 ex14 ex15 dv_x15 r_x16 q_x16 dv_x17 ex18 r_x19 q_x19 ex20 p_x23 bb_x23 c27 ex28 p_x29 bb_x29 c33))
              obtain ⟨a35, ea35, o_a35⟩ := ae hI o_a34 (by decide) (by decide) i36
              replace o_a35 : ob _ a35 6 := o_a35
              refine ⟨i36, a35, ea35, ?_⟩
              refine ⟨o_a35, ?_⟩
              refine m_X6_canGo hI o_a35 (fun x37 S38 hI2 g39 b_x37 p_x37 => ?_)
              subst p_x37
              intro _ _
              have bb_x37 : x37 = 0 ∨ x37 = 1 := b_x37
              refine ⟨fun c41 => ?_, fun c41 => ?_⟩
              · refine ⟨a34, ea34, ?_⟩
                refine ⟨o_a34, ?_⟩
                have i44 : vp_in x22 (hN _ a34) := (vin l_a34 (m := 4) (by decide) (q1336 c1 r_x3 c5 p_x6 bb_x6 c10 r_x11 q_x11 c12 ex13 ex14 ex15 dv_x15 r_x16 q_x16 dv_x17 ex18 r_x19 q_x19 ex20 p_x23 bb_x23 c27 ex28 p_x29 bb_x29 c33 bb_x37 c41))
                obtain ⟨a43, ea43, o_a43⟩ := ae hI o_a34 (by decide) (by decide) i44
                replace o_a43 : ob _ a43 6 := o_a43
                refine ⟨i44, a43, ea43, ?_⟩
                obtain ⟨a45, ea45, o_a45, l_a45⟩ := shl 17 rfl hI o_v1
                refine ⟨a45, ea45, ?_⟩
                intro x46 ex46
                refine ⟨o_a45, ?_⟩
                have i48 : vp_in x46 (hN _ a45) := (vin l_a45 (m := 12) (by decide) (q1337 c1 r_x3 c5 p_x6 bb_x6 c10 r_x11 q_x11 c12 ex13 ex14 ex15 dv_x15 r_x16 q_x16 dv_x17 ex18 r_x19 q_x19 ex20 p_x23 bb_x23 c27 ex28 p_x29 bb_x29 c33 bb_x37 c41 ex46))
                obtain ⟨a47, ea47, o_a47⟩ := ae hI o_a45 (by decide) (by decide) i48
                replace o_a47 : ob _ a47 5 := o_a47
                refine ⟨i48, a47, ea47, ?_⟩
                intro x49 ex49
                obtain ⟨a50, ea50, o_a50, l_a50⟩ := shl 15 rfl hI o_v1
                refine ⟨a50, ea50, ?_⟩
                refine ⟨o_a50, ?_⟩
                have i52 : vp_in x17 (hN _ a50) := (vin l_a50 (m := 6) (by decide) (q1338 c1 r_x3 c5 p_x6 bb_x6 c10 r_x11 q_x11 c12 ex13 ex14 ex15 dv_x15 r_x16 q_x16 dv_x17 ex18 r_x19 q_x19 ex20 p_x23 bb_x23 c27 ex28 p_x29 bb_x29 c33 bb_x37 c41 ex46 ex49))
                obtain ⟨a51, ea51, o_a51⟩ := ae hI o_a50 (by decide) (by decide) i52
                replace o_a51 : ob _ a51 3 := o_a51
                refine ⟨i52, a51, ea51, ?_⟩
                refine ⟨o_v0, ?_⟩
                refine m_X1_wetOf hI o_v0 o_a43 o_a47 o_a51 (fun x53 S54 hJ g55 fc56 => ?_)
                have hI := hJ
                have l_a21 := (gr_len g55 o_a21).trans l_a21
                have l_a34 := (gr_len g55 o_a34).trans l_a34
                have l_a45 := (gr_len g55 o_a45).trans l_a45
                have l_a50 := (gr_len g55 o_a50).trans l_a50
                have d_x2 := d_x2.trans (fri_at fc56 (by decide) (by decide) o_v1).symm
                have d_x19 := d_x19.trans (fri_at fc56 (by decide) (by decide) o_v1).symm
                have ea21 := (frr_at fc56 (by decide) (by decide) o_v1).trans ea21
                have ea34 := (frr_at fc56 (by decide) (by decide) o_v1).trans ea34
                have ea45 := (frr_at fc56 (by decide) (by decide) o_v1).trans ea45
                have ea50 := (frr_at fc56 (by decide) (by decide) o_v1).trans ea50
                have f0 := fri_tr (S := S) g0 f0 fc56 (by decide) (by decide)
                have o_a21 := gr_ob g55 o_a21
                have o_a34 := gr_ob g55 o_a34
                have o_a35 := gr_ob g55 o_a35
                have o_a43 := gr_ob g55 o_a43
                have o_a45 := gr_ob g55 o_a45
                have o_a47 := gr_ob g55 o_a47
                have o_a50 := gr_ob g55 o_a50
                have o_a51 := gr_ob g55 o_a51
                have o_v0 := gr_ob g55 o_v0
                have o_v1 := gr_ob g55 o_v1
                have g0 := gr_tr (T := S) g0 g55
                intro _
                refine i_X1_fitCode_141 (fun (y0 : Nat) (y1 : Nat) (y2 : Int32) (y4 : Int32) (y5 : Int32) (y6 : Int32) (y8 : Int32) (Z : HS) => ((2147483647 : Int32).toInt - y8.toInt).toNat) (fun (y0 : Nat) (y1 : Nat) (y2 : Int32) (y4 : Int32) (y5 : Int32) (y6 : Int32) (y8 : Int32) (Z : HS) => (S54 = Z) ∧ (v0 = y0) ∧ (v1 = y1) ∧ (v2 = y2) ∧ (x14 = y4) ∧ (x17 = y5) ∧ (x20 = y6) ∧ (0 ≤ y8)) ?_ _ _ _ _ _ _ _ _ ⟨rfl, rfl, rfl, rfl, rfl, rfl, rfl, (q1339 c1 r_x3 c5 p_x6 bb_x6 c10 r_x11 q_x11 c12 ex13 ex14 ex15 dv_x15 r_x16 q_x16 dv_x17 ex18 r_x19 q_x19 ex20 p_x23 bb_x23 c27 ex28 p_x29 bb_x29 c33 bb_x37 c41 ex46 ex49)⟩
                intro w61 w63 w65 w67 w69 w71 w73 S58 X74 ⟨eS58, q62, q64, q66, q68, q70, q72, i1u57⟩ ih75
                subst q62
                subst q64
                subst q66
                subst q68
                subst q70
                subst q72
                subst eS58
                refine u_X1_fitCode_141 ?_
                refine ⟨fun c76 => ?_, fun c76 => ?_⟩
                · intro x77 ex77
                  intro x78 ex78
                  exact hq _ _ hI g0 f0
                · refine ⟨o_v0, ?_⟩
                  obtain ⟨a79, ea79, o_a79, l_a79⟩ := shl 9 rfl hI o_v0
                  refine ⟨a79, ea79, ?_⟩
                  refine ⟨o_a79, ?_⟩
                  refine ⟨(vin l_a79 (m := 5) (by decide) (q1340 c1 r_x3 c5 p_x6 bb_x6 c10 r_x11 q_x11 c12 ex13 ex14 ex15 dv_x15 r_x16 q_x16 dv_x17 ex18 r_x19 q_x19 ex20 p_x23 bb_x23 c27 ex28 p_x29 bb_x29 c33 bb_x37 c41 ex46 ex49 i1u57 c76)), ?_⟩
                  intro x80 ex80
                  refine ⟨o_v1, ?_⟩
                  obtain ⟨a81, ea81, o_a81, l_a81⟩ := shl 20 rfl hI o_v1
                  refine ⟨a81, ea81, ?_⟩
                  refine ⟨o_a81, ?_⟩
                  intro x82 ex82
                  refine ⟨(vin l_a81 (m := 20) (by decide) (q1341 c1 r_x3 c5 p_x6 bb_x6 c10 r_x11 q_x11 c12 ex13 ex14 ex15 dv_x15 r_x16 q_x16 dv_x17 ex18 r_x19 q_x19 ex20 p_x23 bb_x23 c27 ex28 p_x29 bb_x29 c33 bb_x37 c41 ex46 ex49 i1u57 c76 ex82)), ?_⟩
                  intro x83 ex83
                  refine ⟨fun c84 => ?_, fun c84 => ?_⟩
                  · intro x85 ex85
                    exact ih75 _ _ _ _ _ _ _ _ ⟨rfl, rfl, rfl, rfl, rfl, rfl, rfl, (q1342 c1 r_x3 c5 p_x6 bb_x6 c10 r_x11 q_x11 c12 ex13 ex14 ex15 dv_x15 r_x16 q_x16 dv_x17 ex18 r_x19 q_x19 ex20 p_x23 bb_x23 c27 ex28 p_x29 bb_x29 c33 bb_x37 c41 ex46 ex49 i1u57 c76 ex82 c84 ex85)⟩ (mu_up (q1343 c1 r_x3 c5 p_x6 bb_x6 c10 r_x11 q_x11 c12 ex13 ex14 ex15 dv_x15 r_x16 q_x16 dv_x17 ex18 r_x19 q_x19 ex20 p_x23 bb_x23 c27 ex28 p_x29 bb_x29 c33 bb_x37 c41 ex46 ex49 i1u57 c76 ex82 c84 ex85) (q1344 c1 r_x3 c5 p_x6 bb_x6 c10 r_x11 q_x11 c12 ex13 ex14 ex15 dv_x15 r_x16 q_x16 dv_x17 ex18 r_x19 q_x19 ex20 p_x23 bb_x23 c27 ex28 p_x29 bb_x29 c33 bb_x37 c41 ex46 ex49 i1u57 c76 ex82 c84 ex85))
                  · exact hq _ _ hI g0 f0
              · exact hq _ _ hI g0 f0
        · exact hq _ _ hI g0 f0
end
