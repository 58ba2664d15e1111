section
theorem u_X10_across {v0 : Nat} {v1 : Int32} {v2 : Int32} {v3 : Int32} {Q : Int32 → HS → Prop} {S : HS} (h : P_X10_across_0 Q v0 v1 v2 v3 S) : P_X10_across v0 v1 v2 v3 Q S := h
theorem u_X10_across_0 {Q : Int32 → HS → Prop} {v0 : Nat} {v1 : Int32} {v2 : Int32} {v3 : Int32} {S : HS} (h : ob S v0 10 ∧ (∃ a1 : Nat, fR S v0 9 = some a1 ∧ (ob S a1 13 ∧ (vp_in v3 (hN S a1) ∧ ∀ x3 : Int32, x3 = fI S a1 v3.toNatClampNeg → (P_X10_facing v0 v1 v2 (fun x6 S4 => Gr S S4 → (∀ x7 : Int32, x7 = (x3 - x6) &&& (3 : Int32) → (((¬ x7 = (1 : Int32)) → (((¬ x7 = (3 : Int32)) → (Q (0 : Int32) S4)) ∧ ((x7 = (3 : Int32)) → (∃ a10 : Nat, fR S4 v0 10 = some a10 ∧ (ob S4 a10 13 ∧ (vp_in v3 (hN S4 a10) ∧ ∀ x12 : Int32, x12 = fI S4 a10 v3.toNatClampNeg → (Q (-x12) S4))))))) ∧ ((x7 = (1 : Int32)) → (∃ a13 : Nat, fR S4 v0 10 = some a13 ∧ (ob S4 a13 13 ∧ (vp_in v3 (hN S4 a13) ∧ ∀ x15 : Int32, x15 = fI S4 a13 v3.toNatClampNeg → (Q x15 S4)))))))) S))))) : P_X10_across_0 Q v0 v1 v2 v3 S := h
theorem u_X10_air {v0 : Nat} {v1 : Int32} {v2 : Int32} {v3 : Int32} {Q : Int32 → HS → Prop} {S : HS} (h : P_X10_air_0 Q v0 v1 v2 v3 S) : P_X10_air v0 v1 v2 v3 Q S := h
theorem u_X10_air_0 {Q : Int32 → HS → Prop} {v0 : Nat} {v1 : Int32} {v2 : Int32} {v3 : Int32} {S : HS} (h : ob S v0 10 ∧ (∃ a1 : Nat, fR S v0 9 = some a1 ∧ (ob S a1 13 ∧ (vp_in v3 (hN S a1) ∧ ∀ x3 : Int32, x3 = fI S a1 v3.toNatClampNeg → (P_X10_facing v0 v1 v2 (fun x6 S4 => Gr S S4 → (∀ x7 : Int32, x7 = (x3 - x6) &&& (3 : Int32) → (((¬ x7 = 0) → (((¬ x7 = (2 : Int32)) → (Q (0 : Int32) S4)) ∧ ((x7 = (2 : Int32)) → (∃ a10 : Nat, fR S4 v0 10 = some a10 ∧ (ob S4 a10 13 ∧ (vp_in v3 (hN S4 a10) ∧ ∀ x12 : Int32, x12 = fI S4 a10 v3.toNatClampNeg → (Q (-x12) S4))))))) ∧ ((x7 = 0) → (∃ a13 : Nat, fR S4 v0 10 = some a13 ∧ (ob S4 a13 13 ∧ (vp_in v3 (hN S4 a13) ∧ ∀ x15 : Int32, x15 = fI S4 a13 v3.toNatClampNeg → (Q x15 S4)))))))) S))))) : P_X10_air_0 Q v0 v1 v2 v3 S := h
theorem u_X10_begins {v0 : Nat} {v1 : Int32} {v2 : Int32} {Q : Int32 → HS → Prop} {S : HS} (h : P_X10_begins_0 Q v0 v1 v2 S) : P_X10_begins v0 v1 v2 Q S := h
theorem u_X10_begins_0 {Q : Int32 → HS → Prop} {v0 : Nat} {v1 : Int32} {v2 : Int32} {S : HS} (h : ((¬ v2 = 0) → (ob S v0 10 ∧ (∃ a2 : Nat, fR S v0 14 = some a2 ∧ (ob S a2 13 ∧ (vp_in v1 (hN S a2) ∧ ∀ x4 : Int32, x4 = fI S a2 v1.toNatClampNeg → (Q x4 S)))))) ∧ ((v2 = 0) → (ob S v0 10 ∧ (∃ a5 : Nat, fR S v0 13 = some a5 ∧ (ob S a5 13 ∧ (vp_in v1 (hN S a5) ∧ ∀ x7 : Int32, x7 = fI S a5 v1.toNatClampNeg → (Q x7 S))))))) : P_X10_begins_0 Q v0 v1 v2 S := h
theorem u_X10_ends {v0 : Nat} {v1 : Int32} {v2 : Int32} {Q : Int32 → HS → Prop} {S : HS} (h : P_X10_ends_0 Q v0 v1 v2 S) : P_X10_ends v0 v1 v2 Q S := h
theorem u_X10_ends_0 {Q : Int32 → HS → Prop} {v0 : Nat} {v1 : Int32} {v2 : Int32} {S : HS} (h : ((¬ v2 = 0) → (ob S v0 10 ∧ (∃ a2 : Nat, fR S v0 13 = some a2 ∧ (ob S a2 13 ∧ (vp_in v1 (hN S a2) ∧ ∀ x4 : Int32, x4 = fI S a2 v1.toNatClampNeg → (Q x4 S)))))) ∧ ((v2 = 0) → (ob S v0 10 ∧ (∃ a5 : Nat, fR S v0 14 = some a5 ∧ (ob S a5 13 ∧ (vp_in v1 (hN S a5) ∧ ∀ x7 : Int32, x7 = fI S a5 v1.toNatClampNeg → (Q x7 S))))))) : P_X10_ends_0 Q v0 v1 v2 S := h
theorem u_X10_facing {v0 : Nat} {v1 : Int32} {v2 : Int32} {Q : Int32 → HS → Prop} {S : HS} (h : P_X10_facing_0 Q v0 v1 v2 S) : P_X10_facing v0 v1 v2 Q S := h
theorem u_X10_facing_0 {Q : Int32 → HS → Prop} {v0 : Nat} {v1 : Int32} {v2 : Int32} {S : HS} (h : ((¬ v2 = 0) → (ob S v0 10 ∧ (∃ a2 : Nat, fR S v0 15 = some a2 ∧ (ob S a2 13 ∧ (vp_in v1 (hN S a2) ∧ ∀ x4 : Int32, x4 = fI S a2 v1.toNatClampNeg → (Q ((x4 + (2 : Int32)) &&& (3 : Int32)) S)))))) ∧ ((v2 = 0) → (ob S v0 10 ∧ (∃ a5 : Nat, fR S v0 15 = some a5 ∧ (ob S a5 13 ∧ (vp_in v1 (hN S a5) ∧ ∀ x7 : Int32, x7 = fI S a5 v1.toNatClampNeg → (Q x7 S))))))) : P_X10_facing_0 Q v0 v1 v2 S := h
theorem u_X10_minutes {v0 : Nat} {v1 : Int32} {v2 : Int32} {Q : Int32 → HS → Prop} {S : HS} (h : P_X10_minutes_0 Q v0 v1 v2 S) : P_X10_minutes v0 v1 v2 Q S := h
theorem u_X10_minutes_0 {Q : Int32 → HS → Prop} {v0 : Nat} {v1 : Int32} {v2 : Int32} {S : HS} (h : ob S v0 10 ∧ (∃ a1 : Nat, fR S v0 16 = some a1 ∧ (ob S a1 13 ∧ (vp_in v1 (hN S a1) ∧ ∀ x3 : Int32, x3 = fI S a1 v1.toNatClampNeg → (¬ v2 = 0 ∧ ∀ x5 : Int32, x5 = ((x3 + v2) - (1 : Int32)) / v2 → (Q x5 S)))))) : P_X10_minutes_0 Q v0 v1 v2 S := h
theorem u_X10_shield {v0 : Nat} {v1 : Int32} {Q : Int32 → HS → Prop} {S : HS} (h : P_X10_shield_0 Q v0 v1 S) : P_X10_shield v0 v1 Q S := h
theorem u_X10_shield_0 {Q : Int32 → HS → Prop} {v0 : Nat} {v1 : Int32} {S : HS} (h : ob S v0 10 ∧ (∃ a1 : Nat, fR S v0 19 = some a1 ∧ (ob S a1 13 ∧ (vp_in v1 (hN S a1) ∧ ∀ x3 : Int32, x3 = fI S a1 v1.toNatClampNeg → (((¬ x3 = (3 : Int32)) → (Q (0 : Int32) S)) ∧ ((x3 = (3 : Int32)) → (∃ a5 : Nat, fR S v0 20 = some a5 ∧ (ob S a5 13 ∧ (vp_in v1 (hN S a5) ∧ ∀ x7 : Int32, x7 = fI S a5 v1.toNatClampNeg → (Q x7 S)))))))))) : P_X10_shield_0 Q v0 v1 S := h
theorem u_X11_air {v0 : Nat} {v1 : Int32} {v2 : Int32} {v3 : Int32} {Q : Int32 → HS → Prop} {S : HS} (h : P_X11_air_0 Q v0 v1 v2 v3 S) : P_X11_air v0 v1 v2 v3 Q S := h
theorem u_X11_air_0 {Q : Int32 → HS → Prop} {v0 : Nat} {v1 : Int32} {v2 : Int32} {v3 : Int32} {S : HS} (h : ob S v0 11 ∧ (∀ S1 : HS, S1 = sI S v0 0 (0 : Int32) → (P_X11_isRoad v0 v1 (fun x4 S2 => Gr S1 S2 → bl x4 → (((x4 = 0) → (P_X11_air_30 Q v0 S2)) ∧ ((¬ x4 = 0) → (P_X11_in v2 (0 : Int32) (1 : Int32) (fun x8 S6 => Gr S2 S6 → bl x8 → (((x8 = 0) → (P_X11_air_30 Q v0 S6)) ∧ ((¬ x8 = 0) → (P_X11_isHour v0 v3 (fun x12 S10 => Gr S6 S10 → bl x12 → (((¬ x12 = 0) → (∃ a14 : Nat, fR S10 v0 3 = some a14 ∧ (ob S10 a14 10 ∧ (P_X10_air a14 v1 v2 v3 (fun x17 S15 => Gr S10 S15 → (P_X11_good v0 x17 (fun x20 S18 => Gr S15 S18 → (Q x20 S18)) S15)) S10)))) ∧ ((x12 = 0) → (P_X11_air_30 Q v0 S10)))) S6)))) S2)))) S1))) : P_X11_air_0 Q v0 v1 v2 v3 S := h
theorem u_X11_air_30 {Q : Int32 → HS → Prop} {v0 : Nat} {S : HS} (h : ob S v0 11 ∧ (P_X11_lost v0 (1 : Int32) (fun x3 S1 => Gr S S1 → (Q x3 S1)) S)) : P_X11_air_30 Q v0 S := h
theorem u_X11_back {v0 : Nat} {v1 : Int32} {Q : Int32 → HS → Prop} {S : HS} (h : P_X11_back_0 Q v0 v1 S) : P_X11_back v0 v1 Q S := h
theorem u_X11_back_0 {Q : Int32 → HS → Prop} {v0 : Nat} {v1 : Int32} {S : HS} (h : ob S v0 11 ∧ (∀ S1 : HS, S1 = sI S v0 0 (0 : Int32) → (P_X11_isDay v0 (fun x4 S2 => Gr S1 S2 → bl x4 → (((x4 = 0) → (P_X11_back_24 Q v0 S2)) ∧ ((¬ x4 = 0) → (((v1 < 0) → (P_X11_back_24 Q v0 S2)) ∧ ((¬ v1 < 0) → (∀ x7 : Int32, x7 = fI S2 v0 25 → (((v1 < x7) → (P_X11_back_32 Q v0 v1 (0 : Int32) S2)) ∧ ((¬ v1 < x7) → (P_X11_back_24 Q v0 S2))))))))) S1))) : P_X11_back_0 Q v0 v1 S := h
theorem u_X11_back_24 {Q : Int32 → HS → Prop} {v0 : Nat} {S : HS} (h : ob S v0 11 ∧ (P_X11_denied v0 (1 : Int32) (fun x3 S1 => Gr S S1 → bl x3 → (bl x3 ∧ Q x3 S1)) S)) : P_X11_back_24 Q v0 S := h
theorem u_X11_back_32 {Q : Int32 → HS → Prop} {X32 : Nat → Int32 → Int32 → HS → Prop} {v0 : Nat} {v1 : Int32} {v2 : Int32} {S : HS} (h : (((7 : Int32) ≤ v2) → (ob S v0 11 ∧ (∀ S2 : HS, S2 = sI S v0 24 (0 : Int32) → (P_X11_granted v0 (fun x5 S3 => Gr S2 S3 → bl x5 → (bl x5 ∧ Q x5 S3)) S2)))) ∧ ((¬ (7 : Int32) ≤ v2) → (ob S v0 11 ∧ (∃ a6 : Nat, fR S v0 21 = some a6 ∧ (∃ a7 : Nat, fR S v0 23 = some a7 ∧ (ob S a7 14 ∧ (∀ x9 : Int32, x9 = ((7 : Int32) * v1) + v2 → (vp_in x9 (hN S a7) ∧ ∀ x10 : Int64, x10 = fJ S a7 x9.toNatClampNeg → (ob S a6 14 ∧ (vp_in v2 (hN S a6) ∧ (∀ S12 : HS, S12 = sJ S a6 v2.toNatClampNeg x10 → (∀ x13 : Int32, x13 = v2 + (1 : Int32) → (X32 v0 v1 x13 S12))))))))))))) : B_X11_back_32 Q X32 v0 v1 v2 S := h
theorem i_X11_back_32 {Q : Int32 → HS → Prop} (μ : Nat → Int32 → Int32 → HS → Nat) (I : Nat → Int32 → Int32 → HS → Prop) (hs : ∀ (v0 : Nat) (v1 : Int32) (v2 : Int32) (S : HS) (X : Nat → Int32 → Int32 → HS → Prop), I v0 v1 v2 S → (∀ (w0 : Nat) (w1 : Int32) (w2 : Int32) (T : HS), I w0 w1 w2 T → μ w0 w1 w2 T < μ v0 v1 v2 S → X w0 w1 w2 T) → B_X11_back_32 Q X v0 v1 v2 S) : ∀ (v0 : Nat) (v1 : Int32) (v2 : Int32) (S : HS), I v0 v1 v2 S → P_X11_back_32 Q v0 v1 v2 S := by
  intro v0 v1 v2 S h X hX
  have key : ∀ (z : Nat) (v0 : Nat) (v1 : Int32) (v2 : Int32) (S : HS), μ v0 v1 v2 S < z → I v0 v1 v2 S → X v0 v1 v2 S := by
    intro z
    induction z with
    | zero => intro v0 v1 v2 S hz; exact absurd hz (Nat.not_lt_zero _)
    | succ z ih => intro v0 v1 v2 S hz hI; exact hX _ _ _ _ (hs _ _ _ _ _ hI (fun w0 w1 w2 T hT hl => ih _ _ _ _ (by omega) hT))
  exact key _ _ _ _ _ (Nat.lt_succ_self _) h
theorem u_X11_best {v0 : Nat} {v1 : Int32} {v2 : Int32} {v3 : Int32} {v4 : Int32} {Q : Int32 → HS → Prop} {S : HS} (h : P_X11_best_0 Q v0 v1 v2 v3 v4 S) : P_X11_best v0 v1 v2 v3 v4 Q S := h
theorem u_X11_best_0 {Q : Int32 → HS → Prop} {v0 : Nat} {v1 : Int32} {v2 : Int32} {v3 : Int32} {v4 : Int32} {S : HS} (h : ob S v0 11 ∧ (∀ S1 : HS, S1 = sI S v0 0 (0 : Int32) → (P_X11_isWalker v0 v1 (fun x4 S2 => Gr S1 S2 → bl x4 → (((x4 = 0) → (P_X11_best_39 Q v0 S2)) ∧ ((¬ x4 = 0) → (P_X11_isRoad v0 v2 (fun x8 S6 => Gr S2 S6 → bl x8 → (((x8 = 0) → (P_X11_best_39 Q v0 S6)) ∧ ((¬ x8 = 0) → (P_X11_in v3 (0 : Int32) (1 : Int32) (fun x12 S10 => Gr S6 S10 → bl x12 → (((x12 = 0) → (P_X11_best_39 Q v0 S10)) ∧ ((¬ x12 = 0) → (P_X11_isHour v0 v4 (fun x16 S14 => Gr S10 S14 → bl x16 → (((¬ x16 = 0) → (P_X11_bestOf v0 v1 v2 v3 v4 (fun x20 S18 => Gr S14 S18 → (P_X11_good v0 x20 (fun x23 S21 => Gr S18 S21 → (Q x23 S21)) S18)) S14)) ∧ ((x16 = 0) → (P_X11_best_39 Q v0 S14)))) S10)))) S6)))) S2)))) S1))) : P_X11_best_0 Q v0 v1 v2 v3 v4 S := h
theorem u_X11_best_39 {Q : Int32 → HS → Prop} {v0 : Nat} {S : HS} (h : ob S v0 11 ∧ (P_X11_refused v0 (1 : Int32) (fun x3 S1 => Gr S S1 → (Q x3 S1)) S)) : P_X11_best_39 Q v0 S := h
theorem u_X11_bestOf {v0 : Nat} {v1 : Int32} {v2 : Int32} {v3 : Int32} {v4 : Int32} {Q : Int32 → HS → Prop} {S : HS} (h : P_X11_bestOf_0 Q v0 v1 v2 v3 v4 S) : P_X11_bestOf v0 v1 v2 v3 v4 Q S := h
theorem u_X11_bestOf_0 {Q : Int32 → HS → Prop} {v0 : Nat} {v1 : Int32} {v2 : Int32} {v3 : Int32} {v4 : Int32} {S : HS} (h : ob S v0 11 ∧ (∃ a1 : Nat, fR S v0 3 = some a1 ∧ (ob S a1 10 ∧ (∃ a2 : Nat, fR S a1 24 = some a2 ∧ (ob S a2 13 ∧ (vp_in v1 (hN S a2) ∧ ∀ x4 : Int32, x4 = fI S a2 v1.toNatClampNeg → (∀ x5 : Int32, x5 = x4 + (1 : Int32) → (P_X11_bestOf_17 Q v0 v1 v2 v3 v4 x4 x5 S)))))))) : P_X11_bestOf_0 Q v0 v1 v2 v3 v4 S := h
theorem u_X11_bestOf_17 {Q : Int32 → HS → Prop} {X17 : Nat → Int32 → Int32 → Int32 → Int32 → Int32 → Int32 → HS → Prop} {v0 : Nat} {v1 : Int32} {v2 : Int32} {v3 : Int32} {v4 : Int32} {v5 : Int32} {v6 : Int32} {S : HS} (h : ob S v0 11 ∧ (∃ a1 : Nat, fR S v0 3 = some a1 ∧ (ob S a1 10 ∧ (∃ a2 : Nat, fR S a1 25 = some a2 ∧ (ob S a2 13 ∧ (vp_in v1 (hN S a2) ∧ ∀ x4 : Int32, x4 = fI S a2 v1.toNatClampNeg → (((x4 < v6) → (Q v5 S)) ∧ ((¬ x4 < v6) → (P_X11_wetOf v0 v1 v2 v3 v4 v6 (fun x8 S6 => Gr S S6 → (P_X11_wetOf v0 v1 v2 v3 v4 v5 (fun x11 S9 => Gr S6 S9 → (((0 ≤ (lg_cmp x8 x11)) → (P_X11_bestOf_61 Q X17 v0 v1 v2 v3 v4 v5 v6 S9)) ∧ ((¬ 0 ≤ (lg_cmp x8 x11)) → (P_X11_bestOf_61 Q X17 v0 v1 v2 v3 v4 v6 v6 S9)))) S6)) S))))))))) : B_X11_bestOf_17 Q X17 v0 v1 v2 v3 v4 v5 v6 S := h
theorem i_X11_bestOf_17 {Q : Int32 → HS → Prop} (μ : Nat → Int32 → Int32 → Int32 → Int32 → Int32 → Int32 → HS → Nat) (I : Nat → Int32 → Int32 → Int32 → Int32 → Int32 → Int32 → HS → Prop) (hs : ∀ (v0 : Nat) (v1 : Int32) (v2 : Int32) (v3 : Int32) (v4 : Int32) (v5 : Int32) (v6 : Int32) (S : HS) (X : Nat → Int32 → Int32 → Int32 → Int32 → Int32 → Int32 → HS → Prop), I v0 v1 v2 v3 v4 v5 v6 S → (∀ (w0 : Nat) (w1 : Int32) (w2 : Int32) (w3 : Int32) (w4 : Int32) (w5 : Int32) (w6 : Int32) (T : HS), I w0 w1 w2 w3 w4 w5 w6 T → μ w0 w1 w2 w3 w4 w5 w6 T < μ v0 v1 v2 v3 v4 v5 v6 S → X w0 w1 w2 w3 w4 w5 w6 T) → B_X11_bestOf_17 Q X v0 v1 v2 v3 v4 v5 v6 S) : ∀ (v0 : Nat) (v1 : Int32) (v2 : Int32) (v3 : Int32) (v4 : Int32) (v5 : Int32) (v6 : Int32) (S : HS), I v0 v1 v2 v3 v4 v5 v6 S → P_X11_bestOf_17 Q v0 v1 v2 v3 v4 v5 v6 S := by
  intro v0 v1 v2 v3 v4 v5 v6 S h X hX
  have key : ∀ (z : Nat) (v0 : Nat) (v1 : Int32) (v2 : Int32) (v3 : Int32) (v4 : Int32) (v5 : Int32) (v6 : Int32) (S : HS), μ v0 v1 v2 v3 v4 v5 v6 S < z → I v0 v1 v2 v3 v4 v5 v6 S → X v0 v1 v2 v3 v4 v5 v6 S := by
    intro z
    induction z with
    | zero => intro v0 v1 v2 v3 v4 v5 v6 S hz; exact absurd hz (Nat.not_lt_zero _)
    | succ z ih => intro v0 v1 v2 v3 v4 v5 v6 S hz hI; exact hX _ _ _ _ _ _ _ _ (hs _ _ _ _ _ _ _ _ _ hI (fun w0 w1 w2 w3 w4 w5 w6 T hT hl => ih _ _ _ _ _ _ _ _ (by omega) hT))
  exact key _ _ _ _ _ _ _ _ _ (Nat.lt_succ_self _) h
theorem u_X11_bestOf_61 {Q : Int32 → HS → Prop} {X17 : Nat → Int32 → Int32 → Int32 → Int32 → Int32 → Int32 → HS → Prop} {v0 : Nat} {v1 : Int32} {v2 : Int32} {v3 : Int32} {v4 : Int32} {v5 : Int32} {v6 : Int32} {S : HS} (h : ∀ x1 : Int32, x1 = v6 + (1 : Int32) → (X17 v0 v1 v2 v3 v4 v5 x1 S)) : P_X11_bestOf_61 Q X17 v0 v1 v2 v3 v4 v5 v6 S := h
theorem u_X11_canWait {v0 : Nat} {v1 : Int32} {Q : Int32 → HS → Prop} {S : HS} (h : P_X11_canWait_0 Q v0 v1 S) : P_X11_canWait v0 v1 Q S := h
theorem u_X11_canWait_0 {Q : Int32 → HS → Prop} {v0 : Nat} {v1 : Int32} {S : HS} (h : ob S v0 11 ∧ (∃ a1 : Nat, fR S v0 3 = some a1 ∧ (ob S a1 10 ∧ (∃ a2 : Nat, fR S a1 18 = some a2 ∧ (ob S a2 15 ∧ (vp_in v1 (hN S a2) ∧ ∀ x4 : Int32, x4 = fI S a2 v1.toNatClampNeg → (((¬ x4 = 0) → (Q (1 : Int32) S)) ∧ ((x4 = 0) → (∃ a6 : Nat, fR S v0 3 = some a6 ∧ (ob S a6 10 ∧ (∃ a7 : Nat, fR S a6 12 = some a7 ∧ (ob S a7 13 ∧ (vp_in v1 (hN S a7) ∧ ∀ x9 : Int32, x9 = fI S a7 v1.toNatClampNeg → (((x9 = (-2 : Int32)) → (Q (0 : Int32) S)) ∧ ((¬ x9 = (-2 : Int32)) → (Q (1 : Int32) S)))))))))))))))) : P_X11_canWait_0 Q v0 v1 S := h
theorem u_X11_day {v0 : Nat} {v1 : Int32} {v2 : Int32} {v3 : Int32} {v4 : Int32} {Q : Int32 → HS → Prop} {S : HS} (h : P_X11_day_0 Q v0 v1 v2 v3 v4 S) : P_X11_day v0 v1 v2 v3 v4 Q S := h
theorem u_X11_day_0 {Q : Int32 → HS → Prop} {v0 : Nat} {v1 : Int32} {v2 : Int32} {v3 : Int32} {v4 : Int32} {S : HS} (h : ob S v0 11 ∧ (∀ S1 : HS, S1 = sI S v0 0 (0 : Int32) → (P_X11_isWalker v0 v1 (fun x4 S2 => Gr S1 S2 → bl x4 → (((x4 = 0) → (P_X11_day_21 Q v0 S2)) ∧ ((¬ x4 = 0) → (P_X11_isPlace v0 v2 (fun x8 S6 => Gr S2 S6 → bl x8 → (((¬ x8 = 0) → (P_X11_in v3 (0 : Int32) (400 : Int32) (fun x12 S10 => Gr S6 S10 → bl x12 → (((x12 = 0) → (P_X11_day_50 Q v0 S10)) ∧ ((¬ x12 = 0) → (P_X11_in v4 (0 : Int32) (65536 : Int32) (fun x16 S14 => Gr S10 S14 → bl x16 → (((¬ x16 = 0) → (∀ S18 : HS, S18 = sI S14 v0 19 v1 → (∀ S19 : HS, S19 = sI S18 v0 20 (0 : Int32) → (P_X11_day_73 Q v0 v2 v3 v4 (0 : Int32) S19)))) ∧ ((x16 = 0) → (P_X11_day_50 Q v0 S14)))) S10)))) S6)) ∧ ((x8 = 0) → (P_X11_day_21 Q v0 S6)))) S2)))) S1))) : P_X11_day_0 Q v0 v1 v2 v3 v4 S := h
theorem u_X11_day_21 {Q : Int32 → HS → Prop} {v0 : Nat} {S : HS} (h : ob S v0 11 ∧ (P_X11_refused v0 (1 : Int32) (fun x3 S1 => Gr S S1 → (Q x3 S1)) S)) : P_X11_day_21 Q v0 S := h
theorem u_X11_day_50 {Q : Int32 → HS → Prop} {v0 : Nat} {S : HS} (h : ob S v0 11 ∧ (P_X11_refused v0 (2 : Int32) (fun x3 S1 => Gr S S1 → (Q x3 S1)) S)) : P_X11_day_50 Q v0 S := h
theorem u_X11_day_73 {Q : Int32 → HS → Prop} {X73 : Nat → Int32 → Int32 → Int32 → Int32 → HS → Prop} {v0 : Nat} {v2 : Int32} {v3 : Int32} {v5 : Int32} {v6 : Int32} {S : HS} (h : ob S v0 11 ∧ (∃ a1 : Nat, fR S v0 3 = some a1 ∧ (ob S a1 10 ∧ (∀ x2 : Int32, x2 = fI S a1 1 → (((x2 ≤ v6) → (P_X11_day_147 Q v0 v2 v3 (0 : Int32) S)) ∧ ((¬ x2 ≤ v6) → (∀ x4 : Int64, x4 = (((75 : Int64) * v5.toInt64) + (74 : Int64)) - (((75 : Int64) * v5.toInt64) + (74 : Int64)) / (65537 : Int64) * (65537 : Int64) → (∀ x5 : Int32, x5 = x4.toInt32 → (∀ x6 : Int32, x6 = fI S v0 20 → (∀ x7 : Int32, x7 = x5 - x5 / (100 : Int32) * (100 : Int32) → (∃ a8 : Nat, fR S v0 3 = some a8 ∧ (ob S a8 10 ∧ (∃ a9 : Nat, fR S a8 11 = some a9 ∧ (ob S a9 13 ∧ (vp_in v6 (hN S a9) ∧ ∀ x11 : Int32, x11 = fI S a9 v6.toNatClampNeg → (((x11 ≤ x7) → (P_X11_day_134 Q X73 v0 v2 v3 x5 v6 v0 x6 (0 : Int32) S)) ∧ ((¬ x11 ≤ x7) → (P_X11_day_134 Q X73 v0 v2 v3 x5 v6 v0 x6 ((1 : Int32) <<< (v6 &&& 31)) S)))))))))))))))))) : B_X11_day_73 Q X73 v0 v2 v3 v5 v6 S := h
theorem i_X11_day_73 {Q : Int32 → HS → Prop} (μ : Nat → Int32 → Int32 → Int32 → Int32 → HS → Nat) (I : Nat → Int32 → Int32 → Int32 → Int32 → HS → Prop) (hs : ∀ (v0 : Nat) (v2 : Int32) (v3 : Int32) (v5 : Int32) (v6 : Int32) (S : HS) (X : Nat → Int32 → Int32 → Int32 → Int32 → HS → Prop), I v0 v2 v3 v5 v6 S → (∀ (w0 : Nat) (w2 : Int32) (w3 : Int32) (w5 : Int32) (w6 : Int32) (T : HS), I w0 w2 w3 w5 w6 T → μ w0 w2 w3 w5 w6 T < μ v0 v2 v3 v5 v6 S → X w0 w2 w3 w5 w6 T) → B_X11_day_73 Q X v0 v2 v3 v5 v6 S) : ∀ (v0 : Nat) (v2 : Int32) (v3 : Int32) (v5 : Int32) (v6 : Int32) (S : HS), I v0 v2 v3 v5 v6 S → P_X11_day_73 Q v0 v2 v3 v5 v6 S := by
  intro v0 v2 v3 v5 v6 S h X hX
  have key : ∀ (z : Nat) (v0 : Nat) (v2 : Int32) (v3 : Int32) (v5 : Int32) (v6 : Int32) (S : HS), μ v0 v2 v3 v5 v6 S < z → I v0 v2 v3 v5 v6 S → X v0 v2 v3 v5 v6 S := by
    intro z
    induction z with
    | zero => intro v0 v2 v3 v5 v6 S hz; exact absurd hz (Nat.not_lt_zero _)
    | succ z ih => intro v0 v2 v3 v5 v6 S hz hI; exact hX _ _ _ _ _ _ (hs _ _ _ _ _ _ _ hI (fun w0 w2 w3 w5 w6 T hT hl => ih _ _ _ _ _ _ (by omega) hT))
  exact key _ _ _ _ _ _ _ (Nat.lt_succ_self _) h
theorem u_X11_day_134 {Q : Int32 → HS → Prop} {X73 : Nat → Int32 → Int32 → Int32 → Int32 → HS → Prop} {v0 : Nat} {v2 : Int32} {v3 : Int32} {v5 : Int32} {v6 : Int32} {s0 : Nat} {s1 : Int32} {s2 : Int32} {S : HS} (h : ob S s0 11 ∧ (∀ x1 : Int32, x1 = s1 ||| s2 → (∀ S2 : HS, S2 = sI S s0 20 x1 → (∀ x3 : Int32, x3 = v6 + (1 : Int32) → (X73 v0 v2 v3 v5 x3 S2))))) : P_X11_day_134 Q X73 v0 v2 v3 v5 v6 s0 s1 s2 S := h
theorem u_X11_day_147 {Q : Int32 → HS → Prop} {X147 : Nat → Int32 → Int32 → Int32 → HS → Prop} {v0 : Nat} {v2 : Int32} {v3 : Int32} {v6 : Int32} {S : HS} (h : (((7 : Int32) ≤ v6) → (ob S v0 11 ∧ (∃ a2 : Nat, fR S v0 21 = some a2 ∧ (ob S a2 14 ∧ (∀ x4 : Int64, x4 = v2.toInt64 → (vp_in (0 : Int32) (hN S a2) ∧ (∀ S5 : HS, S5 = sJ S a2 (0 : Int32).toNatClampNeg x4 → (∃ a6 : Nat, fR S5 v0 21 = some a6 ∧ (ob S5 a6 14 ∧ (∀ x8 : Int64, x8 = v3.toInt64 → (vp_in (1 : Int32) (hN S5 a6) ∧ (∀ S9 : HS, S9 = sJ S5 a6 (1 : Int32).toNatClampNeg x8 → (∀ S10 : HS, S10 = sI S9 v0 24 (0 : Int32) → (∀ S11 : HS, S11 = sI S10 v0 25 (0 : Int32) → (∀ x12 : Int32, x12 = fI S11 v0 20 → (P_X11_good v0 x12 (fun x15 S13 => Gr S11 S13 → (Q x15 S13)) S11)))))))))))))))) ∧ ((¬ (7 : Int32) ≤ v6) → (ob S v0 11 ∧ (∃ a16 : Nat, fR S v0 21 = some a16 ∧ (ob S a16 14 ∧ (vp_in v6 (hN S a16) ∧ (∀ S18 : HS, S18 = sJ S a16 v6.toNatClampNeg (0 : Int64) → (∀ x19 : Int32, x19 = v6 + (1 : Int32) → (X147 v0 v2 v3 x19 S18))))))))) : B_X11_day_147 Q X147 v0 v2 v3 v6 S := h
theorem i_X11_day_147 {Q : Int32 → HS → Prop} (μ : Nat → Int32 → Int32 → Int32 → HS → Nat) (I : Nat → Int32 → Int32 → Int32 → HS → Prop) (hs : ∀ (v0 : Nat) (v2 : Int32) (v3 : Int32) (v6 : Int32) (S : HS) (X : Nat → Int32 → Int32 → Int32 → HS → Prop), I v0 v2 v3 v6 S → (∀ (w0 : Nat) (w2 : Int32) (w3 : Int32) (w6 : Int32) (T : HS), I w0 w2 w3 w6 T → μ w0 w2 w3 w6 T < μ v0 v2 v3 v6 S → X w0 w2 w3 w6 T) → B_X11_day_147 Q X v0 v2 v3 v6 S) : ∀ (v0 : Nat) (v2 : Int32) (v3 : Int32) (v6 : Int32) (S : HS), I v0 v2 v3 v6 S → P_X11_day_147 Q v0 v2 v3 v6 S := by
  intro v0 v2 v3 v6 S h X hX
  have key : ∀ (z : Nat) (v0 : Nat) (v2 : Int32) (v3 : Int32) (v6 : Int32) (S : HS), μ v0 v2 v3 v6 S < z → I v0 v2 v3 v6 S → X v0 v2 v3 v6 S := by
    intro z
    induction z with
    | zero => intro v0 v2 v3 v6 S hz; exact absurd hz (Nat.not_lt_zero _)
    | succ z ih => intro v0 v2 v3 v6 S hz hI; exact hX _ _ _ _ _ (hs _ _ _ _ _ _ hI (fun w0 w2 w3 w6 T hT hl => ih _ _ _ _ _ (by omega) hT))
  exact key _ _ _ _ _ _ (Nat.lt_succ_self _) h
theorem u_X11_denied {v0 : Nat} {v1 : Int32} {Q : Int32 → HS → Prop} {S : HS} (h : P_X11_denied_0 Q v0 v1 S) : P_X11_denied v0 v1 Q S := h
theorem u_X11_denied_0 {Q : Int32 → HS → Prop} {v0 : Nat} {v1 : Int32} {S : HS} (h : ob S v0 11 ∧ (P_X11_refused v0 v1 (fun x3 S1 => Gr S S1 → (Q (0 : Int32) S1)) S)) : P_X11_denied_0 Q v0 v1 S := h
theorem u_X11_driest {v0 : Nat} {v1 : Int32} {v2 : Int32} {v3 : Int32} {Q : Int32 → HS → Prop} {S : HS} (h : P_X11_driest_0 Q v0 v1 v2 v3 S) : P_X11_driest v0 v1 v2 v3 Q S := h
theorem u_X11_driest_0 {Q : Int32 → HS → Prop} {v0 : Nat} {v1 : Int32} {v2 : Int32} {v3 : Int32} {S : HS} (h : ob S v0 11 ∧ (∀ S1 : HS, S1 = sI S v0 0 (0 : Int32) → (P_X11_isWalker v0 v1 (fun x4 S2 => Gr S1 S2 → bl x4 → (((x4 = 0) → (P_X11_driest_30 Q v0 S2)) ∧ ((¬ x4 = 0) → (P_X11_isRoad v0 v2 (fun x8 S6 => Gr S2 S6 → bl x8 → (((x8 = 0) → (P_X11_driest_30 Q v0 S6)) ∧ ((¬ x8 = 0) → (P_X11_in v3 (0 : Int32) (1 : Int32) (fun x12 S10 => Gr S6 S10 → bl x12 → (((¬ x12 = 0) → (P_X11_driest_45 Q v0 v1 v2 v3 (-1 : Int32) (0 : Int64) (0 : Int32) S10)) ∧ ((x12 = 0) → (P_X11_driest_30 Q v0 S10)))) S6)))) S2)))) S1))) : P_X11_driest_0 Q v0 v1 v2 v3 S := h
theorem u_X11_driest_30 {Q : Int32 → HS → Prop} {v0 : Nat} {S : HS} (h : ob S v0 11 ∧ (P_X11_refused v0 (1 : Int32) (fun x3 S1 => Gr S S1 → (Q x3 S1)) S)) : P_X11_driest_30 Q v0 S := h
theorem u_X11_driest_45 {Q : Int32 → HS → Prop} {X45 : Nat → Int32 → Int32 → Int32 → Int32 → Int64 → Int32 → HS → Prop} {v0 : Nat} {v1 : Int32} {v2 : Int32} {v3 : Int32} {v4 : Int32} {v5 : Int64} {v7 : Int32} {S : HS} (h : ob S v0 11 ∧ (∃ a1 : Nat, fR S v0 3 = some a1 ∧ (ob S a1 10 ∧ (∀ x2 : Int32, x2 = fI S a1 1 → (((x2 ≤ v7) → (((¬ v4 = (-1 : Int32)) → (P_X11_good v0 v4 (fun x7 S5 => Gr S S5 → (Q x7 S5)) S)) ∧ ((v4 = (-1 : Int32)) → (P_X11_refused v0 (6 : Int32) (fun x10 S8 => Gr S S8 → (Q x10 S8)) S)))) ∧ ((¬ x2 ≤ v7) → (P_X11_wetAtBest v0 v1 v2 v3 v7 (fun x13 S11 => Gr S S11 → (∃ a14 : Nat, fR S11 v0 3 = some a14 ∧ (ob S11 a14 10 ∧ (∃ a15 : Nat, fR S11 a14 11 = some a15 ∧ (ob S11 a15 13 ∧ (vp_in v7 (hN S11 a15) ∧ ∀ x17 : Int32, x17 = fI S11 a15 v7.toNatClampNeg → (∀ x18 : Int64, x18 = x13 * x17.toInt64 → (((v4 = (-1 : Int32)) → (P_X11_driest_97 Q X45 v0 v1 v2 v3 v7 x18 S11)) ∧ ((¬ v4 = (-1 : Int32)) → ((((lg_cmp x18 v5) < 0) → (P_X11_driest_97 Q X45 v0 v1 v2 v3 v7 x18 S11)) ∧ ((¬ (lg_cmp x18 v5) < 0) → (P_X11_driest_105 Q X45 v0 v1 v2 v3 v4 v5 v7 S11)))))))))))) S))))))) : B_X11_driest_45 Q X45 v0 v1 v2 v3 v4 v5 v7 S := h
theorem i_X11_driest_45 {Q : Int32 → HS → Prop} (μ : Nat → Int32 → Int32 → Int32 → Int32 → Int64 → Int32 → HS → Nat) (I : Nat → Int32 → Int32 → Int32 → Int32 → Int64 → Int32 → HS → Prop) (hs : ∀ (v0 : Nat) (v1 : Int32) (v2 : Int32) (v3 : Int32) (v4 : Int32) (v5 : Int64) (v7 : Int32) (S : HS) (X : Nat → Int32 → Int32 → Int32 → Int32 → Int64 → Int32 → HS → Prop), I v0 v1 v2 v3 v4 v5 v7 S → (∀ (w0 : Nat) (w1 : Int32) (w2 : Int32) (w3 : Int32) (w4 : Int32) (w5 : Int64) (w7 : Int32) (T : HS), I w0 w1 w2 w3 w4 w5 w7 T → μ w0 w1 w2 w3 w4 w5 w7 T < μ v0 v1 v2 v3 v4 v5 v7 S → X w0 w1 w2 w3 w4 w5 w7 T) → B_X11_driest_45 Q X v0 v1 v2 v3 v4 v5 v7 S) : ∀ (v0 : Nat) (v1 : Int32) (v2 : Int32) (v3 : Int32) (v4 : Int32) (v5 : Int64) (v7 : Int32) (S : HS), I v0 v1 v2 v3 v4 v5 v7 S → P_X11_driest_45 Q v0 v1 v2 v3 v4 v5 v7 S := by
  intro v0 v1 v2 v3 v4 v5 v7 S h X hX
  have key : ∀ (z : Nat) (v0 : Nat) (v1 : Int32) (v2 : Int32) (v3 : Int32) (v4 : Int32) (v5 : Int64) (v7 : Int32) (S : HS), μ v0 v1 v2 v3 v4 v5 v7 S < z → I v0 v1 v2 v3 v4 v5 v7 S → X v0 v1 v2 v3 v4 v5 v7 S := by
    intro z
    induction z with
    | zero => intro v0 v1 v2 v3 v4 v5 v7 S hz; exact absurd hz (Nat.not_lt_zero _)
    | succ z ih => intro v0 v1 v2 v3 v4 v5 v7 S hz hI; exact hX _ _ _ _ _ _ _ _ (hs _ _ _ _ _ _ _ _ _ hI (fun w0 w1 w2 w3 w4 w5 w7 T hT hl => ih _ _ _ _ _ _ _ _ (by omega) hT))
  exact key _ _ _ _ _ _ _ _ _ (Nat.lt_succ_self _) h
theorem u_X11_driest_97 {Q : Int32 → HS → Prop} {X45 : Nat → Int32 → Int32 → Int32 → Int32 → Int64 → Int32 → HS → Prop} {v0 : Nat} {v1 : Int32} {v2 : Int32} {v3 : Int32} {v7 : Int32} {v8 : Int64} {S : HS} (h : P_X11_driest_105 Q X45 v0 v1 v2 v3 v7 v8 v7 S) : P_X11_driest_97 Q X45 v0 v1 v2 v3 v7 v8 S := h
theorem u_X11_driest_105 {Q : Int32 → HS → Prop} {X45 : Nat → Int32 → Int32 → Int32 → Int32 → Int64 → Int32 → HS → Prop} {v0 : Nat} {v1 : Int32} {v2 : Int32} {v3 : Int32} {v4 : Int32} {v5 : Int64} {v7 : Int32} {S : HS} (h : ∀ x1 : Int32, x1 = v7 + (1 : Int32) → (X45 v0 v1 v2 v3 v4 v5 x1 S)) : P_X11_driest_105 Q X45 v0 v1 v2 v3 v4 v5 v7 S := h
theorem u_X11_drips {v0 : Nat} {v1 : Int32} {v2 : Int32} {Q : Int64 → HS → Prop} {S : HS} (h : P_X11_drips_0 Q v0 v1 v2 S) : P_X11_drips v0 v1 v2 Q S := h
theorem u_X11_drips_0 {Q : Int64 → HS → Prop} {v0 : Nat} {v1 : Int32} {v2 : Int32} {S : HS} (h : ob S v0 11 ∧ (∃ a1 : Nat, fR S v0 3 = some a1 ∧ (ob S a1 10 ∧ (∃ a2 : Nat, fR S a1 12 = some a2 ∧ (ob S a2 13 ∧ (vp_in v2 (hN S a2) ∧ ∀ x4 : Int32, x4 = fI S a2 v2.toNatClampNeg → (∃ a5 : Nat, fR S v0 3 = some a5 ∧ (ob S a5 10 ∧ (∃ a6 : Nat, fR S a5 21 = some a6 ∧ (ob S a6 13 ∧ (vp_in v1 (hN S a6) ∧ ∀ x8 : Int32, x8 = fI S a6 v1.toNatClampNeg → (∃ a9 : Nat, fR S v0 3 = some a9 ∧ (ob S a9 10 ∧ (P_X10_shield a9 v1 (fun x12 S10 => Gr S S10 → (P_X11_less x8 x12 (fun x15 S13 => Gr S10 S13 → (Q ((x4.toInt64 * x15.toInt64) * (2520 : Int64)) S13)) S10)) S)))))))))))))) : P_X11_drips_0 Q v0 v1 v2 S := h
theorem u_X11_even {v0 : Nat} {v1 : Int32} {v2 : Int32} {v3 : Int32} {v4 : Int32} {Q : Int32 → HS → Prop} {S : HS} (h : P_X11_even_0 Q v0 v1 v2 v3 v4 S) : P_X11_even v0 v1 v2 v3 v4 Q S := h
theorem u_X11_even_0 {Q : Int32 → HS → Prop} {v0 : Nat} {v1 : Int32} {v2 : Int32} {v3 : Int32} {v4 : Int32} {S : HS} (h : ob S v0 11 ∧ (∀ S1 : HS, S1 = sI S v0 0 (0 : Int32) → (P_X11_isWalker v0 v1 (fun x4 S2 => Gr S1 S2 → bl x4 → (((x4 = 0) → (P_X11_even_39 Q v0 S2)) ∧ ((¬ x4 = 0) → (P_X11_isRoad v0 v2 (fun x8 S6 => Gr S2 S6 → bl x8 → (((x8 = 0) → (P_X11_even_39 Q v0 S6)) ∧ ((¬ x8 = 0) → (P_X11_in v3 (0 : Int32) (1 : Int32) (fun x12 S10 => Gr S6 S10 → bl x12 → (((x12 = 0) → (P_X11_even_39 Q v0 S10)) ∧ ((¬ x12 = 0) → (P_X11_isHour v0 v4 (fun x16 S14 => Gr S10 S14 → bl x16 → (((¬ x16 = 0) → (∃ a18 : Nat, fR S14 v0 3 = some a18 ∧ (ob S14 a18 10 ∧ (∃ a19 : Nat, fR S14 a18 24 = some a19 ∧ (ob S14 a19 13 ∧ (vp_in v1 (hN S14 a19) ∧ ∀ x21 : Int32, x21 = fI S14 a19 v1.toNatClampNeg → (P_X11_even_59 Q v0 v1 v2 v3 v4 (1 : Int32) x21 S14))))))) ∧ ((x16 = 0) → (P_X11_even_39 Q v0 S14)))) S10)))) S6)))) S2)))) S1))) : P_X11_even_0 Q v0 v1 v2 v3 v4 S := h
theorem u_X11_even_39 {Q : Int32 → HS → Prop} {v0 : Nat} {S : HS} (h : ob S v0 11 ∧ (P_X11_refused v0 (1 : Int32) (fun x3 S1 => Gr S S1 → (Q x3 S1)) S)) : P_X11_even_39 Q v0 S := h
theorem u_X11_even_59 {Q : Int32 → HS → Prop} {X59 : Nat → Int32 → Int32 → Int32 → Int32 → Int32 → Int32 → HS → Prop} {v0 : Nat} {v1 : Int32} {v2 : Int32} {v3 : Int32} {v4 : Int32} {v5 : Int32} {v6 : Int32} {S : HS} (h : ob S v0 11 ∧ (∃ a1 : Nat, fR S v0 3 = some a1 ∧ (ob S a1 10 ∧ (∃ a2 : Nat, fR S a1 25 = some a2 ∧ (ob S a2 13 ∧ (vp_in v1 (hN S a2) ∧ ∀ x4 : Int32, x4 = fI S a2 v1.toNatClampNeg → (((x4 ≤ v6) → (((v5 = 0) → (P_X11_even_130 Q v0 (0 : Int32) S)) ∧ ((¬ v5 = 0) → (P_X11_even_130 Q v0 (1 : Int32) S)))) ∧ ((¬ x4 ≤ v6) → (((v5 = 0) → (P_X11_even_110 Q X59 v0 v1 v2 v3 v4 v6 S)) ∧ ((¬ v5 = 0) → (P_X11_wetOf v0 v1 v2 v3 v4 v6 (fun x10 S8 => Gr S S8 → (P_X11_wetOf v0 v1 v2 v3 v4 (v6 + (1 : Int32)) (fun x13 S11 => Gr S8 S11 → (((¬ (lg_cmp x10 x13) = 0) → (P_X11_even_110 Q X59 v0 v1 v2 v3 v4 v6 S11)) ∧ (((lg_cmp x10 x13) = 0) → (P_X11_even_111 Q X59 v0 v1 v2 v3 v4 v6 (1 : Int32) S11)))) S8)) S))))))))))) : B_X11_even_59 Q X59 v0 v1 v2 v3 v4 v5 v6 S := h
theorem i_X11_even_59 {Q : Int32 → HS → Prop} (μ : Nat → Int32 → Int32 → Int32 → Int32 → Int32 → Int32 → HS → Nat) (I : Nat → Int32 → Int32 → Int32 → Int32 → Int32 → Int32 → HS → Prop) (hs : ∀ (v0 : Nat) (v1 : Int32) (v2 : Int32) (v3 : Int32) (v4 : Int32) (v5 : Int32) (v6 : Int32) (S : HS) (X : Nat → Int32 → Int32 → Int32 → Int32 → Int32 → Int32 → HS → Prop), I v0 v1 v2 v3 v4 v5 v6 S → (∀ (w0 : Nat) (w1 : Int32) (w2 : Int32) (w3 : Int32) (w4 : Int32) (w5 : Int32) (w6 : Int32) (T : HS), I w0 w1 w2 w3 w4 w5 w6 T → μ w0 w1 w2 w3 w4 w5 w6 T < μ v0 v1 v2 v3 v4 v5 v6 S → X w0 w1 w2 w3 w4 w5 w6 T) → B_X11_even_59 Q X v0 v1 v2 v3 v4 v5 v6 S) : ∀ (v0 : Nat) (v1 : Int32) (v2 : Int32) (v3 : Int32) (v4 : Int32) (v5 : Int32) (v6 : Int32) (S : HS), I v0 v1 v2 v3 v4 v5 v6 S → P_X11_even_59 Q v0 v1 v2 v3 v4 v5 v6 S := by
  intro v0 v1 v2 v3 v4 v5 v6 S h X hX
  have key : ∀ (z : Nat) (v0 : Nat) (v1 : Int32) (v2 : Int32) (v3 : Int32) (v4 : Int32) (v5 : Int32) (v6 : Int32) (S : HS), μ v0 v1 v2 v3 v4 v5 v6 S < z → I v0 v1 v2 v3 v4 v5 v6 S → X v0 v1 v2 v3 v4 v5 v6 S := by
    intro z
    induction z with
    | zero => intro v0 v1 v2 v3 v4 v5 v6 S hz; exact absurd hz (Nat.not_lt_zero _)
    | succ z ih => intro v0 v1 v2 v3 v4 v5 v6 S hz hI; exact hX _ _ _ _ _ _ _ _ (hs _ _ _ _ _ _ _ _ _ hI (fun w0 w1 w2 w3 w4 w5 w6 T hT hl => ih _ _ _ _ _ _ _ _ (by omega) hT))
  exact key _ _ _ _ _ _ _ _ _ (Nat.lt_succ_self _) h
theorem u_X11_even_110 {Q : Int32 → HS → Prop} {X59 : Nat → Int32 → Int32 → Int32 → Int32 → Int32 → Int32 → HS → Prop} {v0 : Nat} {v1 : Int32} {v2 : Int32} {v3 : Int32} {v4 : Int32} {v6 : Int32} {S : HS} (h : P_X11_even_111 Q X59 v0 v1 v2 v3 v4 v6 (0 : Int32) S) : P_X11_even_110 Q X59 v0 v1 v2 v3 v4 v6 S := h
theorem u_X11_even_111 {Q : Int32 → HS → Prop} {X59 : Nat → Int32 → Int32 → Int32 → Int32 → Int32 → Int32 → HS → Prop} {v0 : Nat} {v1 : Int32} {v2 : Int32} {v3 : Int32} {v4 : Int32} {v6 : Int32} {s0 : Int32} {S : HS} (h : ∀ x1 : Int32, x1 = v6 + (1 : Int32) → (X59 v0 v1 v2 v3 v4 s0 x1 S)) : P_X11_even_111 Q X59 v0 v1 v2 v3 v4 v6 s0 S := h
theorem u_X11_even_130 {Q : Int32 → HS → Prop} {s0 : Nat} {s1 : Int32} {S : HS} (h : ob S s0 11 ∧ (P_X11_good s0 s1 (fun x3 S1 => Gr S S1 → (Q x3 S1)) S)) : P_X11_even_130 Q s0 s1 S := h
theorem u_X11_face {v0 : Nat} {v1 : Int32} {v2 : Int32} {v3 : Int32} {v4 : Int32} {v5 : Int32} {v6 : Int32} {v7 : Int32} {Q : Int64 → HS → Prop} {S : HS} (h : P_X11_face_0 Q v0 v1 v2 v3 v4 v5 v6 v7 S) : P_X11_face v0 v1 v2 v3 v4 v5 v6 v7 Q S := h
theorem u_X11_face_0 {Q : Int64 → HS → Prop} {v0 : Nat} {v1 : Int32} {v2 : Int32} {v3 : Int32} {v4 : Int32} {v5 : Int32} {v6 : Int32} {v7 : Int32} {S : HS} (h : ob S v0 11 ∧ (∀ S1 : HS, S1 = sI S v0 0 (0 : Int32) → (P_X11_in v6 (0 : Int32) (4 : Int32) (fun x4 S2 => Gr S1 S2 → bl x4 → (((x4 = 0) → (P_X11_face_30 Q v0 v1 v2 v3 v4 v5 v6 v7 (1 : Int32) S2)) ∧ ((¬ x4 = 0) → (P_X11_refuses v0 v1 v2 v3 v4 v5 (fun x8 S6 => Gr S2 S6 → (P_X11_face_30 Q v0 v1 v2 v3 v4 v5 v6 v7 x8 S6)) S2)))) S1))) : P_X11_face_0 Q v0 v1 v2 v3 v4 v5 v6 v7 S := h
theorem u_X11_face_30 {Q : Int64 → HS → Prop} {v0 : Nat} {v1 : Int32} {v2 : Int32} {v3 : Int32} {v4 : Int32} {v5 : Int32} {v6 : Int32} {v7 : Int32} {s0 : Int32} {S : HS} (h : ((s0 ≤ 0) → (ob S v0 11 ∧ (P_X11_partsOf v0 v1 v2 v3 v4 v5 v6 (fun x4 S2 => Gr S S2 → (P_X11_told v0 x4 (2520 : Int64) v7 (fun x7 S5 => Gr S2 S5 → (Q x7 S5)) S2)) S))) ∧ ((¬ s0 ≤ 0) → (ob S v0 11 ∧ (P_X11_refused v0 s0 (fun x10 S8 => Gr S S8 → (Q x10.toInt64 S8)) S)))) : P_X11_face_30 Q v0 v1 v2 v3 v4 v5 v6 v7 s0 S := h
theorem u_X11_fault {v0 : Nat} {Q : Int32 → HS → Prop} {S : HS} (h : P_X11_fault_0 Q v0 S) : P_X11_fault v0 Q S := h
theorem u_X11_fault_0 {Q : Int32 → HS → Prop} {v0 : Nat} {S : HS} (h : ob S v0 11 ∧ (∀ S1 : HS, S1 = sI S v0 0 (0 : Int32) → (∀ x2 : Int32, x2 = fI S1 v0 13 → (Q x2 S1)))) : P_X11_fault_0 Q v0 S := h
theorem u_X11_feed {v0 : Nat} {v1 : Int32} {v2 : Int32} {v3 : Int32} {v4 : Int32} {v5 : Int32} {Q : Int32 → HS → Prop} {S : HS} (h : P_X11_feed_0 Q v0 v1 v2 v3 v4 v5 S) : P_X11_feed v0 v1 v2 v3 v4 v5 Q S := h
theorem u_X11_feed_0 {Q : Int32 → HS → Prop} {v0 : Nat} {v1 : Int32} {v2 : Int32} {v3 : Int32} {v4 : Int32} {v5 : Int32} {S : HS} (h : ob S v0 11 ∧ (∀ S1 : HS, S1 = sI S v0 0 (0 : Int32) → (∀ x2 : Int32, x2 = fI S1 v0 6 → ((((x2 + (20 : Int32)) ≤ (900 : Int32)) → (P_X11_feed_23 Q v0 v1 v2 v3 v4 v5 (0 : Int32) S1)) ∧ ((¬ (x2 + (20 : Int32)) ≤ (900 : Int32)) → (Q (-1 : Int32) S1)))))) : P_X11_feed_0 Q v0 v1 v2 v3 v4 v5 S := h
theorem u_X11_feed_23 {Q : Int32 → HS → Prop} {X23 : Nat → Int32 → Int32 → Int32 → Int32 → Int32 → Int32 → HS → Prop} {v0 : Nat} {v1 : Int32} {v2 : Int32} {v3 : Int32} {v4 : Int32} {v5 : Int32} {v6 : Int32} {S : HS} (h : (((20 : Int32) ≤ v6) → (ob S v0 11 ∧ (∀ x2 : Int32, x2 = fI S v0 6 → (Q x2 S)))) ∧ ((¬ (20 : Int32) ≤ v6) → ((((4 : Int32) ≤ v6) → ((((8 : Int32) ≤ v6) → ((((12 : Int32) ≤ v6) → ((((16 : Int32) ≤ v6) → (P_X11_feed_76 Q X23 v0 v1 v2 v3 v4 v5 v6 v5 S)) ∧ ((¬ (16 : Int32) ≤ v6) → (P_X11_feed_76 Q X23 v0 v1 v2 v3 v4 v5 v6 v4 S)))) ∧ ((¬ (12 : Int32) ≤ v6) → (P_X11_feed_76 Q X23 v0 v1 v2 v3 v4 v5 v6 v3 S)))) ∧ ((¬ (8 : Int32) ≤ v6) → (P_X11_feed_76 Q X23 v0 v1 v2 v3 v4 v5 v6 v2 S)))) ∧ ((¬ (4 : Int32) ≤ v6) → (P_X11_feed_76 Q X23 v0 v1 v2 v3 v4 v5 v6 v1 S))))) : B_X11_feed_23 Q X23 v0 v1 v2 v3 v4 v5 v6 S := h
theorem i_X11_feed_23 {Q : Int32 → HS → Prop} (μ : Nat → Int32 → Int32 → Int32 → Int32 → Int32 → Int32 → HS → Nat) (I : Nat → Int32 → Int32 → Int32 → Int32 → Int32 → Int32 → HS → Prop) (hs : ∀ (v0 : Nat) (v1 : Int32) (v2 : Int32) (v3 : Int32) (v4 : Int32) (v5 : Int32) (v6 : Int32) (S : HS) (X : Nat → Int32 → Int32 → Int32 → Int32 → Int32 → Int32 → HS → Prop), I v0 v1 v2 v3 v4 v5 v6 S → (∀ (w0 : Nat) (w1 : Int32) (w2 : Int32) (w3 : Int32) (w4 : Int32) (w5 : Int32) (w6 : Int32) (T : HS), I w0 w1 w2 w3 w4 w5 w6 T → μ w0 w1 w2 w3 w4 w5 w6 T < μ v0 v1 v2 v3 v4 v5 v6 S → X w0 w1 w2 w3 w4 w5 w6 T) → B_X11_feed_23 Q X v0 v1 v2 v3 v4 v5 v6 S) : ∀ (v0 : Nat) (v1 : Int32) (v2 : Int32) (v3 : Int32) (v4 : Int32) (v5 : Int32) (v6 : Int32) (S : HS), I v0 v1 v2 v3 v4 v5 v6 S → P_X11_feed_23 Q v0 v1 v2 v3 v4 v5 v6 S := by
  intro v0 v1 v2 v3 v4 v5 v6 S h X hX
  have key : ∀ (z : Nat) (v0 : Nat) (v1 : Int32) (v2 : Int32) (v3 : Int32) (v4 : Int32) (v5 : Int32) (v6 : Int32) (S : HS), μ v0 v1 v2 v3 v4 v5 v6 S < z → I v0 v1 v2 v3 v4 v5 v6 S → X v0 v1 v2 v3 v4 v5 v6 S := by
    intro z
    induction z with
    | zero => intro v0 v1 v2 v3 v4 v5 v6 S hz; exact absurd hz (Nat.not_lt_zero _)
    | succ z ih => intro v0 v1 v2 v3 v4 v5 v6 S hz hI; exact hX _ _ _ _ _ _ _ _ (hs _ _ _ _ _ _ _ _ _ hI (fun w0 w1 w2 w3 w4 w5 w6 T hT hl => ih _ _ _ _ _ _ _ _ (by omega) hT))
  exact key _ _ _ _ _ _ _ _ _ (Nat.lt_succ_self _) h
theorem u_X11_feed_76 {Q : Int32 → HS → Prop} {X23 : Nat → Int32 → Int32 → Int32 → Int32 → Int32 → Int32 → HS → Prop} {v0 : Nat} {v1 : Int32} {v2 : Int32} {v3 : Int32} {v4 : Int32} {v5 : Int32} {v6 : Int32} {s0 : Int32} {S : HS} (h : ob S v0 11 ∧ (∃ a1 : Nat, fR S v0 5 = some a1 ∧ (∀ x2 : Int32, x2 = fI S v0 6 → (∀ x3 : Int32, x3 = v6 - v6 / (4 : Int32) * (4 : Int32) → (ob S a1 12 ∧ (∀ x5 : Int32, x5 = (s0 >>> (((24 : Int32) - ((8 : Int32) * x3)) &&& 31)).toInt8.toInt32 → (vp_in x2 (hN S a1) ∧ (∀ S6 : HS, S6 = sI S a1 x2.toNatClampNeg (vp_nar .byte x5) → (∀ x7 : Int32, x7 = fI S6 v0 6 → (∀ x8 : Int32, x8 = x7 + (1 : Int32) → (∀ S9 : HS, S9 = sI S6 v0 6 x8 → (∀ x10 : Int32, x10 = v6 + (1 : Int32) → (X23 v0 v1 v2 v3 v4 v5 x10 S9))))))))))))) : P_X11_feed_76 Q X23 v0 v1 v2 v3 v4 v5 v6 s0 S := h
theorem u_X11_first {v0 : Nat} {v1 : Int32} {v2 : Int32} {v3 : Int32} {v4 : Int32} {v5 : Int32} {v6 : Int32} {Q : Int32 → HS → Prop} {S : HS} (h : P_X11_first_0 Q v0 v1 v2 v3 v4 v5 v6 S) : P_X11_first v0 v1 v2 v3 v4 v5 v6 Q S := h
theorem u_X11_first_0 {Q : Int32 → HS → Prop} {v0 : Nat} {v1 : Int32} {v2 : Int32} {v3 : Int32} {v4 : Int32} {v5 : Int32} {v6 : Int32} {S : HS} (h : ob S v0 11 ∧ (∀ S1 : HS, S1 = sI S v0 0 (0 : Int32) → (P_X11_refusesTwo v0 v1 v2 v3 v4 v5 v6 (fun x4 S2 => Gr S1 S2 → (((x4 ≤ 0) → (P_X11_together v0 v1 v2 v3 v4 v5 v6 (fun x8 S6 => Gr S2 S6 → (P_X11_together v0 v2 v1 v3 v4 v5 v6 (fun x11 S9 => Gr S6 S9 → (((0 ≤ (lg_cmp x8 x11)) → (((0 ≤ (lg_cmp x11 x8)) → (P_X11_first_89 Q v0 (-2 : Int32) S9)) ∧ ((¬ 0 ≤ (lg_cmp x11 x8)) → (P_X11_first_89 Q v0 (1 : Int32) S9)))) ∧ ((¬ 0 ≤ (lg_cmp x8 x11)) → (P_X11_first_89 Q v0 (0 : Int32) S9)))) S6)) S2)) ∧ ((¬ x4 ≤ 0) → (P_X11_refused v0 x4 (fun x16 S14 => Gr S2 S14 → (Q x16 S14)) S2)))) S1))) : P_X11_first_0 Q v0 v1 v2 v3 v4 v5 v6 S := h
theorem u_X11_first_89 {Q : Int32 → HS → Prop} {s0 : Nat} {s1 : Int32} {S : HS} (h : ob S s0 11 ∧ (P_X11_good s0 s1 (fun x3 S1 => Gr S S1 → (Q x3 S1)) S)) : P_X11_first_89 Q s0 s1 S := h
theorem u_X11_fit {v0 : Nat} {v1 : Int32} {v2 : Int32} {Q : Int32 → HS → Prop} {S : HS} (h : P_X11_fit_0 Q v0 v1 v2 S) : P_X11_fit v0 v1 v2 Q S := h
theorem u_X11_fit_0 {Q : Int32 → HS → Prop} {v0 : Nat} {v1 : Int32} {v2 : Int32} {S : HS} (h : ob S v0 11 ∧ (∀ S1 : HS, S1 = sI S v0 0 (0 : Int32) → (P_X11_isSeen v0 v1 (fun x4 S2 => Gr S1 S2 → bl x4 → (((x4 = 0) → (P_X11_fit_26 Q v0 S2)) ∧ ((¬ x4 = 0) → (((v2 < 0) → (P_X11_fit_26 Q v0 S2)) ∧ ((¬ v2 < 0) → (P_X11_fitOf v0 v1 v2 (fun x9 S7 => Gr S2 S7 → (P_X11_fit_27 Q v0 x9 S7)) S2)))))) S1))) : P_X11_fit_0 Q v0 v1 v2 S := h
theorem u_X11_fit_26 {Q : Int32 → HS → Prop} {v0 : Nat} {S : HS} (h : P_X11_fit_27 Q v0 (-1 : Int32) S) : P_X11_fit_26 Q v0 S := h
theorem u_X11_fit_27 {Q : Int32 → HS → Prop} {v0 : Nat} {s0 : Int32} {S : HS} (h : ((¬ s0 = (-1 : Int32)) → (ob S v0 11 ∧ (P_X11_good v0 s0 (fun x4 S2 => Gr S S2 → (Q x4 S2)) S))) ∧ ((s0 = (-1 : Int32)) → (ob S v0 11 ∧ (P_X11_refused v0 (1 : Int32) (fun x7 S5 => Gr S S5 → (Q x7 S5)) S)))) : P_X11_fit_27 Q v0 s0 S := h
theorem u_X11_fitOf {v0 : Nat} {v1 : Int32} {v2 : Int32} {Q : Int32 → HS → Prop} {S : HS} (h : P_X11_fitOf_0 Q v0 v1 v2 S) : P_X11_fitOf v0 v1 v2 Q S := h
theorem u_X11_fitOf_0 {Q : Int32 → HS → Prop} {v0 : Nat} {v1 : Int32} {v2 : Int32} {S : HS} (h : ob S v0 11 ∧ (∃ a1 : Nat, fR S v0 3 = some a1 ∧ (ob S a1 10 ∧ (∃ a2 : Nat, fR S a1 26 = some a2 ∧ (ob S a2 13 ∧ (vp_in v1 (hN S a2) ∧ ∀ x4 : Int32, x4 = fI S a2 v1.toNatClampNeg → (P_X11_fitOf_16 Q v0 v1 v2 x4 (0 : Int32) (0 : Int32) S))))))) : P_X11_fitOf_0 Q v0 v1 v2 S := h
theorem u_X11_fitOf_16 {Q : Int32 → HS → Prop} {X16 : Nat → Int32 → Int32 → Int32 → Int32 → Int32 → HS → Prop} {v0 : Nat} {v1 : Int32} {v2 : Int32} {v3 : Int32} {v4 : Int32} {v5 : Int32} {S : HS} (h : ob S v0 11 ∧ (∃ a1 : Nat, fR S v0 3 = some a1 ∧ (ob S a1 10 ∧ (∀ x2 : Int32, x2 = fI S a1 3 → (((x2 ≤ v5) → (((0 ≤ v2) → (Q (-1 : Int32) S)) ∧ ((¬ 0 ≤ v2) → (Q v4 S)))) ∧ ((¬ x2 ≤ v5) → (P_X11_fitOf_31 Q X16 v0 v1 v2 v3 v4 v5 (0 : Int32) S))))))) : B_X11_fitOf_16 Q X16 v0 v1 v2 v3 v4 v5 S := h
theorem i_X11_fitOf_16 {Q : Int32 → HS → Prop} (μ : Nat → Int32 → Int32 → Int32 → Int32 → Int32 → HS → Nat) (I : Nat → Int32 → Int32 → Int32 → Int32 → Int32 → HS → Prop) (hs : ∀ (v0 : Nat) (v1 : Int32) (v2 : Int32) (v3 : Int32) (v4 : Int32) (v5 : Int32) (S : HS) (X : Nat → Int32 → Int32 → Int32 → Int32 → Int32 → HS → Prop), I v0 v1 v2 v3 v4 v5 S → (∀ (w0 : Nat) (w1 : Int32) (w2 : Int32) (w3 : Int32) (w4 : Int32) (w5 : Int32) (T : HS), I w0 w1 w2 w3 w4 w5 T → μ w0 w1 w2 w3 w4 w5 T < μ v0 v1 v2 v3 v4 v5 S → X w0 w1 w2 w3 w4 w5 T) → B_X11_fitOf_16 Q X v0 v1 v2 v3 v4 v5 S) : ∀ (v0 : Nat) (v1 : Int32) (v2 : Int32) (v3 : Int32) (v4 : Int32) (v5 : Int32) (S : HS), I v0 v1 v2 v3 v4 v5 S → P_X11_fitOf_16 Q v0 v1 v2 v3 v4 v5 S := by
  intro v0 v1 v2 v3 v4 v5 S h X hX
  have key : ∀ (z : Nat) (v0 : Nat) (v1 : Int32) (v2 : Int32) (v3 : Int32) (v4 : Int32) (v5 : Int32) (S : HS), μ v0 v1 v2 v3 v4 v5 S < z → I v0 v1 v2 v3 v4 v5 S → X v0 v1 v2 v3 v4 v5 S := by
    intro z
    induction z with
    | zero => intro v0 v1 v2 v3 v4 v5 S hz; exact absurd hz (Nat.not_lt_zero _)
    | succ z ih => intro v0 v1 v2 v3 v4 v5 S hz hI; exact hX _ _ _ _ _ _ _ (hs _ _ _ _ _ _ _ _ hI (fun w0 w1 w2 w3 w4 w5 T hT hl => ih _ _ _ _ _ _ _ (by omega) hT))
  exact key _ _ _ _ _ _ _ _ (Nat.lt_succ_self _) h
theorem u_X11_fitOf_31 {Q : Int32 → HS → Prop} {X16 : Nat → Int32 → Int32 → Int32 → Int32 → Int32 → HS → Prop} {X31 : Nat → Int32 → Int32 → Int32 → Int32 → Int32 → Int32 → HS → Prop} {v0 : Nat} {v1 : Int32} {v2 : Int32} {v3 : Int32} {v4 : Int32} {v5 : Int32} {v6 : Int32} {S : HS} (h : (((2 : Int32) ≤ v6) → (∀ x2 : Int32, x2 = v5 + (1 : Int32) → (X16 v0 v1 v2 v3 v4 x2 S))) ∧ ((¬ (2 : Int32) ≤ v6) → (P_X11_fitOf_40 Q X16 X31 v0 v1 v2 v3 v4 v5 v6 (0 : Int32) S))) : B_X11_fitOf_31 Q X16 X31 v0 v1 v2 v3 v4 v5 v6 S := h
theorem i_X11_fitOf_31 {Q : Int32 → HS → Prop} {X16 : Nat → Int32 → Int32 → Int32 → Int32 → Int32 → HS → Prop} (μ : Nat → Int32 → Int32 → Int32 → Int32 → Int32 → Int32 → HS → Nat) (I : Nat → Int32 → Int32 → Int32 → Int32 → Int32 → Int32 → HS → Prop) (hs : ∀ (v0 : Nat) (v1 : Int32) (v2 : Int32) (v3 : Int32) (v4 : Int32) (v5 : Int32) (v6 : Int32) (S : HS) (X : Nat → Int32 → Int32 → Int32 → Int32 → Int32 → Int32 → HS → Prop), I v0 v1 v2 v3 v4 v5 v6 S → (∀ (w0 : Nat) (w1 : Int32) (w2 : Int32) (w3 : Int32) (w4 : Int32) (w5 : Int32) (w6 : Int32) (T : HS), I w0 w1 w2 w3 w4 w5 w6 T → μ w0 w1 w2 w3 w4 w5 w6 T < μ v0 v1 v2 v3 v4 v5 v6 S → X w0 w1 w2 w3 w4 w5 w6 T) → B_X11_fitOf_31 Q X16 X v0 v1 v2 v3 v4 v5 v6 S) : ∀ (v0 : Nat) (v1 : Int32) (v2 : Int32) (v3 : Int32) (v4 : Int32) (v5 : Int32) (v6 : Int32) (S : HS), I v0 v1 v2 v3 v4 v5 v6 S → P_X11_fitOf_31 Q X16 v0 v1 v2 v3 v4 v5 v6 S := by
  intro v0 v1 v2 v3 v4 v5 v6 S h X hX
  have key : ∀ (z : Nat) (v0 : Nat) (v1 : Int32) (v2 : Int32) (v3 : Int32) (v4 : Int32) (v5 : Int32) (v6 : Int32) (S : HS), μ v0 v1 v2 v3 v4 v5 v6 S < z → I v0 v1 v2 v3 v4 v5 v6 S → X v0 v1 v2 v3 v4 v5 v6 S := by
    intro z
    induction z with
    | zero => intro v0 v1 v2 v3 v4 v5 v6 S hz; exact absurd hz (Nat.not_lt_zero _)
    | succ z ih => intro v0 v1 v2 v3 v4 v5 v6 S hz hI; exact hX _ _ _ _ _ _ _ _ (hs _ _ _ _ _ _ _ _ _ hI (fun w0 w1 w2 w3 w4 w5 w6 T hT hl => ih _ _ _ _ _ _ _ _ (by omega) hT))
  exact key _ _ _ _ _ _ _ _ _ (Nat.lt_succ_self _) h
theorem u_X11_fitOf_40 {Q : Int32 → HS → Prop} {X16 : Nat → Int32 → Int32 → Int32 → Int32 → Int32 → HS → Prop} {X31 : Nat → Int32 → Int32 → Int32 → Int32 → Int32 → Int32 → HS → Prop} {X40 : Nat → Int32 → Int32 → Int32 → Int32 → Int32 → Int32 → Int32 → HS → Prop} {v0 : Nat} {v1 : Int32} {v2 : Int32} {v3 : Int32} {v4 : Int32} {v5 : Int32} {v6 : Int32} {v7 : Int32} {S : HS} (h : ob S v0 11 ∧ (∃ a1 : Nat, fR S v0 3 = some a1 ∧ (ob S a1 10 ∧ (∀ x2 : Int32, x2 = fI S a1 1 → (((x2 ≤ v7) → (∀ x4 : Int32, x4 = v6 + (1 : Int32) → (X31 v0 v1 v2 v3 v4 v5 x4 S))) ∧ ((¬ x2 ≤ v7) → (∃ a5 : Nat, fR S v0 3 = some a5 ∧ (ob S a5 10 ∧ (∃ a6 : Nat, fR S a5 24 = some a6 ∧ (ob S a6 13 ∧ (vp_in v3 (hN S a6) ∧ ∀ x8 : Int32, x8 = fI S a6 v3.toNatClampNeg → (P_X11_fitOf_63 Q X16 X31 X40 v0 v1 v2 v3 v4 v5 v6 v7 x8 S)))))))))))) : B_X11_fitOf_40 Q X16 X31 X40 v0 v1 v2 v3 v4 v5 v6 v7 S := h
theorem i_X11_fitOf_40 {Q : Int32 → HS → Prop} {X16 : Nat → Int32 → Int32 → Int32 → Int32 → Int32 → HS → Prop} {X31 : Nat → Int32 → Int32 → Int32 → Int32 → Int32 → Int32 → HS → Prop} (μ : Nat → Int32 → Int32 → Int32 → Int32 → Int32 → Int32 → Int32 → HS → Nat) (I : Nat → Int32 → Int32 → Int32 → Int32 → Int32 → Int32 → Int32 → HS → Prop) (hs : ∀ (v0 : Nat) (v1 : Int32) (v2 : Int32) (v3 : Int32) (v4 : Int32) (v5 : Int32) (v6 : Int32) (v7 : Int32) (S : HS) (X : Nat → Int32 → Int32 → Int32 → Int32 → Int32 → Int32 → Int32 → HS → Prop), I v0 v1 v2 v3 v4 v5 v6 v7 S → (∀ (w0 : Nat) (w1 : Int32) (w2 : Int32) (w3 : Int32) (w4 : Int32) (w5 : Int32) (w6 : Int32) (w7 : Int32) (T : HS), I w0 w1 w2 w3 w4 w5 w6 w7 T → μ w0 w1 w2 w3 w4 w5 w6 w7 T < μ v0 v1 v2 v3 v4 v5 v6 v7 S → X w0 w1 w2 w3 w4 w5 w6 w7 T) → B_X11_fitOf_40 Q X16 X31 X v0 v1 v2 v3 v4 v5 v6 v7 S) : ∀ (v0 : Nat) (v1 : Int32) (v2 : Int32) (v3 : Int32) (v4 : Int32) (v5 : Int32) (v6 : Int32) (v7 : Int32) (S : HS), I v0 v1 v2 v3 v4 v5 v6 v7 S → P_X11_fitOf_40 Q X16 X31 v0 v1 v2 v3 v4 v5 v6 v7 S := by
  intro v0 v1 v2 v3 v4 v5 v6 v7 S h X hX
  have key : ∀ (z : Nat) (v0 : Nat) (v1 : Int32) (v2 : Int32) (v3 : Int32) (v4 : Int32) (v5 : Int32) (v6 : Int32) (v7 : Int32) (S : HS), μ v0 v1 v2 v3 v4 v5 v6 v7 S < z → I v0 v1 v2 v3 v4 v5 v6 v7 S → X v0 v1 v2 v3 v4 v5 v6 v7 S := by
    intro z
    induction z with
    | zero => intro v0 v1 v2 v3 v4 v5 v6 v7 S hz; exact absurd hz (Nat.not_lt_zero _)
    | succ z ih => intro v0 v1 v2 v3 v4 v5 v6 v7 S hz hI; exact hX _ _ _ _ _ _ _ _ _ (hs _ _ _ _ _ _ _ _ _ _ hI (fun w0 w1 w2 w3 w4 w5 w6 w7 T hT hl => ih _ _ _ _ _ _ _ _ _ (by omega) hT))
  exact key _ _ _ _ _ _ _ _ _ _ (Nat.lt_succ_self _) h
theorem u_X11_fitOf_63 {Q : Int32 → HS → Prop} {X16 : Nat → Int32 → Int32 → Int32 → Int32 → Int32 → HS → Prop} {X31 : Nat → Int32 → Int32 → Int32 → Int32 → Int32 → Int32 → HS → Prop} {X40 : Nat → Int32 → Int32 → Int32 → Int32 → Int32 → Int32 → Int32 → HS → Prop} {X63 : Nat → Int32 → Int32 → Int32 → Int32 → Int32 → Int32 → Int32 → Int32 → HS → Prop} {v0 : Nat} {v1 : Int32} {v2 : Int32} {v3 : Int32} {v4 : Int32} {v5 : Int32} {v6 : Int32} {v7 : Int32} {v8 : Int32} {S : HS} (h : ob S v0 11 ∧ (∃ a1 : Nat, fR S v0 3 = some a1 ∧ (ob S a1 10 ∧ (∃ a2 : Nat, fR S a1 25 = some a2 ∧ (ob S a2 13 ∧ (vp_in v3 (hN S a2) ∧ ∀ x4 : Int32, x4 = fI S a2 v3.toNatClampNeg → (((x4 < v8) → (∀ x6 : Int32, x6 = v7 + (1 : Int32) → (X40 v0 v1 v2 v3 v4 v5 v6 x6 S))) ∧ ((¬ x4 < v8) → (P_X11_fitOf_83 Q X16 X31 X40 X63 v0 v1 v2 v3 v4 v5 v6 v7 v8 (1 : Int32) (0 : Int32) S))))))))) : B_X11_fitOf_63 Q X16 X31 X40 X63 v0 v1 v2 v3 v4 v5 v6 v7 v8 S := h
theorem i_X11_fitOf_63 {Q : Int32 → HS → Prop} {X16 : Nat → Int32 → Int32 → Int32 → Int32 → Int32 → HS → Prop} {X31 : Nat → Int32 → Int32 → Int32 → Int32 → Int32 → Int32 → HS → Prop} {X40 : Nat → Int32 → Int32 → Int32 → Int32 → Int32 → Int32 → Int32 → HS → Prop} (μ : Nat → Int32 → Int32 → Int32 → Int32 → Int32 → Int32 → Int32 → Int32 → HS → Nat) (I : Nat → Int32 → Int32 → Int32 → Int32 → Int32 → Int32 → Int32 → Int32 → HS → Prop) (hs : ∀ (v0 : Nat) (v1 : Int32) (v2 : Int32) (v3 : Int32) (v4 : Int32) (v5 : Int32) (v6 : Int32) (v7 : Int32) (v8 : Int32) (S : HS) (X : Nat → Int32 → Int32 → Int32 → Int32 → Int32 → Int32 → Int32 → Int32 → HS → Prop), I v0 v1 v2 v3 v4 v5 v6 v7 v8 S → (∀ (w0 : Nat) (w1 : Int32) (w2 : Int32) (w3 : Int32) (w4 : Int32) (w5 : Int32) (w6 : Int32) (w7 : Int32) (w8 : Int32) (T : HS), I w0 w1 w2 w3 w4 w5 w6 w7 w8 T → μ w0 w1 w2 w3 w4 w5 w6 w7 w8 T < μ v0 v1 v2 v3 v4 v5 v6 v7 v8 S → X w0 w1 w2 w3 w4 w5 w6 w7 w8 T) → B_X11_fitOf_63 Q X16 X31 X40 X v0 v1 v2 v3 v4 v5 v6 v7 v8 S) : ∀ (v0 : Nat) (v1 : Int32) (v2 : Int32) (v3 : Int32) (v4 : Int32) (v5 : Int32) (v6 : Int32) (v7 : Int32) (v8 : Int32) (S : HS), I v0 v1 v2 v3 v4 v5 v6 v7 v8 S → P_X11_fitOf_63 Q X16 X31 X40 v0 v1 v2 v3 v4 v5 v6 v7 v8 S := by
  intro v0 v1 v2 v3 v4 v5 v6 v7 v8 S h X hX
  have key : ∀ (z : Nat) (v0 : Nat) (v1 : Int32) (v2 : Int32) (v3 : Int32) (v4 : Int32) (v5 : Int32) (v6 : Int32) (v7 : Int32) (v8 : Int32) (S : HS), μ v0 v1 v2 v3 v4 v5 v6 v7 v8 S < z → I v0 v1 v2 v3 v4 v5 v6 v7 v8 S → X v0 v1 v2 v3 v4 v5 v6 v7 v8 S := by
    intro z
    induction z with
    | zero => intro v0 v1 v2 v3 v4 v5 v6 v7 v8 S hz; exact absurd hz (Nat.not_lt_zero _)
    | succ z ih => intro v0 v1 v2 v3 v4 v5 v6 v7 v8 S hz hI; exact hX _ _ _ _ _ _ _ _ _ _ (hs _ _ _ _ _ _ _ _ _ _ _ hI (fun w0 w1 w2 w3 w4 w5 w6 w7 w8 T hT hl => ih _ _ _ _ _ _ _ _ _ _ (by omega) hT))
  exact key _ _ _ _ _ _ _ _ _ _ _ (Nat.lt_succ_self _) h
theorem u_X11_fitOf_83 {Q : Int32 → HS → Prop} {X16 : Nat → Int32 → Int32 → Int32 → Int32 → Int32 → HS → Prop} {X31 : Nat → Int32 → Int32 → Int32 → Int32 → Int32 → Int32 → HS → Prop} {X40 : Nat → Int32 → Int32 → Int32 → Int32 → Int32 → Int32 → Int32 → HS → Prop} {X63 : Nat → Int32 → Int32 → Int32 → Int32 → Int32 → Int32 → Int32 → Int32 → HS → Prop} {X83 : Nat → Int32 → Int32 → Int32 → Int32 → Int32 → Int32 → Int32 → Int32 → Int32 → Int32 → HS → Prop} {v0 : Nat} {v1 : Int32} {v2 : Int32} {v3 : Int32} {v4 : Int32} {v5 : Int32} {v6 : Int32} {v7 : Int32} {v8 : Int32} {v9 : Int32} {v10 : Int32} {S : HS} (h : (((5 : Int32) ≤ v10) → (((¬ v9 = 0) → (((¬ v4 = v2) → (∀ x4 : Int32, x4 = v4 + (1 : Int32) → (P_X11_fitOf_184 Q X16 X31 X40 X63 v0 v1 v2 v3 x4 v5 v6 v7 v8 S))) ∧ ((v4 = v2) → (Q (((((1000 : Int32) * v5) + ((100 : Int32) * v6)) + ((10 : Int32) * v7)) + v8) S)))) ∧ ((v9 = 0) → (P_X11_fitOf_184 Q X16 X31 X40 X63 v0 v1 v2 v3 v4 v5 v6 v7 v8 S)))) ∧ ((¬ (5 : Int32) ≤ v10) → (((v9 = 0) → (P_X11_fitOf_136 Q X16 X31 X40 X63 X83 v0 v1 v2 v3 v4 v5 v6 v7 v8 v10 S)) ∧ ((¬ v9 = 0) → (ob S v0 11 ∧ (P_X11_partsOf v0 v3 v5 v6 v7 v8 v10 (fun x8 S6 => Gr S S6 → (∃ a9 : Nat, fR S6 v0 3 = some a9 ∧ (ob S6 a9 10 ∧ (∃ a10 : Nat, fR S6 a9 27 = some a10 ∧ (ob S6 a10 13 ∧ (∀ x12 : Int32, x12 = ((5 : Int32) * v1) + v10 → (vp_in x12 (hN S6 a10) ∧ ∀ x13 : Int32, x13 = fI S6 a10 x12.toNatClampNeg → (((¬ (lg_cmp x8 ((2520 : Int64) * x13.toInt64)) = 0) → (P_X11_fitOf_136 Q X16 X31 X40 X63 X83 v0 v1 v2 v3 v4 v5 v6 v7 v8 v10 S6)) ∧ (((lg_cmp x8 ((2520 : Int64) * x13.toInt64)) = 0) → (P_X11_fitOf_137 Q X16 X31 X40 X63 X83 v0 v1 v2 v3 v4 v5 v6 v7 v8 v10 (1 : Int32) S6)))))))))) S)))))) : B_X11_fitOf_83 Q X16 X31 X40 X63 X83 v0 v1 v2 v3 v4 v5 v6 v7 v8 v9 v10 S := h
theorem i_X11_fitOf_83 {Q : Int32 → HS → Prop} {X16 : Nat → Int32 → Int32 → Int32 → Int32 → Int32 → HS → Prop} {X31 : Nat → Int32 → Int32 → Int32 → Int32 → Int32 → Int32 → HS → Prop} {X40 : Nat → Int32 → Int32 → Int32 → Int32 → Int32 → Int32 → Int32 → HS → Prop} {X63 : Nat → Int32 → Int32 → Int32 → Int32 → Int32 → Int32 → Int32 → Int32 → HS → Prop} (μ : Nat → Int32 → Int32 → Int32 → Int32 → Int32 → Int32 → Int32 → Int32 → Int32 → Int32 → HS → Nat) (I : Nat → Int32 → Int32 → Int32 → Int32 → Int32 → Int32 → Int32 → Int32 → Int32 → Int32 → HS → Prop) (hs : ∀ (v0 : Nat) (v1 : Int32) (v2 : Int32) (v3 : Int32) (v4 : Int32) (v5 : Int32) (v6 : Int32) (v7 : Int32) (v8 : Int32) (v9 : Int32) (v10 : Int32) (S : HS) (X : Nat → Int32 → Int32 → Int32 → Int32 → Int32 → Int32 → Int32 → Int32 → Int32 → Int32 → HS → Prop), I v0 v1 v2 v3 v4 v5 v6 v7 v8 v9 v10 S → (∀ (w0 : Nat) (w1 : Int32) (w2 : Int32) (w3 : Int32) (w4 : Int32) (w5 : Int32) (w6 : Int32) (w7 : Int32) (w8 : Int32) (w9 : Int32) (w10 : Int32) (T : HS), I w0 w1 w2 w3 w4 w5 w6 w7 w8 w9 w10 T → μ w0 w1 w2 w3 w4 w5 w6 w7 w8 w9 w10 T < μ v0 v1 v2 v3 v4 v5 v6 v7 v8 v9 v10 S → X w0 w1 w2 w3 w4 w5 w6 w7 w8 w9 w10 T) → B_X11_fitOf_83 Q X16 X31 X40 X63 X v0 v1 v2 v3 v4 v5 v6 v7 v8 v9 v10 S) : ∀ (v0 : Nat) (v1 : Int32) (v2 : Int32) (v3 : Int32) (v4 : Int32) (v5 : Int32) (v6 : Int32) (v7 : Int32) (v8 : Int32) (v9 : Int32) (v10 : Int32) (S : HS), I v0 v1 v2 v3 v4 v5 v6 v7 v8 v9 v10 S → P_X11_fitOf_83 Q X16 X31 X40 X63 v0 v1 v2 v3 v4 v5 v6 v7 v8 v9 v10 S := by
  intro v0 v1 v2 v3 v4 v5 v6 v7 v8 v9 v10 S h X hX
  have key : ∀ (z : Nat) (v0 : Nat) (v1 : Int32) (v2 : Int32) (v3 : Int32) (v4 : Int32) (v5 : Int32) (v6 : Int32) (v7 : Int32) (v8 : Int32) (v9 : Int32) (v10 : Int32) (S : HS), μ v0 v1 v2 v3 v4 v5 v6 v7 v8 v9 v10 S < z → I v0 v1 v2 v3 v4 v5 v6 v7 v8 v9 v10 S → X v0 v1 v2 v3 v4 v5 v6 v7 v8 v9 v10 S := by
    intro z
    induction z with
    | zero => intro v0 v1 v2 v3 v4 v5 v6 v7 v8 v9 v10 S hz; exact absurd hz (Nat.not_lt_zero _)
    | succ z ih => intro v0 v1 v2 v3 v4 v5 v6 v7 v8 v9 v10 S hz hI; exact hX _ _ _ _ _ _ _ _ _ _ _ _ (hs _ _ _ _ _ _ _ _ _ _ _ _ _ hI (fun w0 w1 w2 w3 w4 w5 w6 w7 w8 w9 w10 T hT hl => ih _ _ _ _ _ _ _ _ _ _ _ _ (by omega) hT))
  exact key _ _ _ _ _ _ _ _ _ _ _ _ _ (Nat.lt_succ_self _) h
theorem u_X11_fitOf_136 {Q : Int32 → HS → Prop} {X16 : Nat → Int32 → Int32 → Int32 → Int32 → Int32 → HS → Prop} {X31 : Nat → Int32 → Int32 → Int32 → Int32 → Int32 → Int32 → HS → Prop} {X40 : Nat → Int32 → Int32 → Int32 → Int32 → Int32 → Int32 → Int32 → HS → Prop} {X63 : Nat → Int32 → Int32 → Int32 → Int32 → Int32 → Int32 → Int32 → Int32 → HS → Prop} {X83 : Nat → Int32 → Int32 → Int32 → Int32 → Int32 → Int32 → Int32 → Int32 → Int32 → Int32 → HS → Prop} {v0 : Nat} {v1 : Int32} {v2 : Int32} {v3 : Int32} {v4 : Int32} {v5 : Int32} {v6 : Int32} {v7 : Int32} {v8 : Int32} {v10 : Int32} {S : HS} (h : P_X11_fitOf_137 Q X16 X31 X40 X63 X83 v0 v1 v2 v3 v4 v5 v6 v7 v8 v10 (0 : Int32) S) : P_X11_fitOf_136 Q X16 X31 X40 X63 X83 v0 v1 v2 v3 v4 v5 v6 v7 v8 v10 S := h
theorem u_X11_fitOf_137 {Q : Int32 → HS → Prop} {X16 : Nat → Int32 → Int32 → Int32 → Int32 → Int32 → HS → Prop} {X31 : Nat → Int32 → Int32 → Int32 → Int32 → Int32 → Int32 → HS → Prop} {X40 : Nat → Int32 → Int32 → Int32 → Int32 → Int32 → Int32 → Int32 → HS → Prop} {X63 : Nat → Int32 → Int32 → Int32 → Int32 → Int32 → Int32 → Int32 → Int32 → HS → Prop} {X83 : Nat → Int32 → Int32 → Int32 → Int32 → Int32 → Int32 → Int32 → Int32 → Int32 → Int32 → HS → Prop} {v0 : Nat} {v1 : Int32} {v2 : Int32} {v3 : Int32} {v4 : Int32} {v5 : Int32} {v6 : Int32} {v7 : Int32} {v8 : Int32} {v10 : Int32} {s0 : Int32} {S : HS} (h : ∀ x1 : Int32, x1 = v10 + (1 : Int32) → (X83 v0 v1 v2 v3 v4 v5 v6 v7 v8 s0 x1 S)) : P_X11_fitOf_137 Q X16 X31 X40 X63 X83 v0 v1 v2 v3 v4 v5 v6 v7 v8 v10 s0 S := h
theorem u_X11_fitOf_184 {Q : Int32 → HS → Prop} {X16 : Nat → Int32 → Int32 → Int32 → Int32 → Int32 → HS → Prop} {X31 : Nat → Int32 → Int32 → Int32 → Int32 → Int32 → Int32 → HS → Prop} {X40 : Nat → Int32 → Int32 → Int32 → Int32 → Int32 → Int32 → Int32 → HS → Prop} {X63 : Nat → Int32 → Int32 → Int32 → Int32 → Int32 → Int32 → Int32 → Int32 → HS → Prop} {v0 : Nat} {v1 : Int32} {v2 : Int32} {v3 : Int32} {v4 : Int32} {v5 : Int32} {v6 : Int32} {v7 : Int32} {v8 : Int32} {S : HS} (h : ∀ x1 : Int32, x1 = v8 + (1 : Int32) → (X63 v0 v1 v2 v3 v4 v5 v6 v7 x1 S)) : P_X11_fitOf_184 Q X16 X31 X40 X63 v0 v1 v2 v3 v4 v5 v6 v7 v8 S := h
theorem u_X11_fits {v0 : Nat} {v1 : Int32} {Q : Int32 → HS → Prop} {S : HS} (h : P_X11_fits_0 Q v0 v1 S) : P_X11_fits v0 v1 Q S := h
theorem u_X11_fits_0 {Q : Int32 → HS → Prop} {v0 : Nat} {v1 : Int32} {S : HS} (h : ob S v0 11 ∧ (∀ S1 : HS, S1 = sI S v0 0 (0 : Int32) → (P_X11_isSeen v0 v1 (fun x4 S2 => Gr S1 S2 → bl x4 → (((x4 = 0) → (P_X11_refused v0 (1 : Int32) (fun x8 S6 => Gr S2 S6 → (Q x8 S6)) S2)) ∧ ((¬ x4 = 0) → (P_X11_fitOf v0 v1 (-1 : Int32) (fun x11 S9 => Gr S2 S9 → (P_X11_good v0 x11 (fun x14 S12 => Gr S9 S12 → (Q x14 S12)) S9)) S2)))) S1))) : P_X11_fits_0 Q v0 v1 S := h
theorem u_X11_go {v0 : Nat} {v1 : Int32} {v2 : Int32} {v3 : Int32} {Q : Int32 → HS → Prop} {S : HS} (h : P_X11_go_0 Q v0 v1 v2 v3 S) : P_X11_go v0 v1 v2 v3 Q S := h
theorem u_X11_go_0 {Q : Int32 → HS → Prop} {v0 : Nat} {v1 : Int32} {v2 : Int32} {v3 : Int32} {S : HS} (h : ob S v0 11 ∧ (∀ S1 : HS, S1 = sI S v0 0 (0 : Int32) → (P_X11_isDay v0 (fun x4 S2 => Gr S1 S2 → bl x4 → (((x4 = 0) → (P_X11_go_29 Q v0 S2)) ∧ ((¬ x4 = 0) → (P_X11_isRoad v0 v1 (fun x8 S6 => Gr S2 S6 → bl x8 → (((x8 = 0) → (P_X11_go_29 Q v0 S6)) ∧ ((¬ x8 = 0) → (P_X11_in v2 (0 : Int32) (1 : Int32) (fun x12 S10 => Gr S6 S10 → bl x12 → (((¬ x12 = 0) → (∀ x14 : Int32, x14 = fI S10 v0 19 → (P_X11_isSpeed v0 x14 v3 (fun x17 S15 => Gr S10 S15 → bl x17 → (((¬ x17 = 0) → (∃ a19 : Nat, fR S15 v0 3 = some a19 ∧ (ob S15 a19 10 ∧ (P_X10_begins a19 v1 v2 (fun x22 S20 => Gr S15 S20 → (∃ a23 : Nat, fR S20 v0 21 = some a23 ∧ (ob S20 a23 14 ∧ (vp_in (0 : Int32) (hN S20 a23) ∧ ∀ x25 : Int64, x25 = fJ S20 a23 (0 : Int32).toNatClampNeg → ((((lg_cmp x22.toInt64 x25) = 0) → (∃ a27 : Nat, fR S20 v0 21 = some a27 ∧ (ob S20 a27 14 ∧ (vp_in (1 : Int32) (hN S20 a27) ∧ ∀ x29 : Int64, x29 = fJ S20 a27 (1 : Int32).toNatClampNeg → (∀ x30 : Int32, x30 = x29.toInt32 → (∃ a31 : Nat, fR S20 v0 3 = some a31 ∧ (ob S20 a31 10 ∧ (P_X10_minutes a31 v1 v3 (fun x34 S32 => Gr S20 S32 → ((((x30 + x34) ≤ (999 : Int32)) → (P_X11_keeps v0 (fun S36 => Gr S32 S36 → (P_X11_go_119 Q v0 v1 v2 v3 x30 (0 : Int32) S36)) S32)) ∧ ((¬ (x30 + x34) ≤ (999 : Int32)) → (P_X11_refused v0 (3 : Int32) (fun x41 S39 => Gr S32 S39 → (Q x41 S39)) S32)))) S20)))))))) ∧ ((¬ (lg_cmp x22.toInt64 x25) = 0) → (P_X11_refused v0 (5 : Int32) (fun x44 S42 => Gr S20 S42 → (Q x44 S42)) S20))))))) S15)))) ∧ ((x17 = 0) → (P_X11_refused v0 (2 : Int32) (fun x47 S45 => Gr S15 S45 → (Q x47 S45)) S15)))) S10))) ∧ ((x12 = 0) → (P_X11_go_29 Q v0 S10)))) S6)))) S2)))) S1))) : P_X11_go_0 Q v0 v1 v2 v3 S := h
theorem u_X11_go_29 {Q : Int32 → HS → Prop} {v0 : Nat} {S : HS} (h : ob S v0 11 ∧ (P_X11_refused v0 (1 : Int32) (fun x3 S1 => Gr S S1 → (Q x3 S1)) S)) : P_X11_go_29 Q v0 S := h
theorem u_X11_go_119 {Q : Int32 → HS → Prop} {X119 : Nat → Int32 → Int32 → Int32 → Int32 → Int32 → HS → Prop} {v0 : Nat} {v1 : Int32} {v2 : Int32} {v3 : Int32} {v4 : Int32} {v5 : Int32} {S : HS} (h : (((5 : Int32) ≤ v5) → (P_X11_go_171 Q v0 v1 v2 v3 v4 S)) ∧ ((¬ (5 : Int32) ≤ v5) → (ob S v0 11 ∧ (P_X11_rainsIn v0 v4 (fun x4 S2 => Gr S S2 → bl x4 → (((x4 = 0) → (P_X11_go_171 Q v0 v1 v2 v3 v4 S2)) ∧ ((¬ x4 = 0) → (∃ a6 : Nat, fR S2 v0 21 = some a6 ∧ (ob S2 a6 14 ∧ (∀ x8 : Int32, x8 = (2 : Int32) + v5 → (vp_in x8 (hN S2 a6) ∧ ∀ x9 : Int64, x9 = fJ S2 a6 x8.toNatClampNeg → (∀ x10 : Int32, x10 = fI S2 v0 19 → (P_X11_hourOf v0 v4 (fun x13 S11 => Gr S2 S11 → (P_X11_partsOf v0 x10 v1 v2 x13 v3 v5 (fun x16 S14 => Gr S11 S14 → (∀ x18 : Int64, x18 = x9 + x16 → (vp_in ((2 : Int32) + v5) (hN S14 a6) ∧ (∀ S19 : HS, S19 = sJ S14 a6 ((2 : Int32) + v5).toNatClampNeg x18 → (∀ x20 : Int32, x20 = v5 + (1 : Int32) → (X119 v0 v1 v2 v3 v4 x20 S19)))))) S11)) S2))))))))) S)))) : B_X11_go_119 Q X119 v0 v1 v2 v3 v4 v5 S := h
theorem i_X11_go_119 {Q : Int32 → HS → Prop} (μ : Nat → Int32 → Int32 → Int32 → Int32 → Int32 → HS → Nat) (I : Nat → Int32 → Int32 → Int32 → Int32 → Int32 → HS → Prop) (hs : ∀ (v0 : Nat) (v1 : Int32) (v2 : Int32) (v3 : Int32) (v4 : Int32) (v5 : Int32) (S : HS) (X : Nat → Int32 → Int32 → Int32 → Int32 → Int32 → HS → Prop), I v0 v1 v2 v3 v4 v5 S → (∀ (w0 : Nat) (w1 : Int32) (w2 : Int32) (w3 : Int32) (w4 : Int32) (w5 : Int32) (T : HS), I w0 w1 w2 w3 w4 w5 T → μ w0 w1 w2 w3 w4 w5 T < μ v0 v1 v2 v3 v4 v5 S → X w0 w1 w2 w3 w4 w5 T) → B_X11_go_119 Q X v0 v1 v2 v3 v4 v5 S) : ∀ (v0 : Nat) (v1 : Int32) (v2 : Int32) (v3 : Int32) (v4 : Int32) (v5 : Int32) (S : HS), I v0 v1 v2 v3 v4 v5 S → P_X11_go_119 Q v0 v1 v2 v3 v4 v5 S := by
  intro v0 v1 v2 v3 v4 v5 S h X hX
  have key : ∀ (z : Nat) (v0 : Nat) (v1 : Int32) (v2 : Int32) (v3 : Int32) (v4 : Int32) (v5 : Int32) (S : HS), μ v0 v1 v2 v3 v4 v5 S < z → I v0 v1 v2 v3 v4 v5 S → X v0 v1 v2 v3 v4 v5 S := by
    intro z
    induction z with
    | zero => intro v0 v1 v2 v3 v4 v5 S hz; exact absurd hz (Nat.not_lt_zero _)
    | succ z ih => intro v0 v1 v2 v3 v4 v5 S hz hI; exact hX _ _ _ _ _ _ _ (hs _ _ _ _ _ _ _ _ hI (fun w0 w1 w2 w3 w4 w5 T hT hl => ih _ _ _ _ _ _ _ (by omega) hT))
  exact key _ _ _ _ _ _ _ _ (Nat.lt_succ_self _) h
theorem u_X11_go_171 {Q : Int32 → HS → Prop} {v0 : Nat} {v1 : Int32} {v2 : Int32} {v3 : Int32} {v4 : Int32} {S : HS} (h : ob S v0 11 ∧ (∃ a1 : Nat, fR S v0 21 = some a1 ∧ (∃ a2 : Nat, fR S v0 3 = some a2 ∧ (ob S a2 10 ∧ (P_X10_ends a2 v1 v2 (fun x5 S3 => Gr S S3 → (ob S3 a1 14 ∧ (∀ x7 : Int64, x7 = x5.toInt64 → (vp_in (0 : Int32) (hN S3 a1) ∧ (∀ S8 : HS, S8 = sJ S3 a1 (0 : Int32).toNatClampNeg x7 → (∃ a9 : Nat, fR S8 v0 21 = some a9 ∧ (∃ a10 : Nat, fR S8 v0 3 = some a10 ∧ (ob S8 a10 10 ∧ (P_X10_minutes a10 v1 v3 (fun x13 S11 => Gr S8 S11 → (ob S11 a9 14 ∧ (∀ x15 : Int64, x15 = (v4 + x13).toInt64 → (vp_in (1 : Int32) (hN S11 a9) ∧ (∀ S16 : HS, S16 = sJ S11 a9 (1 : Int32).toNatClampNeg x15 → (∃ a17 : Nat, fR S16 v0 21 = some a17 ∧ (ob S16 a17 14 ∧ (vp_in (1 : Int32) (hN S16 a17) ∧ ∀ x19 : Int64, x19 = fJ S16 a17 (1 : Int32).toNatClampNeg → (P_X11_good v0 x19.toInt32 (fun x22 S20 => Gr S16 S20 → (Q x22 S20)) S16))))))))) S8))))))))) S))))) : P_X11_go_171 Q v0 v1 v2 v3 v4 S := h
theorem u_X11_good {v0 : Nat} {v1 : Int32} {Q : Int32 → HS → Prop} {S : HS} (h : P_X11_good_0 Q v0 v1 S) : P_X11_good v0 v1 Q S := h
theorem u_X11_good_0 {Q : Int32 → HS → Prop} {v0 : Nat} {v1 : Int32} {S : HS} (h : ob S v0 11 ∧ (∀ S1 : HS, S1 = sI S v0 1 (0 : Int32) → (∀ S2 : HS, S2 = sI S1 v0 2 (-1 : Int32) → (Q v1 S2)))) : P_X11_good_0 Q v0 v1 S := h
theorem u_X11_got {v0 : Nat} {v1 : Int32} {v2 : Int32} {Q : Int64 → HS → Prop} {S : HS} (h : P_X11_got_0 Q v0 v1 v2 S) : P_X11_got v0 v1 v2 Q S := h
theorem u_X11_got_0 {Q : Int64 → HS → Prop} {v0 : Nat} {v1 : Int32} {v2 : Int32} {S : HS} (h : ob S v0 11 ∧ (∀ S1 : HS, S1 = sI S v0 0 (0 : Int32) → (P_X11_isDay v0 (fun x4 S2 => Gr S1 S2 → bl x4 → (((x4 = 0) → (P_X11_got_40 Q v0 S2)) ∧ ((¬ x4 = 0) → (P_X11_in v1 (0 : Int32) (4 : Int32) (fun x8 S6 => Gr S2 S6 → bl x8 → (((x8 = 0) → (P_X11_got_40 Q v0 S6)) ∧ ((¬ x8 = 0) → (∃ a10 : Nat, fR S6 v0 21 = some a10 ∧ (ob S6 a10 14 ∧ (∀ x12 : Int32, x12 = (2 : Int32) + v1 → (vp_in x12 (hN S6 a10) ∧ ∀ x13 : Int64, x13 = fJ S6 a10 x12.toNatClampNeg → (P_X11_told v0 x13 (2520 : Int64) v2 (fun x16 S14 => Gr S6 S14 → (Q x16 S14)) S6)))))))) S2)))) S1))) : P_X11_got_0 Q v0 v1 v2 S := h
theorem u_X11_got_40 {Q : Int64 → HS → Prop} {v0 : Nat} {S : HS} (h : ob S v0 11 ∧ (P_X11_refused v0 (1 : Int32) (fun x3 S1 => Gr S S1 → (Q x3.toInt64 S1)) S)) : P_X11_got_40 Q v0 S := h
theorem u_X11_gotInAll {v0 : Nat} {Q : Int64 → HS → Prop} {S : HS} (h : P_X11_gotInAll_0 Q v0 S) : P_X11_gotInAll v0 Q S := h
theorem u_X11_gotInAll_0 {Q : Int64 → HS → Prop} {v0 : Nat} {S : HS} (h : P_X11_gotInAll_4 Q v0 (0 : Int64) (0 : Int32) S) : P_X11_gotInAll_0 Q v0 S := h
theorem u_X11_gotInAll_4 {Q : Int64 → HS → Prop} {X4 : Nat → Int64 → Int32 → HS → Prop} {v0 : Nat} {v1 : Int64} {v3 : Int32} {S : HS} (h : (((5 : Int32) ≤ v3) → (Q v1 S)) ∧ ((¬ (5 : Int32) ≤ v3) → (ob S v0 11 ∧ (∃ a2 : Nat, fR S v0 21 = some a2 ∧ (ob S a2 14 ∧ (∀ x4 : Int32, x4 = (2 : Int32) + v3 → (vp_in x4 (hN S a2) ∧ ∀ x5 : Int64, x5 = fJ S a2 x4.toNatClampNeg → (∀ x6 : Int64, x6 = v1 + x5 → (∀ x7 : Int32, x7 = v3 + (1 : Int32) → (X4 v0 x6 x7 S)))))))))) : B_X11_gotInAll_4 Q X4 v0 v1 v3 S := h
theorem i_X11_gotInAll_4 {Q : Int64 → HS → Prop} (μ : Nat → Int64 → Int32 → HS → Nat) (I : Nat → Int64 → Int32 → HS → Prop) (hs : ∀ (v0 : Nat) (v1 : Int64) (v3 : Int32) (S : HS) (X : Nat → Int64 → Int32 → HS → Prop), I v0 v1 v3 S → (∀ (w0 : Nat) (w1 : Int64) (w3 : Int32) (T : HS), I w0 w1 w3 T → μ w0 w1 w3 T < μ v0 v1 v3 S → X w0 w1 w3 T) → B_X11_gotInAll_4 Q X v0 v1 v3 S) : ∀ (v0 : Nat) (v1 : Int64) (v3 : Int32) (S : HS), I v0 v1 v3 S → P_X11_gotInAll_4 Q v0 v1 v3 S := by
  intro v0 v1 v3 S h X hX
  have key : ∀ (z : Nat) (v0 : Nat) (v1 : Int64) (v3 : Int32) (S : HS), μ v0 v1 v3 S < z → I v0 v1 v3 S → X v0 v1 v3 S := by
    intro z
    induction z with
    | zero => intro v0 v1 v3 S hz; exact absurd hz (Nat.not_lt_zero _)
    | succ z ih => intro v0 v1 v3 S hz hI; exact hX _ _ _ _ (hs _ _ _ _ _ hI (fun w0 w1 w3 T hT hl => ih _ _ _ _ (by omega) hT))
  exact key _ _ _ _ _ (Nat.lt_succ_self _) h
theorem u_X11_granted {v0 : Nat} {Q : Int32 → HS → Prop} {S : HS} (h : P_X11_granted_0 Q v0 S) : P_X11_granted v0 Q S := h
theorem u_X11_granted_0 {Q : Int32 → HS → Prop} {v0 : Nat} {S : HS} (h : ob S v0 11 ∧ (P_X11_good v0 (0 : Int32) (fun x3 S1 => Gr S S1 → (Q (1 : Int32) S1)) S)) : P_X11_granted_0 Q v0 S := h
theorem u_X11_held {v0 : Nat} {v1 : Int32} {v2 : Int32} {v3 : Int32} {v4 : Int32} {v5 : Int32} {Q : Int32 → HS → Prop} {S : HS} (h : P_X11_held_0 Q v0 v1 v2 v3 v4 v5 S) : P_X11_held v0 v1 v2 v3 v4 v5 Q S := h
theorem u_X11_held_0 {Q : Int32 → HS → Prop} {v0 : Nat} {v1 : Int32} {v2 : Int32} {v3 : Int32} {v4 : Int32} {v5 : Int32} {S : HS} (h : ob S v0 11 ∧ (∀ S1 : HS, S1 = sI S v0 0 (0 : Int32) → (P_X11_refuses v0 v1 v2 v3 v4 v5 (fun x4 S2 => Gr S1 S2 → (((x4 ≤ 0) → (∃ a6 : Nat, fR S2 v0 3 = some a6 ∧ (ob S2 a6 10 ∧ (∃ a7 : Nat, fR S2 a6 19 = some a7 ∧ (ob S2 a7 13 ∧ (vp_in v1 (hN S2 a7) ∧ ∀ x9 : Int32, x9 = fI S2 a7 v1.toNatClampNeg → (((x9 = (3 : Int32)) → (P_X11_isForward v0 v1 v2 v3 v4 v5 (fun x13 S11 => Gr S2 S11 → bl x13 → (((x13 = 0) → (P_X11_held_68 Q v0 (0 : Int32) S11)) ∧ ((¬ x13 = 0) → (P_X11_held_68 Q v0 (1 : Int32) S11)))) S2)) ∧ ((¬ x9 = (3 : Int32)) → (P_X11_held_68 Q v0 (-2 : Int32) S2))))))))) ∧ ((¬ x4 ≤ 0) → (P_X11_refused v0 x4 (fun x17 S15 => Gr S2 S15 → (Q x17 S15)) S2)))) S1))) : P_X11_held_0 Q v0 v1 v2 v3 v4 v5 S := h
theorem u_X11_held_68 {Q : Int32 → HS → Prop} {s0 : Nat} {s1 : Int32} {S : HS} (h : ob S s0 11 ∧ (P_X11_good s0 s1 (fun x3 S1 => Gr S S1 → (Q x3 S1)) S)) : P_X11_held_68 Q s0 s1 S := h
theorem u_X11_holds {v0 : Nat} {Q : Int64 → HS → Prop} {S : HS} (h : P_X11_holds_0 Q v0 S) : P_X11_holds v0 Q S := h
theorem u_X11_holds_0 {Q : Int64 → HS → Prop} {v0 : Nat} {S : HS} (h : ob S v0 11 ∧ (∃ a1 : Nat, fR S v0 3 = some a1 ∧ (ob S a1 10 ∧ (∃ a2 : Nat, fR S a1 19 = some a2 ∧ (∀ x3 : Int32, x3 = fI S v0 19 → (ob S a2 13 ∧ (vp_in x3 (hN S a2) ∧ ∀ x5 : Int32, x5 = fI S a2 x3.toNatClampNeg → (((¬ x5 = (2 : Int32)) → (Q (0 : Int64) S)) ∧ ((x5 = (2 : Int32)) → (∃ a7 : Nat, fR S v0 3 = some a7 ∧ (ob S a7 10 ∧ (∃ a8 : Nat, fR S a7 20 = some a8 ∧ (∀ x9 : Int32, x9 = fI S v0 19 → (ob S a8 13 ∧ (vp_in x9 (hN S a8) ∧ ∀ x11 : Int32, x11 = fI S a8 x9.toNatClampNeg → (Q ((2520 : Int64) * x11.toInt64) S)))))))))))))))) : P_X11_holds_0 Q v0 S := h
theorem u_X11_hourOf {v0 : Nat} {v1 : Int32} {Q : Int32 → HS → Prop} {S : HS} (h : P_X11_hourOf_0 Q v0 v1 S) : P_X11_hourOf v0 v1 Q S := h
theorem u_X11_hourOf_0 {Q : Int32 → HS → Prop} {v0 : Nat} {v1 : Int32} {S : HS} (h : ob S v0 11 ∧ (∃ a1 : Nat, fR S v0 3 = some a1 ∧ (ob S a1 10 ∧ (∀ x2 : Int32, x2 = fI S a1 0 → (¬ x2 = 0 ∧ ∀ x4 : Int32, x4 = v1 / x2 → (Q x4 S)))))) : P_X11_hourOf_0 Q v0 v1 S := h
theorem u_X11_in {v0 : Int32} {v1 : Int32} {v2 : Int32} {Q : Int32 → HS → Prop} {S : HS} (h : P_X11_in_0 Q v0 v1 v2 S) : P_X11_in v0 v1 v2 Q S := h
theorem u_X11_in_0 {Q : Int32 → HS → Prop} {v0 : Int32} {v1 : Int32} {v2 : Int32} {S : HS} (h : ((v0 < v1) → (Q (0 : Int32) S)) ∧ ((¬ v0 < v1) → (((v2 < v0) → (Q (0 : Int32) S)) ∧ ((¬ v2 < v0) → (Q (1 : Int32) S))))) : P_X11_in_0 Q v0 v1 v2 S := h
theorem u_X11_inTime {v0 : Nat} {v1 : Int32} {v2 : Int32} {v3 : Int32} {v4 : Int32} {v5 : Int32} {v6 : Int32} {v7 : Int32} {v8 : Int32} {Q : Int32 → HS → Prop} {S : HS} (h : P_X11_inTime_0 Q v0 v1 v2 v3 v4 v5 v6 v7 v8 S) : P_X11_inTime v0 v1 v2 v3 v4 v5 v6 v7 v8 Q S := h
theorem u_X11_inTime_0 {Q : Int32 → HS → Prop} {v0 : Nat} {v1 : Int32} {v2 : Int32} {v3 : Int32} {v4 : Int32} {v5 : Int32} {v6 : Int32} {v7 : Int32} {v8 : Int32} {S : HS} (h : ob S v0 11 ∧ (∃ a1 : Nat, fR S v0 3 = some a1 ∧ (ob S a1 10 ∧ (∃ a2 : Nat, fR S a1 7 = some a2 ∧ (ob S a2 13 ∧ (vp_in v4 (hN S a2) ∧ ∀ x4 : Int32, x4 = fI S a2 v4.toNatClampNeg → (∃ a5 : Nat, fR S v0 3 = some a5 ∧ (ob S a5 10 ∧ (P_X10_air a5 v2 v3 v4 (fun x8 S6 => Gr S S6 → (∀ x9 : Int32, x9 = v5 - x8 → (∃ a10 : Nat, fR S6 v0 3 = some a10 ∧ (ob S6 a10 10 ∧ (P_X10_across a10 v2 v3 v4 (fun x13 S11 => Gr S6 S11 → (P_X11_isForward v0 v1 v2 v3 v4 v5 (fun x16 S14 => Gr S11 S14 → bl x16 → (∃ a17 : Nat, fR S14 v0 3 = some a17 ∧ (ob S14 a17 10 ∧ (P_X10_shield a17 v1 (fun x20 S18 => Gr S14 S18 → ((v6.toInt < 0 ∨ 3 < v6.toInt → (((0 ≤ x13) → (Q (0 : Int32) S18)) ∧ ((¬ 0 ≤ x13) → (∃ a23 : Nat, fR S18 v0 3 = some a23 ∧ (ob S18 a23 10 ∧ (∃ a24 : Nat, fR S18 a23 23 = some a24 ∧ (ob S18 a24 13 ∧ (vp_in v1 (hN S18 a24) ∧ ∀ x26 : Int32, x26 = fI S18 a24 v1.toNatClampNeg → (Q ((x4 * (-x13)) * x26) S18))))))))) ∧ (v6.toInt = 0 → (∃ a27 : Nat, fR S18 v0 3 = some a27 ∧ (ob S18 a27 10 ∧ (∃ a28 : Nat, fR S18 a27 8 = some a28 ∧ (ob S18 a28 13 ∧ (vp_in v4 (hN S18 a28) ∧ ∀ x30 : Int32, x30 = fI S18 a28 v4.toNatClampNeg → (∃ a31 : Nat, fR S18 v0 3 = some a31 ∧ (ob S18 a31 10 ∧ (∃ a32 : Nat, fR S18 a31 21 = some a32 ∧ (ob S18 a32 13 ∧ (vp_in v1 (hN S18 a32) ∧ ∀ x34 : Int32, x34 = fI S18 a32 v1.toNatClampNeg → (((x16 = 0) → (P_X11_inTime_129 Q (x4 * x30) x34 x20 S18)) ∧ ((¬ x16 = 0) → (P_X11_inTime_129 Q (x4 * x30) x34 (0 : Int32) S18)))))))))))))) ∧ (v6.toInt = 1 → (((x9 ≤ 0) → (Q (0 : Int32) S18)) ∧ ((¬ x9 ≤ 0) → (∃ a37 : Nat, fR S18 v0 3 = some a37 ∧ (ob S18 a37 10 ∧ (∃ a38 : Nat, fR S18 a37 22 = some a38 ∧ (ob S18 a38 13 ∧ (vp_in v1 (hN S18 a38) ∧ ∀ x40 : Int32, x40 = fI S18 a38 v1.toNatClampNeg → (((x16 = 0) → (P_X11_inTime_164 Q v7 (x4 * x9) x40 (0 : Int32) S18)) ∧ ((¬ x16 = 0) → (P_X11_inTime_164 Q v7 (x4 * x9) x40 x20 S18))))))))))) ∧ (v6.toInt = 2 → (((0 ≤ x9) → (Q (0 : Int32) S18)) ∧ ((¬ 0 ≤ x9) → (∃ a43 : Nat, fR S18 v0 3 = some a43 ∧ (ob S18 a43 10 ∧ (∃ a44 : Nat, fR S18 a43 22 = some a44 ∧ (ob S18 a44 13 ∧ (vp_in v1 (hN S18 a44) ∧ ∀ x46 : Int32, x46 = fI S18 a44 v1.toNatClampNeg → (P_X11_less x46 v8 (fun x49 S47 => Gr S18 S47 → (Q ((x4 * (-x9)) * x49) S47)) S18))))))))) ∧ (v6.toInt = 3 → (((x13 ≤ 0) → (Q (0 : Int32) S18)) ∧ ((¬ x13 ≤ 0) → (∃ a51 : Nat, fR S18 v0 3 = some a51 ∧ (ob S18 a51 10 ∧ (∃ a52 : Nat, fR S18 a51 23 = some a52 ∧ (ob S18 a52 13 ∧ (vp_in v1 (hN S18 a52) ∧ ∀ x54 : Int32, x54 = fI S18 a52 v1.toNatClampNeg → (Q ((x4 * x13) * x54) S18))))))))))) S14)))) S11)) S6))))) S))))))))) : P_X11_inTime_0 Q v0 v1 v2 v3 v4 v5 v6 v7 v8 S := h
theorem u_X11_inTime_129 {Q : Int32 → HS → Prop} {s0 : Int32} {s1 : Int32} {s2 : Int32} {S : HS} (h : P_X11_less s1 s2 (fun x3 S1 => Gr S S1 → (Q (s0 * x3) S1)) S) : P_X11_inTime_129 Q s0 s1 s2 S := h
theorem u_X11_inTime_164 {Q : Int32 → HS → Prop} {v7 : Int32} {s0 : Int32} {s1 : Int32} {s2 : Int32} {S : HS} (h : P_X11_less s1 s2 (fun x3 S1 => Gr S S1 → (P_X11_less x3 v7 (fun x6 S4 => Gr S1 S4 → (Q (s0 * x6) S4)) S1)) S) : P_X11_inTime_164 Q v7 s0 s1 s2 S := h
theorem u_X11_isDay {v0 : Nat} {Q : Int32 → HS → Prop} {S : HS} (h : P_X11_isDay_0 Q v0 S) : P_X11_isDay v0 Q S := h
theorem u_X11_isDay_0 {Q : Int32 → HS → Prop} {v0 : Nat} {S : HS} (h : ob S v0 11 ∧ ((fR S v0 3 = none → (Q (0 : Int32) S)) ∧ (∀ a1 : Nat, fR S v0 3 = some a1 → (∀ x3 : Int32, x3 = fI S v0 19 → (((x3 = (-2 : Int32)) → (Q (0 : Int32) S)) ∧ ((¬ x3 = (-2 : Int32)) → (Q (1 : Int32) S))))))) : P_X11_isDay_0 Q v0 S := h
theorem u_X11_isForward {v0 : Nat} {v1 : Int32} {v2 : Int32} {v3 : Int32} {v4 : Int32} {v5 : Int32} {Q : Int32 → HS → Prop} {S : HS} (h : P_X11_isForward_0 Q v0 v1 v2 v3 v4 v5 S) : P_X11_isForward v0 v1 v2 v3 v4 v5 Q S := h
theorem u_X11_isForward_0 {Q : Int32 → HS → Prop} {v0 : Nat} {v1 : Int32} {v2 : Int32} {v3 : Int32} {v4 : Int32} {v5 : Int32} {S : HS} (h : ob S v0 11 ∧ (∃ a1 : Nat, fR S v0 3 = some a1 ∧ (ob S a1 10 ∧ (P_X10_shield a1 v1 (fun x4 S2 => Gr S S2 → (∃ a5 : Nat, fR S2 v0 3 = some a5 ∧ (ob S2 a5 10 ∧ (P_X10_air a5 v2 v3 v4 (fun x8 S6 => Gr S2 S6 → (∀ x9 : Int32, x9 = v5 - x8 → (∃ a10 : Nat, fR S6 v0 3 = some a10 ∧ (ob S6 a10 10 ∧ (∃ a11 : Nat, fR S6 a10 22 = some a11 ∧ (ob S6 a11 13 ∧ (vp_in v1 (hN S6 a11) ∧ ∀ x13 : Int32, x13 = fI S6 a11 v1.toNatClampNeg → (((x13 ≤ x4) → (∃ a15 : Nat, fR S6 v0 3 = some a15 ∧ (ob S6 a15 10 ∧ (∃ a16 : Nat, fR S6 a15 22 = some a16 ∧ (ob S6 a16 13 ∧ (vp_in v1 (hN S6 a16) ∧ ∀ x18 : Int32, x18 = fI S6 a16 v1.toNatClampNeg → (P_X11_isForward_54 Q v0 v1 v2 v4 x4 x9 x18 S6))))))) ∧ ((¬ x13 ≤ x4) → (P_X11_isForward_54 Q v0 v1 v2 v4 x4 x9 x4 S6)))))))))) S2)))) S)))) : P_X11_isForward_0 Q v0 v1 v2 v3 v4 v5 S := h
theorem u_X11_isForward_54 {Q : Int32 → HS → Prop} {v0 : Nat} {v1 : Int32} {v2 : Int32} {v4 : Int32} {v6 : Int32} {v7 : Int32} {s0 : Int32} {S : HS} (h : ob S v0 11 ∧ (∃ a1 : Nat, fR S v0 3 = some a1 ∧ (ob S a1 10 ∧ (∃ a2 : Nat, fR S a1 21 = some a2 ∧ (ob S a2 13 ∧ (vp_in v1 (hN S a2) ∧ ∀ x4 : Int32, x4 = fI S a2 v1.toNatClampNeg → (((x4 ≤ v6) → (∃ a6 : Nat, fR S v0 3 = some a6 ∧ (ob S a6 10 ∧ (∃ a7 : Nat, fR S a6 21 = some a7 ∧ (ob S a7 13 ∧ (vp_in v1 (hN S a7) ∧ ∀ x9 : Int32, x9 = fI S a7 v1.toNatClampNeg → (P_X11_isForward_84 Q v0 v2 v4 v7 s0 x9 S))))))) ∧ ((¬ x4 ≤ v6) → (P_X11_isForward_84 Q v0 v2 v4 v7 s0 v6 S))))))))) : P_X11_isForward_54 Q v0 v1 v2 v4 v6 v7 s0 S := h
theorem u_X11_isForward_84 {Q : Int32 → HS → Prop} {v0 : Nat} {v2 : Int32} {v4 : Int32} {v7 : Int32} {v8 : Int32} {s0 : Int32} {S : HS} (h : ob S v0 11 ∧ (∃ a1 : Nat, fR S v0 3 = some a1 ∧ (ob S a1 10 ∧ (∃ a2 : Nat, fR S a1 17 = some a2 ∧ (ob S a2 13 ∧ (vp_in v2 (hN S a2) ∧ ∀ x4 : Int32, x4 = fI S a2 v2.toNatClampNeg → (∃ a5 : Nat, fR S v0 3 = some a5 ∧ (ob S a5 10 ∧ (∃ a6 : Nat, fR S a5 16 = some a6 ∧ (ob S a6 13 ∧ (vp_in v2 (hN S a6) ∧ ∀ x8 : Int32, x8 = fI S a6 v2.toNatClampNeg → (((x8 ≤ x4) → (P_X11_isForward_112 Q v0 v4 v7 v8 s0 (0 : Int32) S)) ∧ ((¬ x8 ≤ x4) → (P_X11_isForward_112 Q v0 v4 v7 v8 s0 (1 : Int32) S)))))))))))))) : P_X11_isForward_84 Q v0 v2 v4 v7 v8 s0 S := h
theorem u_X11_isForward_112 {Q : Int32 → HS → Prop} {v0 : Nat} {v4 : Int32} {v7 : Int32} {v8 : Int32} {v9 : Int32} {s0 : Int32} {S : HS} (h : ((s0 = 0) → (Q (0 : Int32) S)) ∧ ((¬ s0 = 0) → (((v7 ≤ 0) → (Q (0 : Int32) S)) ∧ ((¬ v7 ≤ 0) → (ob S v0 11 ∧ (∃ a3 : Nat, fR S v0 3 = some a3 ∧ (ob S a3 10 ∧ (∃ a4 : Nat, fR S a3 7 = some a4 ∧ (ob S a4 13 ∧ (vp_in v4 (hN S a4) ∧ ∀ x6 : Int32, x6 = fI S a4 v4.toNatClampNeg → (∃ a7 : Nat, fR S v0 3 = some a7 ∧ (ob S a7 10 ∧ (∃ a8 : Nat, fR S a7 7 = some a8 ∧ (ob S a8 13 ∧ (vp_in v4 (hN S a8) ∧ ∀ x10 : Int32, x10 = fI S a8 v4.toNatClampNeg → (∃ a11 : Nat, fR S v0 3 = some a11 ∧ (ob S a11 10 ∧ (∃ a12 : Nat, fR S a11 8 = some a12 ∧ (ob S a12 13 ∧ (vp_in v4 (hN S a12) ∧ ∀ x14 : Int32, x14 = fI S a12 v4.toNatClampNeg → (((((x6 * v7) * v8) ≤ ((x10 * x14) * v9)) → (Q (0 : Int32) S)) ∧ ((¬ ((x6 * v7) * v8) ≤ ((x10 * x14) * v9)) → (Q (1 : Int32) S))))))))))))))))))))))) : P_X11_isForward_112 Q v0 v4 v7 v8 v9 s0 S := h
theorem u_X11_isHour {v0 : Nat} {v1 : Int32} {Q : Int32 → HS → Prop} {S : HS} (h : P_X11_isHour_0 Q v0 v1 S) : P_X11_isHour v0 v1 Q S := h
theorem u_X11_isHour_0 {Q : Int32 → HS → Prop} {v0 : Nat} {v1 : Int32} {S : HS} (h : ob S v0 11 ∧ ((fR S v0 3 = none → (Q (0 : Int32) S)) ∧ (∀ a1 : Nat, fR S v0 3 = some a1 → (((v1 < 0) → (Q (0 : Int32) S)) ∧ ((¬ v1 < 0) → (∃ a4 : Nat, fR S v0 3 = some a4 ∧ (ob S a4 10 ∧ (∀ x5 : Int32, x5 = fI S a4 1 → (((x5 ≤ v1) → (Q (0 : Int32) S)) ∧ ((¬ x5 ≤ v1) → (Q (1 : Int32) S))))))))))) : P_X11_isHour_0 Q v0 v1 S := h
theorem u_X11_isPlace {v0 : Nat} {v1 : Int32} {Q : Int32 → HS → Prop} {S : HS} (h : P_X11_isPlace_0 Q v0 v1 S) : P_X11_isPlace v0 v1 Q S := h
theorem u_X11_isPlace_0 {Q : Int32 → HS → Prop} {v0 : Nat} {v1 : Int32} {S : HS} (h : ob S v0 11 ∧ ((fR S v0 3 = none → (Q (0 : Int32) S)) ∧ (∀ a1 : Nat, fR S v0 3 = some a1 → (((v1 < 0) → (Q (0 : Int32) S)) ∧ ((¬ v1 < 0) → (∃ a4 : Nat, fR S v0 3 = some a4 ∧ (ob S a4 10 ∧ (∀ x5 : Int32, x5 = fI S a4 2 → (((x5 ≤ v1) → (Q (0 : Int32) S)) ∧ ((¬ x5 ≤ v1) → (Q (1 : Int32) S))))))))))) : P_X11_isPlace_0 Q v0 v1 S := h
theorem u_X11_isRoad {v0 : Nat} {v1 : Int32} {Q : Int32 → HS → Prop} {S : HS} (h : P_X11_isRoad_0 Q v0 v1 S) : P_X11_isRoad v0 v1 Q S := h
theorem u_X11_isRoad_0 {Q : Int32 → HS → Prop} {v0 : Nat} {v1 : Int32} {S : HS} (h : ob S v0 11 ∧ ((fR S v0 3 = none → (Q (0 : Int32) S)) ∧ (∀ a1 : Nat, fR S v0 3 = some a1 → (((v1 < 0) → (Q (0 : Int32) S)) ∧ ((¬ v1 < 0) → (∃ a4 : Nat, fR S v0 3 = some a4 ∧ (ob S a4 10 ∧ (∀ x5 : Int32, x5 = fI S a4 3 → (((x5 ≤ v1) → (Q (0 : Int32) S)) ∧ ((¬ x5 ≤ v1) → (Q (1 : Int32) S))))))))))) : P_X11_isRoad_0 Q v0 v1 S := h
theorem u_X11_isSeen {v0 : Nat} {v1 : Int32} {Q : Int32 → HS → Prop} {S : HS} (h : P_X11_isSeen_0 Q v0 v1 S) : P_X11_isSeen v0 v1 Q S := h
theorem u_X11_isSeen_0 {Q : Int32 → HS → Prop} {v0 : Nat} {v1 : Int32} {S : HS} (h : ob S v0 11 ∧ ((fR S v0 3 = none → (Q (0 : Int32) S)) ∧ (∀ a1 : Nat, fR S v0 3 = some a1 → (((v1 < 0) → (Q (0 : Int32) S)) ∧ ((¬ v1 < 0) → (∃ a4 : Nat, fR S v0 3 = some a4 ∧ (ob S a4 10 ∧ (∀ x5 : Int32, x5 = fI S a4 5 → (((x5 ≤ v1) → (Q (0 : Int32) S)) ∧ ((¬ x5 ≤ v1) → (Q (1 : Int32) S))))))))))) : P_X11_isSeen_0 Q v0 v1 S := h
theorem u_X11_isSpeed {v0 : Nat} {v1 : Int32} {v2 : Int32} {Q : Int32 → HS → Prop} {S : HS} (h : P_X11_isSpeed_0 Q v0 v1 v2 S) : P_X11_isSpeed v0 v1 v2 Q S := h
theorem u_X11_isSpeed_0 {Q : Int32 → HS → Prop} {v0 : Nat} {v1 : Int32} {v2 : Int32} {S : HS} (h : ob S v0 11 ∧ (∃ a1 : Nat, fR S v0 3 = some a1 ∧ (ob S a1 10 ∧ (∃ a2 : Nat, fR S a1 24 = some a2 ∧ (ob S a2 13 ∧ (vp_in v1 (hN S a2) ∧ ∀ x4 : Int32, x4 = fI S a2 v1.toNatClampNeg → (∃ a5 : Nat, fR S v0 3 = some a5 ∧ (ob S a5 10 ∧ (∃ a6 : Nat, fR S a5 25 = some a6 ∧ (ob S a6 13 ∧ (vp_in v1 (hN S a6) ∧ ∀ x8 : Int32, x8 = fI S a6 v1.toNatClampNeg → (P_X11_in v2 x4 x8 (fun x11 S9 => Gr S S9 → bl x11 → (bl x11 ∧ Q x11 S9)) S)))))))))))) : P_X11_isSpeed_0 Q v0 v1 v2 S := h
theorem u_X11_isWalker {v0 : Nat} {v1 : Int32} {Q : Int32 → HS → Prop} {S : HS} (h : P_X11_isWalker_0 Q v0 v1 S) : P_X11_isWalker v0 v1 Q S := h
theorem u_X11_isWalker_0 {Q : Int32 → HS → Prop} {v0 : Nat} {v1 : Int32} {S : HS} (h : ob S v0 11 ∧ ((fR S v0 3 = none → (Q (0 : Int32) S)) ∧ (∀ a1 : Nat, fR S v0 3 = some a1 → (((v1 < 0) → (Q (0 : Int32) S)) ∧ ((¬ v1 < 0) → (∃ a4 : Nat, fR S v0 3 = some a4 ∧ (ob S a4 10 ∧ (∀ x5 : Int32, x5 = fI S a4 4 → (((x5 ≤ v1) → (Q (0 : Int32) S)) ∧ ((¬ x5 ≤ v1) → (Q (1 : Int32) S))))))))))) : P_X11_isWalker_0 Q v0 v1 S := h
theorem u_X11_keeps {v0 : Nat} {Q : HS → Prop} {S : HS} (h : P_X11_keeps_0 Q v0 S) : P_X11_keeps v0 Q S := h
theorem u_X11_keeps_0 {Q : HS → Prop} {v0 : Nat} {S : HS} (h : ob S v0 11 ∧ (∀ x1 : Int32, x1 = fI S v0 24 → (((¬ x1 = (16 : Int32)) → (P_X11_keeps_48 Q v0 S)) ∧ ((x1 = (16 : Int32)) → (P_X11_keeps_11 Q v0 (0 : Int32) S))))) : P_X11_keeps_0 Q v0 S := h
theorem u_X11_keeps_11 {Q : HS → Prop} {X11 : Nat → Int32 → HS → Prop} {v0 : Nat} {v1 : Int32} {S : HS} (h : (((105 : Int32) ≤ v1) → (ob S v0 11 ∧ (∀ x2 : Int32, x2 = fI S v0 24 → (∀ x3 : Int32, x3 = x2 - (1 : Int32) → (∀ S4 : HS, S4 = sI S v0 24 x3 → (P_X11_keeps_48 Q v0 S4)))))) ∧ ((¬ (105 : Int32) ≤ v1) → (ob S v0 11 ∧ (∃ a5 : Nat, fR S v0 22 = some a5 ∧ (∃ a6 : Nat, fR S v0 22 = some a6 ∧ (ob S a6 14 ∧ (∀ x8 : Int32, x8 = v1 + (7 : Int32) → (vp_in x8 (hN S a6) ∧ ∀ x9 : Int64, x9 = fJ S a6 x8.toNatClampNeg → (ob S a5 14 ∧ (vp_in v1 (hN S a5) ∧ (∀ S11 : HS, S11 = sJ S a5 v1.toNatClampNeg x9 → (∀ x12 : Int32, x12 = v1 + (1 : Int32) → (X11 v0 x12 S11))))))))))))) : B_X11_keeps_11 Q X11 v0 v1 S := h
theorem i_X11_keeps_11 {Q : HS → Prop} (μ : Nat → Int32 → HS → Nat) (I : Nat → Int32 → HS → Prop) (hs : ∀ (v0 : Nat) (v1 : Int32) (S : HS) (X : Nat → Int32 → HS → Prop), I v0 v1 S → (∀ (w0 : Nat) (w1 : Int32) (T : HS), I w0 w1 T → μ w0 w1 T < μ v0 v1 S → X w0 w1 T) → B_X11_keeps_11 Q X v0 v1 S) : ∀ (v0 : Nat) (v1 : Int32) (S : HS), I v0 v1 S → P_X11_keeps_11 Q v0 v1 S := by
  intro v0 v1 S h X hX
  have key : ∀ (z : Nat) (v0 : Nat) (v1 : Int32) (S : HS), μ v0 v1 S < z → I v0 v1 S → X v0 v1 S := by
    intro z
    induction z with
    | zero => intro v0 v1 S hz; exact absurd hz (Nat.not_lt_zero _)
    | succ z ih => intro v0 v1 S hz hI; exact hX _ _ _ (hs _ _ _ _ hI (fun w0 w1 T hT hl => ih _ _ _ (by omega) hT))
  exact key _ _ _ _ (Nat.lt_succ_self _) h
theorem u_X11_keeps_48 {Q : HS → Prop} {v0 : Nat} {S : HS} (h : P_X11_keeps_50 Q v0 (0 : Int32) S) : P_X11_keeps_48 Q v0 S := h
theorem u_X11_keeps_50 {Q : HS → Prop} {X50 : Nat → Int32 → HS → Prop} {v0 : Nat} {v1 : Int32} {S : HS} (h : (((7 : Int32) ≤ v1) → (ob S v0 11 ∧ (∀ x2 : Int32, x2 = fI S v0 24 → (∀ x3 : Int32, x3 = x2 + (1 : Int32) → (∀ S4 : HS, S4 = sI S v0 24 x3 → (Q S4)))))) ∧ ((¬ (7 : Int32) ≤ v1) → (ob S v0 11 ∧ (∃ a5 : Nat, fR S v0 22 = some a5 ∧ (∀ x6 : Int32, x6 = fI S v0 24 → (∃ a7 : Nat, fR S v0 21 = some a7 ∧ (ob S a7 14 ∧ (vp_in v1 (hN S a7) ∧ ∀ x9 : Int64, x9 = fJ S a7 v1.toNatClampNeg → (ob S a5 14 ∧ (vp_in (((7 : Int32) * x6) + v1) (hN S a5) ∧ (∀ S11 : HS, S11 = sJ S a5 (((7 : Int32) * x6) + v1).toNatClampNeg x9 → (∀ x12 : Int32, x12 = v1 + (1 : Int32) → (X50 v0 x12 S11))))))))))))) : B_X11_keeps_50 Q X50 v0 v1 S := h
theorem i_X11_keeps_50 {Q : HS → Prop} (μ : Nat → Int32 → HS → Nat) (I : Nat → Int32 → HS → Prop) (hs : ∀ (v0 : Nat) (v1 : Int32) (S : HS) (X : Nat → Int32 → HS → Prop), I v0 v1 S → (∀ (w0 : Nat) (w1 : Int32) (T : HS), I w0 w1 T → μ w0 w1 T < μ v0 v1 S → X w0 w1 T) → B_X11_keeps_50 Q X v0 v1 S) : ∀ (v0 : Nat) (v1 : Int32) (S : HS), I v0 v1 S → P_X11_keeps_50 Q v0 v1 S := by
  intro v0 v1 S h X hX
  have key : ∀ (z : Nat) (v0 : Nat) (v1 : Int32) (S : HS), μ v0 v1 S < z → I v0 v1 S → X v0 v1 S := by
    intro z
    induction z with
    | zero => intro v0 v1 S hz; exact absurd hz (Nat.not_lt_zero _)
    | succ z ih => intro v0 v1 S hz hI; exact hX _ _ _ (hs _ _ _ _ hI (fun w0 w1 T hT hl => ih _ _ _ (by omega) hT))
  exact key _ _ _ _ (Nat.lt_succ_self _) h
theorem u_X11_led {v0 : Nat} {v1 : Int32} {Q : Int32 → HS → Prop} {S : HS} (h : P_X11_led_0 Q v0 v1 S) : P_X11_led v0 v1 Q S := h
theorem u_X11_led_0 {Q : Int32 → HS → Prop} {v0 : Nat} {v1 : Int32} {S : HS} (h : ob S v0 11 ∧ (∀ S1 : HS, S1 = sI S v0 0 (0 : Int32) → (P_X11_led_9 Q v0 v1 (0 : Int32) (0 : Int32) S1))) : P_X11_led_0 Q v0 v1 S := h
theorem u_X11_led_9 {Q : Int32 → HS → Prop} {X9 : Nat → Int32 → Int32 → Int32 → HS → Prop} {v0 : Nat} {v1 : Int32} {v2 : Int32} {v3 : Int32} {S : HS} (h : ob S v0 11 ∧ (P_X11_isDay v0 (fun x3 S1 => Gr S S1 → bl x3 → (((x3 = 0) → (∀ S5 : HS, S5 = sI S1 v0 0 (1 : Int32) → (Q (0 : Int32) S5))) ∧ ((¬ x3 = 0) → (∃ a6 : Nat, fR S1 v0 3 = some a6 ∧ (ob S1 a6 10 ∧ (∀ x7 : Int32, x7 = fI S1 a6 3 → (((x7 ≤ v3) → (∀ S9 : HS, S9 = sI S1 v0 0 (1 : Int32) → (Q (0 : Int32) S9))) ∧ ((¬ x7 ≤ v3) → (∃ a10 : Nat, fR S1 v0 3 = some a10 ∧ (ob S1 a10 10 ∧ (∃ a11 : Nat, fR S1 a10 13 = some a11 ∧ (ob S1 a11 13 ∧ (vp_in v3 (hN S1 a11) ∧ ∀ x13 : Int32, x13 = fI S1 a11 v3.toNatClampNeg → (∃ a14 : Nat, fR S1 v0 21 = some a14 ∧ (ob S1 a14 14 ∧ (vp_in (0 : Int32) (hN S1 a14) ∧ ∀ x16 : Int64, x16 = fJ S1 a14 (0 : Int32).toNatClampNeg → ((((lg_cmp x13.toInt64 x16) = 0) → (P_X11_led_70 Q X9 v0 v1 v2 v3 S1)) ∧ ((¬ (lg_cmp x13.toInt64 x16) = 0) → (∃ a18 : Nat, fR S1 v0 3 = some a18 ∧ (ob S1 a18 10 ∧ (∃ a19 : Nat, fR S1 a18 14 = some a19 ∧ (ob S1 a19 13 ∧ (vp_in v3 (hN S1 a19) ∧ ∀ x21 : Int32, x21 = fI S1 a19 v3.toNatClampNeg → (∃ a22 : Nat, fR S1 v0 21 = some a22 ∧ (ob S1 a22 14 ∧ (vp_in (0 : Int32) (hN S1 a22) ∧ ∀ x24 : Int64, x24 = fJ S1 a22 (0 : Int32).toNatClampNeg → ((((lg_cmp x21.toInt64 x24) = 0) → (P_X11_led_70 Q X9 v0 v1 v2 v3 S1)) ∧ ((¬ (lg_cmp x21.toInt64 x24) = 0) → (P_X11_led_80 Q X9 v0 v1 v2 v3 S1))))))))))))))))))))))))))))) S)) : B_X11_led_9 Q X9 v0 v1 v2 v3 S := h
theorem i_X11_led_9 {Q : Int32 → HS → Prop} (μ : Nat → Int32 → Int32 → Int32 → HS → Nat) (I : Nat → Int32 → Int32 → Int32 → HS → Prop) (hs : ∀ (v0 : Nat) (v1 : Int32) (v2 : Int32) (v3 : Int32) (S : HS) (X : Nat → Int32 → Int32 → Int32 → HS → Prop), I v0 v1 v2 v3 S → (∀ (w0 : Nat) (w1 : Int32) (w2 : Int32) (w3 : Int32) (T : HS), I w0 w1 w2 w3 T → μ w0 w1 w2 w3 T < μ v0 v1 v2 v3 S → X w0 w1 w2 w3 T) → B_X11_led_9 Q X v0 v1 v2 v3 S) : ∀ (v0 : Nat) (v1 : Int32) (v2 : Int32) (v3 : Int32) (S : HS), I v0 v1 v2 v3 S → P_X11_led_9 Q v0 v1 v2 v3 S := by
  intro v0 v1 v2 v3 S h X hX
  have key : ∀ (z : Nat) (v0 : Nat) (v1 : Int32) (v2 : Int32) (v3 : Int32) (S : HS), μ v0 v1 v2 v3 S < z → I v0 v1 v2 v3 S → X v0 v1 v2 v3 S := by
    intro z
    induction z with
    | zero => intro v0 v1 v2 v3 S hz; exact absurd hz (Nat.not_lt_zero _)
    | succ z ih => intro v0 v1 v2 v3 S hz hI; exact hX _ _ _ _ _ (hs _ _ _ _ _ _ hI (fun w0 w1 w2 w3 T hT hl => ih _ _ _ _ _ (by omega) hT))
  exact key _ _ _ _ _ _ (Nat.lt_succ_self _) h
theorem u_X11_led_70 {Q : Int32 → HS → Prop} {X9 : Nat → Int32 → Int32 → Int32 → HS → Prop} {v0 : Nat} {v1 : Int32} {v2 : Int32} {v3 : Int32} {S : HS} (h : ((¬ v2 = v1) → (∀ x2 : Int32, x2 = v2 + (1 : Int32) → (P_X11_led_80 Q X9 v0 v1 x2 v3 S))) ∧ ((v2 = v1) → (Q v3 S))) : P_X11_led_70 Q X9 v0 v1 v2 v3 S := h
theorem u_X11_led_80 {Q : Int32 → HS → Prop} {X9 : Nat → Int32 → Int32 → Int32 → HS → Prop} {v0 : Nat} {v1 : Int32} {v2 : Int32} {v3 : Int32} {S : HS} (h : ∀ x1 : Int32, x1 = v3 + (1 : Int32) → (X9 v0 v1 v2 x1 S)) : P_X11_led_80 Q X9 v0 v1 v2 v3 S := h
theorem u_X11_lee {v0 : Nat} {v1 : Int32} {v2 : Int32} {v3 : Int32} {v4 : Int32} {v5 : Int32} {v6 : Int32} {v7 : Int32} {Q : Int64 → HS → Prop} {S : HS} (h : P_X11_lee_0 Q v0 v1 v2 v3 v4 v5 v6 v7 S) : P_X11_lee v0 v1 v2 v3 v4 v5 v6 v7 Q S := h
theorem u_X11_lee_0 {Q : Int64 → HS → Prop} {v0 : Nat} {v1 : Int32} {v2 : Int32} {v3 : Int32} {v4 : Int32} {v5 : Int32} {v6 : Int32} {v7 : Int32} {S : HS} (h : ob S v0 11 ∧ (∀ S1 : HS, S1 = sI S v0 0 (0 : Int32) → (P_X11_refusesTwo v0 v1 v2 v3 v4 v5 v6 (fun x4 S2 => Gr S1 S2 → (((x4 ≤ 0) → (P_X11_together v0 v1 v2 v3 v4 v5 v6 (fun x8 S6 => Gr S2 S6 → (P_X11_told v0 x8 (2520 : Int64) v7 (fun x11 S9 => Gr S6 S9 → (Q x11 S9)) S6)) S2)) ∧ ((¬ x4 ≤ 0) → (P_X11_refused v0 x4 (fun x14 S12 => Gr S2 S12 → (Q x14.toInt64 S12)) S2)))) S1))) : P_X11_lee_0 Q v0 v1 v2 v3 v4 v5 v6 v7 S := h
theorem u_X11_less {v0 : Int32} {v1 : Int32} {Q : Int32 → HS → Prop} {S : HS} (h : P_X11_less_0 Q v0 v1 S) : P_X11_less v0 v1 Q S := h
theorem u_X11_less_0 {Q : Int32 → HS → Prop} {v0 : Int32} {v1 : Int32} {S : HS} (h : ((v0 ≤ v1) → (Q (0 : Int32) S)) ∧ ((¬ v0 ≤ v1) → (Q (v0 - v1) S))) : P_X11_less_0 Q v0 v1 S := h
theorem u_X11_lies {v0 : Nat} {Q : Int32 → HS → Prop} {S : HS} (h : P_X11_lies_0 Q v0 S) : P_X11_lies v0 Q S := h
theorem u_X11_lies_0 {Q : Int32 → HS → Prop} {v0 : Nat} {S : HS} (h : ob S v0 11 ∧ (∀ S1 : HS, S1 = sI S v0 0 (0 : Int32) → ((fR S1 v0 3 = none → (P_X11_refused v0 (1 : Int32) (fun x6 S4 => Gr S1 S4 → (Q x6 S4)) S1)) ∧ (∀ a2 : Nat, fR S1 v0 3 = some a2 → (P_X11_lies_22 Q v0 (0 : Int32) (0 : Int32) S1))))) : P_X11_lies_0 Q v0 S := h
theorem u_X11_lies_22 {Q : Int32 → HS → Prop} {X22 : Nat → Int32 → Int32 → HS → Prop} {v0 : Nat} {v1 : Int32} {v2 : Int32} {S : HS} (h : ob S v0 11 ∧ (∃ a1 : Nat, fR S v0 3 = some a1 ∧ (ob S a1 10 ∧ (∀ x2 : Int32, x2 = fI S a1 5 → (((x2 ≤ v2) → (P_X11_good v0 v1 (fun x6 S4 => Gr S S4 → (Q x6 S4)) S)) ∧ ((¬ x2 ≤ v2) → (P_X11_fitOf v0 v2 (-1 : Int32) (fun x9 S7 => Gr S S7 → (((¬ x9 = 0) → (P_X11_lies_50 Q X22 v0 v2 v1 (0 : Int32) S7)) ∧ ((x9 = 0) → (P_X11_lies_50 Q X22 v0 v2 v1 ((1 : Int32) <<< (v2 &&& 31)) S7)))) S))))))) : B_X11_lies_22 Q X22 v0 v1 v2 S := h
theorem i_X11_lies_22 {Q : Int32 → HS → Prop} (μ : Nat → Int32 → Int32 → HS → Nat) (I : Nat → Int32 → Int32 → HS → Prop) (hs : ∀ (v0 : Nat) (v1 : Int32) (v2 : Int32) (S : HS) (X : Nat → Int32 → Int32 → HS → Prop), I v0 v1 v2 S → (∀ (w0 : Nat) (w1 : Int32) (w2 : Int32) (T : HS), I w0 w1 w2 T → μ w0 w1 w2 T < μ v0 v1 v2 S → X w0 w1 w2 T) → B_X11_lies_22 Q X v0 v1 v2 S) : ∀ (v0 : Nat) (v1 : Int32) (v2 : Int32) (S : HS), I v0 v1 v2 S → P_X11_lies_22 Q v0 v1 v2 S := by
  intro v0 v1 v2 S h X hX
  have key : ∀ (z : Nat) (v0 : Nat) (v1 : Int32) (v2 : Int32) (S : HS), μ v0 v1 v2 S < z → I v0 v1 v2 S → X v0 v1 v2 S := by
    intro z
    induction z with
    | zero => intro v0 v1 v2 S hz; exact absurd hz (Nat.not_lt_zero _)
    | succ z ih => intro v0 v1 v2 S hz hI; exact hX _ _ _ _ (hs _ _ _ _ _ hI (fun w0 w1 w2 T hT hl => ih _ _ _ _ (by omega) hT))
  exact key _ _ _ _ _ (Nat.lt_succ_self _) h
theorem u_X11_lies_50 {Q : Int32 → HS → Prop} {X22 : Nat → Int32 → Int32 → HS → Prop} {v0 : Nat} {v2 : Int32} {s0 : Int32} {s1 : Int32} {S : HS} (h : ∀ x1 : Int32, x1 = s0 ||| s1 → (∀ x2 : Int32, x2 = v2 + (1 : Int32) → (X22 v0 x1 x2 S))) : P_X11_lies_50 Q X22 v0 v2 s0 s1 S := h
theorem u_X11_lost {v0 : Nat} {v1 : Int32} {Q : Int32 → HS → Prop} {S : HS} (h : P_X11_lost_0 Q v0 v1 S) : P_X11_lost v0 v1 Q S := h
theorem u_X11_lost_0 {Q : Int32 → HS → Prop} {v0 : Nat} {v1 : Int32} {S : HS} (h : ob S v0 11 ∧ (P_X11_refused v0 v1 (fun x3 S1 => Gr S S1 → (Q (-100 : Int32) S1)) S)) : P_X11_lost_0 Q v0 v1 S := h
theorem u_X11_mark {v0 : Nat} {Q : Int32 → HS → Prop} {S : HS} (h : P_X11_mark_0 Q v0 S) : P_X11_mark v0 Q S := h
theorem u_X11_mark_0 {Q : Int32 → HS → Prop} {v0 : Nat} {S : HS} (h : ob S v0 11 ∧ (∀ S1 : HS, S1 = sI S v0 0 (0 : Int32) → (P_X11_isDay v0 (fun x4 S2 => Gr S1 S2 → bl x4 → (((¬ x4 = 0) → (∀ x6 : Int32, x6 = fI S2 v0 25 → (((¬ x6 = (3 : Int32)) → (P_X11_mark_34 Q v0 (0 : Int32) S2)) ∧ ((x6 = (3 : Int32)) → (P_X11_refused v0 (3 : Int32) (fun x10 S8 => Gr S2 S8 → (Q x10 S8)) S2))))) ∧ ((x4 = 0) → (P_X11_refused v0 (1 : Int32) (fun x13 S11 => Gr S2 S11 → (Q x13 S11)) S2)))) S1))) : P_X11_mark_0 Q v0 S := h
theorem u_X11_mark_34 {Q : Int32 → HS → Prop} {X34 : Nat → Int32 → HS → Prop} {v0 : Nat} {v1 : Int32} {S : HS} (h : (((7 : Int32) ≤ v1) → (ob S v0 11 ∧ (∀ x2 : Int32, x2 = fI S v0 25 → (∀ x3 : Int32, x3 = x2 + (1 : Int32) → (∀ S4 : HS, S4 = sI S v0 25 x3 → (∀ x5 : Int32, x5 = fI S4 v0 25 → (P_X11_good v0 (x5 - (1 : Int32)) (fun x8 S6 => Gr S4 S6 → (Q x8 S6)) S4))))))) ∧ ((¬ (7 : Int32) ≤ v1) → (ob S v0 11 ∧ (∃ a9 : Nat, fR S v0 23 = some a9 ∧ (∀ x10 : Int32, x10 = fI S v0 25 → (∃ a11 : Nat, fR S v0 21 = some a11 ∧ (ob S a11 14 ∧ (vp_in v1 (hN S a11) ∧ ∀ x13 : Int64, x13 = fJ S a11 v1.toNatClampNeg → (ob S a9 14 ∧ (vp_in (((7 : Int32) * x10) + v1) (hN S a9) ∧ (∀ S15 : HS, S15 = sJ S a9 (((7 : Int32) * x10) + v1).toNatClampNeg x13 → (∀ x16 : Int32, x16 = v1 + (1 : Int32) → (X34 v0 x16 S15))))))))))))) : B_X11_mark_34 Q X34 v0 v1 S := h
theorem i_X11_mark_34 {Q : Int32 → HS → Prop} (μ : Nat → Int32 → HS → Nat) (I : Nat → Int32 → HS → Prop) (hs : ∀ (v0 : Nat) (v1 : Int32) (S : HS) (X : Nat → Int32 → HS → Prop), I v0 v1 S → (∀ (w0 : Nat) (w1 : Int32) (T : HS), I w0 w1 T → μ w0 w1 T < μ v0 v1 S → X w0 w1 T) → B_X11_mark_34 Q X v0 v1 S) : ∀ (v0 : Nat) (v1 : Int32) (S : HS), I v0 v1 S → P_X11_mark_34 Q v0 v1 S := by
  intro v0 v1 S h X hX
  have key : ∀ (z : Nat) (v0 : Nat) (v1 : Int32) (S : HS), μ v0 v1 S < z → I v0 v1 S → X v0 v1 S := by
    intro z
    induction z with
    | zero => intro v0 v1 S hz; exact absurd hz (Nat.not_lt_zero _)
    | succ z ih => intro v0 v1 S hz hI; exact hX _ _ _ (hs _ _ _ _ hI (fun w0 w1 T hT hl => ih _ _ _ (by omega) hT))
  exact key _ _ _ _ (Nat.lt_succ_self _) h
theorem u_X11_mean {v0 : Nat} {v1 : Int32} {v2 : Int32} {v3 : Int32} {v4 : Int32} {v5 : Int32} {v6 : Int32} {Q : Int64 → HS → Prop} {S : HS} (h : P_X11_mean_0 Q v0 v1 v2 v3 v4 v5 v6 S) : P_X11_mean v0 v1 v2 v3 v4 v5 v6 Q S := h
theorem u_X11_mean_0 {Q : Int64 → HS → Prop} {v0 : Nat} {v1 : Int32} {v2 : Int32} {v3 : Int32} {v4 : Int32} {v5 : Int32} {v6 : Int32} {S : HS} (h : ob S v0 11 ∧ (∀ S1 : HS, S1 = sI S v0 0 (0 : Int32) → (P_X11_refuses v0 v1 v2 v3 v4 v5 (fun x4 S2 => Gr S1 S2 → (((x4 ≤ 0) → (P_X11_wetOf v0 v1 v2 v3 v4 v5 (fun x8 S6 => Gr S2 S6 → (∃ a9 : Nat, fR S6 v0 3 = some a9 ∧ (ob S6 a9 10 ∧ (∃ a10 : Nat, fR S6 a9 11 = some a10 ∧ (ob S6 a10 13 ∧ (vp_in v4 (hN S6 a10) ∧ ∀ x12 : Int32, x12 = fI S6 a10 v4.toNatClampNeg → (P_X11_told v0 (x8 * x12.toInt64) (252000 : Int64) v6 (fun x15 S13 => Gr S6 S13 → (Q x15 S13)) S6))))))) S2)) ∧ ((¬ x4 ≤ 0) → (P_X11_refused v0 x4 (fun x18 S16 => Gr S2 S16 → (Q x18.toInt64 S16)) S2)))) S1))) : P_X11_mean_0 Q v0 v1 v2 v3 v4 v5 v6 S := h
theorem u_X11_meanOf {v0 : Nat} {v1 : Int32} {v2 : Int32} {v3 : Int32} {v4 : Int32} {v5 : Int32} {Q : Int64 → HS → Prop} {S : HS} (h : P_X11_meanOf_0 Q v0 v1 v2 v3 v4 v5 S) : P_X11_meanOf v0 v1 v2 v3 v4 v5 Q S := h
theorem u_X11_meanOf_0 {Q : Int64 → HS → Prop} {v0 : Nat} {v1 : Int32} {v2 : Int32} {v3 : Int32} {v4 : Int32} {v5 : Int32} {S : HS} (h : ob S v0 11 ∧ (P_X11_hourOf v0 v4 (fun x3 S1 => Gr S S1 → (∃ a4 : Nat, fR S1 v0 3 = some a4 ∧ (ob S1 a4 10 ∧ (∀ x5 : Int32, x5 = fI S1 a4 1 → (((x5 ≤ x3) → (Q (0 : Int64) S1)) ∧ ((¬ x5 ≤ x3) → (P_X11_wetOf v0 v1 v2 v3 x3 v5 (fun x9 S7 => Gr S1 S7 → (∃ a10 : Nat, fR S7 v0 3 = some a10 ∧ (ob S7 a10 10 ∧ (∃ a11 : Nat, fR S7 a10 11 = some a11 ∧ (ob S7 a11 13 ∧ (vp_in x3 (hN S7 a11) ∧ ∀ x13 : Int32, x13 = fI S7 a11 x3.toNatClampNeg → (Q (x9 * x13.toInt64) S7))))))) S1))))))) S)) : P_X11_meanOf_0 Q v0 v1 v2 v3 v4 v5 S := h
theorem u_X11_minutes {v0 : Nat} {v1 : Int32} {v2 : Int32} {v3 : Int32} {Q : Int32 → HS → Prop} {S : HS} (h : P_X11_minutes_0 Q v0 v1 v2 v3 S) : P_X11_minutes v0 v1 v2 v3 Q S := h
theorem u_X11_minutes_0 {Q : Int32 → HS → Prop} {v0 : Nat} {v1 : Int32} {v2 : Int32} {v3 : Int32} {S : HS} (h : ob S v0 11 ∧ (∀ S1 : HS, S1 = sI S v0 0 (0 : Int32) → (P_X11_isWalker v0 v1 (fun x4 S2 => Gr S1 S2 → bl x4 → (((x4 = 0) → (P_X11_minutes_21 Q v0 S2)) ∧ ((¬ x4 = 0) → (P_X11_isRoad v0 v2 (fun x8 S6 => Gr S2 S6 → bl x8 → (((¬ x8 = 0) → (P_X11_isSpeed v0 v1 v3 (fun x12 S10 => Gr S6 S10 → bl x12 → (((x12 = 0) → (P_X11_refused v0 (2 : Int32) (fun x16 S14 => Gr S10 S14 → (Q x16 S14)) S10)) ∧ ((¬ x12 = 0) → (∃ a17 : Nat, fR S10 v0 3 = some a17 ∧ (ob S10 a17 10 ∧ (P_X10_minutes a17 v2 v3 (fun x20 S18 => Gr S10 S18 → (P_X11_good v0 x20 (fun x23 S21 => Gr S18 S21 → (Q x23 S21)) S18)) S10)))))) S6)) ∧ ((x8 = 0) → (P_X11_minutes_21 Q v0 S6)))) S2)))) S1))) : P_X11_minutes_0 Q v0 v1 v2 v3 S := h
theorem u_X11_minutes_21 {Q : Int32 → HS → Prop} {v0 : Nat} {S : HS} (h : ob S v0 11 ∧ (P_X11_refused v0 (1 : Int32) (fun x3 S1 => Gr S S1 → (Q x3 S1)) S)) : P_X11_minutes_21 Q v0 S := h
theorem u_X11_partsOf {v0 : Nat} {v1 : Int32} {v2 : Int32} {v3 : Int32} {v4 : Int32} {v5 : Int32} {v6 : Int32} {Q : Int64 → HS → Prop} {S : HS} (h : P_X11_partsOf_0 Q v0 v1 v2 v3 v4 v5 v6 S) : P_X11_partsOf v0 v1 v2 v3 v4 v5 v6 Q S := h
theorem u_X11_partsOf_0 {Q : Int64 → HS → Prop} {v0 : Nat} {v1 : Int32} {v2 : Int32} {v3 : Int32} {v4 : Int32} {v5 : Int32} {v6 : Int32} {S : HS} (h : ob S v0 11 ∧ (P_X11_inTime v0 v1 v2 v3 v4 v5 v6 (0 : Int32) (0 : Int32) (fun x3 S1 => Gr S S1 → (∃ a4 : Nat, fR S1 v0 3 = some a4 ∧ (ob S1 a4 10 ∧ (∃ a5 : Nat, fR S1 a4 16 = some a5 ∧ (ob S1 a5 13 ∧ (vp_in v2 (hN S1 a5) ∧ ∀ x7 : Int32, x7 = fI S1 a5 v2.toNatClampNeg → (∃ a8 : Nat, fR S1 v0 3 = some a8 ∧ (ob S1 a8 10 ∧ (∃ a9 : Nat, fR S1 a8 17 = some a9 ∧ (ob S1 a9 13 ∧ (vp_in v2 (hN S1 a9) ∧ ∀ x11 : Int32, x11 = fI S1 a9 v2.toNatClampNeg → (¬ v5 = 0 ∧ ∀ x13 : Int32, x13 = (2520 : Int32) / v5 → (Q ((x3.toInt64 * ((x7 - x11).toInt64)) * x13.toInt64) S1))))))))))))) S)) : P_X11_partsOf_0 Q v0 v1 v2 v3 v4 v5 v6 S := h
theorem u_X11_rainsIn {v0 : Nat} {v1 : Int32} {Q : Int32 → HS → Prop} {S : HS} (h : P_X11_rainsIn_0 Q v0 v1 S) : P_X11_rainsIn v0 v1 Q S := h
theorem u_X11_rainsIn_0 {Q : Int32 → HS → Prop} {v0 : Nat} {v1 : Int32} {S : HS} (h : ob S v0 11 ∧ (P_X11_hourOf v0 v1 (fun x3 S1 => Gr S S1 → (∃ a4 : Nat, fR S1 v0 3 = some a4 ∧ (ob S1 a4 10 ∧ (∀ x5 : Int32, x5 = fI S1 a4 1 → (((x5 ≤ x3) → (Q (0 : Int32) S1)) ∧ ((¬ x5 ≤ x3) → (∀ x7 : Int32, x7 = fI S1 v0 20 → (((¬ ((x7 >>> (x3 &&& 31)) &&& (1 : Int32)) = (1 : Int32)) → (Q (0 : Int32) S1)) ∧ ((((x7 >>> (x3 &&& 31)) &&& (1 : Int32)) = (1 : Int32)) → (Q (1 : Int32) S1)))))))))) S)) : P_X11_rainsIn_0 Q v0 v1 S := h
theorem u_X11_refused {v0 : Nat} {v1 : Int32} {Q : Int32 → HS → Prop} {S : HS} (h : P_X11_refused_0 Q v0 v1 S) : P_X11_refused v0 v1 Q S := h
theorem u_X11_refused_0 {Q : Int32 → HS → Prop} {v0 : Nat} {v1 : Int32} {S : HS} (h : ob S v0 11 ∧ (∀ S1 : HS, S1 = sI S v0 1 v1 → (∀ S2 : HS, S2 = sI S1 v0 2 (-1 : Int32) → (Q (-1 : Int32) S2)))) : P_X11_refused_0 Q v0 v1 S := h
theorem u_X11_refuses {v0 : Nat} {v1 : Int32} {v2 : Int32} {v3 : Int32} {v4 : Int32} {v5 : Int32} {Q : Int32 → HS → Prop} {S : HS} (h : P_X11_refuses_0 Q v0 v1 v2 v3 v4 v5 S) : P_X11_refuses v0 v1 v2 v3 v4 v5 Q S := h
theorem u_X11_refuses_0 {Q : Int32 → HS → Prop} {v0 : Nat} {v1 : Int32} {v2 : Int32} {v3 : Int32} {v4 : Int32} {v5 : Int32} {S : HS} (h : ob S v0 11 ∧ (P_X11_isWalker v0 v1 (fun x3 S1 => Gr S S1 → bl x3 → (((x3 = 0) → (Q (1 : Int32) S1)) ∧ ((¬ x3 = 0) → (P_X11_isRoad v0 v2 (fun x7 S5 => Gr S1 S5 → bl x7 → (((x7 = 0) → (Q (1 : Int32) S5)) ∧ ((¬ x7 = 0) → (P_X11_in v3 (0 : Int32) (1 : Int32) (fun x11 S9 => Gr S5 S9 → bl x11 → (((x11 = 0) → (Q (1 : Int32) S9)) ∧ ((¬ x11 = 0) → (P_X11_isHour v0 v4 (fun x15 S13 => Gr S9 S13 → bl x15 → (((¬ x15 = 0) → (P_X11_isSpeed v0 v1 v5 (fun x19 S17 => Gr S13 S17 → bl x19 → (((x19 = 0) → (Q (2 : Int32) S17)) ∧ ((¬ x19 = 0) → (Q (0 : Int32) S17)))) S13)) ∧ ((x15 = 0) → (Q (1 : Int32) S13)))) S9)))) S5)))) S1)))) S)) : P_X11_refuses_0 Q v0 v1 v2 v3 v4 v5 S := h
theorem u_X11_refusesTwo {v0 : Nat} {v1 : Int32} {v2 : Int32} {v3 : Int32} {v4 : Int32} {v5 : Int32} {v6 : Int32} {Q : Int32 → HS → Prop} {S : HS} (h : P_X11_refusesTwo_0 Q v0 v1 v2 v3 v4 v5 v6 S) : P_X11_refusesTwo v0 v1 v2 v3 v4 v5 v6 Q S := h
theorem u_X11_refusesTwo_0 {Q : Int32 → HS → Prop} {v0 : Nat} {v1 : Int32} {v2 : Int32} {v3 : Int32} {v4 : Int32} {v5 : Int32} {v6 : Int32} {S : HS} (h : ((v1 = v2) → (Q (1 : Int32) S)) ∧ ((¬ v1 = v2) → (ob S v0 11 ∧ (P_X11_isWalker v0 v2 (fun x4 S2 => Gr S S2 → bl x4 → (((¬ x4 = 0) → (P_X11_refuses v0 v1 v3 v4 v5 v6 (fun x8 S6 => Gr S2 S6 → (((x8 ≤ 0) → (P_X11_isSpeed v0 v2 v6 (fun x12 S10 => Gr S6 S10 → bl x12 → (((x12 = 0) → (Q (2 : Int32) S10)) ∧ ((¬ x12 = 0) → (Q (0 : Int32) S10)))) S6)) ∧ ((¬ x8 ≤ 0) → (Q x8 S6)))) S2)) ∧ ((x4 = 0) → (Q (1 : Int32) S2)))) S)))) : P_X11_refusesTwo_0 Q v0 v1 v2 v3 v4 v5 v6 S := h
theorem u_X11_road {v0 : Nat} {v1 : Int32} {v2 : Int32} {Q : Int32 → HS → Prop} {S : HS} (h : P_X11_road_0 Q v0 v1 v2 S) : P_X11_road v0 v1 v2 Q S := h
theorem u_X11_road_0 {Q : Int32 → HS → Prop} {v0 : Nat} {v1 : Int32} {v2 : Int32} {S : HS} (h : ob S v0 11 ∧ (∀ S1 : HS, S1 = sI S v0 0 (0 : Int32) → (P_X11_isRoad v0 v1 (fun x4 S2 => Gr S1 S2 → bl x4 → (((x4 = 0) → (P_X11_road_22 Q v0 S2)) ∧ ((¬ x4 = 0) → (P_X11_in v2 (0 : Int32) (4 : Int32) (fun x8 S6 => Gr S2 S6 → bl x8 → (((¬ x8 = 0) → ((v2.toInt < 0 ∨ 3 < v2.toInt → (∃ a11 : Nat, fR S6 v0 3 = some a11 ∧ (ob S6 a11 10 ∧ (∃ a12 : Nat, fR S6 a11 17 = some a12 ∧ (ob S6 a12 13 ∧ (vp_in v1 (hN S6 a12) ∧ ∀ x14 : Int32, x14 = fI S6 a12 v1.toNatClampNeg → (P_X11_good v0 x14 (fun x17 S15 => Gr S6 S15 → (Q x17 S15)) S6))))))) ∧ (v2.toInt = 0 → (∃ a18 : Nat, fR S6 v0 3 = some a18 ∧ (ob S6 a18 10 ∧ (∃ a19 : Nat, fR S6 a18 13 = some a19 ∧ (ob S6 a19 13 ∧ (vp_in v1 (hN S6 a19) ∧ ∀ x21 : Int32, x21 = fI S6 a19 v1.toNatClampNeg → (P_X11_good v0 x21 (fun x24 S22 => Gr S6 S22 → (Q x24 S22)) S6))))))) ∧ (v2.toInt = 1 → (∃ a25 : Nat, fR S6 v0 3 = some a25 ∧ (ob S6 a25 10 ∧ (∃ a26 : Nat, fR S6 a25 14 = some a26 ∧ (ob S6 a26 13 ∧ (vp_in v1 (hN S6 a26) ∧ ∀ x28 : Int32, x28 = fI S6 a26 v1.toNatClampNeg → (P_X11_good v0 x28 (fun x31 S29 => Gr S6 S29 → (Q x31 S29)) S6))))))) ∧ (v2.toInt = 2 → (∃ a32 : Nat, fR S6 v0 3 = some a32 ∧ (ob S6 a32 10 ∧ (∃ a33 : Nat, fR S6 a32 15 = some a33 ∧ (ob S6 a33 13 ∧ (vp_in v1 (hN S6 a33) ∧ ∀ x35 : Int32, x35 = fI S6 a33 v1.toNatClampNeg → (P_X11_good v0 x35 (fun x38 S36 => Gr S6 S36 → (Q x38 S36)) S6))))))) ∧ (v2.toInt = 3 → (∃ a39 : Nat, fR S6 v0 3 = some a39 ∧ (ob S6 a39 10 ∧ (∃ a40 : Nat, fR S6 a39 16 = some a40 ∧ (ob S6 a40 13 ∧ (vp_in v1 (hN S6 a40) ∧ ∀ x42 : Int32, x42 = fI S6 a40 v1.toNatClampNeg → (P_X11_good v0 x42 (fun x45 S43 => Gr S6 S43 → (Q x45 S43)) S6))))))))) ∧ ((x8 = 0) → (P_X11_road_22 Q v0 S6)))) S2)))) S1))) : P_X11_road_0 Q v0 v1 v2 S := h
theorem u_X11_road_22 {Q : Int32 → HS → Prop} {v0 : Nat} {S : HS} (h : ob S v0 11 ∧ (P_X11_refused v0 (1 : Int32) (fun x3 S1 => Gr S S1 → (Q x3 S1)) S)) : P_X11_road_22 Q v0 S := h
theorem u_X11_round {v0 : Nat} {v1 : Int32} {v2 : Int32} {v3 : Int32} {v4 : Int32} {Q : Int64 → HS → Prop} {S : HS} (h : P_X11_round_0 Q v0 v1 v2 v3 v4 S) : P_X11_round v0 v1 v2 v3 v4 Q S := h
theorem u_X11_round_0 {Q : Int64 → HS → Prop} {v0 : Nat} {v1 : Int32} {v2 : Int32} {v3 : Int32} {v4 : Int32} {S : HS} (h : ob S v0 11 ∧ (∀ S1 : HS, S1 = sI S v0 0 (0 : Int32) → (P_X11_isWalker v0 v1 (fun x4 S2 => Gr S1 S2 → bl x4 → (((x4 = 0) → (P_X11_round_29 Q v0 S2)) ∧ ((¬ x4 = 0) → (P_X11_isRoad v0 v2 (fun x8 S6 => Gr S2 S6 → bl x8 → (((x8 = 0) → (P_X11_round_29 Q v0 S6)) ∧ ((¬ x8 = 0) → (P_X11_isHour v0 v3 (fun x12 S10 => Gr S6 S10 → bl x12 → (((¬ x12 = 0) → (P_X11_wetAtBest v0 v1 v2 (0 : Int32) v3 (fun x16 S14 => Gr S10 S14 → (P_X11_wetAtBest v0 v1 v2 (1 : Int32) v3 (fun x19 S17 => Gr S14 S17 → (P_X11_told v0 (x16 + x19) (2520 : Int64) v4 (fun x22 S20 => Gr S17 S20 → (Q x22 S20)) S17)) S14)) S10)) ∧ ((x12 = 0) → (P_X11_round_29 Q v0 S10)))) S6)))) S2)))) S1))) : P_X11_round_0 Q v0 v1 v2 v3 v4 S := h
theorem u_X11_round_29 {Q : Int64 → HS → Prop} {v0 : Nat} {S : HS} (h : ob S v0 11 ∧ (P_X11_refused v0 (1 : Int32) (fun x3 S1 => Gr S S1 → (Q x3.toInt64 S1)) S)) : P_X11_round_29 Q v0 S := h
theorem u_X11_saves {v0 : Nat} {v1 : Int32} {v2 : Int32} {v3 : Int32} {v4 : Int32} {v5 : Int32} {Q : Int64 → HS → Prop} {S : HS} (h : P_X11_saves_0 Q v0 v1 v2 v3 v4 v5 S) : P_X11_saves v0 v1 v2 v3 v4 v5 Q S := h
theorem u_X11_saves_0 {Q : Int64 → HS → Prop} {v0 : Nat} {v1 : Int32} {v2 : Int32} {v3 : Int32} {v4 : Int32} {v5 : Int32} {S : HS} (h : ob S v0 11 ∧ (∀ S1 : HS, S1 = sI S v0 0 (0 : Int32) → (P_X11_isWalker v0 v1 (fun x4 S2 => Gr S1 S2 → bl x4 → (((x4 = 0) → (P_X11_saves_39 Q v0 S2)) ∧ ((¬ x4 = 0) → (P_X11_isRoad v0 v2 (fun x8 S6 => Gr S2 S6 → bl x8 → (((x8 = 0) → (P_X11_saves_39 Q v0 S6)) ∧ ((¬ x8 = 0) → (P_X11_in v3 (0 : Int32) (1 : Int32) (fun x12 S10 => Gr S6 S10 → bl x12 → (((x12 = 0) → (P_X11_saves_39 Q v0 S10)) ∧ ((¬ x12 = 0) → (P_X11_isHour v0 v4 (fun x16 S14 => Gr S10 S14 → bl x16 → (((¬ x16 = 0) → (∃ a18 : Nat, fR S14 v0 3 = some a18 ∧ (ob S14 a18 10 ∧ (∃ a19 : Nat, fR S14 a18 24 = some a19 ∧ (ob S14 a19 13 ∧ (vp_in v1 (hN S14 a19) ∧ ∀ x21 : Int32, x21 = fI S14 a19 v1.toNatClampNeg → (P_X11_wetOf v0 v1 v2 v3 v4 x21 (fun x24 S22 => Gr S14 S22 → (P_X11_bestOf v0 v1 v2 v3 v4 (fun x27 S25 => Gr S22 S25 → (P_X11_wetOf v0 v1 v2 v3 v4 x27 (fun x30 S28 => Gr S25 S28 → (P_X11_told v0 (x24 - x30) (2520 : Int64) v5 (fun x33 S31 => Gr S28 S31 → (Q x33 S31)) S28)) S25)) S22)) S14))))))) ∧ ((x16 = 0) → (P_X11_saves_39 Q v0 S14)))) S10)))) S6)))) S2)))) S1))) : P_X11_saves_0 Q v0 v1 v2 v3 v4 v5 S := h
theorem u_X11_saves_39 {Q : Int64 → HS → Prop} {v0 : Nat} {S : HS} (h : ob S v0 11 ∧ (P_X11_refused v0 (1 : Int32) (fun x3 S1 => Gr S S1 → (Q x3.toInt64 S1)) S)) : P_X11_saves_39 Q v0 S := h
theorem u_X11_size {v0 : Nat} {v1 : Int32} {Q : Int32 → HS → Prop} {S : HS} (h : P_X11_size_0 Q v0 v1 S) : P_X11_size v0 v1 Q S := h
theorem u_X11_size_0 {Q : Int32 → HS → Prop} {v0 : Nat} {v1 : Int32} {S : HS} (h : ob S v0 11 ∧ (∀ S1 : HS, S1 = sI S v0 0 (0 : Int32) → (((¬ v1 = (11 : Int32)) → (P_X11_in v1 (0 : Int32) (10 : Int32) (fun x5 S3 => Gr S1 S3 → bl x5 → (((¬ x5 = 0) → ((fR S3 v0 3 = none → (Q (0 : Int32) S3)) ∧ (∀ a7 : Nat, fR S3 v0 3 = some a7 → ((v1.toInt < 0 ∨ 9 < v1.toInt → (∀ x10 : Int32, x10 = fI S3 v0 25 → (Q x10 S3))) ∧ (v1.toInt = 0 → (∃ a11 : Nat, fR S3 v0 3 = some a11 ∧ (ob S3 a11 10 ∧ (∀ x12 : Int32, x12 = fI S3 a11 0 → (Q x12 S3))))) ∧ (v1.toInt = 1 → (∃ a13 : Nat, fR S3 v0 3 = some a13 ∧ (ob S3 a13 10 ∧ (∀ x14 : Int32, x14 = fI S3 a13 1 → (Q x14 S3))))) ∧ (v1.toInt = 2 → (∃ a15 : Nat, fR S3 v0 3 = some a15 ∧ (ob S3 a15 10 ∧ (∀ x16 : Int32, x16 = fI S3 a15 2 → (Q x16 S3))))) ∧ (v1.toInt = 3 → (∃ a17 : Nat, fR S3 v0 3 = some a17 ∧ (ob S3 a17 10 ∧ (∀ x18 : Int32, x18 = fI S3 a17 3 → (Q x18 S3))))) ∧ (v1.toInt = 4 → (∃ a19 : Nat, fR S3 v0 3 = some a19 ∧ (ob S3 a19 10 ∧ (∀ x20 : Int32, x20 = fI S3 a19 4 → (Q x20 S3))))) ∧ (v1.toInt = 5 → (∃ a21 : Nat, fR S3 v0 3 = some a21 ∧ (ob S3 a21 10 ∧ (∀ x22 : Int32, x22 = fI S3 a21 5 → (Q x22 S3))))) ∧ (v1.toInt = 6 → (∀ x23 : Int32, x23 = fI S3 v0 19 → (Q x23 S3))) ∧ (v1.toInt = 7 → (P_X11_isDay v0 (fun x26 S24 => Gr S3 S24 → bl x26 → (((x26 = 0) → (Q (-2 : Int32) S24)) ∧ ((¬ x26 = 0) → (∃ a28 : Nat, fR S24 v0 21 = some a28 ∧ (ob S24 a28 14 ∧ (vp_in (0 : Int32) (hN S24 a28) ∧ ∀ x30 : Int64, x30 = fJ S24 a28 (0 : Int32).toNatClampNeg → (Q x30.toInt32 S24))))))) S3)) ∧ (v1.toInt = 8 → (P_X11_isDay v0 (fun x33 S31 => Gr S3 S31 → bl x33 → (((x33 = 0) → (Q (0 : Int32) S31)) ∧ ((¬ x33 = 0) → (∃ a35 : Nat, fR S31 v0 21 = some a35 ∧ (ob S31 a35 14 ∧ (vp_in (1 : Int32) (hN S31 a35) ∧ ∀ x37 : Int64, x37 = fJ S31 a35 (1 : Int32).toNatClampNeg → (Q x37.toInt32 S31))))))) S3)) ∧ (v1.toInt = 9 → (∀ x38 : Int32, x38 = fI S3 v0 24 → (Q x38 S3))))))) ∧ ((x5 = 0) → (Q (-1 : Int32) S3)))) S1)) ∧ ((v1 = (11 : Int32)) → (∀ x39 : Int32, x39 = fI S1 v0 6 → (Q x39 S1)))))) : P_X11_size_0 Q v0 v1 S := h
theorem u_X11_soaked {v0 : Nat} {Q : Int32 → HS → Prop} {S : HS} (h : P_X11_soaked_0 Q v0 S) : P_X11_soaked v0 Q S := h
theorem u_X11_soaked_0 {Q : Int32 → HS → Prop} {v0 : Nat} {S : HS} (h : ob S v0 11 ∧ (∀ S1 : HS, S1 = sI S v0 0 (0 : Int32) → (P_X11_isDay v0 (fun x4 S2 => Gr S1 S2 → bl x4 → (((¬ x4 = 0) → (∃ a6 : Nat, fR S2 v0 3 = some a6 ∧ (ob S2 a6 10 ∧ (∃ a7 : Nat, fR S2 a6 19 = some a7 ∧ (∀ x8 : Int32, x8 = fI S2 v0 19 → (ob S2 a7 13 ∧ (vp_in x8 (hN S2 a7) ∧ ∀ x10 : Int32, x10 = fI S2 a7 x8.toNatClampNeg → (((x10 = (2 : Int32)) → (P_X11_gotInAll v0 (fun x14 S12 => Gr S2 S12 → (P_X11_holds v0 (fun x17 S15 => Gr S12 S15 → ((((lg_cmp x14 x17) ≤ 0) → (P_X11_soaked_57 Q v0 (0 : Int32) S15)) ∧ ((¬ (lg_cmp x14 x17) ≤ 0) → (P_X11_soaked_57 Q v0 (1 : Int32) S15)))) S12)) S2)) ∧ ((¬ x10 = (2 : Int32)) → (P_X11_soaked_57 Q v0 (-2 : Int32) S2)))))))))) ∧ ((x4 = 0) → (P_X11_refused v0 (1 : Int32) (fun x21 S19 => Gr S2 S19 → (Q x21 S19)) S2)))) S1))) : P_X11_soaked_0 Q v0 S := h
theorem u_X11_soaked_57 {Q : Int32 → HS → Prop} {s0 : Nat} {s1 : Int32} {S : HS} (h : ob S s0 11 ∧ (P_X11_good s0 s1 (fun x3 S1 => Gr S S1 → (Q x3 S1)) S)) : P_X11_soaked_57 Q s0 s1 S := h
theorem u_X11_stay {v0 : Nat} {v1 : Int32} {Q : Int32 → HS → Prop} {S : HS} (h : P_X11_stay_0 Q v0 v1 S) : P_X11_stay v0 v1 Q S := h
theorem u_X11_stay_0 {Q : Int32 → HS → Prop} {v0 : Nat} {v1 : Int32} {S : HS} (h : ob S v0 11 ∧ (∀ S1 : HS, S1 = sI S v0 0 (0 : Int32) → (P_X11_isDay v0 (fun x4 S2 => Gr S1 S2 → bl x4 → (((¬ x4 = 0) → (P_X11_in v1 (1 : Int32) (60 : Int32) (fun x8 S6 => Gr S2 S6 → bl x8 → (((¬ x8 = 0) → (∃ a10 : Nat, fR S6 v0 21 = some a10 ∧ (ob S6 a10 14 ∧ (vp_in (0 : Int32) (hN S6 a10) ∧ ∀ x12 : Int64, x12 = fJ S6 a10 (0 : Int32).toNatClampNeg → (∀ x13 : Int32, x13 = x12.toInt32 → (P_X11_canWait v0 x13 (fun x16 S14 => Gr S6 S14 → bl x16 → (((¬ x16 = 0) → (∃ a18 : Nat, fR S14 v0 21 = some a18 ∧ (ob S14 a18 14 ∧ (vp_in (1 : Int32) (hN S14 a18) ∧ ∀ x20 : Int64, x20 = fJ S14 a18 (1 : Int32).toNatClampNeg → ((((lg_cmp (x20 + v1.toInt64) (999 : Int64)) ≤ 0) → (P_X11_keeps v0 (fun S22 => Gr S14 S22 → (P_X11_stay_84 Q v0 v1 x13 (0 : Int32) S22)) S14)) ∧ ((¬ (lg_cmp (x20 + v1.toInt64) (999 : Int64)) ≤ 0) → (P_X11_denied v0 (3 : Int32) (fun x27 S25 => Gr S14 S25 → bl x27 → (bl x27 ∧ Q x27 S25)) S14))))))) ∧ ((x16 = 0) → (P_X11_denied v0 (5 : Int32) (fun x30 S28 => Gr S14 S28 → bl x30 → (bl x30 ∧ Q x30 S28)) S14)))) S6)))))) ∧ ((x8 = 0) → (P_X11_denied v0 (2 : Int32) (fun x33 S31 => Gr S6 S31 → bl x33 → (bl x33 ∧ Q x33 S31)) S6)))) S2)) ∧ ((x4 = 0) → (P_X11_denied v0 (1 : Int32) (fun x36 S34 => Gr S2 S34 → bl x36 → (bl x36 ∧ Q x36 S34)) S2)))) S1))) : P_X11_stay_0 Q v0 v1 S := h
theorem u_X11_stay_84 {Q : Int32 → HS → Prop} {X84 : Nat → Int32 → Int32 → Int32 → HS → Prop} {v0 : Nat} {v1 : Int32} {v2 : Int32} {v3 : Int32} {S : HS} (h : ((v1 ≤ v3) → (ob S v0 11 ∧ (P_X11_granted v0 (fun x4 S2 => Gr S S2 → bl x4 → (bl x4 ∧ Q x4 S2)) S))) ∧ ((¬ v1 ≤ v3) → (ob S v0 11 ∧ (∃ a5 : Nat, fR S v0 3 = some a5 ∧ (ob S a5 10 ∧ (∃ a6 : Nat, fR S a5 18 = some a6 ∧ (ob S a6 15 ∧ (vp_in v2 (hN S a6) ∧ ∀ x8 : Int32, x8 = fI S a6 v2.toNatClampNeg → (((¬ x8 = 0) → (P_X11_stay_133 Q X84 v0 v1 v2 v3 S)) ∧ ((x8 = 0) → (∃ a10 : Nat, fR S v0 21 = some a10 ∧ (ob S a10 14 ∧ (vp_in (1 : Int32) (hN S a10) ∧ ∀ x12 : Int64, x12 = fJ S a10 (1 : Int32).toNatClampNeg → (P_X11_rainsIn v0 x12.toInt32 (fun x15 S13 => Gr S S13 → bl x15 → (((x15 = 0) → (P_X11_stay_133 Q X84 v0 v1 v2 v3 S13)) ∧ ((¬ x15 = 0) → (∃ a17 : Nat, fR S13 v0 21 = some a17 ∧ (ob S13 a17 14 ∧ (vp_in (2 : Int32) (hN S13 a17) ∧ ∀ x19 : Int64, x19 = fJ S13 a17 (2 : Int32).toNatClampNeg → (∀ x20 : Int32, x20 = fI S13 v0 19 → (P_X11_drips v0 x20 v2 (fun x23 S21 => Gr S13 S21 → (∀ x25 : Int64, x25 = x19 + x23 → (vp_in (2 : Int32) (hN S21 a17) ∧ (∀ S26 : HS, S26 = sJ S21 a17 (2 : Int32).toNatClampNeg x25 → (P_X11_stay_133 Q X84 v0 v1 v2 v3 S26))))) S13)))))))) S)))))))))))))) : B_X11_stay_84 Q X84 v0 v1 v2 v3 S := h
theorem i_X11_stay_84 {Q : Int32 → HS → Prop} (μ : Nat → Int32 → Int32 → Int32 → HS → Nat) (I : Nat → Int32 → Int32 → Int32 → HS → Prop) (hs : ∀ (v0 : Nat) (v1 : Int32) (v2 : Int32) (v3 : Int32) (S : HS) (X : Nat → Int32 → Int32 → Int32 → HS → Prop), I v0 v1 v2 v3 S → (∀ (w0 : Nat) (w1 : Int32) (w2 : Int32) (w3 : Int32) (T : HS), I w0 w1 w2 w3 T → μ w0 w1 w2 w3 T < μ v0 v1 v2 v3 S → X w0 w1 w2 w3 T) → B_X11_stay_84 Q X v0 v1 v2 v3 S) : ∀ (v0 : Nat) (v1 : Int32) (v2 : Int32) (v3 : Int32) (S : HS), I v0 v1 v2 v3 S → P_X11_stay_84 Q v0 v1 v2 v3 S := by
  intro v0 v1 v2 v3 S h X hX
  have key : ∀ (z : Nat) (v0 : Nat) (v1 : Int32) (v2 : Int32) (v3 : Int32) (S : HS), μ v0 v1 v2 v3 S < z → I v0 v1 v2 v3 S → X v0 v1 v2 v3 S := by
    intro z
    induction z with
    | zero => intro v0 v1 v2 v3 S hz; exact absurd hz (Nat.not_lt_zero _)
    | succ z ih => intro v0 v1 v2 v3 S hz hI; exact hX _ _ _ _ _ (hs _ _ _ _ _ _ hI (fun w0 w1 w2 w3 T hT hl => ih _ _ _ _ _ (by omega) hT))
  exact key _ _ _ _ _ _ (Nat.lt_succ_self _) h
theorem u_X11_stay_133 {Q : Int32 → HS → Prop} {X84 : Nat → Int32 → Int32 → Int32 → HS → Prop} {v0 : Nat} {v1 : Int32} {v2 : Int32} {v3 : Int32} {S : HS} (h : ob S v0 11 ∧ (∃ a1 : Nat, fR S v0 21 = some a1 ∧ (ob S a1 14 ∧ (vp_in (1 : Int32) (hN S a1) ∧ ∀ x3 : Int64, x3 = fJ S a1 (1 : Int32).toNatClampNeg → (∀ x5 : Int64, x5 = x3 + (1 : Int64) → (vp_in (1 : Int32) (hN S a1) ∧ (∀ S6 : HS, S6 = sJ S a1 (1 : Int32).toNatClampNeg x5 → (∀ x7 : Int32, x7 = v3 + (1 : Int32) → (X84 v0 v1 v2 x7 S6))))))))) : P_X11_stay_133 Q X84 v0 v1 v2 v3 S := h
theorem u_X11_together {v0 : Nat} {v1 : Int32} {v2 : Int32} {v3 : Int32} {v4 : Int32} {v5 : Int32} {v6 : Int32} {Q : Int64 → HS → Prop} {S : HS} (h : P_X11_together_0 Q v0 v1 v2 v3 v4 v5 v6 S) : P_X11_together v0 v1 v2 v3 v4 v5 v6 Q S := h
theorem u_X11_together_0 {Q : Int64 → HS → Prop} {v0 : Nat} {v1 : Int32} {v2 : Int32} {v3 : Int32} {v4 : Int32} {v5 : Int32} {v6 : Int32} {S : HS} (h : P_X11_together_6 Q v0 v1 v2 v3 v4 v5 v6 (0 : Int64) (0 : Int32) S) : P_X11_together_0 Q v0 v1 v2 v3 v4 v5 v6 S := h
theorem u_X11_together_6 {Q : Int64 → HS → Prop} {X6 : Nat → Int32 → Int32 → Int32 → Int32 → Int32 → Int32 → Int64 → Int32 → HS → Prop} {v0 : Nat} {v1 : Int32} {v2 : Int32} {v3 : Int32} {v4 : Int32} {v5 : Int32} {v6 : Int32} {v7 : Int64} {v9 : Int32} {S : HS} (h : (((5 : Int32) ≤ v9) → (ob S v0 11 ∧ (∃ a2 : Nat, fR S v0 3 = some a2 ∧ (ob S a2 10 ∧ (∃ a3 : Nat, fR S a2 16 = some a3 ∧ (ob S a3 13 ∧ (vp_in v3 (hN S a3) ∧ ∀ x5 : Int32, x5 = fI S a3 v3.toNatClampNeg → (∃ a6 : Nat, fR S v0 3 = some a6 ∧ (ob S a6 10 ∧ (∃ a7 : Nat, fR S a6 17 = some a7 ∧ (ob S a7 13 ∧ (vp_in v3 (hN S a7) ∧ ∀ x9 : Int32, x9 = fI S a7 v3.toNatClampNeg → (¬ v6 = 0 ∧ ∀ x11 : Int32, x11 = (2520 : Int32) / v6 → (Q ((v7 * ((x5 - x9).toInt64)) * x11.toInt64) S)))))))))))))) ∧ ((¬ (5 : Int32) ≤ v9) → (ob S v0 11 ∧ (∃ a12 : Nat, fR S v0 3 = some a12 ∧ (ob S a12 10 ∧ (∃ a13 : Nat, fR S a12 22 = some a13 ∧ (ob S a13 13 ∧ (vp_in v2 (hN S a13) ∧ ∀ x15 : Int32, x15 = fI S a13 v2.toNatClampNeg → (P_X11_inTime v0 v1 v3 v4 v5 v6 v9 (0 : Int32) x15 (fun x18 S16 => Gr S S16 → (∀ x19 : Int64, x19 = v7 + x18.toInt64 → (∃ a20 : Nat, fR S16 v0 3 = some a20 ∧ (ob S16 a20 10 ∧ (∃ a21 : Nat, fR S16 a20 22 = some a21 ∧ (ob S16 a21 13 ∧ (vp_in v1 (hN S16 a21) ∧ ∀ x23 : Int32, x23 = fI S16 a21 v1.toNatClampNeg → (P_X11_inTime v0 v2 v3 v4 v5 v6 v9 x23 (0 : Int32) (fun x26 S24 => Gr S16 S24 → (∀ x27 : Int64, x27 = x19 + x26.toInt64 → (∀ x28 : Int32, x28 = v9 + (1 : Int32) → (X6 v0 v1 v2 v3 v4 v5 v6 x27 x28 S24)))) S16)))))))) S))))))))) : B_X11_together_6 Q X6 v0 v1 v2 v3 v4 v5 v6 v7 v9 S := h
theorem i_X11_together_6 {Q : Int64 → HS → Prop} (μ : Nat → Int32 → Int32 → Int32 → Int32 → Int32 → Int32 → Int64 → Int32 → HS → Nat) (I : Nat → Int32 → Int32 → Int32 → Int32 → Int32 → Int32 → Int64 → Int32 → HS → Prop) (hs : ∀ (v0 : Nat) (v1 : Int32) (v2 : Int32) (v3 : Int32) (v4 : Int32) (v5 : Int32) (v6 : Int32) (v7 : Int64) (v9 : Int32) (S : HS) (X : Nat → Int32 → Int32 → Int32 → Int32 → Int32 → Int32 → Int64 → Int32 → HS → Prop), I v0 v1 v2 v3 v4 v5 v6 v7 v9 S → (∀ (w0 : Nat) (w1 : Int32) (w2 : Int32) (w3 : Int32) (w4 : Int32) (w5 : Int32) (w6 : Int32) (w7 : Int64) (w9 : Int32) (T : HS), I w0 w1 w2 w3 w4 w5 w6 w7 w9 T → μ w0 w1 w2 w3 w4 w5 w6 w7 w9 T < μ v0 v1 v2 v3 v4 v5 v6 v7 v9 S → X w0 w1 w2 w3 w4 w5 w6 w7 w9 T) → B_X11_together_6 Q X v0 v1 v2 v3 v4 v5 v6 v7 v9 S) : ∀ (v0 : Nat) (v1 : Int32) (v2 : Int32) (v3 : Int32) (v4 : Int32) (v5 : Int32) (v6 : Int32) (v7 : Int64) (v9 : Int32) (S : HS), I v0 v1 v2 v3 v4 v5 v6 v7 v9 S → P_X11_together_6 Q v0 v1 v2 v3 v4 v5 v6 v7 v9 S := by
  intro v0 v1 v2 v3 v4 v5 v6 v7 v9 S h X hX
  have key : ∀ (z : Nat) (v0 : Nat) (v1 : Int32) (v2 : Int32) (v3 : Int32) (v4 : Int32) (v5 : Int32) (v6 : Int32) (v7 : Int64) (v9 : Int32) (S : HS), μ v0 v1 v2 v3 v4 v5 v6 v7 v9 S < z → I v0 v1 v2 v3 v4 v5 v6 v7 v9 S → X v0 v1 v2 v3 v4 v5 v6 v7 v9 S := by
    intro z
    induction z with
    | zero => intro v0 v1 v2 v3 v4 v5 v6 v7 v9 S hz; exact absurd hz (Nat.not_lt_zero _)
    | succ z ih => intro v0 v1 v2 v3 v4 v5 v6 v7 v9 S hz hI; exact hX _ _ _ _ _ _ _ _ _ _ (hs _ _ _ _ _ _ _ _ _ _ _ hI (fun w0 w1 w2 w3 w4 w5 w6 w7 w9 T hT hl => ih _ _ _ _ _ _ _ _ _ _ (by omega) hT))
  exact key _ _ _ _ _ _ _ _ _ _ _ (Nat.lt_succ_self _) h
theorem u_X11_told {v0 : Nat} {v1 : Int64} {v3 : Int64} {v5 : Int32} {Q : Int64 → HS → Prop} {S : HS} (h : P_X11_told_0 Q v0 v1 v3 v5 S) : P_X11_told v0 v1 v3 v5 Q S := h
theorem u_X11_told_0 {Q : Int64 → HS → Prop} {v0 : Nat} {v1 : Int64} {v3 : Int64} {v5 : Int32} {S : HS} (h : ob S v0 11 ∧ (P_X11_good v0 (0 : Int32) (fun x3 S1 => Gr S S1 → (P_X11_told_12 Q v1 v3 v5 v1 v3 S1)) S)) : P_X11_told_0 Q v0 v1 v3 v5 S := h
theorem u_X11_told_12 {Q : Int64 → HS → Prop} {X12 : Int64 → Int64 → Int32 → Int64 → Int64 → HS → Prop} {v1 : Int64} {v3 : Int64} {v5 : Int32} {v6 : Int64} {v8 : Int64} {S : HS} (h : (((lg_cmp v8 (0 : Int64)) = 0) → (((v5 = 0) → (¬ v6 = 0 ∧ ∀ x4 : Int64, x4 = v1 / v6 → (Q x4 S))) ∧ ((¬ v5 = 0) → (¬ v6 = 0 ∧ ∀ x6 : Int64, x6 = v3 / v6 → (Q x6 S))))) ∧ ((¬ (lg_cmp v8 (0 : Int64)) = 0) → (¬ v8 = 0 ∧ ∀ x8 : Int64, x8 = v6 - v6 / v8 * v8 → (X12 v1 v3 v5 v8 x8 S)))) : B_X11_told_12 Q X12 v1 v3 v5 v6 v8 S := h
theorem i_X11_told_12 {Q : Int64 → HS → Prop} (μ : Int64 → Int64 → Int32 → Int64 → Int64 → HS → Nat) (I : Int64 → Int64 → Int32 → Int64 → Int64 → HS → Prop) (hs : ∀ (v1 : Int64) (v3 : Int64) (v5 : Int32) (v6 : Int64) (v8 : Int64) (S : HS) (X : Int64 → Int64 → Int32 → Int64 → Int64 → HS → Prop), I v1 v3 v5 v6 v8 S → (∀ (w1 : Int64) (w3 : Int64) (w5 : Int32) (w6 : Int64) (w8 : Int64) (T : HS), I w1 w3 w5 w6 w8 T → μ w1 w3 w5 w6 w8 T < μ v1 v3 v5 v6 v8 S → X w1 w3 w5 w6 w8 T) → B_X11_told_12 Q X v1 v3 v5 v6 v8 S) : ∀ (v1 : Int64) (v3 : Int64) (v5 : Int32) (v6 : Int64) (v8 : Int64) (S : HS), I v1 v3 v5 v6 v8 S → P_X11_told_12 Q v1 v3 v5 v6 v8 S := by
  intro v1 v3 v5 v6 v8 S h X hX
  have key : ∀ (z : Nat) (v1 : Int64) (v3 : Int64) (v5 : Int32) (v6 : Int64) (v8 : Int64) (S : HS), μ v1 v3 v5 v6 v8 S < z → I v1 v3 v5 v6 v8 S → X v1 v3 v5 v6 v8 S := by
    intro z
    induction z with
    | zero => intro v1 v3 v5 v6 v8 S hz; exact absurd hz (Nat.not_lt_zero _)
    | succ z ih => intro v1 v3 v5 v6 v8 S hz hI; exact hX _ _ _ _ _ _ (hs _ _ _ _ _ _ _ hI (fun w1 w3 w5 w6 w8 T hT hl => ih _ _ _ _ _ _ (by omega) hT))
  exact key _ _ _ _ _ _ _ (Nat.lt_succ_self _) h
theorem u_X11_trouble {v0 : Nat} {Q : Int32 → HS → Prop} {S : HS} (h : P_X11_trouble_0 Q v0 S) : P_X11_trouble v0 Q S := h
theorem u_X11_trouble_0 {Q : Int32 → HS → Prop} {v0 : Nat} {S : HS} (h : ob S v0 11 ∧ (∀ S1 : HS, S1 = sI S v0 0 (0 : Int32) → (∀ x2 : Int32, x2 = fI S1 v0 1 → (Q x2 S1)))) : P_X11_trouble_0 Q v0 S := h
theorem u_X11_undo {v0 : Nat} {Q : Int32 → HS → Prop} {S : HS} (h : P_X11_undo_0 Q v0 S) : P_X11_undo v0 Q S := h
theorem u_X11_undo_0 {Q : Int32 → HS → Prop} {v0 : Nat} {S : HS} (h : ob S v0 11 ∧ (∀ S1 : HS, S1 = sI S v0 0 (0 : Int32) → (P_X11_isDay v0 (fun x4 S2 => Gr S1 S2 → bl x4 → (((x4 = 0) → (P_X11_undo_19 Q v0 S2)) ∧ ((¬ x4 = 0) → (∀ x6 : Int32, x6 = fI S2 v0 24 → (((¬ x6 = 0) → (∀ x8 : Int32, x8 = fI S2 v0 24 → (∀ x9 : Int32, x9 = x8 - (1 : Int32) → (∀ S10 : HS, S10 = sI S2 v0 24 x9 → (P_X11_undo_38 Q v0 (0 : Int32) S10))))) ∧ ((x6 = 0) → (P_X11_undo_19 Q v0 S2))))))) S1))) : P_X11_undo_0 Q v0 S := h
theorem u_X11_undo_19 {Q : Int32 → HS → Prop} {v0 : Nat} {S : HS} (h : ob S v0 11 ∧ (P_X11_denied v0 (6 : Int32) (fun x3 S1 => Gr S S1 → bl x3 → (bl x3 ∧ Q x3 S1)) S)) : P_X11_undo_19 Q v0 S := h
theorem u_X11_undo_38 {Q : Int32 → HS → Prop} {X38 : Nat → Int32 → HS → Prop} {v0 : Nat} {v1 : Int32} {S : HS} (h : (((7 : Int32) ≤ v1) → (ob S v0 11 ∧ (P_X11_granted v0 (fun x4 S2 => Gr S S2 → bl x4 → (bl x4 ∧ Q x4 S2)) S))) ∧ ((¬ (7 : Int32) ≤ v1) → (ob S v0 11 ∧ (∃ a5 : Nat, fR S v0 21 = some a5 ∧ (∃ a6 : Nat, fR S v0 22 = some a6 ∧ (∀ x7 : Int32, x7 = fI S v0 24 → (ob S a6 14 ∧ (∀ x9 : Int32, x9 = ((7 : Int32) * x7) + v1 → (vp_in x9 (hN S a6) ∧ ∀ x10 : Int64, x10 = fJ S a6 x9.toNatClampNeg → (ob S a5 14 ∧ (vp_in v1 (hN S a5) ∧ (∀ S12 : HS, S12 = sJ S a5 v1.toNatClampNeg x10 → (∀ x13 : Int32, x13 = v1 + (1 : Int32) → (X38 v0 x13 S12)))))))))))))) : B_X11_undo_38 Q X38 v0 v1 S := h
theorem i_X11_undo_38 {Q : Int32 → HS → Prop} (μ : Nat → Int32 → HS → Nat) (I : Nat → Int32 → HS → Prop) (hs : ∀ (v0 : Nat) (v1 : Int32) (S : HS) (X : Nat → Int32 → HS → Prop), I v0 v1 S → (∀ (w0 : Nat) (w1 : Int32) (T : HS), I w0 w1 T → μ w0 w1 T < μ v0 v1 S → X w0 w1 T) → B_X11_undo_38 Q X v0 v1 S) : ∀ (v0 : Nat) (v1 : Int32) (S : HS), I v0 v1 S → P_X11_undo_38 Q v0 v1 S := by
  intro v0 v1 S h X hX
  have key : ∀ (z : Nat) (v0 : Nat) (v1 : Int32) (S : HS), μ v0 v1 S < z → I v0 v1 S → X v0 v1 S := by
    intro z
    induction z with
    | zero => intro v0 v1 S hz; exact absurd hz (Nat.not_lt_zero _)
    | succ z ih => intro v0 v1 S hz hI; exact hX _ _ _ (hs _ _ _ _ hI (fun w0 w1 T hT hl => ih _ _ _ (by omega) hT))
  exact key _ _ _ _ (Nat.lt_succ_self _) h
theorem u_X11_walker {v0 : Nat} {v1 : Int32} {v2 : Int32} {Q : Int32 → HS → Prop} {S : HS} (h : P_X11_walker_0 Q v0 v1 v2 S) : P_X11_walker v0 v1 v2 Q S := h
theorem u_X11_walker_0 {Q : Int32 → HS → Prop} {v0 : Nat} {v1 : Int32} {v2 : Int32} {S : HS} (h : ob S v0 11 ∧ (∀ S1 : HS, S1 = sI S v0 0 (0 : Int32) → (P_X11_isWalker v0 v1 (fun x4 S2 => Gr S1 S2 → bl x4 → (((x4 = 0) → (P_X11_walker_23 Q v0 S2)) ∧ ((¬ x4 = 0) → (P_X11_in v2 (0 : Int32) (6 : Int32) (fun x8 S6 => Gr S2 S6 → bl x8 → (((¬ x8 = 0) → ((v2.toInt < 0 ∨ 5 < v2.toInt → (∃ a11 : Nat, fR S6 v0 3 = some a11 ∧ (ob S6 a11 10 ∧ (∃ a12 : Nat, fR S6 a11 25 = some a12 ∧ (ob S6 a12 13 ∧ (vp_in v1 (hN S6 a12) ∧ ∀ x14 : Int32, x14 = fI S6 a12 v1.toNatClampNeg → (P_X11_good v0 x14 (fun x17 S15 => Gr S6 S15 → (Q x17 S15)) S6))))))) ∧ (v2.toInt = 0 → (∃ a18 : Nat, fR S6 v0 3 = some a18 ∧ (ob S6 a18 10 ∧ (∃ a19 : Nat, fR S6 a18 19 = some a19 ∧ (ob S6 a19 13 ∧ (vp_in v1 (hN S6 a19) ∧ ∀ x21 : Int32, x21 = fI S6 a19 v1.toNatClampNeg → (P_X11_good v0 x21 (fun x24 S22 => Gr S6 S22 → (Q x24 S22)) S6))))))) ∧ (v2.toInt = 1 → (∃ a25 : Nat, fR S6 v0 3 = some a25 ∧ (ob S6 a25 10 ∧ (∃ a26 : Nat, fR S6 a25 20 = some a26 ∧ (ob S6 a26 13 ∧ (vp_in v1 (hN S6 a26) ∧ ∀ x28 : Int32, x28 = fI S6 a26 v1.toNatClampNeg → (P_X11_good v0 x28 (fun x31 S29 => Gr S6 S29 → (Q x31 S29)) S6))))))) ∧ (v2.toInt = 2 → (∃ a32 : Nat, fR S6 v0 3 = some a32 ∧ (ob S6 a32 10 ∧ (∃ a33 : Nat, fR S6 a32 21 = some a33 ∧ (ob S6 a33 13 ∧ (vp_in v1 (hN S6 a33) ∧ ∀ x35 : Int32, x35 = fI S6 a33 v1.toNatClampNeg → (P_X11_good v0 x35 (fun x38 S36 => Gr S6 S36 → (Q x38 S36)) S6))))))) ∧ (v2.toInt = 3 → (∃ a39 : Nat, fR S6 v0 3 = some a39 ∧ (ob S6 a39 10 ∧ (∃ a40 : Nat, fR S6 a39 22 = some a40 ∧ (ob S6 a40 13 ∧ (vp_in v1 (hN S6 a40) ∧ ∀ x42 : Int32, x42 = fI S6 a40 v1.toNatClampNeg → (P_X11_good v0 x42 (fun x45 S43 => Gr S6 S43 → (Q x45 S43)) S6))))))) ∧ (v2.toInt = 4 → (∃ a46 : Nat, fR S6 v0 3 = some a46 ∧ (ob S6 a46 10 ∧ (∃ a47 : Nat, fR S6 a46 23 = some a47 ∧ (ob S6 a47 13 ∧ (vp_in v1 (hN S6 a47) ∧ ∀ x49 : Int32, x49 = fI S6 a47 v1.toNatClampNeg → (P_X11_good v0 x49 (fun x52 S50 => Gr S6 S50 → (Q x52 S50)) S6))))))) ∧ (v2.toInt = 5 → (∃ a53 : Nat, fR S6 v0 3 = some a53 ∧ (ob S6 a53 10 ∧ (∃ a54 : Nat, fR S6 a53 24 = some a54 ∧ (ob S6 a54 13 ∧ (vp_in v1 (hN S6 a54) ∧ ∀ x56 : Int32, x56 = fI S6 a54 v1.toNatClampNeg → (P_X11_good v0 x56 (fun x59 S57 => Gr S6 S57 → (Q x59 S57)) S6))))))))) ∧ ((x8 = 0) → (P_X11_walker_23 Q v0 S6)))) S2)))) S1))) : P_X11_walker_0 Q v0 v1 v2 S := h
theorem u_X11_walker_23 {Q : Int32 → HS → Prop} {v0 : Nat} {S : HS} (h : ob S v0 11 ∧ (P_X11_refused v0 (1 : Int32) (fun x3 S1 => Gr S S1 → (Q x3 S1)) S)) : P_X11_walker_23 Q v0 S := h
theorem u_X11_wet {v0 : Nat} {v1 : Int32} {v2 : Int32} {v3 : Int32} {v4 : Int32} {v5 : Int32} {v6 : Int32} {Q : Int64 → HS → Prop} {S : HS} (h : P_X11_wet_0 Q v0 v1 v2 v3 v4 v5 v6 S) : P_X11_wet v0 v1 v2 v3 v4 v5 v6 Q S := h
theorem u_X11_wet_0 {Q : Int64 → HS → Prop} {v0 : Nat} {v1 : Int32} {v2 : Int32} {v3 : Int32} {v4 : Int32} {v5 : Int32} {v6 : Int32} {S : HS} (h : ob S v0 11 ∧ (∀ S1 : HS, S1 = sI S v0 0 (0 : Int32) → (P_X11_refuses v0 v1 v2 v3 v4 v5 (fun x4 S2 => Gr S1 S2 → (((x4 ≤ 0) → (P_X11_wetOf v0 v1 v2 v3 v4 v5 (fun x8 S6 => Gr S2 S6 → (P_X11_told v0 x8 (2520 : Int64) v6 (fun x11 S9 => Gr S6 S9 → (Q x11 S9)) S6)) S2)) ∧ ((¬ x4 ≤ 0) → (P_X11_refused v0 x4 (fun x14 S12 => Gr S2 S12 → (Q x14.toInt64 S12)) S2)))) S1))) : P_X11_wet_0 Q v0 v1 v2 v3 v4 v5 v6 S := h
theorem u_X11_wetAtBest {v0 : Nat} {v1 : Int32} {v2 : Int32} {v3 : Int32} {v4 : Int32} {Q : Int64 → HS → Prop} {S : HS} (h : P_X11_wetAtBest_0 Q v0 v1 v2 v3 v4 S) : P_X11_wetAtBest v0 v1 v2 v3 v4 Q S := h
theorem u_X11_wetAtBest_0 {Q : Int64 → HS → Prop} {v0 : Nat} {v1 : Int32} {v2 : Int32} {v3 : Int32} {v4 : Int32} {S : HS} (h : ob S v0 11 ∧ (P_X11_bestOf v0 v1 v2 v3 v4 (fun x3 S1 => Gr S S1 → (P_X11_wetOf v0 v1 v2 v3 v4 x3 (fun x6 S4 => Gr S1 S4 → (Q x6 S4)) S1)) S)) : P_X11_wetAtBest_0 Q v0 v1 v2 v3 v4 S := h
theorem u_X11_wetOf {v0 : Nat} {v1 : Int32} {v2 : Int32} {v3 : Int32} {v4 : Int32} {v5 : Int32} {Q : Int64 → HS → Prop} {S : HS} (h : P_X11_wetOf_0 Q v0 v1 v2 v3 v4 v5 S) : P_X11_wetOf v0 v1 v2 v3 v4 v5 Q S := h
theorem u_X11_wetOf_0 {Q : Int64 → HS → Prop} {v0 : Nat} {v1 : Int32} {v2 : Int32} {v3 : Int32} {v4 : Int32} {v5 : Int32} {S : HS} (h : P_X11_wetOf_6 Q v0 v1 v2 v3 v4 v5 (0 : Int64) (0 : Int32) S) : P_X11_wetOf_0 Q v0 v1 v2 v3 v4 v5 S := h
theorem u_X11_wetOf_6 {Q : Int64 → HS → Prop} {X6 : Nat → Int32 → Int32 → Int32 → Int32 → Int32 → Int64 → Int32 → HS → Prop} {v0 : Nat} {v1 : Int32} {v2 : Int32} {v3 : Int32} {v4 : Int32} {v5 : Int32} {v6 : Int64} {v8 : Int32} {S : HS} (h : (((5 : Int32) ≤ v8) → (Q v6 S)) ∧ ((¬ (5 : Int32) ≤ v8) → (ob S v0 11 ∧ (P_X11_partsOf v0 v1 v2 v3 v4 v5 v8 (fun x4 S2 => Gr S S2 → (∀ x5 : Int64, x5 = v6 + x4 → (∀ x6 : Int32, x6 = v8 + (1 : Int32) → (X6 v0 v1 v2 v3 v4 v5 x5 x6 S2)))) S)))) : B_X11_wetOf_6 Q X6 v0 v1 v2 v3 v4 v5 v6 v8 S := h
theorem i_X11_wetOf_6 {Q : Int64 → HS → Prop} (μ : Nat → Int32 → Int32 → Int32 → Int32 → Int32 → Int64 → Int32 → HS → Nat) (I : Nat → Int32 → Int32 → Int32 → Int32 → Int32 → Int64 → Int32 → HS → Prop) (hs : ∀ (v0 : Nat) (v1 : Int32) (v2 : Int32) (v3 : Int32) (v4 : Int32) (v5 : Int32) (v6 : Int64) (v8 : Int32) (S : HS) (X : Nat → Int32 → Int32 → Int32 → Int32 → Int32 → Int64 → Int32 → HS → Prop), I v0 v1 v2 v3 v4 v5 v6 v8 S → (∀ (w0 : Nat) (w1 : Int32) (w2 : Int32) (w3 : Int32) (w4 : Int32) (w5 : Int32) (w6 : Int64) (w8 : Int32) (T : HS), I w0 w1 w2 w3 w4 w5 w6 w8 T → μ w0 w1 w2 w3 w4 w5 w6 w8 T < μ v0 v1 v2 v3 v4 v5 v6 v8 S → X w0 w1 w2 w3 w4 w5 w6 w8 T) → B_X11_wetOf_6 Q X v0 v1 v2 v3 v4 v5 v6 v8 S) : ∀ (v0 : Nat) (v1 : Int32) (v2 : Int32) (v3 : Int32) (v4 : Int32) (v5 : Int32) (v6 : Int64) (v8 : Int32) (S : HS), I v0 v1 v2 v3 v4 v5 v6 v8 S → P_X11_wetOf_6 Q v0 v1 v2 v3 v4 v5 v6 v8 S := by
  intro v0 v1 v2 v3 v4 v5 v6 v8 S h X hX
  have key : ∀ (z : Nat) (v0 : Nat) (v1 : Int32) (v2 : Int32) (v3 : Int32) (v4 : Int32) (v5 : Int32) (v6 : Int64) (v8 : Int32) (S : HS), μ v0 v1 v2 v3 v4 v5 v6 v8 S < z → I v0 v1 v2 v3 v4 v5 v6 v8 S → X v0 v1 v2 v3 v4 v5 v6 v8 S := by
    intro z
    induction z with
    | zero => intro v0 v1 v2 v3 v4 v5 v6 v8 S hz; exact absurd hz (Nat.not_lt_zero _)
    | succ z ih => intro v0 v1 v2 v3 v4 v5 v6 v8 S hz hI; exact hX _ _ _ _ _ _ _ _ _ (hs _ _ _ _ _ _ _ _ _ _ hI (fun w0 w1 w2 w3 w4 w5 w6 w8 T hT hl => ih _ _ _ _ _ _ _ _ _ (by omega) hT))
  exact key _ _ _ _ _ _ _ _ _ _ (Nat.lt_succ_self _) h
theorem u_X11_wetness {v0 : Nat} {v1 : Int32} {Q : Int64 → HS → Prop} {S : HS} (h : P_X11_wetness_0 Q v0 v1 S) : P_X11_wetness v0 v1 Q S := h
theorem u_X11_wetness_0 {Q : Int64 → HS → Prop} {v0 : Nat} {v1 : Int32} {S : HS} (h : ob S v0 11 ∧ (∀ S1 : HS, S1 = sI S v0 0 (0 : Int32) → (P_X11_isDay v0 (fun x4 S2 => Gr S1 S2 → bl x4 → (((¬ x4 = 0) → (P_X11_gotInAll v0 (fun x8 S6 => Gr S2 S6 → (P_X11_holds v0 (fun x11 S9 => Gr S6 S9 → (∀ x12 : Int64, x12 = x8 - x11 → (((0 ≤ (lg_cmp x12 (0 : Int64))) → (P_X11_wetness_41 Q v1 v0 x12 S9)) ∧ ((¬ 0 ≤ (lg_cmp x12 (0 : Int64))) → (P_X11_wetness_41 Q v1 v0 (0 : Int64) S9))))) S6)) S2)) ∧ ((x4 = 0) → (P_X11_refused v0 (1 : Int32) (fun x16 S14 => Gr S2 S14 → (Q x16.toInt64 S14)) S2)))) S1))) : P_X11_wetness_0 Q v0 v1 S := h
theorem u_X11_wetness_41 {Q : Int64 → HS → Prop} {v1 : Int32} {s0 : Nat} {s1 : Int64} {S : HS} (h : ob S s0 11 ∧ (P_X11_told s0 s1 (2520 : Int64) v1 (fun x3 S1 => Gr S S1 → (Q x3 S1)) S)) : P_X11_wetness_41 Q v1 s0 s1 S := h
theorem u_X11_where {v0 : Nat} {Q : Int32 → HS → Prop} {S : HS} (h : P_X11_where_0 Q v0 S) : P_X11_where v0 Q S := h
theorem u_X11_where_0 {Q : Int32 → HS → Prop} {v0 : Nat} {S : HS} (h : ob S v0 11 ∧ (∀ S1 : HS, S1 = sI S v0 0 (0 : Int32) → (∀ x2 : Int32, x2 = fI S1 v0 2 → (Q x2 S1)))) : P_X11_where_0 Q v0 S := h
theorem u_X11_worst {v0 : Nat} {v1 : Int32} {v2 : Int32} {v3 : Int32} {v4 : Int32} {Q : Int32 → HS → Prop} {S : HS} (h : P_X11_worst_0 Q v0 v1 v2 v3 v4 S) : P_X11_worst v0 v1 v2 v3 v4 Q S := h
theorem u_X11_worst_0 {Q : Int32 → HS → Prop} {v0 : Nat} {v1 : Int32} {v2 : Int32} {v3 : Int32} {v4 : Int32} {S : HS} (h : ob S v0 11 ∧ (∀ S1 : HS, S1 = sI S v0 0 (0 : Int32) → (P_X11_isWalker v0 v1 (fun x4 S2 => Gr S1 S2 → bl x4 → (((x4 = 0) → (P_X11_worst_39 Q v0 S2)) ∧ ((¬ x4 = 0) → (P_X11_isRoad v0 v2 (fun x8 S6 => Gr S2 S6 → bl x8 → (((x8 = 0) → (P_X11_worst_39 Q v0 S6)) ∧ ((¬ x8 = 0) → (P_X11_in v3 (0 : Int32) (1 : Int32) (fun x12 S10 => Gr S6 S10 → bl x12 → (((x12 = 0) → (P_X11_worst_39 Q v0 S10)) ∧ ((¬ x12 = 0) → (P_X11_isHour v0 v4 (fun x16 S14 => Gr S10 S14 → bl x16 → (((¬ x16 = 0) → (∃ a18 : Nat, fR S14 v0 3 = some a18 ∧ (ob S14 a18 10 ∧ (∃ a19 : Nat, fR S14 a18 24 = some a19 ∧ (ob S14 a19 13 ∧ (vp_in v1 (hN S14 a19) ∧ ∀ x21 : Int32, x21 = fI S14 a19 v1.toNatClampNeg → (∀ x22 : Int32, x22 = x21 + (1 : Int32) → (P_X11_worst_62 Q v0 v1 v2 v3 v4 x21 x22 S14)))))))) ∧ ((x16 = 0) → (P_X11_worst_39 Q v0 S14)))) S10)))) S6)))) S2)))) S1))) : P_X11_worst_0 Q v0 v1 v2 v3 v4 S := h
theorem u_X11_worst_39 {Q : Int32 → HS → Prop} {v0 : Nat} {S : HS} (h : ob S v0 11 ∧ (P_X11_refused v0 (1 : Int32) (fun x3 S1 => Gr S S1 → (Q x3 S1)) S)) : P_X11_worst_39 Q v0 S := h
theorem u_X11_worst_62 {Q : Int32 → HS → Prop} {X62 : Nat → Int32 → Int32 → Int32 → Int32 → Int32 → Int32 → HS → Prop} {v0 : Nat} {v1 : Int32} {v2 : Int32} {v3 : Int32} {v4 : Int32} {v5 : Int32} {v6 : Int32} {S : HS} (h : ob S v0 11 ∧ (∃ a1 : Nat, fR S v0 3 = some a1 ∧ (ob S a1 10 ∧ (∃ a2 : Nat, fR S a1 25 = some a2 ∧ (ob S a2 13 ∧ (vp_in v1 (hN S a2) ∧ ∀ x4 : Int32, x4 = fI S a2 v1.toNatClampNeg → (((x4 < v6) → (P_X11_good v0 v5 (fun x8 S6 => Gr S S6 → (Q x8 S6)) S)) ∧ ((¬ x4 < v6) → (P_X11_wetOf v0 v1 v2 v3 v4 v6 (fun x11 S9 => Gr S S9 → (P_X11_wetOf v0 v1 v2 v3 v4 v5 (fun x14 S12 => Gr S9 S12 → ((((lg_cmp x11 x14) ≤ 0) → (P_X11_worst_106 Q X62 v0 v1 v2 v3 v4 v5 v6 S12)) ∧ ((¬ (lg_cmp x11 x14) ≤ 0) → (P_X11_worst_106 Q X62 v0 v1 v2 v3 v4 v6 v6 S12)))) S9)) S))))))))) : B_X11_worst_62 Q X62 v0 v1 v2 v3 v4 v5 v6 S := h
theorem i_X11_worst_62 {Q : Int32 → HS → Prop} (μ : Nat → Int32 → Int32 → Int32 → Int32 → Int32 → Int32 → HS → Nat) (I : Nat → Int32 → Int32 → Int32 → Int32 → Int32 → Int32 → HS → Prop) (hs : ∀ (v0 : Nat) (v1 : Int32) (v2 : Int32) (v3 : Int32) (v4 : Int32) (v5 : Int32) (v6 : Int32) (S : HS) (X : Nat → Int32 → Int32 → Int32 → Int32 → Int32 → Int32 → HS → Prop), I v0 v1 v2 v3 v4 v5 v6 S → (∀ (w0 : Nat) (w1 : Int32) (w2 : Int32) (w3 : Int32) (w4 : Int32) (w5 : Int32) (w6 : Int32) (T : HS), I w0 w1 w2 w3 w4 w5 w6 T → μ w0 w1 w2 w3 w4 w5 w6 T < μ v0 v1 v2 v3 v4 v5 v6 S → X w0 w1 w2 w3 w4 w5 w6 T) → B_X11_worst_62 Q X v0 v1 v2 v3 v4 v5 v6 S) : ∀ (v0 : Nat) (v1 : Int32) (v2 : Int32) (v3 : Int32) (v4 : Int32) (v5 : Int32) (v6 : Int32) (S : HS), I v0 v1 v2 v3 v4 v5 v6 S → P_X11_worst_62 Q v0 v1 v2 v3 v4 v5 v6 S := by
  intro v0 v1 v2 v3 v4 v5 v6 S h X hX
  have key : ∀ (z : Nat) (v0 : Nat) (v1 : Int32) (v2 : Int32) (v3 : Int32) (v4 : Int32) (v5 : Int32) (v6 : Int32) (S : HS), μ v0 v1 v2 v3 v4 v5 v6 S < z → I v0 v1 v2 v3 v4 v5 v6 S → X v0 v1 v2 v3 v4 v5 v6 S := by
    intro z
    induction z with
    | zero => intro v0 v1 v2 v3 v4 v5 v6 S hz; exact absurd hz (Nat.not_lt_zero _)
    | succ z ih => intro v0 v1 v2 v3 v4 v5 v6 S hz hI; exact hX _ _ _ _ _ _ _ _ (hs _ _ _ _ _ _ _ _ _ hI (fun w0 w1 w2 w3 w4 w5 w6 T hT hl => ih _ _ _ _ _ _ _ _ (by omega) hT))
  exact key _ _ _ _ _ _ _ _ _ (Nat.lt_succ_self _) h
theorem u_X11_worst_106 {Q : Int32 → HS → Prop} {X62 : Nat → Int32 → Int32 → Int32 → Int32 → Int32 → Int32 → HS → Prop} {v0 : Nat} {v1 : Int32} {v2 : Int32} {v3 : Int32} {v4 : Int32} {v5 : Int32} {v6 : Int32} {S : HS} (h : ∀ x1 : Int32, x1 = v6 + (1 : Int32) → (X62 v0 v1 v2 v3 v4 v5 x1 S)) : P_X11_worst_106 Q X62 v0 v1 v2 v3 v4 v5 v6 S := h
end
section
set_option maxHeartbeats 4000000 in
set_option maxRecDepth 20000 in
theorem m_X10_across {v0 : Nat} {v1 : Int32} {v2 : Int32} {v3 : Int32} {Q : Int32 → HS → Prop} {S : HS} (hI : IV S) (o_v0 : ob S v0 10)   (h0 : 0 ≤ v1 ∧ v1 < 12) (h1 : 0 ≤ v3 ∧ v3 < 6)  (hq : ∀ (r : Int32) (T : HS), IV T → Gr S T → (S = T) → Q r T) : P_X10_across v0 v1 v2 v3 Q S := by
  have g0 := gr_rf S
  refine u_X10_across ?_
  refine u_X10_across_0 ?_
  refine ⟨o_v0, ?_⟩
  obtain ⟨a1, ea1, o_a1, l_a1⟩ := shl 31 rfl hI o_v0
  refine ⟨a1, ea1, ?_⟩
  refine ⟨o_a1, ?_⟩
  refine ⟨(vin l_a1 (m := 6) (by decide) (qm21 h1)), ?_⟩
  intro x2 ex2
  refine u_X10_facing ?_
  refine u_X10_facing_0 ?_
  refine ⟨fun c3 => ?_, fun c3 => ?_⟩
  · refine ⟨o_v0, ?_⟩
    obtain ⟨a4, ea4, o_a4, l_a4⟩ := shl 37 rfl hI o_v0
    refine ⟨a4, ea4, ?_⟩
    refine ⟨o_a4, ?_⟩
    refine ⟨(vin l_a4 (m := 12) (by decide) (qm63 h0 c3)), ?_⟩
    intro x5 ex5
    intro _
    intro x7 ex7
    refine ⟨fun c8 => ?_, fun c8 => ?_⟩
    · refine ⟨fun c9 => ?_, fun c9 => ?_⟩
      · exact hq _ _ hI g0 rfl
      · obtain ⟨a10, ea10, o_a10, l_a10⟩ := shl 32 rfl hI o_v0
        refine ⟨a10, ea10, ?_⟩
        refine ⟨o_a10, ?_⟩
        refine ⟨(vin l_a10 (m := 6) (by decide) (qm69 h1 c3 ex7 c8 c9)), ?_⟩
        intro x11 ex11
        exact hq _ _ hI g0 rfl
    · obtain ⟨a12, ea12, o_a12, l_a12⟩ := shl 32 rfl hI o_v0
      refine ⟨a12, ea12, ?_⟩
      refine ⟨o_a12, ?_⟩
      refine ⟨(vin l_a12 (m := 6) (by decide) (qm70 h1 c3 ex7 c8)), ?_⟩
      intro x13 ex13
      exact hq _ _ hI g0 rfl
  · refine ⟨o_v0, ?_⟩
    obtain ⟨a14, ea14, o_a14, l_a14⟩ := shl 37 rfl hI o_v0
    refine ⟨a14, ea14, ?_⟩
    refine ⟨o_a14, ?_⟩
    refine ⟨(vin l_a14 (m := 12) (by decide) (qm66 h0 c3)), ?_⟩
    intro x15 ex15
    intro _
    intro x17 ex17
    refine ⟨fun c18 => ?_, fun c18 => ?_⟩
    · refine ⟨fun c19 => ?_, fun c19 => ?_⟩
      · exact hq _ _ hI g0 rfl
      · obtain ⟨a20, ea20, o_a20, l_a20⟩ := shl 32 rfl hI o_v0
        refine ⟨a20, ea20, ?_⟩
        refine ⟨o_a20, ?_⟩
        refine ⟨(vin l_a20 (m := 6) (by decide) (qm71 h1 c3 ex17 c18 c19)), ?_⟩
        intro x21 ex21
        exact hq _ _ hI g0 rfl
    · obtain ⟨a22, ea22, o_a22, l_a22⟩ := shl 32 rfl hI o_v0
      refine ⟨a22, ea22, ?_⟩
      refine ⟨o_a22, ?_⟩
      refine ⟨(vin l_a22 (m := 6) (by decide) (qm72 h1 c3 ex17 c18)), ?_⟩
      intro x23 ex23
      exact hq _ _ hI g0 rfl
set_option maxHeartbeats 4000000 in
set_option maxRecDepth 20000 in
theorem m_X10_air {v0 : Nat} {v1 : Int32} {v2 : Int32} {v3 : Int32} {Q : Int32 → HS → Prop} {S : HS} (hI : IV S) (o_v0 : ob S v0 10)   (h0 : 0 ≤ v1 ∧ v1 < 12) (h1 : 0 ≤ v3 ∧ v3 < 6)  (hq : ∀ (r : Int32) (T : HS), IV T → Gr S T → (S = T) → Q r T) : P_X10_air v0 v1 v2 v3 Q S := by
  have g0 := gr_rf S
  refine u_X10_air ?_
  refine u_X10_air_0 ?_
  refine ⟨o_v0, ?_⟩
  obtain ⟨a1, ea1, o_a1, l_a1⟩ := shl 31 rfl hI o_v0
  refine ⟨a1, ea1, ?_⟩
  refine ⟨o_a1, ?_⟩
  refine ⟨(vin l_a1 (m := 6) (by decide) (qm21 h1)), ?_⟩
  intro x2 ex2
  refine u_X10_facing ?_
  refine u_X10_facing_0 ?_
  refine ⟨fun c3 => ?_, fun c3 => ?_⟩
  · refine ⟨o_v0, ?_⟩
    obtain ⟨a4, ea4, o_a4, l_a4⟩ := shl 37 rfl hI o_v0
    refine ⟨a4, ea4, ?_⟩
    refine ⟨o_a4, ?_⟩
    refine ⟨(vin l_a4 (m := 12) (by decide) (qm63 h0 c3)), ?_⟩
    intro x5 ex5
    intro _
    intro x7 ex7
    refine ⟨fun c8 => ?_, fun c8 => ?_⟩
    · refine ⟨fun c9 => ?_, fun c9 => ?_⟩
      · exact hq _ _ hI g0 rfl
      · obtain ⟨a10, ea10, o_a10, l_a10⟩ := shl 32 rfl hI o_v0
        refine ⟨a10, ea10, ?_⟩
        refine ⟨o_a10, ?_⟩
        refine ⟨(vin l_a10 (m := 6) (by decide) (qm64 h1 c3 ex7 c8 c9)), ?_⟩
        intro x11 ex11
        exact hq _ _ hI g0 rfl
    · obtain ⟨a12, ea12, o_a12, l_a12⟩ := shl 32 rfl hI o_v0
      refine ⟨a12, ea12, ?_⟩
      refine ⟨o_a12, ?_⟩
      refine ⟨(vin l_a12 (m := 6) (by decide) (qm65 h1 c3 ex7 c8)), ?_⟩
      intro x13 ex13
      exact hq _ _ hI g0 rfl
  · refine ⟨o_v0, ?_⟩
    obtain ⟨a14, ea14, o_a14, l_a14⟩ := shl 37 rfl hI o_v0
    refine ⟨a14, ea14, ?_⟩
    refine ⟨o_a14, ?_⟩
    refine ⟨(vin l_a14 (m := 12) (by decide) (qm66 h0 c3)), ?_⟩
    intro x15 ex15
    intro _
    intro x17 ex17
    refine ⟨fun c18 => ?_, fun c18 => ?_⟩
    · refine ⟨fun c19 => ?_, fun c19 => ?_⟩
      · exact hq _ _ hI g0 rfl
      · obtain ⟨a20, ea20, o_a20, l_a20⟩ := shl 32 rfl hI o_v0
        refine ⟨a20, ea20, ?_⟩
        refine ⟨o_a20, ?_⟩
        refine ⟨(vin l_a20 (m := 6) (by decide) (qm67 h1 c3 ex17 c18 c19)), ?_⟩
        intro x21 ex21
        exact hq _ _ hI g0 rfl
    · obtain ⟨a22, ea22, o_a22, l_a22⟩ := shl 32 rfl hI o_v0
      refine ⟨a22, ea22, ?_⟩
      refine ⟨o_a22, ?_⟩
      refine ⟨(vin l_a22 (m := 6) (by decide) (qm68 h1 c3 ex17 c18)), ?_⟩
      intro x23 ex23
      exact hq _ _ hI g0 rfl
set_option maxHeartbeats 4000000 in
set_option maxRecDepth 20000 in
theorem m_X11_air {v0 : Nat} {v1 : Int32} {v2 : Int32} {v3 : Int32} {Q : Int32 → HS → Prop} {S : HS} (hI : IV S) (o_v0 : ob S v0 11)     (hq : ∀ (r : Int32) (T : HS), IV T → Gr S T → FRI [(11, 0), (11, 1), (11, 2)] [] S T → Q r T) : P_X11_air v0 v1 v2 v3 Q S := by
  have g0 := gr_rf S
  have f0 := fri_rf [(11, 0), (11, 1), (11, 2)] [] S
  refine u_X11_air ?_
  refine u_X11_air_0 ?_
  refine ⟨o_v0, ?_⟩
  intro S1 eS1
  have hIn : IV S1 := by rw [eS1]; exact iv11_sI hI o_v0 (by decide) (nu_free (by decide))
  have hI := hIn
  have f0 := fr_I eS1 g0 f0 o_v0 (by decide)
  obtain ⟨kv2, hkv2⟩ : ∃ z : Int32, z = (0 : Int32) := ⟨_, rfl⟩
  have d_kv2 := rd_Is eS1 hkv2
  have g0 := gr_I eS1 g0
  have o_v0 := ob_I eS1 o_v0
  refine u_X11_isRoad ?_
  refine u_X11_isRoad_0 ?_
  refine ⟨o_v0, ?_⟩
  refine ⟨fun e4 => ?_, fun a3 ea3 => ?_⟩
  · intro _ _
    refine ⟨fun c6 => ?_, fun c6 => absurd (show ¬ (0 : Int32) = 0 from c6) (by decide)⟩
    refine u_X11_air_30 ?_
    refine ⟨o_v0, ?_⟩
    refine u_X11_lost ?_
    refine u_X11_lost_0 ?_
    refine ⟨o_v0, ?_⟩
    refine u_X11_refused ?_
    refine u_X11_refused_0 ?_
    refine ⟨o_v0, ?_⟩
    intro S7 eS7
    have hIn : IV S7 := by rw [eS7]; exact iv11_sI hI o_v0 (by decide) (nu_free (by decide))
    have hI := hIn
    have f0 := fr_I eS7 g0 f0 o_v0 (by decide)
    have d_kv2 := rd_Ij eS7 (by decide) d_kv2
    obtain ⟨kv8, hkv8⟩ : ∃ z : Int32, z = (1 : Int32) := ⟨_, rfl⟩
    have d_kv8 := rd_Is eS7 hkv8
    have g0 := gr_I eS7 g0
    have o_v0 := ob_I eS7 o_v0
    intro S9 eS9
    have hIn : IV S9 := by rw [eS9]; exact iv11_sI hI o_v0 (by decide) (nu_free (by decide))
    have hI := hIn
    have f0 := fr_I eS9 g0 f0 o_v0 (by decide)
    have d_kv2 := rd_Ij eS9 (by decide) d_kv2
    have d_kv8 := rd_Ij eS9 (by decide) d_kv8
    obtain ⟨kv10, hkv10⟩ : ∃ z : Int32, z = (-1 : Int32) := ⟨_, rfl⟩
    have d_kv10 := rd_Is eS9 hkv10
    have g0 := gr_I eS9 g0
    have o_v0 := ob_I eS9 o_v0
    intro _
    intro _
    exact hq _ _ hI g0 f0
  · have o_a3 := ml_ob hI o_v0 ea3
    refine ⟨fun c13 => ?_, fun c13 => ?_⟩
    · intro _ _
      refine ⟨fun c15 => ?_, fun c15 => absurd (show ¬ (0 : Int32) = 0 from c15) (by decide)⟩
      refine u_X11_air_30 ?_
      refine ⟨o_v0, ?_⟩
      refine u_X11_lost ?_
      refine u_X11_lost_0 ?_
      refine ⟨o_v0, ?_⟩
      refine u_X11_refused ?_
      refine u_X11_refused_0 ?_
      refine ⟨o_v0, ?_⟩
      intro S16 eS16
      have hIn : IV S16 := by rw [eS16]; exact iv11_sI hI o_v0 (by decide) (nu_free (by decide))
      have hI := hIn
      have f0 := fr_I eS16 g0 f0 o_v0 (by decide)
      have d_kv2 := rd_Ij eS16 (by decide) d_kv2
      obtain ⟨kv17, hkv17⟩ : ∃ z : Int32, z = (1 : Int32) := ⟨_, rfl⟩
      have d_kv17 := rd_Is eS16 hkv17
      have ea3 := rf_I eS16 ea3
      have g0 := gr_I eS16 g0
      have o_a3 := ob_I eS16 o_a3
      have o_v0 := ob_I eS16 o_v0
      intro S18 eS18
      have hIn : IV S18 := by rw [eS18]; exact iv11_sI hI o_v0 (by decide) (nu_free (by decide))
      have hI := hIn
      have f0 := fr_I eS18 g0 f0 o_v0 (by decide)
      have d_kv2 := rd_Ij eS18 (by decide) d_kv2
      have d_kv17 := rd_Ij eS18 (by decide) d_kv17
      obtain ⟨kv19, hkv19⟩ : ∃ z : Int32, z = (-1 : Int32) := ⟨_, rfl⟩
      have d_kv19 := rd_Is eS18 hkv19
      have ea3 := rf_I eS18 ea3
      have g0 := gr_I eS18 g0
      have o_a3 := ob_I eS18 o_a3
      have o_v0 := ob_I eS18 o_v0
      intro _
      intro _
      exact hq _ _ hI g0 f0
    · refine ⟨a3, ea3, ?_⟩
      refine ⟨o_a3, ?_⟩
      intro x23 ex23
      have r_x23 : (0 : Int32) ≤ x23 ∧ x23 ≤ (12 : Int32) := by rw [ex23]; exact nu 19 rfl hI o_a3
      have d_x23 := ex23
      refine ⟨fun c24 => ?_, fun c24 => ?_⟩
      · intro _ _
        refine ⟨fun c26 => ?_, fun c26 => absurd (show ¬ (0 : Int32) = 0 from c26) (by decide)⟩
        refine u_X11_air_30 ?_
        refine ⟨o_v0, ?_⟩
        refine u_X11_lost ?_
        refine u_X11_lost_0 ?_
        refine ⟨o_v0, ?_⟩
        refine u_X11_refused ?_
        refine u_X11_refused_0 ?_
        refine ⟨o_v0, ?_⟩
        intro S27 eS27
        have hIn : IV S27 := by rw [eS27]; exact iv11_sI hI o_v0 (by decide) (nu_free (by decide))
        have hI := hIn
        have f0 := fr_I eS27 g0 f0 o_v0 (by decide)
        have d_kv2 := rd_Ij eS27 (by decide) d_kv2
        have d_x23 := rd_Ik eS27 o_v0 o_a3 (by decide) d_x23
        obtain ⟨kv28, hkv28⟩ : ∃ z : Int32, z = (1 : Int32) := ⟨_, rfl⟩
        have d_kv28 := rd_Is eS27 hkv28
        have ea3 := rf_I eS27 ea3
        have g0 := gr_I eS27 g0
        have o_a3 := ob_I eS27 o_a3
        have o_v0 := ob_I eS27 o_v0
        intro S29 eS29
        have hIn : IV S29 := by rw [eS29]; exact iv11_sI hI o_v0 (by decide) (nu_free (by decide))
        have hI := hIn
        have f0 := fr_I eS29 g0 f0 o_v0 (by decide)
        have d_kv2 := rd_Ij eS29 (by decide) d_kv2
        have d_x23 := rd_Ik eS29 o_v0 o_a3 (by decide) d_x23
        have d_kv28 := rd_Ij eS29 (by decide) d_kv28
        obtain ⟨kv30, hkv30⟩ : ∃ z : Int32, z = (-1 : Int32) := ⟨_, rfl⟩
        have d_kv30 := rd_Is eS29 hkv30
        have ea3 := rf_I eS29 ea3
        have g0 := gr_I eS29 g0
        have o_a3 := ob_I eS29 o_a3
        have o_v0 := ob_I eS29 o_v0
        intro _
        intro _
        exact hq _ _ hI g0 f0
      · intro _ _
        refine ⟨fun c34 => absurd (show (1 : Int32) = 0 from c34) (by decide), fun c34 => ?_⟩
        refine u_X11_in ?_
        refine u_X11_in_0 ?_
        refine ⟨fun c35 => ?_, fun c35 => ?_⟩
        · intro _ _
          refine ⟨fun c37 => ?_, fun c37 => absurd (show ¬ (0 : Int32) = 0 from c37) (by decide)⟩
          refine u_X11_air_30 ?_
          refine ⟨o_v0, ?_⟩
          refine u_X11_lost ?_
          refine u_X11_lost_0 ?_
          refine ⟨o_v0, ?_⟩
          refine u_X11_refused ?_
          refine u_X11_refused_0 ?_
          refine ⟨o_v0, ?_⟩
          intro S38 eS38
          have hIn : IV S38 := by rw [eS38]; exact iv11_sI hI o_v0 (by decide) (nu_free (by decide))
          have hI := hIn
          have f0 := fr_I eS38 g0 f0 o_v0 (by decide)
          have d_kv2 := rd_Ij eS38 (by decide) d_kv2
          have d_x23 := rd_Ik eS38 o_v0 o_a3 (by decide) d_x23
          obtain ⟨kv39, hkv39⟩ : ∃ z : Int32, z = (1 : Int32) := ⟨_, rfl⟩
          have d_kv39 := rd_Is eS38 hkv39
          have ea3 := rf_I eS38 ea3
          have g0 := gr_I eS38 g0
          have o_a3 := ob_I eS38 o_a3
          have o_v0 := ob_I eS38 o_v0
          intro S40 eS40
          have hIn : IV S40 := by rw [eS40]; exact iv11_sI hI o_v0 (by decide) (nu_free (by decide))
          have hI := hIn
          have f0 := fr_I eS40 g0 f0 o_v0 (by decide)
          have d_kv2 := rd_Ij eS40 (by decide) d_kv2
          have d_x23 := rd_Ik eS40 o_v0 o_a3 (by decide) d_x23
          have d_kv39 := rd_Ij eS40 (by decide) d_kv39
          obtain ⟨kv41, hkv41⟩ : ∃ z : Int32, z = (-1 : Int32) := ⟨_, rfl⟩
          have d_kv41 := rd_Is eS40 hkv41
          have ea3 := rf_I eS40 ea3
          have g0 := gr_I eS40 g0
          have o_a3 := ob_I eS40 o_a3
          have o_v0 := ob_I eS40 o_v0
          intro _
          intro _
          exact hq _ _ hI g0 f0
        · refine ⟨fun c44 => ?_, fun c44 => ?_⟩
          · intro _ _
            refine ⟨fun c46 => ?_, fun c46 => absurd (show ¬ (0 : Int32) = 0 from c46) (by decide)⟩
            refine u_X11_air_30 ?_
            refine ⟨o_v0, ?_⟩
            refine u_X11_lost ?_
            refine u_X11_lost_0 ?_
            refine ⟨o_v0, ?_⟩
            refine u_X11_refused ?_
            refine u_X11_refused_0 ?_
            refine ⟨o_v0, ?_⟩
            intro S47 eS47
            have hIn : IV S47 := by rw [eS47]; exact iv11_sI hI o_v0 (by decide) (nu_free (by decide))
            have hI := hIn
            have f0 := fr_I eS47 g0 f0 o_v0 (by decide)
            have d_kv2 := rd_Ij eS47 (by decide) d_kv2
            have d_x23 := rd_Ik eS47 o_v0 o_a3 (by decide) d_x23
            obtain ⟨kv48, hkv48⟩ : ∃ z : Int32, z = (1 : Int32) := ⟨_, rfl⟩
            have d_kv48 := rd_Is eS47 hkv48
            have ea3 := rf_I eS47 ea3
            have g0 := gr_I eS47 g0
            have o_a3 := ob_I eS47 o_a3
            have o_v0 := ob_I eS47 o_v0
            intro S49 eS49
            have hIn : IV S49 := by rw [eS49]; exact iv11_sI hI o_v0 (by decide) (nu_free (by decide))
            have hI := hIn
            have f0 := fr_I eS49 g0 f0 o_v0 (by decide)
            have d_kv2 := rd_Ij eS49 (by decide) d_kv2
            have d_x23 := rd_Ik eS49 o_v0 o_a3 (by decide) d_x23
            have d_kv48 := rd_Ij eS49 (by decide) d_kv48
            obtain ⟨kv50, hkv50⟩ : ∃ z : Int32, z = (-1 : Int32) := ⟨_, rfl⟩
            have d_kv50 := rd_Is eS49 hkv50
            have ea3 := rf_I eS49 ea3
            have g0 := gr_I eS49 g0
            have o_a3 := ob_I eS49 o_a3
            have o_v0 := ob_I eS49 o_v0
            intro _
            intro _
            exact hq _ _ hI g0 f0
          · intro _ _
            refine ⟨fun c54 => absurd (show (1 : Int32) = 0 from c54) (by decide), fun c54 => ?_⟩
            refine u_X11_isHour ?_
            refine u_X11_isHour_0 ?_
            refine ⟨o_v0, ?_⟩
            refine ⟨fun e56 => (nomatch (e56.symm.trans ea3)), fun a55 ea55 => ?_⟩
            obtain rfl : a3 = a55 := Option.some.inj (ea3.symm.trans ea55)
            refine ⟨fun c57 => ?_, fun c57 => ?_⟩
            · intro _ _
              refine ⟨fun c59 => absurd (show ¬ (0 : Int32) = 0 from c59) (by decide), fun c59 => ?_⟩
              refine u_X11_air_30 ?_
              refine ⟨o_v0, ?_⟩
              refine u_X11_lost ?_
              refine u_X11_lost_0 ?_
              refine ⟨o_v0, ?_⟩
              refine u_X11_refused ?_
              refine u_X11_refused_0 ?_
              refine ⟨o_v0, ?_⟩
              intro S60 eS60
              have hIn : IV S60 := by rw [eS60]; exact iv11_sI hI o_v0 (by decide) (nu_free (by decide))
              have hI := hIn
              have f0 := fr_I eS60 g0 f0 o_v0 (by decide)
              have d_kv2 := rd_Ij eS60 (by decide) d_kv2
              have d_x23 := rd_Ik eS60 o_v0 o_a3 (by decide) d_x23
              obtain ⟨kv61, hkv61⟩ : ∃ z : Int32, z = (1 : Int32) := ⟨_, rfl⟩
              have d_kv61 := rd_Is eS60 hkv61
              have ea3 := rf_I eS60 ea3
              have g0 := gr_I eS60 g0
              have o_a3 := ob_I eS60 o_a3
              have o_v0 := ob_I eS60 o_v0
              intro S62 eS62
              have hIn : IV S62 := by rw [eS62]; exact iv11_sI hI o_v0 (by decide) (nu_free (by decide))
              have hI := hIn
              have f0 := fr_I eS62 g0 f0 o_v0 (by decide)
              have d_kv2 := rd_Ij eS62 (by decide) d_kv2
              have d_x23 := rd_Ik eS62 o_v0 o_a3 (by decide) d_x23
              have d_kv61 := rd_Ij eS62 (by decide) d_kv61
              obtain ⟨kv63, hkv63⟩ : ∃ z : Int32, z = (-1 : Int32) := ⟨_, rfl⟩
              have d_kv63 := rd_Is eS62 hkv63
              have ea3 := rf_I eS62 ea3
              have g0 := gr_I eS62 g0
              have o_a3 := ob_I eS62 o_a3
              have o_v0 := ob_I eS62 o_v0
              intro _
              intro _
              exact hq _ _ hI g0 f0
            · refine ⟨a3, ea3, ?_⟩
              refine ⟨o_a3, ?_⟩
              intro x67 ex67
              have r_x67 : (0 : Int32) ≤ x67 ∧ x67 ≤ (6 : Int32) := by rw [ex67]; exact nu 17 rfl hI o_a3
              have d_x67 := ex67
              refine ⟨fun c68 => ?_, fun c68 => ?_⟩
              · intro _ _
                refine ⟨fun c70 => absurd (show ¬ (0 : Int32) = 0 from c70) (by decide), fun c70 => ?_⟩
                refine u_X11_air_30 ?_
                refine ⟨o_v0, ?_⟩
                refine u_X11_lost ?_
                refine u_X11_lost_0 ?_
                refine ⟨o_v0, ?_⟩
                refine u_X11_refused ?_
                refine u_X11_refused_0 ?_
                refine ⟨o_v0, ?_⟩
                intro S71 eS71
                have hIn : IV S71 := by rw [eS71]; exact iv11_sI hI o_v0 (by decide) (nu_free (by decide))
                have hI := hIn
                have f0 := fr_I eS71 g0 f0 o_v0 (by decide)
                have d_kv2 := rd_Ij eS71 (by decide) d_kv2
                have d_x23 := rd_Ik eS71 o_v0 o_a3 (by decide) d_x23
                have d_x67 := rd_Ik eS71 o_v0 o_a3 (by decide) d_x67
                obtain ⟨kv72, hkv72⟩ : ∃ z : Int32, z = (1 : Int32) := ⟨_, rfl⟩
                have d_kv72 := rd_Is eS71 hkv72
                have ea3 := rf_I eS71 ea3
                have g0 := gr_I eS71 g0
                have o_a3 := ob_I eS71 o_a3
                have o_v0 := ob_I eS71 o_v0
                intro S73 eS73
                have hIn : IV S73 := by rw [eS73]; exact iv11_sI hI o_v0 (by decide) (nu_free (by decide))
                have hI := hIn
                have f0 := fr_I eS73 g0 f0 o_v0 (by decide)
                have d_kv2 := rd_Ij eS73 (by decide) d_kv2
                have d_x23 := rd_Ik eS73 o_v0 o_a3 (by decide) d_x23
                have d_x67 := rd_Ik eS73 o_v0 o_a3 (by decide) d_x67
                have d_kv72 := rd_Ij eS73 (by decide) d_kv72
                obtain ⟨kv74, hkv74⟩ : ∃ z : Int32, z = (-1 : Int32) := ⟨_, rfl⟩
                have d_kv74 := rd_Is eS73 hkv74
                have ea3 := rf_I eS73 ea3
                have g0 := gr_I eS73 g0
                have o_a3 := ob_I eS73 o_a3
                have o_v0 := ob_I eS73 o_v0
                intro _
                intro _
                exact hq _ _ hI g0 f0
              · intro _ _
                refine ⟨fun c78 => ?_, fun c78 => absurd (show (1 : Int32) = 0 from c78) (by decide)⟩
                refine ⟨a3, ea3, ?_⟩
                refine ⟨o_a3, ?_⟩
                refine m_X10_air hI o_a3 (qm704 c13 r_x23 c24 c35 c44 c57 r_x67 c68) (qm705 c13 r_x23 c24 c35 c44 c57 r_x67 c68) (fun x80 S81 hI2 g82 p_x80 => ?_)
                subst p_x80
                intro _
                refine u_X11_good ?_
                refine u_X11_good_0 ?_
                refine ⟨o_v0, ?_⟩
                intro S84 eS84
                have hIn : IV S84 := by rw [eS84]; exact iv11_sI hI o_v0 (by decide) (nu_free (by decide))
                have hI := hIn
                have f0 := fr_I eS84 g0 f0 o_v0 (by decide)
                have d_kv2 := rd_Ij eS84 (by decide) d_kv2
                have d_x23 := rd_Ik eS84 o_v0 o_a3 (by decide) d_x23
                have d_x67 := rd_Ik eS84 o_v0 o_a3 (by decide) d_x67
                obtain ⟨kv85, hkv85⟩ : ∃ z : Int32, z = (0 : Int32) := ⟨_, rfl⟩
                have d_kv85 := rd_Is eS84 hkv85
                have ea3 := rf_I eS84 ea3
                have g0 := gr_I eS84 g0
                have o_a3 := ob_I eS84 o_a3
                have o_v0 := ob_I eS84 o_v0
                intro S86 eS86
                have hIn : IV S86 := by rw [eS86]; exact iv11_sI hI o_v0 (by decide) (nu_free (by decide))
                have hI := hIn
                have f0 := fr_I eS86 g0 f0 o_v0 (by decide)
                have d_kv2 := rd_Ij eS86 (by decide) d_kv2
                have d_x23 := rd_Ik eS86 o_v0 o_a3 (by decide) d_x23
                have d_x67 := rd_Ik eS86 o_v0 o_a3 (by decide) d_x67
                have d_kv85 := rd_Ij eS86 (by decide) d_kv85
                obtain ⟨kv87, hkv87⟩ : ∃ z : Int32, z = (-1 : Int32) := ⟨_, rfl⟩
                have d_kv87 := rd_Is eS86 hkv87
                have ea3 := rf_I eS86 ea3
                have g0 := gr_I eS86 g0
                have o_a3 := ob_I eS86 o_a3
                have o_v0 := ob_I eS86 o_v0
                intro _
                exact hq _ _ hI g0 f0
set_option maxHeartbeats 4000000 in
set_option maxRecDepth 20000 in
theorem m_X11_back {v0 : Nat} {v1 : Int32} {Q : Int32 → HS → Prop} {S : HS} (hI : IV S) (o_v0 : ob S v0 11)     (hq : ∀ (r : Int32) (T : HS), IV T → Gr S T → FRI [(11, 0), (11, 1), (11, 2), (11, 24)] [] S T → bl r → Q r T) : P_X11_back v0 v1 Q S := by
  have g0 := gr_rf S
  have f0 := fri_rf [(11, 0), (11, 1), (11, 2), (11, 24)] [] S
  refine u_X11_back ?_
  refine u_X11_back_0 ?_
  refine ⟨o_v0, ?_⟩
  intro S1 eS1
  have hIn : IV S1 := by rw [eS1]; exact iv11_sI hI o_v0 (by decide) (nu_free (by decide))
  have hI := hIn
  have f0 := fr_I eS1 g0 f0 o_v0 (by decide)
  obtain ⟨kv2, hkv2⟩ : ∃ z : Int32, z = (0 : Int32) := ⟨_, rfl⟩
  have d_kv2 := rd_Is eS1 hkv2
  have g0 := gr_I eS1 g0
  have o_v0 := ob_I eS1 o_v0
  refine u_X11_isDay ?_
  refine u_X11_isDay_0 ?_
  refine ⟨o_v0, ?_⟩
  refine ⟨fun e4 => ?_, fun a3 ea3 => ?_⟩
  · intro _ _
    refine ⟨fun c6 => ?_, fun c6 => absurd (show ¬ (0 : Int32) = 0 from c6) (by decide)⟩
    refine u_X11_back_24 ?_
    refine ⟨o_v0, ?_⟩
    refine u_X11_denied ?_
    refine u_X11_denied_0 ?_
    refine ⟨o_v0, ?_⟩
    refine u_X11_refused ?_
    refine u_X11_refused_0 ?_
    refine ⟨o_v0, ?_⟩
    intro S7 eS7
    have hIn : IV S7 := by rw [eS7]; exact iv11_sI hI o_v0 (by decide) (nu_free (by decide))
    have hI := hIn
    have f0 := fr_I eS7 g0 f0 o_v0 (by decide)
    have d_kv2 := rd_Ij eS7 (by decide) d_kv2
    obtain ⟨kv8, hkv8⟩ : ∃ z : Int32, z = (1 : Int32) := ⟨_, rfl⟩
    have d_kv8 := rd_Is eS7 hkv8
    have g0 := gr_I eS7 g0
    have o_v0 := ob_I eS7 o_v0
    intro S9 eS9
    have hIn : IV S9 := by rw [eS9]; exact iv11_sI hI o_v0 (by decide) (nu_free (by decide))
    have hI := hIn
    have f0 := fr_I eS9 g0 f0 o_v0 (by decide)
    have d_kv2 := rd_Ij eS9 (by decide) d_kv2
    have d_kv8 := rd_Ij eS9 (by decide) d_kv8
    obtain ⟨kv10, hkv10⟩ : ∃ z : Int32, z = (-1 : Int32) := ⟨_, rfl⟩
    have d_kv10 := rd_Is eS9 hkv10
    have g0 := gr_I eS9 g0
    have o_v0 := ob_I eS9 o_v0
    intro _
    intro _ _
    refine ⟨(Or.inl rfl), ?_⟩
    exact hq _ _ hI g0 f0 (Or.inl rfl)
  · have o_a3 := ml_ob hI o_v0 ea3
    intro x13 ex13
    have r_x13 : (-2 : Int32) ≤ x13 ∧ x13 ≤ (3 : Int32) := by rw [ex13]; exact nu 26 rfl hI o_v0
    have d_x13 := ex13
    obtain ⟨kv14, d_kv14⟩ : ∃ z : Int32, z = fI S1 a3 4 := ⟨_, rfl⟩
    have r_kv14 : (0 : Int32) ≤ kv14 ∧ kv14 ≤ (4 : Int32) := by rw [d_kv14]; exact nu 20 rfl hI o_a3
    have wh_x13 : x13 = -2 ∨ (0 ≤ x13 ∧ x13 < kv14) := by rw [ex13, d_kv14]; exact ml_who hI o_v0 ea3
    refine ⟨fun c15 => ?_, fun c15 => ?_⟩
    · intro _ _
      refine ⟨fun c17 => ?_, fun c17 => absurd (show ¬ (0 : Int32) = 0 from c17) (by decide)⟩
      refine u_X11_back_24 ?_
      refine ⟨o_v0, ?_⟩
      refine u_X11_denied ?_
      refine u_X11_denied_0 ?_
      refine ⟨o_v0, ?_⟩
      refine u_X11_refused ?_
      refine u_X11_refused_0 ?_
      refine ⟨o_v0, ?_⟩
      intro S18 eS18
      have hIn : IV S18 := by rw [eS18]; exact iv11_sI hI o_v0 (by decide) (nu_free (by decide))
      have hI := hIn
      have f0 := fr_I eS18 g0 f0 o_v0 (by decide)
      have d_kv2 := rd_Ij eS18 (by decide) d_kv2
      have d_x13 := rd_Ij eS18 (by decide) d_x13
      have d_kv14 := rd_Ik eS18 o_v0 o_a3 (by decide) d_kv14
      obtain ⟨kv19, hkv19⟩ : ∃ z : Int32, z = (1 : Int32) := ⟨_, rfl⟩
      have d_kv19 := rd_Is eS18 hkv19
      have ea3 := rf_I eS18 ea3
      have g0 := gr_I eS18 g0
      have o_a3 := ob_I eS18 o_a3
      have o_v0 := ob_I eS18 o_v0
      intro S20 eS20
      have hIn : IV S20 := by rw [eS20]; exact iv11_sI hI o_v0 (by decide) (nu_free (by decide))
      have hI := hIn
      have f0 := fr_I eS20 g0 f0 o_v0 (by decide)
      have d_kv2 := rd_Ij eS20 (by decide) d_kv2
      have d_x13 := rd_Ij eS20 (by decide) d_x13
      have d_kv14 := rd_Ik eS20 o_v0 o_a3 (by decide) d_kv14
      have d_kv19 := rd_Ij eS20 (by decide) d_kv19
      obtain ⟨kv21, hkv21⟩ : ∃ z : Int32, z = (-1 : Int32) := ⟨_, rfl⟩
      have d_kv21 := rd_Is eS20 hkv21
      have ea3 := rf_I eS20 ea3
      have g0 := gr_I eS20 g0
      have o_a3 := ob_I eS20 o_a3
      have o_v0 := ob_I eS20 o_v0
      intro _
      intro _ _
      refine ⟨(Or.inl rfl), ?_⟩
      exact hq _ _ hI g0 f0 (Or.inl rfl)
    · intro _ _
      refine ⟨fun c25 => absurd (show (1 : Int32) = 0 from c25) (by decide), fun c25 => ?_⟩
      refine ⟨fun c26 => ?_, fun c26 => ?_⟩
      · refine u_X11_back_24 ?_
        refine ⟨o_v0, ?_⟩
        refine u_X11_denied ?_
        refine u_X11_denied_0 ?_
        refine ⟨o_v0, ?_⟩
        refine u_X11_refused ?_
        refine u_X11_refused_0 ?_
        refine ⟨o_v0, ?_⟩
        intro S27 eS27
        have hIn : IV S27 := by rw [eS27]; exact iv11_sI hI o_v0 (by decide) (nu_free (by decide))
        have hI := hIn
        have f0 := fr_I eS27 g0 f0 o_v0 (by decide)
        have d_kv2 := rd_Ij eS27 (by decide) d_kv2
        have d_x13 := rd_Ij eS27 (by decide) d_x13
        have d_kv14 := rd_Ik eS27 o_v0 o_a3 (by decide) d_kv14
        obtain ⟨kv28, hkv28⟩ : ∃ z : Int32, z = (1 : Int32) := ⟨_, rfl⟩
        have d_kv28 := rd_Is eS27 hkv28
        have ea3 := rf_I eS27 ea3
        have g0 := gr_I eS27 g0
        have o_a3 := ob_I eS27 o_a3
        have o_v0 := ob_I eS27 o_v0
        intro S29 eS29
        have hIn : IV S29 := by rw [eS29]; exact iv11_sI hI o_v0 (by decide) (nu_free (by decide))
        have hI := hIn
        have f0 := fr_I eS29 g0 f0 o_v0 (by decide)
        have d_kv2 := rd_Ij eS29 (by decide) d_kv2
        have d_x13 := rd_Ij eS29 (by decide) d_x13
        have d_kv14 := rd_Ik eS29 o_v0 o_a3 (by decide) d_kv14
        have d_kv28 := rd_Ij eS29 (by decide) d_kv28
        obtain ⟨kv30, hkv30⟩ : ∃ z : Int32, z = (-1 : Int32) := ⟨_, rfl⟩
        have d_kv30 := rd_Is eS29 hkv30
        have ea3 := rf_I eS29 ea3
        have g0 := gr_I eS29 g0
        have o_a3 := ob_I eS29 o_a3
        have o_v0 := ob_I eS29 o_v0
        intro _
        intro _ _
        refine ⟨(Or.inl rfl), ?_⟩
        exact hq _ _ hI g0 f0 (Or.inl rfl)
      · intro x33 ex33
        have r_x33 : (0 : Int32) ≤ x33 ∧ x33 ≤ (3 : Int32) := by rw [ex33]; exact nu 28 rfl hI o_v0
        have d_x33 := ex33
        refine ⟨fun c34 => ?_, fun c34 => ?_⟩
        · refine i_X11_back_32 (fun (y0 : Nat) (y1 : Int32) (y2 : Int32) (Z : HS) => ((7 : Int32).toInt - y2.toInt).toNat) (fun (y0 : Nat) (y1 : Int32) (y2 : Int32) (Z : HS) => (IV Z) ∧ (Gr S1 Z) ∧ (FRI [] [] S1 Z) ∧ (v0 = y0) ∧ (v1 = y1) ∧ (0 ≤ y2 ∧ y2 ≤ 7)) ?_ _ _ _ _ ⟨hI, (gr_rf _), (fri_rf _ _ _), rfl, rfl, (qm509 r_x13 r_kv14 wh_x13 c15 c26 r_x33 c34)⟩
          intro w39 w41 w43 S36 X44 ⟨hI, gL37, fL38, q40, q42, i1u35⟩ ih45
          subst q40
          subst q42
          have d_kv2 := d_kv2.trans (fri_at fL38 (by decide) (by decide) o_v0).symm
          have d_x13 := d_x13.trans (fri_at fL38 (by decide) (by decide) o_v0).symm
          have d_kv14 := d_kv14.trans (fri_at fL38 (by decide) (by decide) o_a3).symm
          have d_x33 := d_x33.trans (fri_at fL38 (by decide) (by decide) o_v0).symm
          have ea3 := (frr_at fL38 (by decide) (by decide) o_v0).trans ea3
          have f0 := fri_tr (S := S1) g0 f0 fL38 (by decide) (by decide)
          have o_a3 := gr_ob gL37 o_a3
          have o_v0 := gr_ob gL37 o_v0
          have g0 := gr_tr (T := S1) g0 gL37
          refine u_X11_back_32 ?_
          refine ⟨fun c46 => ?_, fun c46 => ?_⟩
          · refine ⟨o_v0, ?_⟩
            intro S47 eS47
            have hIn : IV S47 := by rw [eS47]; exact iv11_sI hI o_v0 (by decide) (nu_one (lo := (0 : Int32)) (hi := (16 : Int32)) (by decide) (qm510 r_x13 r_kv14 wh_x13 c15 c26 r_x33 c34 i1u35 c46))
            have hI := hIn
            have f0 := fr_I eS47 g0 f0 o_v0 (by decide)
            have d_kv2 := rd_Ij eS47 (by decide) d_kv2
            have d_x13 := rd_Ij eS47 (by decide) d_x13
            have d_kv14 := rd_Ik eS47 o_v0 o_a3 (by decide) d_kv14
            have d_x33 := rd_Ij eS47 (by decide) d_x33
            obtain ⟨kv48, hkv48⟩ : ∃ z : Int32, z = (0 : Int32) := ⟨_, rfl⟩
            have d_kv48 := rd_Is eS47 hkv48
            have ea3 := rf_I eS47 ea3
            have g0 := gr_I eS47 g0
            have o_a3 := ob_I eS47 o_a3
            have o_v0 := ob_I eS47 o_v0
            refine u_X11_granted ?_
            refine u_X11_granted_0 ?_
            refine ⟨o_v0, ?_⟩
            refine u_X11_good ?_
            refine u_X11_good_0 ?_
            refine ⟨o_v0, ?_⟩
            intro S49 eS49
            have hIn : IV S49 := by rw [eS49]; exact iv11_sI hI o_v0 (by decide) (nu_free (by decide))
            have hI := hIn
            have f0 := fr_I eS49 g0 f0 o_v0 (by decide)
            have d_kv2 := rd_Ij eS49 (by decide) d_kv2
            have d_x13 := rd_Ij eS49 (by decide) d_x13
            have d_kv14 := rd_Ik eS49 o_v0 o_a3 (by decide) d_kv14
            have d_x33 := rd_Ij eS49 (by decide) d_x33
            have d_kv48 := rd_Ij eS49 (by decide) d_kv48
            obtain ⟨kv50, hkv50⟩ : ∃ z : Int32, z = (0 : Int32) := ⟨_, rfl⟩
            have d_kv50 := rd_Is eS49 hkv50
            have ea3 := rf_I eS49 ea3
            have g0 := gr_I eS49 g0
            have o_a3 := ob_I eS49 o_a3
            have o_v0 := ob_I eS49 o_v0
            intro S51 eS51
            have hIn : IV S51 := by rw [eS51]; exact iv11_sI hI o_v0 (by decide) (nu_free (by decide))
            have hI := hIn
            have f0 := fr_I eS51 g0 f0 o_v0 (by decide)
            have d_kv2 := rd_Ij eS51 (by decide) d_kv2
            have d_x13 := rd_Ij eS51 (by decide) d_x13
            have d_kv14 := rd_Ik eS51 o_v0 o_a3 (by decide) d_kv14
            have d_x33 := rd_Ij eS51 (by decide) d_x33
            have d_kv48 := rd_Ij eS51 (by decide) d_kv48
            have d_kv50 := rd_Ij eS51 (by decide) d_kv50
            obtain ⟨kv52, hkv52⟩ : ∃ z : Int32, z = (-1 : Int32) := ⟨_, rfl⟩
            have d_kv52 := rd_Is eS51 hkv52
            have ea3 := rf_I eS51 ea3
            have g0 := gr_I eS51 g0
            have o_a3 := ob_I eS51 o_a3
            have o_v0 := ob_I eS51 o_v0
            intro _
            intro _ _
            refine ⟨(Or.inr rfl), ?_⟩
            exact hq _ _ hI g0 f0 (Or.inr rfl)
          · refine ⟨o_v0, ?_⟩
            obtain ⟨a55, ea55, o_a55, l_a55⟩ := shl 57 rfl hI o_v0
            refine ⟨a55, ea55, ?_⟩
            obtain ⟨a56, ea56, o_a56, l_a56⟩ := shl 59 rfl hI o_v0
            refine ⟨a56, ea56, ?_⟩
            refine ⟨o_a56, ?_⟩
            intro x57 ex57
            refine ⟨(vin l_a56 (m := 21) (by decide) (qm511 r_x13 r_kv14 wh_x13 c15 c26 r_x33 c34 i1u35 c46 ex57)), ?_⟩
            intro x58 ex58
            have de_x58 := ml_de hI o_v0 (j := 23) (by decide) ea56 x57.toNatClampNeg
            rw [← ex58] at de_x58
            refine ⟨o_a55, ?_⟩
            have i59 : vp_in w43 (hN _ a55) := (vin l_a55 (m := 7) (by decide) (qm512 r_x13 r_kv14 wh_x13 c15 c26 r_x33 c34 i1u35 c46 ex57))
            refine ⟨i59, ?_⟩
            intro S60 eS60
            have hIn : IV S60 := by rw [eS60]; exact iv11_aD hI (de_tr de_x58 (md_mul (a := v1) (k := w43) ex57 (qm513 r_x13 r_kv14 wh_x13 c15 c26 r_x33 c34 i1u35 c46 ex57) (qm514 r_x13 r_kv14 wh_x13 c15 c26 r_x33 c34 i1u35 c46 ex57)).symm)
            have hI := hIn
            have f0 := fr_J eS60 f0
            have fL38 := fr_J eS60 fL38
            have d_kv2 := rd_J eS60 d_kv2
            have d_x13 := rd_J eS60 d_x13
            have d_kv14 := rd_J eS60 d_kv14
            have d_x33 := rd_J eS60 d_x33
            have ea3 := rf_J eS60 ea3
            have ea55 := rf_J eS60 ea55
            have ea56 := rf_J eS60 ea56
            have l_a55 := ln_J eS60 l_a55
            have l_a56 := ln_J eS60 l_a56
            have g0 := gr_J eS60 g0
            have gL37 := gr_J eS60 gL37
            have o_a3 := ob_J eS60 o_a3
            have o_a55 := ob_J eS60 o_a55
            have o_a56 := ob_J eS60 o_a56
            have o_v0 := ob_J eS60 o_v0
            intro x61 ex61
            exact ih45 _ _ _ _ ⟨hI, gL37, fL38, rfl, rfl, (qm515 r_x13 r_kv14 wh_x13 c15 c26 r_x33 c34 i1u35 c46 ex57 ex61)⟩ (mu_up (qm516 r_x13 r_kv14 wh_x13 c15 c26 r_x33 c34 i1u35 c46 ex57 ex61) (qm517 r_x13 r_kv14 wh_x13 c15 c26 r_x33 c34 i1u35 c46 ex57 ex61))
        · refine u_X11_back_24 ?_
          refine ⟨o_v0, ?_⟩
          refine u_X11_denied ?_
          refine u_X11_denied_0 ?_
          refine ⟨o_v0, ?_⟩
          refine u_X11_refused ?_
          refine u_X11_refused_0 ?_
          refine ⟨o_v0, ?_⟩
          intro S62 eS62
          have hIn : IV S62 := by rw [eS62]; exact iv11_sI hI o_v0 (by decide) (nu_free (by decide))
          have hI := hIn
          have f0 := fr_I eS62 g0 f0 o_v0 (by decide)
          have d_kv2 := rd_Ij eS62 (by decide) d_kv2
          have d_x13 := rd_Ij eS62 (by decide) d_x13
          have d_kv14 := rd_Ik eS62 o_v0 o_a3 (by decide) d_kv14
          have d_x33 := rd_Ij eS62 (by decide) d_x33
          obtain ⟨kv63, hkv63⟩ : ∃ z : Int32, z = (1 : Int32) := ⟨_, rfl⟩
          have d_kv63 := rd_Is eS62 hkv63
          have ea3 := rf_I eS62 ea3
          have g0 := gr_I eS62 g0
          have o_a3 := ob_I eS62 o_a3
          have o_v0 := ob_I eS62 o_v0
          intro S64 eS64
          have hIn : IV S64 := by rw [eS64]; exact iv11_sI hI o_v0 (by decide) (nu_free (by decide))
          have hI := hIn
          have f0 := fr_I eS64 g0 f0 o_v0 (by decide)
          have d_kv2 := rd_Ij eS64 (by decide) d_kv2
          have d_x13 := rd_Ij eS64 (by decide) d_x13
          have d_kv14 := rd_Ik eS64 o_v0 o_a3 (by decide) d_kv14
          have d_x33 := rd_Ij eS64 (by decide) d_x33
          have d_kv63 := rd_Ij eS64 (by decide) d_kv63
          obtain ⟨kv65, hkv65⟩ : ∃ z : Int32, z = (-1 : Int32) := ⟨_, rfl⟩
          have d_kv65 := rd_Is eS64 hkv65
          have ea3 := rf_I eS64 ea3
          have g0 := gr_I eS64 g0
          have o_a3 := ob_I eS64 o_a3
          have o_v0 := ob_I eS64 o_v0
          intro _
          intro _ _
          refine ⟨(Or.inl rfl), ?_⟩
          exact hq _ _ hI g0 f0 (Or.inl rfl)
set_option maxHeartbeats 4000000 in
set_option maxRecDepth 20000 in
theorem m_X11_isForward {v0 : Nat} {v1 : Int32} {v2 : Int32} {v3 : Int32} {v4 : Int32} {v5 : Int32} {Q : Int32 → HS → Prop} {S : HS} (hI : IV S) (o_v0 : ob S v0 11)   (h0 : 0 ≤ v1 ∧ v1 < 4) (h1 : 0 ≤ v2 ∧ v2 < 12) (h2 : 0 ≤ v4 ∧ v4 < 6)  (hw : WN S v0) (hq : ∀ (r : Int32) (T : HS), IV T → Gr S T → bl r → (S = T) → Q r T) : P_X11_isForward v0 v1 v2 v3 v4 v5 Q S := by
  have g0 := gr_rf S
  obtain ⟨a1, ea1⟩ := hw
  have o_a1 := ml_ob hI o_v0 ea1
  refine u_X11_isForward ?_
  refine u_X11_isForward_0 ?_
  refine ⟨o_v0, ?_⟩
  refine ⟨a1, ea1, ?_⟩
  refine ⟨o_a1, ?_⟩
  refine u_X10_shield ?_
  refine u_X10_shield_0 ?_
  refine ⟨o_a1, ?_⟩
  obtain ⟨a3, ea3, o_a3, l_a3⟩ := shl 41 rfl hI o_a1
  refine ⟨a3, ea3, ?_⟩
  refine ⟨o_a3, ?_⟩
  refine ⟨(vin l_a3 (m := 4) (by decide) (qm22 h0)), ?_⟩
  intro x4 ex4
  refine ⟨fun c5 => ?_, fun c5 => ?_⟩
  · intro _
    refine ⟨a1, ea1, ?_⟩
    refine ⟨o_a1, ?_⟩
    refine m_X10_air hI o_a1 (qm35 h1 c5) (qm36 h2 c5) (fun x8 S9 hI2 g10 p_x8 => ?_)
    subst p_x8
    intro _
    intro x12 ex12
    refine ⟨a1, ea1, ?_⟩
    refine ⟨o_a1, ?_⟩
    obtain ⟨a14, ea14, o_a14, l_a14⟩ := shl 44 rfl hI o_a1
    refine ⟨a14, ea14, ?_⟩
    refine ⟨o_a14, ?_⟩
    refine ⟨(vin l_a14 (m := 4) (by decide) (qm25 h0 c5)), ?_⟩
    intro x15 ex15
    refine ⟨fun c16 => ?_, fun c16 => ?_⟩
    · refine ⟨a1, ea1, ?_⟩
      refine ⟨o_a1, ?_⟩
      refine ⟨a14, ea14, ?_⟩
      refine ⟨o_a14, ?_⟩
      refine ⟨(vin l_a14 (m := 4) (by decide) (qm37 h0 c5 c16)), ?_⟩
      intro x19 ex19
      refine u_X11_isForward_54 ?_
      refine ⟨o_v0, ?_⟩
      refine ⟨a1, ea1, ?_⟩
      refine ⟨o_a1, ?_⟩
      obtain ⟨a21, ea21, o_a21, l_a21⟩ := shl 43 rfl hI o_a1
      refine ⟨a21, ea21, ?_⟩
      refine ⟨o_a21, ?_⟩
      refine ⟨(vin l_a21 (m := 4) (by decide) (qm37 h0 c5 c16)), ?_⟩
      intro x22 ex22
      refine ⟨fun c23 => ?_, fun c23 => ?_⟩
      · refine ⟨a1, ea1, ?_⟩
        refine ⟨o_a1, ?_⟩
        refine ⟨a21, ea21, ?_⟩
        refine ⟨o_a21, ?_⟩
        refine ⟨(vin l_a21 (m := 4) (by decide) (qm38 h0 c5 c16 c23)), ?_⟩
        intro x26 ex26
        refine u_X11_isForward_84 ?_
        refine ⟨o_v0, ?_⟩
        refine ⟨a1, ea1, ?_⟩
        refine ⟨o_a1, ?_⟩
        obtain ⟨a28, ea28, o_a28, l_a28⟩ := shl 39 rfl hI o_a1
        refine ⟨a28, ea28, ?_⟩
        refine ⟨o_a28, ?_⟩
        refine ⟨(vin l_a28 (m := 12) (by decide) (qm39 h1 c5 c16 c23)), ?_⟩
        intro x29 ex29
        refine ⟨a1, ea1, ?_⟩
        refine ⟨o_a1, ?_⟩
        obtain ⟨a31, ea31, o_a31, l_a31⟩ := shl 38 rfl hI o_a1
        refine ⟨a31, ea31, ?_⟩
        refine ⟨o_a31, ?_⟩
        refine ⟨(vin l_a31 (m := 12) (by decide) (qm39 h1 c5 c16 c23)), ?_⟩
        intro x32 ex32
        refine ⟨fun c33 => ?_, fun c33 => ?_⟩
        · refine u_X11_isForward_112 ?_
          refine ⟨fun c34 => ?_, fun c34 => absurd (show ¬ (0 : Int32) = 0 from c34) (by decide)⟩
          exact hq _ _ hI g0 (Or.inl rfl) rfl
        · refine u_X11_isForward_112 ?_
          refine ⟨fun c35 => absurd (show (1 : Int32) = 0 from c35) (by decide), fun c35 => ?_⟩
          refine ⟨fun c36 => ?_, fun c36 => ?_⟩
          · exact hq _ _ hI g0 (Or.inl rfl) rfl
          · refine ⟨o_v0, ?_⟩
            refine ⟨a1, ea1, ?_⟩
            refine ⟨o_a1, ?_⟩
            obtain ⟨a38, ea38, o_a38, l_a38⟩ := shl 29 rfl hI o_a1
            refine ⟨a38, ea38, ?_⟩
            refine ⟨o_a38, ?_⟩
            refine ⟨(vin l_a38 (m := 6) (by decide) (qm40 h2 c5 ex12 c16 c23 c33 c36)), ?_⟩
            intro x39 ex39
            refine ⟨a1, ea1, ?_⟩
            refine ⟨o_a1, ?_⟩
            refine ⟨a38, ea38, ?_⟩
            refine ⟨o_a38, ?_⟩
            refine ⟨(vin l_a38 (m := 6) (by decide) (qm40 h2 c5 ex12 c16 c23 c33 c36)), ?_⟩
            intro x42 ex42
            refine ⟨a1, ea1, ?_⟩
            refine ⟨o_a1, ?_⟩
            obtain ⟨a44, ea44, o_a44, l_a44⟩ := shl 30 rfl hI o_a1
            refine ⟨a44, ea44, ?_⟩
            refine ⟨o_a44, ?_⟩
            refine ⟨(vin l_a44 (m := 6) (by decide) (qm40 h2 c5 ex12 c16 c23 c33 c36)), ?_⟩
            intro x45 ex45
            refine ⟨fun c46 => ?_, fun c46 => ?_⟩
            · exact hq _ _ hI g0 (Or.inl rfl) rfl
            · exact hq _ _ hI g0 (Or.inr rfl) rfl
      · refine u_X11_isForward_84 ?_
        refine ⟨o_v0, ?_⟩
        refine ⟨a1, ea1, ?_⟩
        refine ⟨o_a1, ?_⟩
        obtain ⟨a48, ea48, o_a48, l_a48⟩ := shl 39 rfl hI o_a1
        refine ⟨a48, ea48, ?_⟩
        refine ⟨o_a48, ?_⟩
        refine ⟨(vin l_a48 (m := 12) (by decide) (qm41 h1 c5 c16 c23)), ?_⟩
        intro x49 ex49
        refine ⟨a1, ea1, ?_⟩
        refine ⟨o_a1, ?_⟩
        obtain ⟨a51, ea51, o_a51, l_a51⟩ := shl 38 rfl hI o_a1
        refine ⟨a51, ea51, ?_⟩
        refine ⟨o_a51, ?_⟩
        refine ⟨(vin l_a51 (m := 12) (by decide) (qm41 h1 c5 c16 c23)), ?_⟩
        intro x52 ex52
        refine ⟨fun c53 => ?_, fun c53 => ?_⟩
        · refine u_X11_isForward_112 ?_
          refine ⟨fun c54 => ?_, fun c54 => absurd (show ¬ (0 : Int32) = 0 from c54) (by decide)⟩
          exact hq _ _ hI g0 (Or.inl rfl) rfl
        · refine u_X11_isForward_112 ?_
          refine ⟨fun c55 => absurd (show (1 : Int32) = 0 from c55) (by decide), fun c55 => ?_⟩
          refine ⟨fun c56 => ?_, fun c56 => ?_⟩
          · exact hq _ _ hI g0 (Or.inl rfl) rfl
          · refine ⟨o_v0, ?_⟩
            refine ⟨a1, ea1, ?_⟩
            refine ⟨o_a1, ?_⟩
            obtain ⟨a58, ea58, o_a58, l_a58⟩ := shl 29 rfl hI o_a1
            refine ⟨a58, ea58, ?_⟩
            refine ⟨o_a58, ?_⟩
            refine ⟨(vin l_a58 (m := 6) (by decide) (qm42 h2 c5 ex12 c16 c23 c53 c56)), ?_⟩
            intro x59 ex59
            refine ⟨a1, ea1, ?_⟩
            refine ⟨o_a1, ?_⟩
            refine ⟨a58, ea58, ?_⟩
            refine ⟨o_a58, ?_⟩
            refine ⟨(vin l_a58 (m := 6) (by decide) (qm42 h2 c5 ex12 c16 c23 c53 c56)), ?_⟩
            intro x62 ex62
            refine ⟨a1, ea1, ?_⟩
            refine ⟨o_a1, ?_⟩
            obtain ⟨a64, ea64, o_a64, l_a64⟩ := shl 30 rfl hI o_a1
            refine ⟨a64, ea64, ?_⟩
            refine ⟨o_a64, ?_⟩
            refine ⟨(vin l_a64 (m := 6) (by decide) (qm42 h2 c5 ex12 c16 c23 c53 c56)), ?_⟩
            intro x65 ex65
            refine ⟨fun c66 => ?_, fun c66 => ?_⟩
            · exact hq _ _ hI g0 (Or.inl rfl) rfl
            · exact hq _ _ hI g0 (Or.inr rfl) rfl
    · refine u_X11_isForward_54 ?_
      refine ⟨o_v0, ?_⟩
      refine ⟨a1, ea1, ?_⟩
      refine ⟨o_a1, ?_⟩
      obtain ⟨a68, ea68, o_a68, l_a68⟩ := shl 43 rfl hI o_a1
      refine ⟨a68, ea68, ?_⟩
      refine ⟨o_a68, ?_⟩
      refine ⟨(vin l_a68 (m := 4) (by decide) (qm43 h0 c5 c16)), ?_⟩
      intro x69 ex69
      refine ⟨fun c70 => ?_, fun c70 => ?_⟩
      · refine ⟨a1, ea1, ?_⟩
        refine ⟨o_a1, ?_⟩
        refine ⟨a68, ea68, ?_⟩
        refine ⟨o_a68, ?_⟩
        refine ⟨(vin l_a68 (m := 4) (by decide) (qm44 h0 c5 c16 c70)), ?_⟩
        intro x73 ex73
        refine u_X11_isForward_84 ?_
        refine ⟨o_v0, ?_⟩
        refine ⟨a1, ea1, ?_⟩
        refine ⟨o_a1, ?_⟩
        obtain ⟨a75, ea75, o_a75, l_a75⟩ := shl 39 rfl hI o_a1
        refine ⟨a75, ea75, ?_⟩
        refine ⟨o_a75, ?_⟩
        refine ⟨(vin l_a75 (m := 12) (by decide) (qm45 h1 c5 c16 c70)), ?_⟩
        intro x76 ex76
        refine ⟨a1, ea1, ?_⟩
        refine ⟨o_a1, ?_⟩
        obtain ⟨a78, ea78, o_a78, l_a78⟩ := shl 38 rfl hI o_a1
        refine ⟨a78, ea78, ?_⟩
        refine ⟨o_a78, ?_⟩
        refine ⟨(vin l_a78 (m := 12) (by decide) (qm45 h1 c5 c16 c70)), ?_⟩
        intro x79 ex79
        refine ⟨fun c80 => ?_, fun c80 => ?_⟩
        · refine u_X11_isForward_112 ?_
          refine ⟨fun c81 => ?_, fun c81 => absurd (show ¬ (0 : Int32) = 0 from c81) (by decide)⟩
          exact hq _ _ hI g0 (Or.inl rfl) rfl
        · refine u_X11_isForward_112 ?_
          refine ⟨fun c82 => absurd (show (1 : Int32) = 0 from c82) (by decide), fun c82 => ?_⟩
          refine ⟨fun c83 => ?_, fun c83 => ?_⟩
          · exact hq _ _ hI g0 (Or.inl rfl) rfl
          · refine ⟨o_v0, ?_⟩
            refine ⟨a1, ea1, ?_⟩
            refine ⟨o_a1, ?_⟩
            obtain ⟨a85, ea85, o_a85, l_a85⟩ := shl 29 rfl hI o_a1
            refine ⟨a85, ea85, ?_⟩
            refine ⟨o_a85, ?_⟩
            refine ⟨(vin l_a85 (m := 6) (by decide) (qm46 h2 c5 ex12 c16 c70 c80 c83)), ?_⟩
            intro x86 ex86
            refine ⟨a1, ea1, ?_⟩
            refine ⟨o_a1, ?_⟩
            refine ⟨a85, ea85, ?_⟩
            refine ⟨o_a85, ?_⟩
            refine ⟨(vin l_a85 (m := 6) (by decide) (qm46 h2 c5 ex12 c16 c70 c80 c83)), ?_⟩
            intro x89 ex89
            refine ⟨a1, ea1, ?_⟩
            refine ⟨o_a1, ?_⟩
            obtain ⟨a91, ea91, o_a91, l_a91⟩ := shl 30 rfl hI o_a1
            refine ⟨a91, ea91, ?_⟩
            refine ⟨o_a91, ?_⟩
            refine ⟨(vin l_a91 (m := 6) (by decide) (qm46 h2 c5 ex12 c16 c70 c80 c83)), ?_⟩
            intro x92 ex92
            refine ⟨fun c93 => ?_, fun c93 => ?_⟩
            · exact hq _ _ hI g0 (Or.inl rfl) rfl
            · exact hq _ _ hI g0 (Or.inr rfl) rfl
      · refine u_X11_isForward_84 ?_
        refine ⟨o_v0, ?_⟩
        refine ⟨a1, ea1, ?_⟩
        refine ⟨o_a1, ?_⟩
        obtain ⟨a95, ea95, o_a95, l_a95⟩ := shl 39 rfl hI o_a1
        refine ⟨a95, ea95, ?_⟩
        refine ⟨o_a95, ?_⟩
        refine ⟨(vin l_a95 (m := 12) (by decide) (qm47 h1 c5 c16 c70)), ?_⟩
        intro x96 ex96
        refine ⟨a1, ea1, ?_⟩
        refine ⟨o_a1, ?_⟩
        obtain ⟨a98, ea98, o_a98, l_a98⟩ := shl 38 rfl hI o_a1
        refine ⟨a98, ea98, ?_⟩
        refine ⟨o_a98, ?_⟩
        refine ⟨(vin l_a98 (m := 12) (by decide) (qm47 h1 c5 c16 c70)), ?_⟩
        intro x99 ex99
        refine ⟨fun c100 => ?_, fun c100 => ?_⟩
        · refine u_X11_isForward_112 ?_
          refine ⟨fun c101 => ?_, fun c101 => absurd (show ¬ (0 : Int32) = 0 from c101) (by decide)⟩
          exact hq _ _ hI g0 (Or.inl rfl) rfl
        · refine u_X11_isForward_112 ?_
          refine ⟨fun c102 => absurd (show (1 : Int32) = 0 from c102) (by decide), fun c102 => ?_⟩
          refine ⟨fun c103 => ?_, fun c103 => ?_⟩
          · exact hq _ _ hI g0 (Or.inl rfl) rfl
          · refine ⟨o_v0, ?_⟩
            refine ⟨a1, ea1, ?_⟩
            refine ⟨o_a1, ?_⟩
            obtain ⟨a105, ea105, o_a105, l_a105⟩ := shl 29 rfl hI o_a1
            refine ⟨a105, ea105, ?_⟩
            refine ⟨o_a105, ?_⟩
            refine ⟨(vin l_a105 (m := 6) (by decide) (qm48 h2 c5 ex12 c16 c70 c100 c103)), ?_⟩
            intro x106 ex106
            refine ⟨a1, ea1, ?_⟩
            refine ⟨o_a1, ?_⟩
            refine ⟨a105, ea105, ?_⟩
            refine ⟨o_a105, ?_⟩
            refine ⟨(vin l_a105 (m := 6) (by decide) (qm48 h2 c5 ex12 c16 c70 c100 c103)), ?_⟩
            intro x109 ex109
            refine ⟨a1, ea1, ?_⟩
            refine ⟨o_a1, ?_⟩
            obtain ⟨a111, ea111, o_a111, l_a111⟩ := shl 30 rfl hI o_a1
            refine ⟨a111, ea111, ?_⟩
            refine ⟨o_a111, ?_⟩
            refine ⟨(vin l_a111 (m := 6) (by decide) (qm48 h2 c5 ex12 c16 c70 c100 c103)), ?_⟩
            intro x112 ex112
            refine ⟨fun c113 => ?_, fun c113 => ?_⟩
            · exact hq _ _ hI g0 (Or.inl rfl) rfl
            · exact hq _ _ hI g0 (Or.inr rfl) rfl
  · obtain ⟨a114, ea114, o_a114, l_a114⟩ := shl 42 rfl hI o_a1
    refine ⟨a114, ea114, ?_⟩
    refine ⟨o_a114, ?_⟩
    refine ⟨(vin l_a114 (m := 4) (by decide) (qm29 h0 c5)), ?_⟩
    intro x115 ex115
    intro _
    refine ⟨a1, ea1, ?_⟩
    refine ⟨o_a1, ?_⟩
    refine m_X10_air hI o_a1 (qm49 h1 c5) (qm50 h2 c5) (fun x118 S119 hI2 g120 p_x118 => ?_)
    subst p_x118
    intro _
    intro x122 ex122
    refine ⟨a1, ea1, ?_⟩
    refine ⟨o_a1, ?_⟩
    obtain ⟨a124, ea124, o_a124, l_a124⟩ := shl 44 rfl hI o_a1
    refine ⟨a124, ea124, ?_⟩
    refine ⟨o_a124, ?_⟩
    refine ⟨(vin l_a124 (m := 4) (by decide) (qm29 h0 c5)), ?_⟩
    intro x125 ex125
    refine ⟨fun c126 => ?_, fun c126 => ?_⟩
    · refine ⟨a1, ea1, ?_⟩
      refine ⟨o_a1, ?_⟩
      refine ⟨a124, ea124, ?_⟩
      refine ⟨o_a124, ?_⟩
      refine ⟨(vin l_a124 (m := 4) (by decide) (qm51 h0 c5 c126)), ?_⟩
      intro x129 ex129
      refine u_X11_isForward_54 ?_
      refine ⟨o_v0, ?_⟩
      refine ⟨a1, ea1, ?_⟩
      refine ⟨o_a1, ?_⟩
      obtain ⟨a131, ea131, o_a131, l_a131⟩ := shl 43 rfl hI o_a1
      refine ⟨a131, ea131, ?_⟩
      refine ⟨o_a131, ?_⟩
      refine ⟨(vin l_a131 (m := 4) (by decide) (qm51 h0 c5 c126)), ?_⟩
      intro x132 ex132
      refine ⟨fun c133 => ?_, fun c133 => ?_⟩
      · refine ⟨a1, ea1, ?_⟩
        refine ⟨o_a1, ?_⟩
        refine ⟨a131, ea131, ?_⟩
        refine ⟨o_a131, ?_⟩
        refine ⟨(vin l_a131 (m := 4) (by decide) (qm52 h0 c5 c126 c133)), ?_⟩
        intro x136 ex136
        refine u_X11_isForward_84 ?_
        refine ⟨o_v0, ?_⟩
        refine ⟨a1, ea1, ?_⟩
        refine ⟨o_a1, ?_⟩
        obtain ⟨a138, ea138, o_a138, l_a138⟩ := shl 39 rfl hI o_a1
        refine ⟨a138, ea138, ?_⟩
        refine ⟨o_a138, ?_⟩
        refine ⟨(vin l_a138 (m := 12) (by decide) (qm53 h1 c5 c126 c133)), ?_⟩
        intro x139 ex139
        refine ⟨a1, ea1, ?_⟩
        refine ⟨o_a1, ?_⟩
        obtain ⟨a141, ea141, o_a141, l_a141⟩ := shl 38 rfl hI o_a1
        refine ⟨a141, ea141, ?_⟩
        refine ⟨o_a141, ?_⟩
        refine ⟨(vin l_a141 (m := 12) (by decide) (qm53 h1 c5 c126 c133)), ?_⟩
        intro x142 ex142
        refine ⟨fun c143 => ?_, fun c143 => ?_⟩
        · refine u_X11_isForward_112 ?_
          refine ⟨fun c144 => ?_, fun c144 => absurd (show ¬ (0 : Int32) = 0 from c144) (by decide)⟩
          exact hq _ _ hI g0 (Or.inl rfl) rfl
        · refine u_X11_isForward_112 ?_
          refine ⟨fun c145 => absurd (show (1 : Int32) = 0 from c145) (by decide), fun c145 => ?_⟩
          refine ⟨fun c146 => ?_, fun c146 => ?_⟩
          · exact hq _ _ hI g0 (Or.inl rfl) rfl
          · refine ⟨o_v0, ?_⟩
            refine ⟨a1, ea1, ?_⟩
            refine ⟨o_a1, ?_⟩
            obtain ⟨a148, ea148, o_a148, l_a148⟩ := shl 29 rfl hI o_a1
            refine ⟨a148, ea148, ?_⟩
            refine ⟨o_a148, ?_⟩
            refine ⟨(vin l_a148 (m := 6) (by decide) (qm54 h2 c5 ex122 c126 c133 c143 c146)), ?_⟩
            intro x149 ex149
            refine ⟨a1, ea1, ?_⟩
            refine ⟨o_a1, ?_⟩
            refine ⟨a148, ea148, ?_⟩
            refine ⟨o_a148, ?_⟩
            refine ⟨(vin l_a148 (m := 6) (by decide) (qm54 h2 c5 ex122 c126 c133 c143 c146)), ?_⟩
            intro x152 ex152
            refine ⟨a1, ea1, ?_⟩
            refine ⟨o_a1, ?_⟩
            obtain ⟨a154, ea154, o_a154, l_a154⟩ := shl 30 rfl hI o_a1
            refine ⟨a154, ea154, ?_⟩
            refine ⟨o_a154, ?_⟩
            refine ⟨(vin l_a154 (m := 6) (by decide) (qm54 h2 c5 ex122 c126 c133 c143 c146)), ?_⟩
            intro x155 ex155
            refine ⟨fun c156 => ?_, fun c156 => ?_⟩
            · exact hq _ _ hI g0 (Or.inl rfl) rfl
            · exact hq _ _ hI g0 (Or.inr rfl) rfl
      · refine u_X11_isForward_84 ?_
        refine ⟨o_v0, ?_⟩
        refine ⟨a1, ea1, ?_⟩
        refine ⟨o_a1, ?_⟩
        obtain ⟨a158, ea158, o_a158, l_a158⟩ := shl 39 rfl hI o_a1
        refine ⟨a158, ea158, ?_⟩
        refine ⟨o_a158, ?_⟩
        refine ⟨(vin l_a158 (m := 12) (by decide) (qm55 h1 c5 c126 c133)), ?_⟩
        intro x159 ex159
        refine ⟨a1, ea1, ?_⟩
        refine ⟨o_a1, ?_⟩
        obtain ⟨a161, ea161, o_a161, l_a161⟩ := shl 38 rfl hI o_a1
        refine ⟨a161, ea161, ?_⟩
        refine ⟨o_a161, ?_⟩
        refine ⟨(vin l_a161 (m := 12) (by decide) (qm55 h1 c5 c126 c133)), ?_⟩
        intro x162 ex162
        refine ⟨fun c163 => ?_, fun c163 => ?_⟩
        · refine u_X11_isForward_112 ?_
          refine ⟨fun c164 => ?_, fun c164 => absurd (show ¬ (0 : Int32) = 0 from c164) (by decide)⟩
          exact hq _ _ hI g0 (Or.inl rfl) rfl
        · refine u_X11_isForward_112 ?_
          refine ⟨fun c165 => absurd (show (1 : Int32) = 0 from c165) (by decide), fun c165 => ?_⟩
          refine ⟨fun c166 => ?_, fun c166 => ?_⟩
          · exact hq _ _ hI g0 (Or.inl rfl) rfl
          · refine ⟨o_v0, ?_⟩
            refine ⟨a1, ea1, ?_⟩
            refine ⟨o_a1, ?_⟩
            obtain ⟨a168, ea168, o_a168, l_a168⟩ := shl 29 rfl hI o_a1
            refine ⟨a168, ea168, ?_⟩
            refine ⟨o_a168, ?_⟩
            refine ⟨(vin l_a168 (m := 6) (by decide) (qm56 h2 c5 ex122 c126 c133 c163 c166)), ?_⟩
            intro x169 ex169
            refine ⟨a1, ea1, ?_⟩
            refine ⟨o_a1, ?_⟩
            refine ⟨a168, ea168, ?_⟩
            refine ⟨o_a168, ?_⟩
            refine ⟨(vin l_a168 (m := 6) (by decide) (qm56 h2 c5 ex122 c126 c133 c163 c166)), ?_⟩
            intro x172 ex172
            refine ⟨a1, ea1, ?_⟩
            refine ⟨o_a1, ?_⟩
            obtain ⟨a174, ea174, o_a174, l_a174⟩ := shl 30 rfl hI o_a1
            refine ⟨a174, ea174, ?_⟩
            refine ⟨o_a174, ?_⟩
            refine ⟨(vin l_a174 (m := 6) (by decide) (qm56 h2 c5 ex122 c126 c133 c163 c166)), ?_⟩
            intro x175 ex175
            refine ⟨fun c176 => ?_, fun c176 => ?_⟩
            · exact hq _ _ hI g0 (Or.inl rfl) rfl
            · exact hq _ _ hI g0 (Or.inr rfl) rfl
    · refine u_X11_isForward_54 ?_
      refine ⟨o_v0, ?_⟩
      refine ⟨a1, ea1, ?_⟩
      refine ⟨o_a1, ?_⟩
      obtain ⟨a178, ea178, o_a178, l_a178⟩ := shl 43 rfl hI o_a1
      refine ⟨a178, ea178, ?_⟩
      refine ⟨o_a178, ?_⟩
      refine ⟨(vin l_a178 (m := 4) (by decide) (qm57 h0 c5 c126)), ?_⟩
      intro x179 ex179
      refine ⟨fun c180 => ?_, fun c180 => ?_⟩
      · refine ⟨a1, ea1, ?_⟩
        refine ⟨o_a1, ?_⟩
        refine ⟨a178, ea178, ?_⟩
        refine ⟨o_a178, ?_⟩
        refine ⟨(vin l_a178 (m := 4) (by decide) (qm58 h0 c5 c126 c180)), ?_⟩
        intro x183 ex183
        refine u_X11_isForward_84 ?_
        refine ⟨o_v0, ?_⟩
        refine ⟨a1, ea1, ?_⟩
        refine ⟨o_a1, ?_⟩
        obtain ⟨a185, ea185, o_a185, l_a185⟩ := shl 39 rfl hI o_a1
        refine ⟨a185, ea185, ?_⟩
        refine ⟨o_a185, ?_⟩
        refine ⟨(vin l_a185 (m := 12) (by decide) (qm59 h1 c5 c126 c180)), ?_⟩
        intro x186 ex186
        refine ⟨a1, ea1, ?_⟩
        refine ⟨o_a1, ?_⟩
        obtain ⟨a188, ea188, o_a188, l_a188⟩ := shl 38 rfl hI o_a1
        refine ⟨a188, ea188, ?_⟩
        refine ⟨o_a188, ?_⟩
        refine ⟨(vin l_a188 (m := 12) (by decide) (qm59 h1 c5 c126 c180)), ?_⟩
        intro x189 ex189
        refine ⟨fun c190 => ?_, fun c190 => ?_⟩
        · refine u_X11_isForward_112 ?_
          refine ⟨fun c191 => ?_, fun c191 => absurd (show ¬ (0 : Int32) = 0 from c191) (by decide)⟩
          exact hq _ _ hI g0 (Or.inl rfl) rfl
        · refine u_X11_isForward_112 ?_
          refine ⟨fun c192 => absurd (show (1 : Int32) = 0 from c192) (by decide), fun c192 => ?_⟩
          refine ⟨fun c193 => ?_, fun c193 => ?_⟩
          · exact hq _ _ hI g0 (Or.inl rfl) rfl
          · refine ⟨o_v0, ?_⟩
            refine ⟨a1, ea1, ?_⟩
            refine ⟨o_a1, ?_⟩
            obtain ⟨a195, ea195, o_a195, l_a195⟩ := shl 29 rfl hI o_a1
            refine ⟨a195, ea195, ?_⟩
            refine ⟨o_a195, ?_⟩
            refine ⟨(vin l_a195 (m := 6) (by decide) (qm60 h2 c5 ex122 c126 c180 c190 c193)), ?_⟩
            intro x196 ex196
            refine ⟨a1, ea1, ?_⟩
            refine ⟨o_a1, ?_⟩
            refine ⟨a195, ea195, ?_⟩
            refine ⟨o_a195, ?_⟩
            refine ⟨(vin l_a195 (m := 6) (by decide) (qm60 h2 c5 ex122 c126 c180 c190 c193)), ?_⟩
            intro x199 ex199
            refine ⟨a1, ea1, ?_⟩
            refine ⟨o_a1, ?_⟩
            obtain ⟨a201, ea201, o_a201, l_a201⟩ := shl 30 rfl hI o_a1
            refine ⟨a201, ea201, ?_⟩
            refine ⟨o_a201, ?_⟩
            refine ⟨(vin l_a201 (m := 6) (by decide) (qm60 h2 c5 ex122 c126 c180 c190 c193)), ?_⟩
            intro x202 ex202
            refine ⟨fun c203 => ?_, fun c203 => ?_⟩
            · exact hq _ _ hI g0 (Or.inl rfl) rfl
            · exact hq _ _ hI g0 (Or.inr rfl) rfl
      · refine u_X11_isForward_84 ?_
        refine ⟨o_v0, ?_⟩
        refine ⟨a1, ea1, ?_⟩
        refine ⟨o_a1, ?_⟩
        obtain ⟨a205, ea205, o_a205, l_a205⟩ := shl 39 rfl hI o_a1
        refine ⟨a205, ea205, ?_⟩
        refine ⟨o_a205, ?_⟩
        refine ⟨(vin l_a205 (m := 12) (by decide) (qm61 h1 c5 c126 c180)), ?_⟩
        intro x206 ex206
        refine ⟨a1, ea1, ?_⟩
        refine ⟨o_a1, ?_⟩
        obtain ⟨a208, ea208, o_a208, l_a208⟩ := shl 38 rfl hI o_a1
        refine ⟨a208, ea208, ?_⟩
        refine ⟨o_a208, ?_⟩
        refine ⟨(vin l_a208 (m := 12) (by decide) (qm61 h1 c5 c126 c180)), ?_⟩
        intro x209 ex209
        refine ⟨fun c210 => ?_, fun c210 => ?_⟩
        · refine u_X11_isForward_112 ?_
          refine ⟨fun c211 => ?_, fun c211 => absurd (show ¬ (0 : Int32) = 0 from c211) (by decide)⟩
          exact hq _ _ hI g0 (Or.inl rfl) rfl
        · refine u_X11_isForward_112 ?_
          refine ⟨fun c212 => absurd (show (1 : Int32) = 0 from c212) (by decide), fun c212 => ?_⟩
          refine ⟨fun c213 => ?_, fun c213 => ?_⟩
          · exact hq _ _ hI g0 (Or.inl rfl) rfl
          · refine ⟨o_v0, ?_⟩
            refine ⟨a1, ea1, ?_⟩
            refine ⟨o_a1, ?_⟩
            obtain ⟨a215, ea215, o_a215, l_a215⟩ := shl 29 rfl hI o_a1
            refine ⟨a215, ea215, ?_⟩
            refine ⟨o_a215, ?_⟩
            refine ⟨(vin l_a215 (m := 6) (by decide) (qm62 h2 c5 ex122 c126 c180 c210 c213)), ?_⟩
            intro x216 ex216
            refine ⟨a1, ea1, ?_⟩
            refine ⟨o_a1, ?_⟩
            refine ⟨a215, ea215, ?_⟩
            refine ⟨o_a215, ?_⟩
            refine ⟨(vin l_a215 (m := 6) (by decide) (qm62 h2 c5 ex122 c126 c180 c210 c213)), ?_⟩
            intro x219 ex219
            refine ⟨a1, ea1, ?_⟩
            refine ⟨o_a1, ?_⟩
            obtain ⟨a221, ea221, o_a221, l_a221⟩ := shl 30 rfl hI o_a1
            refine ⟨a221, ea221, ?_⟩
            refine ⟨o_a221, ?_⟩
            refine ⟨(vin l_a221 (m := 6) (by decide) (qm62 h2 c5 ex122 c126 c180 c210 c213)), ?_⟩
            intro x222 ex222
            refine ⟨fun c223 => ?_, fun c223 => ?_⟩
            · exact hq _ _ hI g0 (Or.inl rfl) rfl
            · exact hq _ _ hI g0 (Or.inr rfl) rfl
end
section
set_option maxHeartbeats 4000000 in
set_option maxRecDepth 20000 in
theorem m_X11_inTime {v0 : Nat} {v1 : Int32} {v2 : Int32} {v3 : Int32} {v4 : Int32} {v5 : Int32} {v6 : Int32} {v7 : Int32} {v8 : Int32} {Q : Int32 → HS → Prop} {S : HS} (hI : IV S) (o_v0 : ob S v0 11)   (h0 : 0 ≤ v1 ∧ v1 < 4) (h1 : 0 ≤ v2 ∧ v2 < 12) (h2 : 0 ≤ v4 ∧ v4 < 6)  (hw : WN S v0) (hq : ∀ (r : Int32) (T : HS), IV T → Gr S T → (S = T) → Q r T) : P_X11_inTime v0 v1 v2 v3 v4 v5 v6 v7 v8 Q S := by
  have g0 := gr_rf S
  obtain ⟨a1, ea1⟩ := hw
  have o_a1 := ml_ob hI o_v0 ea1
  refine u_X11_inTime ?_
  refine u_X11_inTime_0 ?_
  refine ⟨o_v0, ?_⟩
  refine ⟨a1, ea1, ?_⟩
  refine ⟨o_a1, ?_⟩
  obtain ⟨a3, ea3, o_a3, l_a3⟩ := shl 29 rfl hI o_a1
  refine ⟨a3, ea3, ?_⟩
  refine ⟨o_a3, ?_⟩
  refine ⟨(vin l_a3 (m := 6) (by decide) (qm21 h2)), ?_⟩
  intro x4 ex4
  refine ⟨a1, ea1, ?_⟩
  refine ⟨o_a1, ?_⟩
  refine m_X10_air hI o_a1 (qm17 h1) (qm18 h2) (fun x6 S7 hI2 g8 p_x6 => ?_)
  subst p_x6
  intro _
  intro x10 ex10
  refine ⟨a1, ea1, ?_⟩
  refine ⟨o_a1, ?_⟩
  refine m_X10_across hI o_a1 (qm17 h1) (qm18 h2) (fun x12 S13 hI2 g14 p_x12 => ?_)
  subst p_x12
  intro _
  refine m_X11_isForward hI o_v0 (qm16 h0) (qm17 h1) (qm18 h2) ⟨_, ea1⟩ (fun x16 S17 hI2 g18 b_x16 p_x16 => ?_)
  subst p_x16
  intro _ _
  have bb_x16 : x16 = 0 ∨ x16 = 1 := b_x16
  refine ⟨a1, ea1, ?_⟩
  refine ⟨o_a1, ?_⟩
  refine u_X10_shield ?_
  refine u_X10_shield_0 ?_
  refine ⟨o_a1, ?_⟩
  obtain ⟨a21, ea21, o_a21, l_a21⟩ := shl 41 rfl hI o_a1
  refine ⟨a21, ea21, ?_⟩
  refine ⟨o_a21, ?_⟩
  refine ⟨(vin l_a21 (m := 4) (by decide) (qm22 h0)), ?_⟩
  intro x22 ex22
  refine ⟨fun c23 => ?_, fun c23 => ?_⟩
  · intro _
    refine ⟨fun c25 => ?_, fun c25 => ?_, fun c25 => ?_, fun c25 => ?_, fun c25 => ?_⟩
    · refine ⟨fun c26 => ?_, fun c26 => ?_⟩
      · exact hq _ _ hI g0 rfl
      · refine ⟨a1, ea1, ?_⟩
        refine ⟨o_a1, ?_⟩
        obtain ⟨a28, ea28, o_a28, l_a28⟩ := shl 45 rfl hI o_a1
        refine ⟨a28, ea28, ?_⟩
        refine ⟨o_a28, ?_⟩
        refine ⟨(vin l_a28 (m := 4) (by decide) (qm23 h0 c23 c26)), ?_⟩
        intro x29 ex29
        exact hq _ _ hI g0 rfl
    · refine ⟨a1, ea1, ?_⟩
      refine ⟨o_a1, ?_⟩
      obtain ⟨a31, ea31, o_a31, l_a31⟩ := shl 30 rfl hI o_a1
      refine ⟨a31, ea31, ?_⟩
      refine ⟨o_a31, ?_⟩
      refine ⟨(vin l_a31 (m := 6) (by decide) (qm24 h2 c23)), ?_⟩
      intro x32 ex32
      refine ⟨a1, ea1, ?_⟩
      refine ⟨o_a1, ?_⟩
      obtain ⟨a34, ea34, o_a34, l_a34⟩ := shl 43 rfl hI o_a1
      refine ⟨a34, ea34, ?_⟩
      refine ⟨o_a34, ?_⟩
      refine ⟨(vin l_a34 (m := 4) (by decide) (qm25 h0 c23)), ?_⟩
      intro x35 ex35
      refine ⟨fun c36 => ?_, fun c36 => ?_⟩
      · refine u_X11_inTime_129 ?_
        refine u_X11_less ?_
        refine u_X11_less_0 ?_
        refine ⟨fun c37 => ?_, fun c37 => ?_⟩
        · intro _
          exact hq _ _ hI g0 rfl
        · intro _
          exact hq _ _ hI g0 rfl
      · refine u_X11_inTime_129 ?_
        refine u_X11_less ?_
        refine u_X11_less_0 ?_
        refine ⟨fun c40 => ?_, fun c40 => ?_⟩
        · intro _
          exact hq _ _ hI g0 rfl
        · intro _
          exact hq _ _ hI g0 rfl
    · refine ⟨fun c43 => ?_, fun c43 => ?_⟩
      · exact hq _ _ hI g0 rfl
      · refine ⟨a1, ea1, ?_⟩
        refine ⟨o_a1, ?_⟩
        obtain ⟨a45, ea45, o_a45, l_a45⟩ := shl 44 rfl hI o_a1
        refine ⟨a45, ea45, ?_⟩
        refine ⟨o_a45, ?_⟩
        refine ⟨(vin l_a45 (m := 4) (by decide) (qm26 h0 ex10 c23 c43)), ?_⟩
        intro x46 ex46
        refine ⟨fun c47 => ?_, fun c47 => ?_⟩
        · refine u_X11_inTime_164 ?_
          refine u_X11_less ?_
          refine u_X11_less_0 ?_
          refine ⟨fun c48 => ?_, fun c48 => ?_⟩
          · intro _
            refine u_X11_less ?_
            refine u_X11_less_0 ?_
            refine ⟨fun c50 => ?_, fun c50 => ?_⟩
            · intro _
              exact hq _ _ hI g0 rfl
            · intro _
              exact hq _ _ hI g0 rfl
          · intro _
            refine u_X11_less ?_
            refine u_X11_less_0 ?_
            refine ⟨fun c54 => ?_, fun c54 => ?_⟩
            · intro _
              exact hq _ _ hI g0 rfl
            · intro _
              exact hq _ _ hI g0 rfl
        · refine u_X11_inTime_164 ?_
          refine u_X11_less ?_
          refine u_X11_less_0 ?_
          refine ⟨fun c57 => ?_, fun c57 => ?_⟩
          · intro _
            refine u_X11_less ?_
            refine u_X11_less_0 ?_
            refine ⟨fun c59 => ?_, fun c59 => ?_⟩
            · intro _
              exact hq _ _ hI g0 rfl
            · intro _
              exact hq _ _ hI g0 rfl
          · intro _
            refine u_X11_less ?_
            refine u_X11_less_0 ?_
            refine ⟨fun c63 => ?_, fun c63 => ?_⟩
            · intro _
              exact hq _ _ hI g0 rfl
            · intro _
              exact hq _ _ hI g0 rfl
    · refine ⟨fun c66 => ?_, fun c66 => ?_⟩
      · exact hq _ _ hI g0 rfl
      · refine ⟨a1, ea1, ?_⟩
        refine ⟨o_a1, ?_⟩
        obtain ⟨a68, ea68, o_a68, l_a68⟩ := shl 44 rfl hI o_a1
        refine ⟨a68, ea68, ?_⟩
        refine ⟨o_a68, ?_⟩
        refine ⟨(vin l_a68 (m := 4) (by decide) (qm27 h0 ex10 c23 c66)), ?_⟩
        intro x69 ex69
        refine u_X11_less ?_
        refine u_X11_less_0 ?_
        refine ⟨fun c70 => ?_, fun c70 => ?_⟩
        · intro _
          exact hq _ _ hI g0 rfl
        · intro _
          exact hq _ _ hI g0 rfl
    · refine ⟨fun c73 => ?_, fun c73 => ?_⟩
      · exact hq _ _ hI g0 rfl
      · refine ⟨a1, ea1, ?_⟩
        refine ⟨o_a1, ?_⟩
        obtain ⟨a75, ea75, o_a75, l_a75⟩ := shl 45 rfl hI o_a1
        refine ⟨a75, ea75, ?_⟩
        refine ⟨o_a75, ?_⟩
        refine ⟨(vin l_a75 (m := 4) (by decide) (qm28 h0 c23 c73)), ?_⟩
        intro x76 ex76
        exact hq _ _ hI g0 rfl
  · obtain ⟨a77, ea77, o_a77, l_a77⟩ := shl 42 rfl hI o_a1
    refine ⟨a77, ea77, ?_⟩
    refine ⟨o_a77, ?_⟩
    refine ⟨(vin l_a77 (m := 4) (by decide) (qm29 h0 c23)), ?_⟩
    intro x78 ex78
    intro _
    refine ⟨fun c80 => ?_, fun c80 => ?_, fun c80 => ?_, fun c80 => ?_, fun c80 => ?_⟩
    · refine ⟨fun c81 => ?_, fun c81 => ?_⟩
      · exact hq _ _ hI g0 rfl
      · refine ⟨a1, ea1, ?_⟩
        refine ⟨o_a1, ?_⟩
        obtain ⟨a83, ea83, o_a83, l_a83⟩ := shl 45 rfl hI o_a1
        refine ⟨a83, ea83, ?_⟩
        refine ⟨o_a83, ?_⟩
        refine ⟨(vin l_a83 (m := 4) (by decide) (qm30 h0 c23 c81)), ?_⟩
        intro x84 ex84
        exact hq _ _ hI g0 rfl
    · refine ⟨a1, ea1, ?_⟩
      refine ⟨o_a1, ?_⟩
      obtain ⟨a86, ea86, o_a86, l_a86⟩ := shl 30 rfl hI o_a1
      refine ⟨a86, ea86, ?_⟩
      refine ⟨o_a86, ?_⟩
      refine ⟨(vin l_a86 (m := 6) (by decide) (qm31 h2 c23)), ?_⟩
      intro x87 ex87
      refine ⟨a1, ea1, ?_⟩
      refine ⟨o_a1, ?_⟩
      obtain ⟨a89, ea89, o_a89, l_a89⟩ := shl 43 rfl hI o_a1
      refine ⟨a89, ea89, ?_⟩
      refine ⟨o_a89, ?_⟩
      refine ⟨(vin l_a89 (m := 4) (by decide) (qm29 h0 c23)), ?_⟩
      intro x90 ex90
      refine ⟨fun c91 => ?_, fun c91 => ?_⟩
      · refine u_X11_inTime_129 ?_
        refine u_X11_less ?_
        refine u_X11_less_0 ?_
        refine ⟨fun c92 => ?_, fun c92 => ?_⟩
        · intro _
          exact hq _ _ hI g0 rfl
        · intro _
          exact hq _ _ hI g0 rfl
      · refine u_X11_inTime_129 ?_
        refine u_X11_less ?_
        refine u_X11_less_0 ?_
        refine ⟨fun c95 => ?_, fun c95 => ?_⟩
        · intro _
          exact hq _ _ hI g0 rfl
        · intro _
          exact hq _ _ hI g0 rfl
    · refine ⟨fun c98 => ?_, fun c98 => ?_⟩
      · exact hq _ _ hI g0 rfl
      · refine ⟨a1, ea1, ?_⟩
        refine ⟨o_a1, ?_⟩
        obtain ⟨a100, ea100, o_a100, l_a100⟩ := shl 44 rfl hI o_a1
        refine ⟨a100, ea100, ?_⟩
        refine ⟨o_a100, ?_⟩
        refine ⟨(vin l_a100 (m := 4) (by decide) (qm32 h0 ex10 c23 c98)), ?_⟩
        intro x101 ex101
        refine ⟨fun c102 => ?_, fun c102 => ?_⟩
        · refine u_X11_inTime_164 ?_
          refine u_X11_less ?_
          refine u_X11_less_0 ?_
          refine ⟨fun c103 => ?_, fun c103 => ?_⟩
          · intro _
            refine u_X11_less ?_
            refine u_X11_less_0 ?_
            refine ⟨fun c105 => ?_, fun c105 => ?_⟩
            · intro _
              exact hq _ _ hI g0 rfl
            · intro _
              exact hq _ _ hI g0 rfl
          · intro _
            refine u_X11_less ?_
            refine u_X11_less_0 ?_
            refine ⟨fun c109 => ?_, fun c109 => ?_⟩
            · intro _
              exact hq _ _ hI g0 rfl
            · intro _
              exact hq _ _ hI g0 rfl
        · refine u_X11_inTime_164 ?_
          refine u_X11_less ?_
          refine u_X11_less_0 ?_
          refine ⟨fun c112 => ?_, fun c112 => ?_⟩
          · intro _
            refine u_X11_less ?_
            refine u_X11_less_0 ?_
            refine ⟨fun c114 => ?_, fun c114 => ?_⟩
            · intro _
              exact hq _ _ hI g0 rfl
            · intro _
              exact hq _ _ hI g0 rfl
          · intro _
            refine u_X11_less ?_
            refine u_X11_less_0 ?_
            refine ⟨fun c118 => ?_, fun c118 => ?_⟩
            · intro _
              exact hq _ _ hI g0 rfl
            · intro _
              exact hq _ _ hI g0 rfl
    · refine ⟨fun c121 => ?_, fun c121 => ?_⟩
      · exact hq _ _ hI g0 rfl
      · refine ⟨a1, ea1, ?_⟩
        refine ⟨o_a1, ?_⟩
        obtain ⟨a123, ea123, o_a123, l_a123⟩ := shl 44 rfl hI o_a1
        refine ⟨a123, ea123, ?_⟩
        refine ⟨o_a123, ?_⟩
        refine ⟨(vin l_a123 (m := 4) (by decide) (qm33 h0 ex10 c23 c121)), ?_⟩
        intro x124 ex124
        refine u_X11_less ?_
        refine u_X11_less_0 ?_
        refine ⟨fun c125 => ?_, fun c125 => ?_⟩
        · intro _
          exact hq _ _ hI g0 rfl
        · intro _
          exact hq _ _ hI g0 rfl
    · refine ⟨fun c128 => ?_, fun c128 => ?_⟩
      · exact hq _ _ hI g0 rfl
      · refine ⟨a1, ea1, ?_⟩
        refine ⟨o_a1, ?_⟩
        obtain ⟨a130, ea130, o_a130, l_a130⟩ := shl 45 rfl hI o_a1
        refine ⟨a130, ea130, ?_⟩
        refine ⟨o_a130, ?_⟩
        refine ⟨(vin l_a130 (m := 4) (by decide) (qm34 h0 c23 c128)), ?_⟩
        intro x131 ex131
        exact hq _ _ hI g0 rfl
set_option maxHeartbeats 4000000 in
set_option maxRecDepth 20000 in
theorem m_X11_partsOf {v0 : Nat} {v1 : Int32} {v2 : Int32} {v3 : Int32} {v4 : Int32} {v5 : Int32} {v6 : Int32} {Q : Int64 → HS → Prop} {S : HS} (hI : IV S) (o_v0 : ob S v0 11)   (h0 : 0 ≤ v1 ∧ v1 < 4) (h1 : 0 ≤ v2 ∧ v2 < 12) (h2 : 0 ≤ v4 ∧ v4 < 6) (h3 : 1 ≤ v5)  (hw : WN S v0) (hq : ∀ (r : Int64) (T : HS), IV T → Gr S T → (S = T) → Q r T) : P_X11_partsOf v0 v1 v2 v3 v4 v5 v6 Q S := by
  have g0 := gr_rf S
  obtain ⟨a1, ea1⟩ := hw
  have o_a1 := ml_ob hI o_v0 ea1
  refine u_X11_partsOf ?_
  refine u_X11_partsOf_0 ?_
  refine ⟨o_v0, ?_⟩
  refine m_X11_inTime hI o_v0 (qm16 h0) (qm17 h1) (qm18 h2) ⟨_, ea1⟩ (fun x2 S3 hI2 g4 p_x2 => ?_)
  subst p_x2
  intro _
  refine ⟨a1, ea1, ?_⟩
  refine ⟨o_a1, ?_⟩
  obtain ⟨a7, ea7, o_a7, l_a7⟩ := shl 38 rfl hI o_a1
  refine ⟨a7, ea7, ?_⟩
  refine ⟨o_a7, ?_⟩
  refine ⟨(vin l_a7 (m := 12) (by decide) (qm19 h1)), ?_⟩
  intro x8 ex8
  refine ⟨a1, ea1, ?_⟩
  refine ⟨o_a1, ?_⟩
  obtain ⟨a10, ea10, o_a10, l_a10⟩ := shl 39 rfl hI o_a1
  refine ⟨a10, ea10, ?_⟩
  refine ⟨o_a10, ?_⟩
  refine ⟨(vin l_a10 (m := 12) (by decide) (qm19 h1)), ?_⟩
  intro x11 ex11
  refine ⟨(qm20 h3), ?_⟩
  intro x12 ex12
  exact hq _ _ hI g0 rfl
set_option maxHeartbeats 4000000 in
set_option maxRecDepth 20000 in
theorem m_X11_wetOf {v0 : Nat} {v1 : Int32} {v2 : Int32} {v3 : Int32} {v4 : Int32} {v5 : Int32} {Q : Int64 → HS → Prop} {S : HS} (hI : IV S) (o_v0 : ob S v0 11)   (h0 : 0 ≤ v1 ∧ v1 < 4) (h1 : 0 ≤ v2 ∧ v2 < 12) (h2 : 0 ≤ v4 ∧ v4 < 6) (h3 : 1 ≤ v5)  (hw : WN S v0) (hq : ∀ (r : Int64) (T : HS), IV T → Gr S T → (S = T) → Q r T) : P_X11_wetOf v0 v1 v2 v3 v4 v5 Q S := by
  have g0 := gr_rf S
  obtain ⟨a1, ea1⟩ := hw
  have o_a1 := ml_ob hI o_v0 ea1
  refine u_X11_wetOf ?_
  refine u_X11_wetOf_0 ?_
  refine i_X11_wetOf_6 (fun (y0 : Nat) (y1 : Int32) (y2 : Int32) (y3 : Int32) (y4 : Int32) (y5 : Int32) (y6 : Int64) (y8 : Int32) (Z : HS) => ((2147483647 : Int32).toInt - y8.toInt).toNat) (fun (y0 : Nat) (y1 : Int32) (y2 : Int32) (y3 : Int32) (y4 : Int32) (y5 : Int32) (y6 : Int64) (y8 : Int32) (Z : HS) => (S = Z) ∧ (v0 = y0) ∧ (v1 = y1) ∧ (v2 = y2) ∧ (v3 = y3) ∧ (v4 = y4) ∧ (v5 = y5) ∧ (0 ≤ y8)) ?_ _ _ _ _ _ _ _ _ _ ⟨rfl, rfl, rfl, rfl, rfl, rfl, rfl, (qm8)⟩
  intro w6 w8 w10 w12 w14 w16 w18 w19 S3 X20 ⟨eS3, q7, q9, q11, q13, q15, q17, i1u2⟩ ih21
  subst q7
  subst q9
  subst q11
  subst q13
  subst q15
  subst q17
  subst eS3
  refine u_X11_wetOf_6 ?_
  refine ⟨fun c22 => ?_, fun c22 => ?_⟩
  · exact hq _ _ hI g0 rfl
  · refine ⟨o_v0, ?_⟩
    refine m_X11_partsOf hI o_v0 (qm9 h0 i1u2 c22) (qm10 h1 i1u2 c22) (qm11 h2 i1u2 c22) (qm12 h3 i1u2 c22) ⟨_, ea1⟩ (fun x23 S24 hI2 g25 p_x23 => ?_)
    subst p_x23
    intro _
    intro x27 ex27
    intro x28 ex28
    exact ih21 _ _ _ _ _ _ _ _ _ ⟨rfl, rfl, rfl, rfl, rfl, rfl, rfl, (qm13 i1u2 c22 ex28)⟩ (mu_up (qm14 i1u2 c22 ex28) (qm15 i1u2 c22 ex28))
set_option maxHeartbeats 4000000 in
set_option maxRecDepth 20000 in
theorem m_X11_bestOf {v0 : Nat} {v1 : Int32} {v2 : Int32} {v3 : Int32} {v4 : Int32} {Q : Int32 → HS → Prop} {S : HS} (hI : IV S) (o_v0 : ob S v0 11)   (h0 : 0 ≤ v2 ∧ v2 < 12) (h1 : 0 ≤ v4 ∧ v4 < 6)  (hwi1 : WI S v0 4 v1) (hq : ∀ (r : Int32) (T : HS), IV T → Gr S T → (S = T) ∧ (1 ≤ r ∧ r ≤ 9) → Q r T) : P_X11_bestOf v0 v1 v2 v3 v4 Q S := by
  have g0 := gr_rf S
  obtain ⟨a1, ea1, hx1⟩ := hwi1
  have o_a1 := ml_ob hI o_v0 ea1
  obtain ⟨kv2, d_kv2⟩ : ∃ z : Int32, z = fI S a1 4 := ⟨_, rfl⟩
  have r_kv2 : (0 : Int32) ≤ kv2 ∧ kv2 ≤ (4 : Int32) := by rw [d_kv2]; exact nu 20 rfl hI o_a1
  have hwi1 : 0 ≤ v1 ∧ v1 < kv2 := by rw [d_kv2]; exact hx1
  refine u_X11_bestOf ?_
  refine u_X11_bestOf_0 ?_
  refine ⟨o_v0, ?_⟩
  refine ⟨a1, ea1, ?_⟩
  refine ⟨o_a1, ?_⟩
  obtain ⟨a4, ea4, o_a4, l_a4⟩ := shl 46 rfl hI o_a1
  refine ⟨a4, ea4, ?_⟩
  refine ⟨o_a4, ?_⟩
  refine ⟨(vin l_a4 (m := 4) (by decide) (qm566 r_kv2 hwi1)), ?_⟩
  intro x5 ex5
  have gy_x5 : 0 ≤ v1 ∧ v1 < fI S a1 4 := by rw [← d_kv2]; exact (qm567 r_kv2 hwi1)
  have g_x5 : (1 : Int32) ≤ x5 ∧ x5 ≤ (9 : Int32) := by rw [ex5]; exact wg_at (ml_wg hI o_v0 ea1) 3 rfl gy_x5 ea4
  intro x6 ex6
  refine i_X11_bestOf_17 (fun (y0 : Nat) (y1 : Int32) (y2 : Int32) (y3 : Int32) (y4 : Int32) (y5 : Int32) (y6 : Int32) (Z : HS) => ((2147483647 : Int32).toInt - y6.toInt).toNat) (fun (y0 : Nat) (y1 : Int32) (y2 : Int32) (y3 : Int32) (y4 : Int32) (y5 : Int32) (y6 : Int32) (Z : HS) => (S = Z) ∧ (v0 = y0) ∧ (v1 = y1) ∧ (v2 = y2) ∧ (v3 = y3) ∧ (v4 = y4) ∧ (1 ≤ y5 ∧ y5 ≤ 9 ∧ 1 ≤ y6)) ?_ _ _ _ _ _ _ _ _ ⟨rfl, rfl, rfl, rfl, rfl, rfl, (qm646 g_x5 ex6)⟩
  intro w11 w13 w15 w17 w19 w21 w22 S8 X23 ⟨eS8, q12, q14, q16, q18, q20, i1u7⟩ ih24
  subst q12
  subst q14
  subst q16
  subst q18
  subst q20
  subst eS8
  refine u_X11_bestOf_17 ?_
  refine ⟨o_v0, ?_⟩
  refine ⟨a1, ea1, ?_⟩
  refine ⟨o_a1, ?_⟩
  obtain ⟨a26, ea26, o_a26, l_a26⟩ := shl 47 rfl hI o_a1
  refine ⟨a26, ea26, ?_⟩
  refine ⟨o_a26, ?_⟩
  refine ⟨(vin l_a26 (m := 4) (by decide) (qm566 r_kv2 hwi1)), ?_⟩
  intro x27 ex27
  have gy_x27 : 0 ≤ v1 ∧ v1 < fI S a1 4 := by rw [← d_kv2]; exact (qm567 r_kv2 hwi1)
  have g_x27 : (0 : Int32) ≤ x27 ∧ x27 ≤ (9 : Int32) := by rw [ex27]; exact wg_at (ml_wg hI o_v0 ea1) 4 rfl gy_x27 ea26
  refine ⟨fun c28 => ?_, fun c28 => ?_⟩
  · exact hq _ _ hI g0 ⟨rfl, (qm647 i1u7 g_x27 c28)⟩
  · refine m_X11_wetOf hI o_v0 (qm648 r_kv2 hwi1 i1u7 g_x27 c28) (qm649 h0 i1u7 g_x27 c28) (qm650 h1 i1u7 g_x27 c28) (qm651 i1u7 g_x27 c28) ⟨_, ea1⟩ (fun x29 S30 hI2 g31 p_x29 => ?_)
    subst p_x29
    intro _
    refine m_X11_wetOf hI o_v0 (qm648 r_kv2 hwi1 i1u7 g_x27 c28) (qm649 h0 i1u7 g_x27 c28) (qm650 h1 i1u7 g_x27 c28) (qm652 i1u7 g_x27 c28) ⟨_, ea1⟩ (fun x33 S34 hI2 g35 p_x33 => ?_)
    subst p_x33
    intro _
    refine ⟨fun c37 => ?_, fun c37 => ?_⟩
    · refine u_X11_bestOf_61 ?_
      intro x38 ex38
      exact ih24 _ _ _ _ _ _ _ _ ⟨rfl, rfl, rfl, rfl, rfl, rfl, (qm653 i1u7 g_x27 c28 c37 ex38)⟩ (mu_up (qm654 i1u7 g_x27 c28 c37 ex38) (qm655 i1u7 g_x27 c28 c37 ex38))
    · refine u_X11_bestOf_61 ?_
      intro x39 ex39
      exact ih24 _ _ _ _ _ _ _ _ ⟨rfl, rfl, rfl, rfl, rfl, rfl, (qm656 i1u7 g_x27 c28 c37 ex39)⟩ (mu_up (qm657 i1u7 g_x27 c28 c37 ex39) (qm658 i1u7 g_x27 c28 c37 ex39))
set_option maxHeartbeats 4000000 in
set_option maxRecDepth 20000 in
theorem m_X11_best {v0 : Nat} {v1 : Int32} {v2 : Int32} {v3 : Int32} {v4 : Int32} {Q : Int32 → HS → Prop} {S : HS} (hI : IV S) (o_v0 : ob S v0 11)     (hq : ∀ (r : Int32) (T : HS), IV T → Gr S T → FRI [(11, 0), (11, 1), (11, 2)] [] S T → Q r T) : P_X11_best v0 v1 v2 v3 v4 Q S := by
  have g0 := gr_rf S
  have f0 := fri_rf [(11, 0), (11, 1), (11, 2)] [] S
  refine u_X11_best ?_
  refine u_X11_best_0 ?_
  refine ⟨o_v0, ?_⟩
  intro S1 eS1
  have hIn : IV S1 := by rw [eS1]; exact iv11_sI hI o_v0 (by decide) (nu_free (by decide))
  have hI := hIn
  have f0 := fr_I eS1 g0 f0 o_v0 (by decide)
  obtain ⟨kv2, hkv2⟩ : ∃ z : Int32, z = (0 : Int32) := ⟨_, rfl⟩
  have d_kv2 := rd_Is eS1 hkv2
  have g0 := gr_I eS1 g0
  have o_v0 := ob_I eS1 o_v0
  refine u_X11_isWalker ?_
  refine u_X11_isWalker_0 ?_
  refine ⟨o_v0, ?_⟩
  refine ⟨fun e4 => ?_, fun a3 ea3 => ?_⟩
  · intro _ _
    refine ⟨fun c6 => ?_, fun c6 => absurd (show ¬ (0 : Int32) = 0 from c6) (by decide)⟩
    refine u_X11_best_39 ?_
    refine ⟨o_v0, ?_⟩
    refine u_X11_refused ?_
    refine u_X11_refused_0 ?_
    refine ⟨o_v0, ?_⟩
    intro S7 eS7
    have hIn : IV S7 := by rw [eS7]; exact iv11_sI hI o_v0 (by decide) (nu_free (by decide))
    have hI := hIn
    have f0 := fr_I eS7 g0 f0 o_v0 (by decide)
    have d_kv2 := rd_Ij eS7 (by decide) d_kv2
    obtain ⟨kv8, hkv8⟩ : ∃ z : Int32, z = (1 : Int32) := ⟨_, rfl⟩
    have d_kv8 := rd_Is eS7 hkv8
    have g0 := gr_I eS7 g0
    have o_v0 := ob_I eS7 o_v0
    intro S9 eS9
    have hIn : IV S9 := by rw [eS9]; exact iv11_sI hI o_v0 (by decide) (nu_free (by decide))
    have hI := hIn
    have f0 := fr_I eS9 g0 f0 o_v0 (by decide)
    have d_kv2 := rd_Ij eS9 (by decide) d_kv2
    have d_kv8 := rd_Ij eS9 (by decide) d_kv8
    obtain ⟨kv10, hkv10⟩ : ∃ z : Int32, z = (-1 : Int32) := ⟨_, rfl⟩
    have d_kv10 := rd_Is eS9 hkv10
    have g0 := gr_I eS9 g0
    have o_v0 := ob_I eS9 o_v0
    intro _
    exact hq _ _ hI g0 f0
  · have o_a3 := ml_ob hI o_v0 ea3
    refine ⟨fun c12 => ?_, fun c12 => ?_⟩
    · intro _ _
      refine ⟨fun c14 => ?_, fun c14 => absurd (show ¬ (0 : Int32) = 0 from c14) (by decide)⟩
      refine u_X11_best_39 ?_
      refine ⟨o_v0, ?_⟩
      refine u_X11_refused ?_
      refine u_X11_refused_0 ?_
      refine ⟨o_v0, ?_⟩
      intro S15 eS15
      have hIn : IV S15 := by rw [eS15]; exact iv11_sI hI o_v0 (by decide) (nu_free (by decide))
      have hI := hIn
      have f0 := fr_I eS15 g0 f0 o_v0 (by decide)
      have d_kv2 := rd_Ij eS15 (by decide) d_kv2
      obtain ⟨kv16, hkv16⟩ : ∃ z : Int32, z = (1 : Int32) := ⟨_, rfl⟩
      have d_kv16 := rd_Is eS15 hkv16
      have ea3 := rf_I eS15 ea3
      have g0 := gr_I eS15 g0
      have o_a3 := ob_I eS15 o_a3
      have o_v0 := ob_I eS15 o_v0
      intro S17 eS17
      have hIn : IV S17 := by rw [eS17]; exact iv11_sI hI o_v0 (by decide) (nu_free (by decide))
      have hI := hIn
      have f0 := fr_I eS17 g0 f0 o_v0 (by decide)
      have d_kv2 := rd_Ij eS17 (by decide) d_kv2
      have d_kv16 := rd_Ij eS17 (by decide) d_kv16
      obtain ⟨kv18, hkv18⟩ : ∃ z : Int32, z = (-1 : Int32) := ⟨_, rfl⟩
      have d_kv18 := rd_Is eS17 hkv18
      have ea3 := rf_I eS17 ea3
      have g0 := gr_I eS17 g0
      have o_a3 := ob_I eS17 o_a3
      have o_v0 := ob_I eS17 o_v0
      intro _
      exact hq _ _ hI g0 f0
    · refine ⟨a3, ea3, ?_⟩
      refine ⟨o_a3, ?_⟩
      intro x21 ex21
      have r_x21 : (0 : Int32) ≤ x21 ∧ x21 ≤ (4 : Int32) := by rw [ex21]; exact nu 20 rfl hI o_a3
      have d_x21 := ex21
      refine ⟨fun c22 => ?_, fun c22 => ?_⟩
      · intro _ _
        refine ⟨fun c24 => ?_, fun c24 => absurd (show ¬ (0 : Int32) = 0 from c24) (by decide)⟩
        refine u_X11_best_39 ?_
        refine ⟨o_v0, ?_⟩
        refine u_X11_refused ?_
        refine u_X11_refused_0 ?_
        refine ⟨o_v0, ?_⟩
        intro S25 eS25
        have hIn : IV S25 := by rw [eS25]; exact iv11_sI hI o_v0 (by decide) (nu_free (by decide))
        have hI := hIn
        have f0 := fr_I eS25 g0 f0 o_v0 (by decide)
        have d_kv2 := rd_Ij eS25 (by decide) d_kv2
        have d_x21 := rd_Ik eS25 o_v0 o_a3 (by decide) d_x21
        obtain ⟨kv26, hkv26⟩ : ∃ z : Int32, z = (1 : Int32) := ⟨_, rfl⟩
        have d_kv26 := rd_Is eS25 hkv26
        have ea3 := rf_I eS25 ea3
        have g0 := gr_I eS25 g0
        have o_a3 := ob_I eS25 o_a3
        have o_v0 := ob_I eS25 o_v0
        intro S27 eS27
        have hIn : IV S27 := by rw [eS27]; exact iv11_sI hI o_v0 (by decide) (nu_free (by decide))
        have hI := hIn
        have f0 := fr_I eS27 g0 f0 o_v0 (by decide)
        have d_kv2 := rd_Ij eS27 (by decide) d_kv2
        have d_x21 := rd_Ik eS27 o_v0 o_a3 (by decide) d_x21
        have d_kv26 := rd_Ij eS27 (by decide) d_kv26
        obtain ⟨kv28, hkv28⟩ : ∃ z : Int32, z = (-1 : Int32) := ⟨_, rfl⟩
        have d_kv28 := rd_Is eS27 hkv28
        have ea3 := rf_I eS27 ea3
        have g0 := gr_I eS27 g0
        have o_a3 := ob_I eS27 o_a3
        have o_v0 := ob_I eS27 o_v0
        intro _
        exact hq _ _ hI g0 f0
      · intro _ _
        refine ⟨fun c31 => absurd (show (1 : Int32) = 0 from c31) (by decide), fun c31 => ?_⟩
        refine u_X11_isRoad ?_
        refine u_X11_isRoad_0 ?_
        refine ⟨o_v0, ?_⟩
        refine ⟨fun e33 => (nomatch (e33.symm.trans ea3)), fun a32 ea32 => ?_⟩
        obtain rfl : a3 = a32 := Option.some.inj (ea3.symm.trans ea32)
        refine ⟨fun c34 => ?_, fun c34 => ?_⟩
        · intro _ _
          refine ⟨fun c36 => ?_, fun c36 => absurd (show ¬ (0 : Int32) = 0 from c36) (by decide)⟩
          refine u_X11_best_39 ?_
          refine ⟨o_v0, ?_⟩
          refine u_X11_refused ?_
          refine u_X11_refused_0 ?_
          refine ⟨o_v0, ?_⟩
          intro S37 eS37
          have hIn : IV S37 := by rw [eS37]; exact iv11_sI hI o_v0 (by decide) (nu_free (by decide))
          have hI := hIn
          have f0 := fr_I eS37 g0 f0 o_v0 (by decide)
          have d_kv2 := rd_Ij eS37 (by decide) d_kv2
          have d_x21 := rd_Ik eS37 o_v0 o_a3 (by decide) d_x21
          obtain ⟨kv38, hkv38⟩ : ∃ z : Int32, z = (1 : Int32) := ⟨_, rfl⟩
          have d_kv38 := rd_Is eS37 hkv38
          have ea3 := rf_I eS37 ea3
          have g0 := gr_I eS37 g0
          have o_a3 := ob_I eS37 o_a3
          have o_v0 := ob_I eS37 o_v0
          intro S39 eS39
          have hIn : IV S39 := by rw [eS39]; exact iv11_sI hI o_v0 (by decide) (nu_free (by decide))
          have hI := hIn
          have f0 := fr_I eS39 g0 f0 o_v0 (by decide)
          have d_kv2 := rd_Ij eS39 (by decide) d_kv2
          have d_x21 := rd_Ik eS39 o_v0 o_a3 (by decide) d_x21
          have d_kv38 := rd_Ij eS39 (by decide) d_kv38
          obtain ⟨kv40, hkv40⟩ : ∃ z : Int32, z = (-1 : Int32) := ⟨_, rfl⟩
          have d_kv40 := rd_Is eS39 hkv40
          have ea3 := rf_I eS39 ea3
          have g0 := gr_I eS39 g0
          have o_a3 := ob_I eS39 o_a3
          have o_v0 := ob_I eS39 o_v0
          intro _
          exact hq _ _ hI g0 f0
        · refine ⟨a3, ea3, ?_⟩
          refine ⟨o_a3, ?_⟩
          intro x43 ex43
          have r_x43 : (0 : Int32) ≤ x43 ∧ x43 ≤ (12 : Int32) := by rw [ex43]; exact nu 19 rfl hI o_a3
          have d_x43 := ex43
          refine ⟨fun c44 => ?_, fun c44 => ?_⟩
          · intro _ _
            refine ⟨fun c46 => ?_, fun c46 => absurd (show ¬ (0 : Int32) = 0 from c46) (by decide)⟩
            refine u_X11_best_39 ?_
            refine ⟨o_v0, ?_⟩
            refine u_X11_refused ?_
            refine u_X11_refused_0 ?_
            refine ⟨o_v0, ?_⟩
            intro S47 eS47
            have hIn : IV S47 := by rw [eS47]; exact iv11_sI hI o_v0 (by decide) (nu_free (by decide))
            have hI := hIn
            have f0 := fr_I eS47 g0 f0 o_v0 (by decide)
            have d_kv2 := rd_Ij eS47 (by decide) d_kv2
            have d_x21 := rd_Ik eS47 o_v0 o_a3 (by decide) d_x21
            have d_x43 := rd_Ik eS47 o_v0 o_a3 (by decide) d_x43
            obtain ⟨kv48, hkv48⟩ : ∃ z : Int32, z = (1 : Int32) := ⟨_, rfl⟩
            have d_kv48 := rd_Is eS47 hkv48
            have ea3 := rf_I eS47 ea3
            have g0 := gr_I eS47 g0
            have o_a3 := ob_I eS47 o_a3
            have o_v0 := ob_I eS47 o_v0
            intro S49 eS49
            have hIn : IV S49 := by rw [eS49]; exact iv11_sI hI o_v0 (by decide) (nu_free (by decide))
            have hI := hIn
            have f0 := fr_I eS49 g0 f0 o_v0 (by decide)
            have d_kv2 := rd_Ij eS49 (by decide) d_kv2
            have d_x21 := rd_Ik eS49 o_v0 o_a3 (by decide) d_x21
            have d_x43 := rd_Ik eS49 o_v0 o_a3 (by decide) d_x43
            have d_kv48 := rd_Ij eS49 (by decide) d_kv48
            obtain ⟨kv50, hkv50⟩ : ∃ z : Int32, z = (-1 : Int32) := ⟨_, rfl⟩
            have d_kv50 := rd_Is eS49 hkv50
            have ea3 := rf_I eS49 ea3
            have g0 := gr_I eS49 g0
            have o_a3 := ob_I eS49 o_a3
            have o_v0 := ob_I eS49 o_v0
            intro _
            exact hq _ _ hI g0 f0
          · intro _ _
            refine ⟨fun c53 => absurd (show (1 : Int32) = 0 from c53) (by decide), fun c53 => ?_⟩
            refine u_X11_in ?_
            refine u_X11_in_0 ?_
            refine ⟨fun c54 => ?_, fun c54 => ?_⟩
            · intro _ _
              refine ⟨fun c56 => ?_, fun c56 => absurd (show ¬ (0 : Int32) = 0 from c56) (by decide)⟩
              refine u_X11_best_39 ?_
              refine ⟨o_v0, ?_⟩
              refine u_X11_refused ?_
              refine u_X11_refused_0 ?_
              refine ⟨o_v0, ?_⟩
              intro S57 eS57
              have hIn : IV S57 := by rw [eS57]; exact iv11_sI hI o_v0 (by decide) (nu_free (by decide))
              have hI := hIn
              have f0 := fr_I eS57 g0 f0 o_v0 (by decide)
              have d_kv2 := rd_Ij eS57 (by decide) d_kv2
              have d_x21 := rd_Ik eS57 o_v0 o_a3 (by decide) d_x21
              have d_x43 := rd_Ik eS57 o_v0 o_a3 (by decide) d_x43
              obtain ⟨kv58, hkv58⟩ : ∃ z : Int32, z = (1 : Int32) := ⟨_, rfl⟩
              have d_kv58 := rd_Is eS57 hkv58
              have ea3 := rf_I eS57 ea3
              have g0 := gr_I eS57 g0
              have o_a3 := ob_I eS57 o_a3
              have o_v0 := ob_I eS57 o_v0
              intro S59 eS59
              have hIn : IV S59 := by rw [eS59]; exact iv11_sI hI o_v0 (by decide) (nu_free (by decide))
              have hI := hIn
              have f0 := fr_I eS59 g0 f0 o_v0 (by decide)
              have d_kv2 := rd_Ij eS59 (by decide) d_kv2
              have d_x21 := rd_Ik eS59 o_v0 o_a3 (by decide) d_x21
              have d_x43 := rd_Ik eS59 o_v0 o_a3 (by decide) d_x43
              have d_kv58 := rd_Ij eS59 (by decide) d_kv58
              obtain ⟨kv60, hkv60⟩ : ∃ z : Int32, z = (-1 : Int32) := ⟨_, rfl⟩
              have d_kv60 := rd_Is eS59 hkv60
              have ea3 := rf_I eS59 ea3
              have g0 := gr_I eS59 g0
              have o_a3 := ob_I eS59 o_a3
              have o_v0 := ob_I eS59 o_v0
              intro _
              exact hq _ _ hI g0 f0
            · refine ⟨fun c62 => ?_, fun c62 => ?_⟩
              · intro _ _
                refine ⟨fun c64 => ?_, fun c64 => absurd (show ¬ (0 : Int32) = 0 from c64) (by decide)⟩
                refine u_X11_best_39 ?_
                refine ⟨o_v0, ?_⟩
                refine u_X11_refused ?_
                refine u_X11_refused_0 ?_
                refine ⟨o_v0, ?_⟩
                intro S65 eS65
                have hIn : IV S65 := by rw [eS65]; exact iv11_sI hI o_v0 (by decide) (nu_free (by decide))
                have hI := hIn
                have f0 := fr_I eS65 g0 f0 o_v0 (by decide)
                have d_kv2 := rd_Ij eS65 (by decide) d_kv2
                have d_x21 := rd_Ik eS65 o_v0 o_a3 (by decide) d_x21
                have d_x43 := rd_Ik eS65 o_v0 o_a3 (by decide) d_x43
                obtain ⟨kv66, hkv66⟩ : ∃ z : Int32, z = (1 : Int32) := ⟨_, rfl⟩
                have d_kv66 := rd_Is eS65 hkv66
                have ea3 := rf_I eS65 ea3
                have g0 := gr_I eS65 g0
                have o_a3 := ob_I eS65 o_a3
                have o_v0 := ob_I eS65 o_v0
                intro S67 eS67
                have hIn : IV S67 := by rw [eS67]; exact iv11_sI hI o_v0 (by decide) (nu_free (by decide))
                have hI := hIn
                have f0 := fr_I eS67 g0 f0 o_v0 (by decide)
                have d_kv2 := rd_Ij eS67 (by decide) d_kv2
                have d_x21 := rd_Ik eS67 o_v0 o_a3 (by decide) d_x21
                have d_x43 := rd_Ik eS67 o_v0 o_a3 (by decide) d_x43
                have d_kv66 := rd_Ij eS67 (by decide) d_kv66
                obtain ⟨kv68, hkv68⟩ : ∃ z : Int32, z = (-1 : Int32) := ⟨_, rfl⟩
                have d_kv68 := rd_Is eS67 hkv68
                have ea3 := rf_I eS67 ea3
                have g0 := gr_I eS67 g0
                have o_a3 := ob_I eS67 o_a3
                have o_v0 := ob_I eS67 o_v0
                intro _
                exact hq _ _ hI g0 f0
              · intro _ _
                refine ⟨fun c71 => absurd (show (1 : Int32) = 0 from c71) (by decide), fun c71 => ?_⟩
                refine u_X11_isHour ?_
                refine u_X11_isHour_0 ?_
                refine ⟨o_v0, ?_⟩
                refine ⟨fun e73 => (nomatch (e73.symm.trans ea3)), fun a72 ea72 => ?_⟩
                obtain rfl : a3 = a72 := Option.some.inj (ea3.symm.trans ea72)
                refine ⟨fun c74 => ?_, fun c74 => ?_⟩
                · intro _ _
                  refine ⟨fun c76 => absurd (show ¬ (0 : Int32) = 0 from c76) (by decide), fun c76 => ?_⟩
                  refine u_X11_best_39 ?_
                  refine ⟨o_v0, ?_⟩
                  refine u_X11_refused ?_
                  refine u_X11_refused_0 ?_
                  refine ⟨o_v0, ?_⟩
                  intro S77 eS77
                  have hIn : IV S77 := by rw [eS77]; exact iv11_sI hI o_v0 (by decide) (nu_free (by decide))
                  have hI := hIn
                  have f0 := fr_I eS77 g0 f0 o_v0 (by decide)
                  have d_kv2 := rd_Ij eS77 (by decide) d_kv2
                  have d_x21 := rd_Ik eS77 o_v0 o_a3 (by decide) d_x21
                  have d_x43 := rd_Ik eS77 o_v0 o_a3 (by decide) d_x43
                  obtain ⟨kv78, hkv78⟩ : ∃ z : Int32, z = (1 : Int32) := ⟨_, rfl⟩
                  have d_kv78 := rd_Is eS77 hkv78
                  have ea3 := rf_I eS77 ea3
                  have g0 := gr_I eS77 g0
                  have o_a3 := ob_I eS77 o_a3
                  have o_v0 := ob_I eS77 o_v0
                  intro S79 eS79
                  have hIn : IV S79 := by rw [eS79]; exact iv11_sI hI o_v0 (by decide) (nu_free (by decide))
                  have hI := hIn
                  have f0 := fr_I eS79 g0 f0 o_v0 (by decide)
                  have d_kv2 := rd_Ij eS79 (by decide) d_kv2
                  have d_x21 := rd_Ik eS79 o_v0 o_a3 (by decide) d_x21
                  have d_x43 := rd_Ik eS79 o_v0 o_a3 (by decide) d_x43
                  have d_kv78 := rd_Ij eS79 (by decide) d_kv78
                  obtain ⟨kv80, hkv80⟩ : ∃ z : Int32, z = (-1 : Int32) := ⟨_, rfl⟩
                  have d_kv80 := rd_Is eS79 hkv80
                  have ea3 := rf_I eS79 ea3
                  have g0 := gr_I eS79 g0
                  have o_a3 := ob_I eS79 o_a3
                  have o_v0 := ob_I eS79 o_v0
                  intro _
                  exact hq _ _ hI g0 f0
                · refine ⟨a3, ea3, ?_⟩
                  refine ⟨o_a3, ?_⟩
                  intro x83 ex83
                  have r_x83 : (0 : Int32) ≤ x83 ∧ x83 ≤ (6 : Int32) := by rw [ex83]; exact nu 17 rfl hI o_a3
                  have d_x83 := ex83
                  refine ⟨fun c84 => ?_, fun c84 => ?_⟩
                  · intro _ _
                    refine ⟨fun c86 => absurd (show ¬ (0 : Int32) = 0 from c86) (by decide), fun c86 => ?_⟩
                    refine u_X11_best_39 ?_
                    refine ⟨o_v0, ?_⟩
                    refine u_X11_refused ?_
                    refine u_X11_refused_0 ?_
                    refine ⟨o_v0, ?_⟩
                    intro S87 eS87
                    have hIn : IV S87 := by rw [eS87]; exact iv11_sI hI o_v0 (by decide) (nu_free (by decide))
                    have hI := hIn
                    have f0 := fr_I eS87 g0 f0 o_v0 (by decide)
                    have d_kv2 := rd_Ij eS87 (by decide) d_kv2
                    have d_x21 := rd_Ik eS87 o_v0 o_a3 (by decide) d_x21
                    have d_x43 := rd_Ik eS87 o_v0 o_a3 (by decide) d_x43
                    have d_x83 := rd_Ik eS87 o_v0 o_a3 (by decide) d_x83
                    obtain ⟨kv88, hkv88⟩ : ∃ z : Int32, z = (1 : Int32) := ⟨_, rfl⟩
                    have d_kv88 := rd_Is eS87 hkv88
                    have ea3 := rf_I eS87 ea3
                    have g0 := gr_I eS87 g0
                    have o_a3 := ob_I eS87 o_a3
                    have o_v0 := ob_I eS87 o_v0
                    intro S89 eS89
                    have hIn : IV S89 := by rw [eS89]; exact iv11_sI hI o_v0 (by decide) (nu_free (by decide))
                    have hI := hIn
                    have f0 := fr_I eS89 g0 f0 o_v0 (by decide)
                    have d_kv2 := rd_Ij eS89 (by decide) d_kv2
                    have d_x21 := rd_Ik eS89 o_v0 o_a3 (by decide) d_x21
                    have d_x43 := rd_Ik eS89 o_v0 o_a3 (by decide) d_x43
                    have d_x83 := rd_Ik eS89 o_v0 o_a3 (by decide) d_x83
                    have d_kv88 := rd_Ij eS89 (by decide) d_kv88
                    obtain ⟨kv90, hkv90⟩ : ∃ z : Int32, z = (-1 : Int32) := ⟨_, rfl⟩
                    have d_kv90 := rd_Is eS89 hkv90
                    have ea3 := rf_I eS89 ea3
                    have g0 := gr_I eS89 g0
                    have o_a3 := ob_I eS89 o_a3
                    have o_v0 := ob_I eS89 o_v0
                    intro _
                    exact hq _ _ hI g0 f0
                  · intro _ _
                    refine ⟨fun c93 => ?_, fun c93 => absurd (show (1 : Int32) = 0 from c93) (by decide)⟩
                    refine m_X11_bestOf hI o_v0 (qm694 c12 r_x21 c22 c34 r_x43 c44 c54 c62 c74 r_x83 c84) (qm695 c12 r_x21 c22 c34 r_x43 c44 c54 c62 c74 r_x83 c84) ⟨_, ea3, (qm696 c12 r_x21 c22 c34 r_x43 c44 c54 c62 c74 r_x83 c84), (by rw [← d_x21]; exact (qm697 c12 r_x21 c22 c34 r_x43 c44 c54 c62 c74 r_x83 c84))⟩ (fun x94 S95 hI2 g96 p_x94 => ?_)
                    obtain ⟨z_S95, p_x94⟩ := p_x94
                    subst z_S95
                    intro _
                    refine u_X11_good ?_
                    refine u_X11_good_0 ?_
                    refine ⟨o_v0, ?_⟩
                    intro S98 eS98
                    have hIn : IV S98 := by rw [eS98]; exact iv11_sI hI o_v0 (by decide) (nu_free (by decide))
                    have hI := hIn
                    have f0 := fr_I eS98 g0 f0 o_v0 (by decide)
                    have d_kv2 := rd_Ij eS98 (by decide) d_kv2
                    have d_x21 := rd_Ik eS98 o_v0 o_a3 (by decide) d_x21
                    have d_x43 := rd_Ik eS98 o_v0 o_a3 (by decide) d_x43
                    have d_x83 := rd_Ik eS98 o_v0 o_a3 (by decide) d_x83
                    obtain ⟨kv99, hkv99⟩ : ∃ z : Int32, z = (0 : Int32) := ⟨_, rfl⟩
                    have d_kv99 := rd_Is eS98 hkv99
                    have ea3 := rf_I eS98 ea3
                    have g0 := gr_I eS98 g0
                    have o_a3 := ob_I eS98 o_a3
                    have o_v0 := ob_I eS98 o_v0
                    intro S100 eS100
                    have hIn : IV S100 := by rw [eS100]; exact iv11_sI hI o_v0 (by decide) (nu_free (by decide))
                    have hI := hIn
                    have f0 := fr_I eS100 g0 f0 o_v0 (by decide)
                    have d_kv2 := rd_Ij eS100 (by decide) d_kv2
                    have d_x21 := rd_Ik eS100 o_v0 o_a3 (by decide) d_x21
                    have d_x43 := rd_Ik eS100 o_v0 o_a3 (by decide) d_x43
                    have d_x83 := rd_Ik eS100 o_v0 o_a3 (by decide) d_x83
                    have d_kv99 := rd_Ij eS100 (by decide) d_kv99
                    obtain ⟨kv101, hkv101⟩ : ∃ z : Int32, z = (-1 : Int32) := ⟨_, rfl⟩
                    have d_kv101 := rd_Is eS100 hkv101
                    have ea3 := rf_I eS100 ea3
                    have g0 := gr_I eS100 g0
                    have o_a3 := ob_I eS100 o_a3
                    have o_v0 := ob_I eS100 o_v0
                    intro _
                    exact hq _ _ hI g0 f0
set_option maxHeartbeats 4000000 in
set_option maxRecDepth 20000 in
theorem m_X11_day {v0 : Nat} {v1 : Int32} {v2 : Int32} {v3 : Int32} {v4 : Int32} {Q : Int32 → HS → Prop} {S : HS} (hI : IV S) (o_v0 : ob S v0 11)     (hq : ∀ (r : Int32) (T : HS), IV T → Gr S T → FRI [(11, 0), (11, 1), (11, 2), (11, 19), (11, 20), (11, 24), (11, 25)] [] S T → Q r T) : P_X11_day v0 v1 v2 v3 v4 Q S := by
  have g0 := gr_rf S
  have f0 := fri_rf [(11, 0), (11, 1), (11, 2), (11, 19), (11, 20), (11, 24), (11, 25)] [] S
  refine u_X11_day ?_
  refine u_X11_day_0 ?_
  refine ⟨o_v0, ?_⟩
  intro S1 eS1
  have hIn : IV S1 := by rw [eS1]; exact iv11_sI hI o_v0 (by decide) (nu_free (by decide))
  have hI := hIn
  have f0 := fr_I eS1 g0 f0 o_v0 (by decide)
  obtain ⟨kv2, hkv2⟩ : ∃ z : Int32, z = (0 : Int32) := ⟨_, rfl⟩
  have d_kv2 := rd_Is eS1 hkv2
  have g0 := gr_I eS1 g0
  have o_v0 := ob_I eS1 o_v0
  refine u_X11_isWalker ?_
  refine u_X11_isWalker_0 ?_
  refine ⟨o_v0, ?_⟩
  refine ⟨fun e4 => ?_, fun a3 ea3 => ?_⟩
  · intro _ _
    refine ⟨fun c6 => ?_, fun c6 => absurd (show ¬ (0 : Int32) = 0 from c6) (by decide)⟩
    refine u_X11_day_21 ?_
    refine ⟨o_v0, ?_⟩
    refine u_X11_refused ?_
    refine u_X11_refused_0 ?_
    refine ⟨o_v0, ?_⟩
    intro S7 eS7
    have hIn : IV S7 := by rw [eS7]; exact iv11_sI hI o_v0 (by decide) (nu_free (by decide))
    have hI := hIn
    have f0 := fr_I eS7 g0 f0 o_v0 (by decide)
    have d_kv2 := rd_Ij eS7 (by decide) d_kv2
    obtain ⟨kv8, hkv8⟩ : ∃ z : Int32, z = (1 : Int32) := ⟨_, rfl⟩
    have d_kv8 := rd_Is eS7 hkv8
    have g0 := gr_I eS7 g0
    have o_v0 := ob_I eS7 o_v0
    intro S9 eS9
    have hIn : IV S9 := by rw [eS9]; exact iv11_sI hI o_v0 (by decide) (nu_free (by decide))
    have hI := hIn
    have f0 := fr_I eS9 g0 f0 o_v0 (by decide)
    have d_kv2 := rd_Ij eS9 (by decide) d_kv2
    have d_kv8 := rd_Ij eS9 (by decide) d_kv8
    obtain ⟨kv10, hkv10⟩ : ∃ z : Int32, z = (-1 : Int32) := ⟨_, rfl⟩
    have d_kv10 := rd_Is eS9 hkv10
    have g0 := gr_I eS9 g0
    have o_v0 := ob_I eS9 o_v0
    intro _
    exact hq _ _ hI g0 f0
  · have o_a3 := ml_ob hI o_v0 ea3
    refine ⟨fun c12 => ?_, fun c12 => ?_⟩
    · intro _ _
      refine ⟨fun c14 => ?_, fun c14 => absurd (show ¬ (0 : Int32) = 0 from c14) (by decide)⟩
      refine u_X11_day_21 ?_
      refine ⟨o_v0, ?_⟩
      refine u_X11_refused ?_
      refine u_X11_refused_0 ?_
      refine ⟨o_v0, ?_⟩
      intro S15 eS15
      have hIn : IV S15 := by rw [eS15]; exact iv11_sI hI o_v0 (by decide) (nu_free (by decide))
      have hI := hIn
      have f0 := fr_I eS15 g0 f0 o_v0 (by decide)
      have d_kv2 := rd_Ij eS15 (by decide) d_kv2
      obtain ⟨kv16, hkv16⟩ : ∃ z : Int32, z = (1 : Int32) := ⟨_, rfl⟩
      have d_kv16 := rd_Is eS15 hkv16
      have ea3 := rf_I eS15 ea3
      have g0 := gr_I eS15 g0
      have o_a3 := ob_I eS15 o_a3
      have o_v0 := ob_I eS15 o_v0
      intro S17 eS17
      have hIn : IV S17 := by rw [eS17]; exact iv11_sI hI o_v0 (by decide) (nu_free (by decide))
      have hI := hIn
      have f0 := fr_I eS17 g0 f0 o_v0 (by decide)
      have d_kv2 := rd_Ij eS17 (by decide) d_kv2
      have d_kv16 := rd_Ij eS17 (by decide) d_kv16
      obtain ⟨kv18, hkv18⟩ : ∃ z : Int32, z = (-1 : Int32) := ⟨_, rfl⟩
      have d_kv18 := rd_Is eS17 hkv18
      have ea3 := rf_I eS17 ea3
      have g0 := gr_I eS17 g0
      have o_a3 := ob_I eS17 o_a3
      have o_v0 := ob_I eS17 o_v0
      intro _
      exact hq _ _ hI g0 f0
    · refine ⟨a3, ea3, ?_⟩
      refine ⟨o_a3, ?_⟩
      intro x21 ex21
      have r_x21 : (0 : Int32) ≤ x21 ∧ x21 ≤ (4 : Int32) := by rw [ex21]; exact nu 20 rfl hI o_a3
      have d_x21 := ex21
      refine ⟨fun c22 => ?_, fun c22 => ?_⟩
      · intro _ _
        refine ⟨fun c24 => ?_, fun c24 => absurd (show ¬ (0 : Int32) = 0 from c24) (by decide)⟩
        refine u_X11_day_21 ?_
        refine ⟨o_v0, ?_⟩
        refine u_X11_refused ?_
        refine u_X11_refused_0 ?_
        refine ⟨o_v0, ?_⟩
        intro S25 eS25
        have hIn : IV S25 := by rw [eS25]; exact iv11_sI hI o_v0 (by decide) (nu_free (by decide))
        have hI := hIn
        have f0 := fr_I eS25 g0 f0 o_v0 (by decide)
        have d_kv2 := rd_Ij eS25 (by decide) d_kv2
        have d_x21 := rd_Ik eS25 o_v0 o_a3 (by decide) d_x21
        obtain ⟨kv26, hkv26⟩ : ∃ z : Int32, z = (1 : Int32) := ⟨_, rfl⟩
        have d_kv26 := rd_Is eS25 hkv26
        have ea3 := rf_I eS25 ea3
        have g0 := gr_I eS25 g0
        have o_a3 := ob_I eS25 o_a3
        have o_v0 := ob_I eS25 o_v0
        intro S27 eS27
        have hIn : IV S27 := by rw [eS27]; exact iv11_sI hI o_v0 (by decide) (nu_free (by decide))
        have hI := hIn
        have f0 := fr_I eS27 g0 f0 o_v0 (by decide)
        have d_kv2 := rd_Ij eS27 (by decide) d_kv2
        have d_x21 := rd_Ik eS27 o_v0 o_a3 (by decide) d_x21
        have d_kv26 := rd_Ij eS27 (by decide) d_kv26
        obtain ⟨kv28, hkv28⟩ : ∃ z : Int32, z = (-1 : Int32) := ⟨_, rfl⟩
        have d_kv28 := rd_Is eS27 hkv28
        have ea3 := rf_I eS27 ea3
        have g0 := gr_I eS27 g0
        have o_a3 := ob_I eS27 o_a3
        have o_v0 := ob_I eS27 o_v0
        intro _
        exact hq _ _ hI g0 f0
      · intro _ _
        refine ⟨fun c31 => absurd (show (1 : Int32) = 0 from c31) (by decide), fun c31 => ?_⟩
        refine u_X11_isPlace ?_
        refine u_X11_isPlace_0 ?_
        refine ⟨o_v0, ?_⟩
        refine ⟨fun e33 => (nomatch (e33.symm.trans ea3)), fun a32 ea32 => ?_⟩
        obtain rfl : a3 = a32 := Option.some.inj (ea3.symm.trans ea32)
        refine ⟨fun c34 => ?_, fun c34 => ?_⟩
        · intro _ _
          refine ⟨fun c36 => absurd (show ¬ (0 : Int32) = 0 from c36) (by decide), fun c36 => ?_⟩
          refine u_X11_day_21 ?_
          refine ⟨o_v0, ?_⟩
          refine u_X11_refused ?_
          refine u_X11_refused_0 ?_
          refine ⟨o_v0, ?_⟩
          intro S37 eS37
          have hIn : IV S37 := by rw [eS37]; exact iv11_sI hI o_v0 (by decide) (nu_free (by decide))
          have hI := hIn
          have f0 := fr_I eS37 g0 f0 o_v0 (by decide)
          have d_kv2 := rd_Ij eS37 (by decide) d_kv2
          have d_x21 := rd_Ik eS37 o_v0 o_a3 (by decide) d_x21
          obtain ⟨kv38, hkv38⟩ : ∃ z : Int32, z = (1 : Int32) := ⟨_, rfl⟩
          have d_kv38 := rd_Is eS37 hkv38
          have ea3 := rf_I eS37 ea3
          have g0 := gr_I eS37 g0
          have o_a3 := ob_I eS37 o_a3
          have o_v0 := ob_I eS37 o_v0
          intro S39 eS39
          have hIn : IV S39 := by rw [eS39]; exact iv11_sI hI o_v0 (by decide) (nu_free (by decide))
          have hI := hIn
          have f0 := fr_I eS39 g0 f0 o_v0 (by decide)
          have d_kv2 := rd_Ij eS39 (by decide) d_kv2
          have d_x21 := rd_Ik eS39 o_v0 o_a3 (by decide) d_x21
          have d_kv38 := rd_Ij eS39 (by decide) d_kv38
          obtain ⟨kv40, hkv40⟩ : ∃ z : Int32, z = (-1 : Int32) := ⟨_, rfl⟩
          have d_kv40 := rd_Is eS39 hkv40
          have ea3 := rf_I eS39 ea3
          have g0 := gr_I eS39 g0
          have o_a3 := ob_I eS39 o_a3
          have o_v0 := ob_I eS39 o_v0
          intro _
          exact hq _ _ hI g0 f0
        · refine ⟨a3, ea3, ?_⟩
          refine ⟨o_a3, ?_⟩
          intro x43 ex43
          have r_x43 : (0 : Int32) ≤ x43 ∧ x43 ≤ (8 : Int32) := by rw [ex43]; exact nu 18 rfl hI o_a3
          have d_x43 := ex43
          refine ⟨fun c44 => ?_, fun c44 => ?_⟩
          · intro _ _
            refine ⟨fun c46 => absurd (show ¬ (0 : Int32) = 0 from c46) (by decide), fun c46 => ?_⟩
            refine u_X11_day_21 ?_
            refine ⟨o_v0, ?_⟩
            refine u_X11_refused ?_
            refine u_X11_refused_0 ?_
            refine ⟨o_v0, ?_⟩
            intro S47 eS47
            have hIn : IV S47 := by rw [eS47]; exact iv11_sI hI o_v0 (by decide) (nu_free (by decide))
            have hI := hIn
            have f0 := fr_I eS47 g0 f0 o_v0 (by decide)
            have d_kv2 := rd_Ij eS47 (by decide) d_kv2
            have d_x21 := rd_Ik eS47 o_v0 o_a3 (by decide) d_x21
            have d_x43 := rd_Ik eS47 o_v0 o_a3 (by decide) d_x43
            obtain ⟨kv48, hkv48⟩ : ∃ z : Int32, z = (1 : Int32) := ⟨_, rfl⟩
            have d_kv48 := rd_Is eS47 hkv48
            have ea3 := rf_I eS47 ea3
            have g0 := gr_I eS47 g0
            have o_a3 := ob_I eS47 o_a3
            have o_v0 := ob_I eS47 o_v0
            intro S49 eS49
            have hIn : IV S49 := by rw [eS49]; exact iv11_sI hI o_v0 (by decide) (nu_free (by decide))
            have hI := hIn
            have f0 := fr_I eS49 g0 f0 o_v0 (by decide)
            have d_kv2 := rd_Ij eS49 (by decide) d_kv2
            have d_x21 := rd_Ik eS49 o_v0 o_a3 (by decide) d_x21
            have d_x43 := rd_Ik eS49 o_v0 o_a3 (by decide) d_x43
            have d_kv48 := rd_Ij eS49 (by decide) d_kv48
            obtain ⟨kv50, hkv50⟩ : ∃ z : Int32, z = (-1 : Int32) := ⟨_, rfl⟩
            have d_kv50 := rd_Is eS49 hkv50
            have ea3 := rf_I eS49 ea3
            have g0 := gr_I eS49 g0
            have o_a3 := ob_I eS49 o_a3
            have o_v0 := ob_I eS49 o_v0
            intro _
            exact hq _ _ hI g0 f0
          · intro _ _
            refine ⟨fun c53 => ?_, fun c53 => absurd (show (1 : Int32) = 0 from c53) (by decide)⟩
            refine u_X11_in ?_
            refine u_X11_in_0 ?_
            refine ⟨fun c54 => ?_, fun c54 => ?_⟩
            · intro _ _
              refine ⟨fun c56 => ?_, fun c56 => absurd (show ¬ (0 : Int32) = 0 from c56) (by decide)⟩
              refine u_X11_day_50 ?_
              refine ⟨o_v0, ?_⟩
              refine u_X11_refused ?_
              refine u_X11_refused_0 ?_
              refine ⟨o_v0, ?_⟩
              intro S57 eS57
              have hIn : IV S57 := by rw [eS57]; exact iv11_sI hI o_v0 (by decide) (nu_free (by decide))
              have hI := hIn
              have f0 := fr_I eS57 g0 f0 o_v0 (by decide)
              have d_kv2 := rd_Ij eS57 (by decide) d_kv2
              have d_x21 := rd_Ik eS57 o_v0 o_a3 (by decide) d_x21
              have d_x43 := rd_Ik eS57 o_v0 o_a3 (by decide) d_x43
              obtain ⟨kv58, hkv58⟩ : ∃ z : Int32, z = (2 : Int32) := ⟨_, rfl⟩
              have d_kv58 := rd_Is eS57 hkv58
              have ea3 := rf_I eS57 ea3
              have g0 := gr_I eS57 g0
              have o_a3 := ob_I eS57 o_a3
              have o_v0 := ob_I eS57 o_v0
              intro S59 eS59
              have hIn : IV S59 := by rw [eS59]; exact iv11_sI hI o_v0 (by decide) (nu_free (by decide))
              have hI := hIn
              have f0 := fr_I eS59 g0 f0 o_v0 (by decide)
              have d_kv2 := rd_Ij eS59 (by decide) d_kv2
              have d_x21 := rd_Ik eS59 o_v0 o_a3 (by decide) d_x21
              have d_x43 := rd_Ik eS59 o_v0 o_a3 (by decide) d_x43
              have d_kv58 := rd_Ij eS59 (by decide) d_kv58
              obtain ⟨kv60, hkv60⟩ : ∃ z : Int32, z = (-1 : Int32) := ⟨_, rfl⟩
              have d_kv60 := rd_Is eS59 hkv60
              have ea3 := rf_I eS59 ea3
              have g0 := gr_I eS59 g0
              have o_a3 := ob_I eS59 o_a3
              have o_v0 := ob_I eS59 o_v0
              intro _
              exact hq _ _ hI g0 f0
            · refine ⟨fun c62 => ?_, fun c62 => ?_⟩
              · intro _ _
                refine ⟨fun c64 => ?_, fun c64 => absurd (show ¬ (0 : Int32) = 0 from c64) (by decide)⟩
                refine u_X11_day_50 ?_
                refine ⟨o_v0, ?_⟩
                refine u_X11_refused ?_
                refine u_X11_refused_0 ?_
                refine ⟨o_v0, ?_⟩
                intro S65 eS65
                have hIn : IV S65 := by rw [eS65]; exact iv11_sI hI o_v0 (by decide) (nu_free (by decide))
                have hI := hIn
                have f0 := fr_I eS65 g0 f0 o_v0 (by decide)
                have d_kv2 := rd_Ij eS65 (by decide) d_kv2
                have d_x21 := rd_Ik eS65 o_v0 o_a3 (by decide) d_x21
                have d_x43 := rd_Ik eS65 o_v0 o_a3 (by decide) d_x43
                obtain ⟨kv66, hkv66⟩ : ∃ z : Int32, z = (2 : Int32) := ⟨_, rfl⟩
                have d_kv66 := rd_Is eS65 hkv66
                have ea3 := rf_I eS65 ea3
                have g0 := gr_I eS65 g0
                have o_a3 := ob_I eS65 o_a3
                have o_v0 := ob_I eS65 o_v0
                intro S67 eS67
                have hIn : IV S67 := by rw [eS67]; exact iv11_sI hI o_v0 (by decide) (nu_free (by decide))
                have hI := hIn
                have f0 := fr_I eS67 g0 f0 o_v0 (by decide)
                have d_kv2 := rd_Ij eS67 (by decide) d_kv2
                have d_x21 := rd_Ik eS67 o_v0 o_a3 (by decide) d_x21
                have d_x43 := rd_Ik eS67 o_v0 o_a3 (by decide) d_x43
                have d_kv66 := rd_Ij eS67 (by decide) d_kv66
                obtain ⟨kv68, hkv68⟩ : ∃ z : Int32, z = (-1 : Int32) := ⟨_, rfl⟩
                have d_kv68 := rd_Is eS67 hkv68
                have ea3 := rf_I eS67 ea3
                have g0 := gr_I eS67 g0
                have o_a3 := ob_I eS67 o_a3
                have o_v0 := ob_I eS67 o_v0
                intro _
                exact hq _ _ hI g0 f0
              · intro _ _
                refine ⟨fun c71 => absurd (show (1 : Int32) = 0 from c71) (by decide), fun c71 => ?_⟩
                refine u_X11_in ?_
                refine u_X11_in_0 ?_
                refine ⟨fun c72 => ?_, fun c72 => ?_⟩
                · intro _ _
                  refine ⟨fun c74 => absurd (show ¬ (0 : Int32) = 0 from c74) (by decide), fun c74 => ?_⟩
                  refine u_X11_day_50 ?_
                  refine ⟨o_v0, ?_⟩
                  refine u_X11_refused ?_
                  refine u_X11_refused_0 ?_
                  refine ⟨o_v0, ?_⟩
                  intro S75 eS75
                  have hIn : IV S75 := by rw [eS75]; exact iv11_sI hI o_v0 (by decide) (nu_free (by decide))
                  have hI := hIn
                  have f0 := fr_I eS75 g0 f0 o_v0 (by decide)
                  have d_kv2 := rd_Ij eS75 (by decide) d_kv2
                  have d_x21 := rd_Ik eS75 o_v0 o_a3 (by decide) d_x21
                  have d_x43 := rd_Ik eS75 o_v0 o_a3 (by decide) d_x43
                  obtain ⟨kv76, hkv76⟩ : ∃ z : Int32, z = (2 : Int32) := ⟨_, rfl⟩
                  have d_kv76 := rd_Is eS75 hkv76
                  have ea3 := rf_I eS75 ea3
                  have g0 := gr_I eS75 g0
                  have o_a3 := ob_I eS75 o_a3
                  have o_v0 := ob_I eS75 o_v0
                  intro S77 eS77
                  have hIn : IV S77 := by rw [eS77]; exact iv11_sI hI o_v0 (by decide) (nu_free (by decide))
                  have hI := hIn
                  have f0 := fr_I eS77 g0 f0 o_v0 (by decide)
                  have d_kv2 := rd_Ij eS77 (by decide) d_kv2
                  have d_x21 := rd_Ik eS77 o_v0 o_a3 (by decide) d_x21
                  have d_x43 := rd_Ik eS77 o_v0 o_a3 (by decide) d_x43
                  have d_kv76 := rd_Ij eS77 (by decide) d_kv76
                  obtain ⟨kv78, hkv78⟩ : ∃ z : Int32, z = (-1 : Int32) := ⟨_, rfl⟩
                  have d_kv78 := rd_Is eS77 hkv78
                  have ea3 := rf_I eS77 ea3
                  have g0 := gr_I eS77 g0
                  have o_a3 := ob_I eS77 o_a3
                  have o_v0 := ob_I eS77 o_v0
                  intro _
                  exact hq _ _ hI g0 f0
                · refine ⟨fun c80 => ?_, fun c80 => ?_⟩
                  · intro _ _
                    refine ⟨fun c82 => absurd (show ¬ (0 : Int32) = 0 from c82) (by decide), fun c82 => ?_⟩
                    refine u_X11_day_50 ?_
                    refine ⟨o_v0, ?_⟩
                    refine u_X11_refused ?_
                    refine u_X11_refused_0 ?_
                    refine ⟨o_v0, ?_⟩
                    intro S83 eS83
                    have hIn : IV S83 := by rw [eS83]; exact iv11_sI hI o_v0 (by decide) (nu_free (by decide))
                    have hI := hIn
                    have f0 := fr_I eS83 g0 f0 o_v0 (by decide)
                    have d_kv2 := rd_Ij eS83 (by decide) d_kv2
                    have d_x21 := rd_Ik eS83 o_v0 o_a3 (by decide) d_x21
                    have d_x43 := rd_Ik eS83 o_v0 o_a3 (by decide) d_x43
                    obtain ⟨kv84, hkv84⟩ : ∃ z : Int32, z = (2 : Int32) := ⟨_, rfl⟩
                    have d_kv84 := rd_Is eS83 hkv84
                    have ea3 := rf_I eS83 ea3
                    have g0 := gr_I eS83 g0
                    have o_a3 := ob_I eS83 o_a3
                    have o_v0 := ob_I eS83 o_v0
                    intro S85 eS85
                    have hIn : IV S85 := by rw [eS85]; exact iv11_sI hI o_v0 (by decide) (nu_free (by decide))
                    have hI := hIn
                    have f0 := fr_I eS85 g0 f0 o_v0 (by decide)
                    have d_kv2 := rd_Ij eS85 (by decide) d_kv2
                    have d_x21 := rd_Ik eS85 o_v0 o_a3 (by decide) d_x21
                    have d_x43 := rd_Ik eS85 o_v0 o_a3 (by decide) d_x43
                    have d_kv84 := rd_Ij eS85 (by decide) d_kv84
                    obtain ⟨kv86, hkv86⟩ : ∃ z : Int32, z = (-1 : Int32) := ⟨_, rfl⟩
                    have d_kv86 := rd_Is eS85 hkv86
                    have ea3 := rf_I eS85 ea3
                    have g0 := gr_I eS85 g0
                    have o_a3 := ob_I eS85 o_a3
                    have o_v0 := ob_I eS85 o_v0
                    intro _
                    exact hq _ _ hI g0 f0
                  · intro _ _
                    refine ⟨fun c89 => ?_, fun c89 => absurd (show (1 : Int32) = 0 from c89) (by decide)⟩
                    intro S90 eS90
                    have hIn : IV S90 := by rw [eS90]; exact ml_who_set hI o_v0 (Or.inr ⟨(qm487 c12 r_x21 c22 c34 r_x43 c44 c54 c62 c72 c80), (qm488 c12 r_x21 c22 c34 r_x43 c44 c54 c62 c72 c80), a3, ea3, by rw [← d_x21]; exact (qm489 c12 r_x21 c22 c34 r_x43 c44 c54 c62 c72 c80)⟩)
                    have hI := hIn
                    have f0 := fr_I eS90 g0 f0 o_v0 (by decide)
                    have d_kv2 := rd_Ij eS90 (by decide) d_kv2
                    have d_x21 := rd_Ik eS90 o_v0 o_a3 (by decide) d_x21
                    have d_x43 := rd_Ik eS90 o_v0 o_a3 (by decide) d_x43
                    have d_v1 := rd_Is eS90 (rfl : v1 = v1)
                    have ea3 := rf_I eS90 ea3
                    have g0 := gr_I eS90 g0
                    have o_a3 := ob_I eS90 o_a3
                    have o_v0 := ob_I eS90 o_v0
                    intro S91 eS91
                    have hIn : IV S91 := by rw [eS91]; exact iv11_sI hI o_v0 (by decide) (nu_free (by decide))
                    have hI := hIn
                    have f0 := fr_I eS91 g0 f0 o_v0 (by decide)
                    have d_kv2 := rd_Ij eS91 (by decide) d_kv2
                    have d_x21 := rd_Ik eS91 o_v0 o_a3 (by decide) d_x21
                    have d_x43 := rd_Ik eS91 o_v0 o_a3 (by decide) d_x43
                    have d_v1 := rd_Ij eS91 (by decide) d_v1
                    obtain ⟨kv92, hkv92⟩ : ∃ z : Int32, z = (0 : Int32) := ⟨_, rfl⟩
                    have d_kv92 := rd_Is eS91 hkv92
                    have ea3 := rf_I eS91 ea3
                    have g0 := gr_I eS91 g0
                    have o_a3 := ob_I eS91 o_a3
                    have o_v0 := ob_I eS91 o_v0
                    refine i_X11_day_73 (fun (y0 : Nat) (y2 : Int32) (y3 : Int32) (y5 : Int32) (y6 : Int32) (Z : HS) => ((2147483647 : Int32).toInt - y6.toInt).toNat) (fun (y0 : Nat) (y2 : Int32) (y3 : Int32) (y5 : Int32) (y6 : Int32) (Z : HS) => (IV Z) ∧ (Gr S91 Z) ∧ (FRI [(11, 20)] [] S91 Z) ∧ (v0 = y0) ∧ (v2 = y2) ∧ (v3 = y3) ∧ (0 ≤ y6)) ?_ _ _ _ _ _ _ ⟨hI, (gr_rf _), (fri_rf _ _ _), rfl, rfl, rfl, (qm490 c12 r_x21 c22 c34 r_x43 c44 c54 c62 c72 c80)⟩
                    intro w97 w99 w101 w103 w104 S94 X105 ⟨hI, gL95, fL96, q98, q100, q102, i1u93⟩ ih106
                    subst q98
                    subst q100
                    subst q102
                    have d_kv2 := d_kv2.trans (fri_at fL96 (by decide) (by decide) o_v0).symm
                    have d_x21 := d_x21.trans (fri_at fL96 (by decide) (by decide) o_a3).symm
                    have d_x43 := d_x43.trans (fri_at fL96 (by decide) (by decide) o_a3).symm
                    have d_v1 := d_v1.trans (fri_at fL96 (by decide) (by decide) o_v0).symm
                    have ea3 := (frr_at fL96 (by decide) (by decide) o_v0).trans ea3
                    have f0 := fri_tr (S := S91) g0 f0 fL96 (by decide) (by decide)
                    have o_a3 := gr_ob gL95 o_a3
                    have o_v0 := gr_ob gL95 o_v0
                    have g0 := gr_tr (T := S91) g0 gL95
                    refine u_X11_day_73 ?_
                    refine ⟨o_v0, ?_⟩
                    refine ⟨a3, ea3, ?_⟩
                    refine ⟨o_a3, ?_⟩
                    intro x108 ex108
                    have r_x108 : (0 : Int32) ≤ x108 ∧ x108 ≤ (6 : Int32) := by rw [ex108]; exact nu 17 rfl hI o_a3
                    have d_x108 := ex108
                    refine ⟨fun c109 => ?_, fun c109 => ?_⟩
                    · refine i_X11_day_147 (fun (y0 : Nat) (y2 : Int32) (y3 : Int32) (y6 : Int32) (Z : HS) => ((7 : Int32).toInt - y6.toInt).toNat) (fun (y0 : Nat) (y2 : Int32) (y3 : Int32) (y6 : Int32) (Z : HS) => (IV Z) ∧ (Gr S94 Z) ∧ (FRI [] [] S94 Z) ∧ (v0 = y0) ∧ (v2 = y2) ∧ (v3 = y3) ∧ (0 ≤ y6 ∧ y6 ≤ 7)) ?_ _ _ _ _ _ ⟨hI, (gr_rf _), (fri_rf _ _ _), rfl, rfl, rfl, (qm491 c12 r_x21 c22 c34 r_x43 c44 c54 c62 c72 c80 i1u93 r_x108 c109)⟩
                      intro w114 w116 w118 w120 S111 X121 ⟨hI, gL112, fL113, q115, q117, q119, i1u110⟩ ih122
                      subst q115
                      subst q117
                      subst q119
                      have d_kv2 := d_kv2.trans (fri_at fL113 (by decide) (by decide) o_v0).symm
                      have d_x21 := d_x21.trans (fri_at fL113 (by decide) (by decide) o_a3).symm
                      have d_x43 := d_x43.trans (fri_at fL113 (by decide) (by decide) o_a3).symm
                      have d_v1 := d_v1.trans (fri_at fL113 (by decide) (by decide) o_v0).symm
                      have d_x108 := d_x108.trans (fri_at fL113 (by decide) (by decide) o_a3).symm
                      have ea3 := (frr_at fL113 (by decide) (by decide) o_v0).trans ea3
                      have f0 := fri_tr (S := S94) g0 f0 fL113 (by decide) (by decide)
                      have o_a3 := gr_ob gL112 o_a3
                      have o_v0 := gr_ob gL112 o_v0
                      have g0 := gr_tr (T := S94) g0 gL112
                      refine u_X11_day_147 ?_
                      refine ⟨fun c123 => ?_, fun c123 => ?_⟩
                      · refine ⟨o_v0, ?_⟩
                        obtain ⟨a124, ea124, o_a124, l_a124⟩ := shl 57 rfl hI o_v0
                        refine ⟨a124, ea124, ?_⟩
                        refine ⟨o_a124, ?_⟩
                        intro x125 ex125
                        have i126 : vp_in (0 : Int32) (hN _ a124) := (vin l_a124 (m := 7) (by decide) (qm492 c12 r_x21 c22 c34 r_x43 c44 c54 c62 c72 c80 i1u93 r_x108 c109 i1u110 c123 ex125))
                        refine ⟨i126, ?_⟩
                        intro S127 eS127
                        have hIn : IV S127 := by rw [eS127]; exact iv11_aD hI (de_0 (by rw [ex125]; exact i2l_rng (lo := 0) (hi := 7) (qm493 c12 r_x21 c22 c34 r_x43 c44 c54 c62 c72 c80 i1u93 r_x108 c109 i1u110 c123 ex125)))
                        have hI := hIn
                        have f0 := fr_J eS127 f0
                        have d_kv2 := rd_J eS127 d_kv2
                        have d_x21 := rd_J eS127 d_x21
                        have d_x43 := rd_J eS127 d_x43
                        have d_v1 := rd_J eS127 d_v1
                        have d_x108 := rd_J eS127 d_x108
                        have ea3 := rf_J eS127 ea3
                        have ea124 := rf_J eS127 ea124
                        have l_a124 := ln_J eS127 l_a124
                        have g0 := gr_J eS127 g0
                        have o_a124 := ob_J eS127 o_a124
                        have o_a3 := ob_J eS127 o_a3
                        have o_v0 := ob_J eS127 o_v0
                        refine ⟨a124, ea124, ?_⟩
                        refine ⟨o_a124, ?_⟩
                        intro x129 ex129
                        have i130 : vp_in (1 : Int32) (hN _ a124) := (vin l_a124 (m := 7) (by decide) (qm494 c12 r_x21 c22 c34 r_x43 c44 c54 c62 c72 c80 i1u93 r_x108 c109 i1u110 c123 ex125 ex129))
                        refine ⟨i130, ?_⟩
                        intro S131 eS131
                        have hIn : IV S131 := by rw [eS131]; exact iv11_aD hI (de_1 (by rw [ex129]; exact i2l_rng (lo := 0) (hi := 999) (qm495 c12 r_x21 c22 c34 r_x43 c44 c54 c62 c72 c80 i1u93 r_x108 c109 i1u110 c123 ex125 ex129)))
                        have hI := hIn
                        have f0 := fr_J eS131 f0
                        have d_kv2 := rd_J eS131 d_kv2
                        have d_x21 := rd_J eS131 d_x21
                        have d_x43 := rd_J eS131 d_x43
                        have d_v1 := rd_J eS131 d_v1
                        have d_x108 := rd_J eS131 d_x108
                        have ea3 := rf_J eS131 ea3
                        have ea124 := rf_J eS131 ea124
                        have l_a124 := ln_J eS131 l_a124
                        have g0 := gr_J eS131 g0
                        have o_a124 := ob_J eS131 o_a124
                        have o_a3 := ob_J eS131 o_a3
                        have o_v0 := ob_J eS131 o_v0
                        intro S132 eS132
                        have hIn : IV S132 := by rw [eS132]; exact iv11_sI hI o_v0 (by decide) (nu_one (lo := (0 : Int32)) (hi := (16 : Int32)) (by decide) (qm496 c12 r_x21 c22 c34 r_x43 c44 c54 c62 c72 c80 i1u93 r_x108 c109 i1u110 c123 ex125 ex129))
                        have hI := hIn
                        have f0 := fr_I eS132 g0 f0 o_v0 (by decide)
                        have d_kv2 := rd_Ij eS132 (by decide) d_kv2
                        have d_x21 := rd_Ik eS132 o_v0 o_a3 (by decide) d_x21
                        have d_x43 := rd_Ik eS132 o_v0 o_a3 (by decide) d_x43
                        have d_v1 := rd_Ij eS132 (by decide) d_v1
                        have d_x108 := rd_Ik eS132 o_v0 o_a3 (by decide) d_x108
                        obtain ⟨kv133, hkv133⟩ : ∃ z : Int32, z = (0 : Int32) := ⟨_, rfl⟩
                        have d_kv133 := rd_Is eS132 hkv133
                        have ea3 := rf_I eS132 ea3
                        have ea124 := rf_I eS132 ea124
                        have l_a124 := ln_I eS132 l_a124
                        have g0 := gr_I eS132 g0
                        have o_a124 := ob_I eS132 o_a124
                        have o_a3 := ob_I eS132 o_a3
                        have o_v0 := ob_I eS132 o_v0
                        intro S134 eS134
                        have hIn : IV S134 := by rw [eS134]; exact iv11_sI hI o_v0 (by decide) (nu_one (lo := (0 : Int32)) (hi := (3 : Int32)) (by decide) (qm497 c12 r_x21 c22 c34 r_x43 c44 c54 c62 c72 c80 i1u93 r_x108 c109 i1u110 c123 ex125 ex129))
                        have hI := hIn
                        have f0 := fr_I eS134 g0 f0 o_v0 (by decide)
                        have d_kv2 := rd_Ij eS134 (by decide) d_kv2
                        have d_x21 := rd_Ik eS134 o_v0 o_a3 (by decide) d_x21
                        have d_x43 := rd_Ik eS134 o_v0 o_a3 (by decide) d_x43
                        have d_v1 := rd_Ij eS134 (by decide) d_v1
                        have d_x108 := rd_Ik eS134 o_v0 o_a3 (by decide) d_x108
                        have d_kv133 := rd_Ij eS134 (by decide) d_kv133
                        obtain ⟨kv135, hkv135⟩ : ∃ z : Int32, z = (0 : Int32) := ⟨_, rfl⟩
                        have d_kv135 := rd_Is eS134 hkv135
                        have ea3 := rf_I eS134 ea3
                        have ea124 := rf_I eS134 ea124
                        have l_a124 := ln_I eS134 l_a124
                        have g0 := gr_I eS134 g0
                        have o_a124 := ob_I eS134 o_a124
                        have o_a3 := ob_I eS134 o_a3
                        have o_v0 := ob_I eS134 o_v0
                        intro x136 ex136
                        have d_x136 := ex136
                        refine u_X11_good ?_
                        refine u_X11_good_0 ?_
                        refine ⟨o_v0, ?_⟩
                        intro S137 eS137
                        have hIn : IV S137 := by rw [eS137]; exact iv11_sI hI o_v0 (by decide) (nu_free (by decide))
                        have hI := hIn
                        have f0 := fr_I eS137 g0 f0 o_v0 (by decide)
                        have d_kv2 := rd_Ij eS137 (by decide) d_kv2
                        have d_x21 := rd_Ik eS137 o_v0 o_a3 (by decide) d_x21
                        have d_x43 := rd_Ik eS137 o_v0 o_a3 (by decide) d_x43
                        have d_v1 := rd_Ij eS137 (by decide) d_v1
                        have d_x108 := rd_Ik eS137 o_v0 o_a3 (by decide) d_x108
                        have d_kv133 := rd_Ij eS137 (by decide) d_kv133
                        have d_kv135 := rd_Ij eS137 (by decide) d_kv135
                        have d_x136 := rd_Ij eS137 (by decide) d_x136
                        obtain ⟨kv138, hkv138⟩ : ∃ z : Int32, z = (0 : Int32) := ⟨_, rfl⟩
                        have d_kv138 := rd_Is eS137 hkv138
                        have ea3 := rf_I eS137 ea3
                        have ea124 := rf_I eS137 ea124
                        have l_a124 := ln_I eS137 l_a124
                        have g0 := gr_I eS137 g0
                        have o_a124 := ob_I eS137 o_a124
                        have o_a3 := ob_I eS137 o_a3
                        have o_v0 := ob_I eS137 o_v0
                        intro S139 eS139
                        have hIn : IV S139 := by rw [eS139]; exact iv11_sI hI o_v0 (by decide) (nu_free (by decide))
                        have hI := hIn
                        have f0 := fr_I eS139 g0 f0 o_v0 (by decide)
                        have d_kv2 := rd_Ij eS139 (by decide) d_kv2
                        have d_x21 := rd_Ik eS139 o_v0 o_a3 (by decide) d_x21
                        have d_x43 := rd_Ik eS139 o_v0 o_a3 (by decide) d_x43
                        have d_v1 := rd_Ij eS139 (by decide) d_v1
                        have d_x108 := rd_Ik eS139 o_v0 o_a3 (by decide) d_x108
                        have d_kv133 := rd_Ij eS139 (by decide) d_kv133
                        have d_kv135 := rd_Ij eS139 (by decide) d_kv135
                        have d_x136 := rd_Ij eS139 (by decide) d_x136
                        have d_kv138 := rd_Ij eS139 (by decide) d_kv138
                        obtain ⟨kv140, hkv140⟩ : ∃ z : Int32, z = (-1 : Int32) := ⟨_, rfl⟩
                        have d_kv140 := rd_Is eS139 hkv140
                        have ea3 := rf_I eS139 ea3
                        have ea124 := rf_I eS139 ea124
                        have l_a124 := ln_I eS139 l_a124
                        have g0 := gr_I eS139 g0
                        have o_a124 := ob_I eS139 o_a124
                        have o_a3 := ob_I eS139 o_a3
                        have o_v0 := ob_I eS139 o_v0
                        intro _
                        exact hq _ _ hI g0 f0
                      · refine ⟨o_v0, ?_⟩
                        obtain ⟨a142, ea142, o_a142, l_a142⟩ := shl 57 rfl hI o_v0
                        refine ⟨a142, ea142, ?_⟩
                        refine ⟨o_a142, ?_⟩
                        have i143 : vp_in w120 (hN _ a142) := (vin l_a142 (m := 7) (by decide) (qm498 c12 r_x21 c22 c34 r_x43 c44 c54 c62 c72 c80 i1u93 r_x108 c109 i1u110 c123))
                        refine ⟨i143, ?_⟩
                        intro S144 eS144
                        have hIn : IV S144 := by rw [eS144]; exact iv11_aD hI (de_zero _)
                        have hI := hIn
                        have f0 := fr_J eS144 f0
                        have fL113 := fr_J eS144 fL113
                        have d_kv2 := rd_J eS144 d_kv2
                        have d_x21 := rd_J eS144 d_x21
                        have d_x43 := rd_J eS144 d_x43
                        have d_v1 := rd_J eS144 d_v1
                        have d_x108 := rd_J eS144 d_x108
                        have ea3 := rf_J eS144 ea3
                        have ea142 := rf_J eS144 ea142
                        have l_a142 := ln_J eS144 l_a142
                        have g0 := gr_J eS144 g0
                        have gL112 := gr_J eS144 gL112
                        have o_a142 := ob_J eS144 o_a142
                        have o_a3 := ob_J eS144 o_a3
                        have o_v0 := ob_J eS144 o_v0
                        intro x145 ex145
                        exact ih122 _ _ _ _ _ ⟨hI, gL112, fL113, rfl, rfl, rfl, (qm499 c12 r_x21 c22 c34 r_x43 c44 c54 c62 c72 c80 i1u93 r_x108 c109 i1u110 c123 ex145)⟩ (mu_up (qm500 c12 r_x21 c22 c34 r_x43 c44 c54 c62 c72 c80 i1u93 r_x108 c109 i1u110 c123 ex145) (qm501 c12 r_x21 c22 c34 r_x43 c44 c54 c62 c72 c80 i1u93 r_x108 c109 i1u110 c123 ex145))
                    · intro x146 ex146
                      intro x147 ex147
                      intro x148 ex148
                      have d_x148 := ex148
                      intro x149 ex149
                      refine ⟨a3, ea3, ?_⟩
                      refine ⟨o_a3, ?_⟩
                      obtain ⟨a151, ea151, o_a151, l_a151⟩ := shl 33 rfl hI o_a3
                      refine ⟨a151, ea151, ?_⟩
                      refine ⟨o_a151, ?_⟩
                      refine ⟨(vin l_a151 (m := 6) (by decide) (qm502 c12 r_x21 c22 c34 r_x43 c44 c54 c62 c72 c80 i1u93 r_x108 c109)), ?_⟩
                      intro x152 ex152
                      refine ⟨fun c153 => ?_, fun c153 => ?_⟩
                      · refine u_X11_day_134 ?_
                        refine ⟨o_v0, ?_⟩
                        intro x154 ex154
                        intro S155 eS155
                        have hIn : IV S155 := by rw [eS155]; exact iv11_sI hI o_v0 (by decide) (nu_free (by decide))
                        have hI := hIn
                        have f0 := fr_I eS155 g0 f0 o_v0 (by decide)
                        have fL96 := fr_I eS155 gL95 fL96 o_v0 (by decide)
                        have d_kv2 := rd_Ij eS155 (by decide) d_kv2
                        have d_x21 := rd_Ik eS155 o_v0 o_a3 (by decide) d_x21
                        have d_x43 := rd_Ik eS155 o_v0 o_a3 (by decide) d_x43
                        have d_v1 := rd_Ij eS155 (by decide) d_v1
                        have d_x108 := rd_Ik eS155 o_v0 o_a3 (by decide) d_x108
                        have d_x154 := rd_Is eS155 (rfl : x154 = x154)
                        have ea3 := rf_I eS155 ea3
                        have ea151 := rf_I eS155 ea151
                        have l_a151 := ln_I eS155 l_a151
                        have g0 := gr_I eS155 g0
                        have gL95 := gr_I eS155 gL95
                        have o_a151 := ob_I eS155 o_a151
                        have o_a3 := ob_I eS155 o_a3
                        have o_v0 := ob_I eS155 o_v0
                        intro x156 ex156
                        exact ih106 _ _ _ _ _ _ ⟨hI, gL95, fL96, rfl, rfl, rfl, (qm503 c12 r_x21 c22 c34 r_x43 c44 c54 c62 c72 c80 i1u93 r_x108 c109 ex146 ex147 ex149 c153 ex156)⟩ (mu_up (qm504 c12 r_x21 c22 c34 r_x43 c44 c54 c62 c72 c80 i1u93 r_x108 c109 ex146 ex147 ex149 c153 ex156) (qm505 c12 r_x21 c22 c34 r_x43 c44 c54 c62 c72 c80 i1u93 r_x108 c109 ex146 ex147 ex149 c153 ex156))
                      · refine u_X11_day_134 ?_
                        refine ⟨o_v0, ?_⟩
                        intro x157 ex157
                        intro S158 eS158
                        have hIn : IV S158 := by rw [eS158]; exact iv11_sI hI o_v0 (by decide) (nu_free (by decide))
                        have hI := hIn
                        have f0 := fr_I eS158 g0 f0 o_v0 (by decide)
                        have fL96 := fr_I eS158 gL95 fL96 o_v0 (by decide)
                        have d_kv2 := rd_Ij eS158 (by decide) d_kv2
                        have d_x21 := rd_Ik eS158 o_v0 o_a3 (by decide) d_x21
                        have d_x43 := rd_Ik eS158 o_v0 o_a3 (by decide) d_x43
                        have d_v1 := rd_Ij eS158 (by decide) d_v1
                        have d_x108 := rd_Ik eS158 o_v0 o_a3 (by decide) d_x108
                        have d_x157 := rd_Is eS158 (rfl : x157 = x157)
                        have ea3 := rf_I eS158 ea3
                        have ea151 := rf_I eS158 ea151
                        have l_a151 := ln_I eS158 l_a151
                        have g0 := gr_I eS158 g0
                        have gL95 := gr_I eS158 gL95
                        have o_a151 := ob_I eS158 o_a151
                        have o_a3 := ob_I eS158 o_a3
                        have o_v0 := ob_I eS158 o_v0
                        intro x159 ex159
                        exact ih106 _ _ _ _ _ _ ⟨hI, gL95, fL96, rfl, rfl, rfl, (qm506 c12 r_x21 c22 c34 r_x43 c44 c54 c62 c72 c80 i1u93 r_x108 c109 ex146 ex147 ex149 c153 ex157 ex159)⟩ (mu_up (qm507 c12 r_x21 c22 c34 r_x43 c44 c54 c62 c72 c80 i1u93 r_x108 c109 ex146 ex147 ex149 c153 ex157 ex159) (qm508 c12 r_x21 c22 c34 r_x43 c44 c54 c62 c72 c80 i1u93 r_x108 c109 ex146 ex147 ex149 c153 ex157 ex159))
end
section
set_option maxHeartbeats 4000000 in
set_option maxRecDepth 20000 in
theorem m_X11_wetAtBest {v0 : Nat} {v1 : Int32} {v2 : Int32} {v3 : Int32} {v4 : Int32} {Q : Int64 → HS → Prop} {S : HS} (hI : IV S) (o_v0 : ob S v0 11)   (h0 : 0 ≤ v2 ∧ v2 < 12) (h1 : 0 ≤ v4 ∧ v4 < 6)  (hwi1 : WI S v0 4 v1) (hq : ∀ (r : Int64) (T : HS), IV T → Gr S T → (S = T) → Q r T) : P_X11_wetAtBest v0 v1 v2 v3 v4 Q S := by
  have g0 := gr_rf S
  obtain ⟨a1, ea1, hx1⟩ := hwi1
  have o_a1 := ml_ob hI o_v0 ea1
  obtain ⟨kv2, d_kv2⟩ : ∃ z : Int32, z = fI S a1 4 := ⟨_, rfl⟩
  have r_kv2 : (0 : Int32) ≤ kv2 ∧ kv2 ≤ (4 : Int32) := by rw [d_kv2]; exact nu 20 rfl hI o_a1
  have hwi1 : 0 ≤ v1 ∧ v1 < kv2 := by rw [d_kv2]; exact hx1
  refine u_X11_wetAtBest ?_
  refine u_X11_wetAtBest_0 ?_
  refine ⟨o_v0, ?_⟩
  refine m_X11_bestOf hI o_v0 (qm17 h0) (qm18 h1) ⟨_, ea1, (qm642 r_kv2 hwi1), (by rw [← d_kv2]; exact (qm643 r_kv2 hwi1))⟩ (fun x3 S4 hI2 g5 p_x3 => ?_)
  obtain ⟨z_S4, p_x3⟩ := p_x3
  subst z_S4
  intro _
  refine m_X11_wetOf hI o_v0 (qm644 r_kv2 hwi1) (qm17 h0) (qm18 h1) (qm645 p_x3) ⟨_, ea1⟩ (fun x7 S8 hI2 g9 p_x7 => ?_)
  subst p_x7
  intro _
  exact hq _ _ hI g0 rfl
set_option maxHeartbeats 4000000 in
set_option maxRecDepth 20000 in
theorem m_X11_driest {v0 : Nat} {v1 : Int32} {v2 : Int32} {v3 : Int32} {Q : Int32 → HS → Prop} {S : HS} (hI : IV S) (o_v0 : ob S v0 11)     (hq : ∀ (r : Int32) (T : HS), IV T → Gr S T → FRI [(11, 0), (11, 1), (11, 2)] [] S T → Q r T) : P_X11_driest v0 v1 v2 v3 Q S := by
  have g0 := gr_rf S
  have f0 := fri_rf [(11, 0), (11, 1), (11, 2)] [] S
  refine u_X11_driest ?_
  refine u_X11_driest_0 ?_
  refine ⟨o_v0, ?_⟩
  intro S1 eS1
  have hIn : IV S1 := by rw [eS1]; exact iv11_sI hI o_v0 (by decide) (nu_free (by decide))
  have hI := hIn
  have f0 := fr_I eS1 g0 f0 o_v0 (by decide)
  obtain ⟨kv2, hkv2⟩ : ∃ z : Int32, z = (0 : Int32) := ⟨_, rfl⟩
  have d_kv2 := rd_Is eS1 hkv2
  have g0 := gr_I eS1 g0
  have o_v0 := ob_I eS1 o_v0
  refine u_X11_isWalker ?_
  refine u_X11_isWalker_0 ?_
  refine ⟨o_v0, ?_⟩
  refine ⟨fun e4 => ?_, fun a3 ea3 => ?_⟩
  · intro _ _
    refine ⟨fun c6 => ?_, fun c6 => absurd (show ¬ (0 : Int32) = 0 from c6) (by decide)⟩
    refine u_X11_driest_30 ?_
    refine ⟨o_v0, ?_⟩
    refine u_X11_refused ?_
    refine u_X11_refused_0 ?_
    refine ⟨o_v0, ?_⟩
    intro S7 eS7
    have hIn : IV S7 := by rw [eS7]; exact iv11_sI hI o_v0 (by decide) (nu_free (by decide))
    have hI := hIn
    have f0 := fr_I eS7 g0 f0 o_v0 (by decide)
    have d_kv2 := rd_Ij eS7 (by decide) d_kv2
    obtain ⟨kv8, hkv8⟩ : ∃ z : Int32, z = (1 : Int32) := ⟨_, rfl⟩
    have d_kv8 := rd_Is eS7 hkv8
    have g0 := gr_I eS7 g0
    have o_v0 := ob_I eS7 o_v0
    intro S9 eS9
    have hIn : IV S9 := by rw [eS9]; exact iv11_sI hI o_v0 (by decide) (nu_free (by decide))
    have hI := hIn
    have f0 := fr_I eS9 g0 f0 o_v0 (by decide)
    have d_kv2 := rd_Ij eS9 (by decide) d_kv2
    have d_kv8 := rd_Ij eS9 (by decide) d_kv8
    obtain ⟨kv10, hkv10⟩ : ∃ z : Int32, z = (-1 : Int32) := ⟨_, rfl⟩
    have d_kv10 := rd_Is eS9 hkv10
    have g0 := gr_I eS9 g0
    have o_v0 := ob_I eS9 o_v0
    intro _
    exact hq _ _ hI g0 f0
  · have o_a3 := ml_ob hI o_v0 ea3
    refine ⟨fun c12 => ?_, fun c12 => ?_⟩
    · intro _ _
      refine ⟨fun c14 => ?_, fun c14 => absurd (show ¬ (0 : Int32) = 0 from c14) (by decide)⟩
      refine u_X11_driest_30 ?_
      refine ⟨o_v0, ?_⟩
      refine u_X11_refused ?_
      refine u_X11_refused_0 ?_
      refine ⟨o_v0, ?_⟩
      intro S15 eS15
      have hIn : IV S15 := by rw [eS15]; exact iv11_sI hI o_v0 (by decide) (nu_free (by decide))
      have hI := hIn
      have f0 := fr_I eS15 g0 f0 o_v0 (by decide)
      have d_kv2 := rd_Ij eS15 (by decide) d_kv2
      obtain ⟨kv16, hkv16⟩ : ∃ z : Int32, z = (1 : Int32) := ⟨_, rfl⟩
      have d_kv16 := rd_Is eS15 hkv16
      have ea3 := rf_I eS15 ea3
      have g0 := gr_I eS15 g0
      have o_a3 := ob_I eS15 o_a3
      have o_v0 := ob_I eS15 o_v0
      intro S17 eS17
      have hIn : IV S17 := by rw [eS17]; exact iv11_sI hI o_v0 (by decide) (nu_free (by decide))
      have hI := hIn
      have f0 := fr_I eS17 g0 f0 o_v0 (by decide)
      have d_kv2 := rd_Ij eS17 (by decide) d_kv2
      have d_kv16 := rd_Ij eS17 (by decide) d_kv16
      obtain ⟨kv18, hkv18⟩ : ∃ z : Int32, z = (-1 : Int32) := ⟨_, rfl⟩
      have d_kv18 := rd_Is eS17 hkv18
      have ea3 := rf_I eS17 ea3
      have g0 := gr_I eS17 g0
      have o_a3 := ob_I eS17 o_a3
      have o_v0 := ob_I eS17 o_v0
      intro _
      exact hq _ _ hI g0 f0
    · refine ⟨a3, ea3, ?_⟩
      refine ⟨o_a3, ?_⟩
      intro x21 ex21
      have r_x21 : (0 : Int32) ≤ x21 ∧ x21 ≤ (4 : Int32) := by rw [ex21]; exact nu 20 rfl hI o_a3
      have d_x21 := ex21
      refine ⟨fun c22 => ?_, fun c22 => ?_⟩
      · intro _ _
        refine ⟨fun c24 => ?_, fun c24 => absurd (show ¬ (0 : Int32) = 0 from c24) (by decide)⟩
        refine u_X11_driest_30 ?_
        refine ⟨o_v0, ?_⟩
        refine u_X11_refused ?_
        refine u_X11_refused_0 ?_
        refine ⟨o_v0, ?_⟩
        intro S25 eS25
        have hIn : IV S25 := by rw [eS25]; exact iv11_sI hI o_v0 (by decide) (nu_free (by decide))
        have hI := hIn
        have f0 := fr_I eS25 g0 f0 o_v0 (by decide)
        have d_kv2 := rd_Ij eS25 (by decide) d_kv2
        have d_x21 := rd_Ik eS25 o_v0 o_a3 (by decide) d_x21
        obtain ⟨kv26, hkv26⟩ : ∃ z : Int32, z = (1 : Int32) := ⟨_, rfl⟩
        have d_kv26 := rd_Is eS25 hkv26
        have ea3 := rf_I eS25 ea3
        have g0 := gr_I eS25 g0
        have o_a3 := ob_I eS25 o_a3
        have o_v0 := ob_I eS25 o_v0
        intro S27 eS27
        have hIn : IV S27 := by rw [eS27]; exact iv11_sI hI o_v0 (by decide) (nu_free (by decide))
        have hI := hIn
        have f0 := fr_I eS27 g0 f0 o_v0 (by decide)
        have d_kv2 := rd_Ij eS27 (by decide) d_kv2
        have d_x21 := rd_Ik eS27 o_v0 o_a3 (by decide) d_x21
        have d_kv26 := rd_Ij eS27 (by decide) d_kv26
        obtain ⟨kv28, hkv28⟩ : ∃ z : Int32, z = (-1 : Int32) := ⟨_, rfl⟩
        have d_kv28 := rd_Is eS27 hkv28
        have ea3 := rf_I eS27 ea3
        have g0 := gr_I eS27 g0
        have o_a3 := ob_I eS27 o_a3
        have o_v0 := ob_I eS27 o_v0
        intro _
        exact hq _ _ hI g0 f0
      · intro _ _
        refine ⟨fun c31 => absurd (show (1 : Int32) = 0 from c31) (by decide), fun c31 => ?_⟩
        refine u_X11_isRoad ?_
        refine u_X11_isRoad_0 ?_
        refine ⟨o_v0, ?_⟩
        refine ⟨fun e33 => (nomatch (e33.symm.trans ea3)), fun a32 ea32 => ?_⟩
        obtain rfl : a3 = a32 := Option.some.inj (ea3.symm.trans ea32)
        refine ⟨fun c34 => ?_, fun c34 => ?_⟩
        · intro _ _
          refine ⟨fun c36 => ?_, fun c36 => absurd (show ¬ (0 : Int32) = 0 from c36) (by decide)⟩
          refine u_X11_driest_30 ?_
          refine ⟨o_v0, ?_⟩
          refine u_X11_refused ?_
          refine u_X11_refused_0 ?_
          refine ⟨o_v0, ?_⟩
          intro S37 eS37
          have hIn : IV S37 := by rw [eS37]; exact iv11_sI hI o_v0 (by decide) (nu_free (by decide))
          have hI := hIn
          have f0 := fr_I eS37 g0 f0 o_v0 (by decide)
          have d_kv2 := rd_Ij eS37 (by decide) d_kv2
          have d_x21 := rd_Ik eS37 o_v0 o_a3 (by decide) d_x21
          obtain ⟨kv38, hkv38⟩ : ∃ z : Int32, z = (1 : Int32) := ⟨_, rfl⟩
          have d_kv38 := rd_Is eS37 hkv38
          have ea3 := rf_I eS37 ea3
          have g0 := gr_I eS37 g0
          have o_a3 := ob_I eS37 o_a3
          have o_v0 := ob_I eS37 o_v0
          intro S39 eS39
          have hIn : IV S39 := by rw [eS39]; exact iv11_sI hI o_v0 (by decide) (nu_free (by decide))
          have hI := hIn
          have f0 := fr_I eS39 g0 f0 o_v0 (by decide)
          have d_kv2 := rd_Ij eS39 (by decide) d_kv2
          have d_x21 := rd_Ik eS39 o_v0 o_a3 (by decide) d_x21
          have d_kv38 := rd_Ij eS39 (by decide) d_kv38
          obtain ⟨kv40, hkv40⟩ : ∃ z : Int32, z = (-1 : Int32) := ⟨_, rfl⟩
          have d_kv40 := rd_Is eS39 hkv40
          have ea3 := rf_I eS39 ea3
          have g0 := gr_I eS39 g0
          have o_a3 := ob_I eS39 o_a3
          have o_v0 := ob_I eS39 o_v0
          intro _
          exact hq _ _ hI g0 f0
        · refine ⟨a3, ea3, ?_⟩
          refine ⟨o_a3, ?_⟩
          intro x43 ex43
          have r_x43 : (0 : Int32) ≤ x43 ∧ x43 ≤ (12 : Int32) := by rw [ex43]; exact nu 19 rfl hI o_a3
          have d_x43 := ex43
          refine ⟨fun c44 => ?_, fun c44 => ?_⟩
          · intro _ _
            refine ⟨fun c46 => ?_, fun c46 => absurd (show ¬ (0 : Int32) = 0 from c46) (by decide)⟩
            refine u_X11_driest_30 ?_
            refine ⟨o_v0, ?_⟩
            refine u_X11_refused ?_
            refine u_X11_refused_0 ?_
            refine ⟨o_v0, ?_⟩
            intro S47 eS47
            have hIn : IV S47 := by rw [eS47]; exact iv11_sI hI o_v0 (by decide) (nu_free (by decide))
            have hI := hIn
            have f0 := fr_I eS47 g0 f0 o_v0 (by decide)
            have d_kv2 := rd_Ij eS47 (by decide) d_kv2
            have d_x21 := rd_Ik eS47 o_v0 o_a3 (by decide) d_x21
            have d_x43 := rd_Ik eS47 o_v0 o_a3 (by decide) d_x43
            obtain ⟨kv48, hkv48⟩ : ∃ z : Int32, z = (1 : Int32) := ⟨_, rfl⟩
            have d_kv48 := rd_Is eS47 hkv48
            have ea3 := rf_I eS47 ea3
            have g0 := gr_I eS47 g0
            have o_a3 := ob_I eS47 o_a3
            have o_v0 := ob_I eS47 o_v0
            intro S49 eS49
            have hIn : IV S49 := by rw [eS49]; exact iv11_sI hI o_v0 (by decide) (nu_free (by decide))
            have hI := hIn
            have f0 := fr_I eS49 g0 f0 o_v0 (by decide)
            have d_kv2 := rd_Ij eS49 (by decide) d_kv2
            have d_x21 := rd_Ik eS49 o_v0 o_a3 (by decide) d_x21
            have d_x43 := rd_Ik eS49 o_v0 o_a3 (by decide) d_x43
            have d_kv48 := rd_Ij eS49 (by decide) d_kv48
            obtain ⟨kv50, hkv50⟩ : ∃ z : Int32, z = (-1 : Int32) := ⟨_, rfl⟩
            have d_kv50 := rd_Is eS49 hkv50
            have ea3 := rf_I eS49 ea3
            have g0 := gr_I eS49 g0
            have o_a3 := ob_I eS49 o_a3
            have o_v0 := ob_I eS49 o_v0
            intro _
            exact hq _ _ hI g0 f0
          · intro _ _
            refine ⟨fun c53 => absurd (show (1 : Int32) = 0 from c53) (by decide), fun c53 => ?_⟩
            refine u_X11_in ?_
            refine u_X11_in_0 ?_
            refine ⟨fun c54 => ?_, fun c54 => ?_⟩
            · intro _ _
              refine ⟨fun c56 => absurd (show ¬ (0 : Int32) = 0 from c56) (by decide), fun c56 => ?_⟩
              refine u_X11_driest_30 ?_
              refine ⟨o_v0, ?_⟩
              refine u_X11_refused ?_
              refine u_X11_refused_0 ?_
              refine ⟨o_v0, ?_⟩
              intro S57 eS57
              have hIn : IV S57 := by rw [eS57]; exact iv11_sI hI o_v0 (by decide) (nu_free (by decide))
              have hI := hIn
              have f0 := fr_I eS57 g0 f0 o_v0 (by decide)
              have d_kv2 := rd_Ij eS57 (by decide) d_kv2
              have d_x21 := rd_Ik eS57 o_v0 o_a3 (by decide) d_x21
              have d_x43 := rd_Ik eS57 o_v0 o_a3 (by decide) d_x43
              obtain ⟨kv58, hkv58⟩ : ∃ z : Int32, z = (1 : Int32) := ⟨_, rfl⟩
              have d_kv58 := rd_Is eS57 hkv58
              have ea3 := rf_I eS57 ea3
              have g0 := gr_I eS57 g0
              have o_a3 := ob_I eS57 o_a3
              have o_v0 := ob_I eS57 o_v0
              intro S59 eS59
              have hIn : IV S59 := by rw [eS59]; exact iv11_sI hI o_v0 (by decide) (nu_free (by decide))
              have hI := hIn
              have f0 := fr_I eS59 g0 f0 o_v0 (by decide)
              have d_kv2 := rd_Ij eS59 (by decide) d_kv2
              have d_x21 := rd_Ik eS59 o_v0 o_a3 (by decide) d_x21
              have d_x43 := rd_Ik eS59 o_v0 o_a3 (by decide) d_x43
              have d_kv58 := rd_Ij eS59 (by decide) d_kv58
              obtain ⟨kv60, hkv60⟩ : ∃ z : Int32, z = (-1 : Int32) := ⟨_, rfl⟩
              have d_kv60 := rd_Is eS59 hkv60
              have ea3 := rf_I eS59 ea3
              have g0 := gr_I eS59 g0
              have o_a3 := ob_I eS59 o_a3
              have o_v0 := ob_I eS59 o_v0
              intro _
              exact hq _ _ hI g0 f0
            · refine ⟨fun c62 => ?_, fun c62 => ?_⟩
              · intro _ _
                refine ⟨fun c64 => absurd (show ¬ (0 : Int32) = 0 from c64) (by decide), fun c64 => ?_⟩
                refine u_X11_driest_30 ?_
                refine ⟨o_v0, ?_⟩
                refine u_X11_refused ?_
                refine u_X11_refused_0 ?_
                refine ⟨o_v0, ?_⟩
                intro S65 eS65
                have hIn : IV S65 := by rw [eS65]; exact iv11_sI hI o_v0 (by decide) (nu_free (by decide))
                have hI := hIn
                have f0 := fr_I eS65 g0 f0 o_v0 (by decide)
                have d_kv2 := rd_Ij eS65 (by decide) d_kv2
                have d_x21 := rd_Ik eS65 o_v0 o_a3 (by decide) d_x21
                have d_x43 := rd_Ik eS65 o_v0 o_a3 (by decide) d_x43
                obtain ⟨kv66, hkv66⟩ : ∃ z : Int32, z = (1 : Int32) := ⟨_, rfl⟩
                have d_kv66 := rd_Is eS65 hkv66
                have ea3 := rf_I eS65 ea3
                have g0 := gr_I eS65 g0
                have o_a3 := ob_I eS65 o_a3
                have o_v0 := ob_I eS65 o_v0
                intro S67 eS67
                have hIn : IV S67 := by rw [eS67]; exact iv11_sI hI o_v0 (by decide) (nu_free (by decide))
                have hI := hIn
                have f0 := fr_I eS67 g0 f0 o_v0 (by decide)
                have d_kv2 := rd_Ij eS67 (by decide) d_kv2
                have d_x21 := rd_Ik eS67 o_v0 o_a3 (by decide) d_x21
                have d_x43 := rd_Ik eS67 o_v0 o_a3 (by decide) d_x43
                have d_kv66 := rd_Ij eS67 (by decide) d_kv66
                obtain ⟨kv68, hkv68⟩ : ∃ z : Int32, z = (-1 : Int32) := ⟨_, rfl⟩
                have d_kv68 := rd_Is eS67 hkv68
                have ea3 := rf_I eS67 ea3
                have g0 := gr_I eS67 g0
                have o_a3 := ob_I eS67 o_a3
                have o_v0 := ob_I eS67 o_v0
                intro _
                exact hq _ _ hI g0 f0
              · intro _ _
                refine ⟨fun c71 => ?_, fun c71 => absurd (show (1 : Int32) = 0 from c71) (by decide)⟩
                refine i_X11_driest_45 (fun (y0 : Nat) (y1 : Int32) (y2 : Int32) (y3 : Int32) (y4 : Int32) (y5 : Int64) (y7 : Int32) (Z : HS) => ((2147483647 : Int32).toInt - y7.toInt).toNat) (fun (y0 : Nat) (y1 : Int32) (y2 : Int32) (y3 : Int32) (y4 : Int32) (y5 : Int64) (y7 : Int32) (Z : HS) => (S1 = Z) ∧ (v0 = y0) ∧ (v1 = y1) ∧ (v2 = y2) ∧ (v3 = y3) ∧ (0 ≤ y7)) ?_ _ _ _ _ _ _ _ _ ⟨rfl, rfl, rfl, rfl, rfl, (qm627 c12 r_x21 c22 c34 r_x43 c44 c54 c62)⟩
                intro w76 w78 w80 w82 w84 w85 w86 S73 X87 ⟨eS73, q77, q79, q81, q83, i1u72⟩ ih88
                subst q77
                subst q79
                subst q81
                subst q83
                subst eS73
                refine u_X11_driest_45 ?_
                refine ⟨o_v0, ?_⟩
                refine ⟨a3, ea3, ?_⟩
                refine ⟨o_a3, ?_⟩
                intro x90 ex90
                have r_x90 : (0 : Int32) ≤ x90 ∧ x90 ≤ (6 : Int32) := by rw [ex90]; exact nu 17 rfl hI o_a3
                have d_x90 := ex90
                refine ⟨fun c91 => ?_, fun c91 => ?_⟩
                · refine ⟨fun c92 => ?_, fun c92 => ?_⟩
                  · refine u_X11_good ?_
                    refine u_X11_good_0 ?_
                    refine ⟨o_v0, ?_⟩
                    intro S93 eS93
                    have hIn : IV S93 := by rw [eS93]; exact iv11_sI hI o_v0 (by decide) (nu_free (by decide))
                    have hI := hIn
                    have f0 := fr_I eS93 g0 f0 o_v0 (by decide)
                    have d_kv2 := rd_Ij eS93 (by decide) d_kv2
                    have d_x21 := rd_Ik eS93 o_v0 o_a3 (by decide) d_x21
                    have d_x43 := rd_Ik eS93 o_v0 o_a3 (by decide) d_x43
                    have d_x90 := rd_Ik eS93 o_v0 o_a3 (by decide) d_x90
                    obtain ⟨kv94, hkv94⟩ : ∃ z : Int32, z = (0 : Int32) := ⟨_, rfl⟩
                    have d_kv94 := rd_Is eS93 hkv94
                    have ea3 := rf_I eS93 ea3
                    have g0 := gr_I eS93 g0
                    have o_a3 := ob_I eS93 o_a3
                    have o_v0 := ob_I eS93 o_v0
                    intro S95 eS95
                    have hIn : IV S95 := by rw [eS95]; exact iv11_sI hI o_v0 (by decide) (nu_free (by decide))
                    have hI := hIn
                    have f0 := fr_I eS95 g0 f0 o_v0 (by decide)
                    have d_kv2 := rd_Ij eS95 (by decide) d_kv2
                    have d_x21 := rd_Ik eS95 o_v0 o_a3 (by decide) d_x21
                    have d_x43 := rd_Ik eS95 o_v0 o_a3 (by decide) d_x43
                    have d_x90 := rd_Ik eS95 o_v0 o_a3 (by decide) d_x90
                    have d_kv94 := rd_Ij eS95 (by decide) d_kv94
                    obtain ⟨kv96, hkv96⟩ : ∃ z : Int32, z = (-1 : Int32) := ⟨_, rfl⟩
                    have d_kv96 := rd_Is eS95 hkv96
                    have ea3 := rf_I eS95 ea3
                    have g0 := gr_I eS95 g0
                    have o_a3 := ob_I eS95 o_a3
                    have o_v0 := ob_I eS95 o_v0
                    intro _
                    exact hq _ _ hI g0 f0
                  · refine u_X11_refused ?_
                    refine u_X11_refused_0 ?_
                    refine ⟨o_v0, ?_⟩
                    intro S98 eS98
                    have hIn : IV S98 := by rw [eS98]; exact iv11_sI hI o_v0 (by decide) (nu_free (by decide))
                    have hI := hIn
                    have f0 := fr_I eS98 g0 f0 o_v0 (by decide)
                    have d_kv2 := rd_Ij eS98 (by decide) d_kv2
                    have d_x21 := rd_Ik eS98 o_v0 o_a3 (by decide) d_x21
                    have d_x43 := rd_Ik eS98 o_v0 o_a3 (by decide) d_x43
                    have d_x90 := rd_Ik eS98 o_v0 o_a3 (by decide) d_x90
                    obtain ⟨kv99, hkv99⟩ : ∃ z : Int32, z = (6 : Int32) := ⟨_, rfl⟩
                    have d_kv99 := rd_Is eS98 hkv99
                    have ea3 := rf_I eS98 ea3
                    have g0 := gr_I eS98 g0
                    have o_a3 := ob_I eS98 o_a3
                    have o_v0 := ob_I eS98 o_v0
                    intro S100 eS100
                    have hIn : IV S100 := by rw [eS100]; exact iv11_sI hI o_v0 (by decide) (nu_free (by decide))
                    have hI := hIn
                    have f0 := fr_I eS100 g0 f0 o_v0 (by decide)
                    have d_kv2 := rd_Ij eS100 (by decide) d_kv2
                    have d_x21 := rd_Ik eS100 o_v0 o_a3 (by decide) d_x21
                    have d_x43 := rd_Ik eS100 o_v0 o_a3 (by decide) d_x43
                    have d_x90 := rd_Ik eS100 o_v0 o_a3 (by decide) d_x90
                    have d_kv99 := rd_Ij eS100 (by decide) d_kv99
                    obtain ⟨kv101, hkv101⟩ : ∃ z : Int32, z = (-1 : Int32) := ⟨_, rfl⟩
                    have d_kv101 := rd_Is eS100 hkv101
                    have ea3 := rf_I eS100 ea3
                    have g0 := gr_I eS100 g0
                    have o_a3 := ob_I eS100 o_a3
                    have o_v0 := ob_I eS100 o_v0
                    intro _
                    exact hq _ _ hI g0 f0
                · refine m_X11_wetAtBest hI o_v0 (qm628 c12 r_x21 c22 c34 r_x43 c44 c54 c62 i1u72 r_x90 c91) (qm629 c12 r_x21 c22 c34 r_x43 c44 c54 c62 i1u72 r_x90 c91) ⟨_, ea3, (qm630 c12 r_x21 c22 c34 r_x43 c44 c54 c62 i1u72 r_x90 c91), (by rw [← d_x21]; exact (qm631 c12 r_x21 c22 c34 r_x43 c44 c54 c62 i1u72 r_x90 c91))⟩ (fun x103 S104 hI2 g105 p_x103 => ?_)
                  subst p_x103
                  intro _
                  refine ⟨a3, ea3, ?_⟩
                  refine ⟨o_a3, ?_⟩
                  obtain ⟨a108, ea108, o_a108, l_a108⟩ := shl 33 rfl hI o_a3
                  refine ⟨a108, ea108, ?_⟩
                  refine ⟨o_a108, ?_⟩
                  refine ⟨(vin l_a108 (m := 6) (by decide) (qm632 c12 r_x21 c22 c34 r_x43 c44 c54 c62 i1u72 r_x90 c91)), ?_⟩
                  intro x109 ex109
                  intro x110 ex110
                  refine ⟨fun c111 => ?_, fun c111 => ?_⟩
                  · refine u_X11_driest_97 ?_
                    refine u_X11_driest_105 ?_
                    intro x112 ex112
                    exact ih88 _ _ _ _ _ _ _ _ ⟨rfl, rfl, rfl, rfl, rfl, (qm633 c12 r_x21 c22 c34 r_x43 c44 c54 c62 i1u72 r_x90 c91 c111 ex112)⟩ (mu_up (qm634 c12 r_x21 c22 c34 r_x43 c44 c54 c62 i1u72 r_x90 c91 c111 ex112) (qm635 c12 r_x21 c22 c34 r_x43 c44 c54 c62 i1u72 r_x90 c91 c111 ex112))
                  · refine ⟨fun c113 => ?_, fun c113 => ?_⟩
                    · refine u_X11_driest_97 ?_
                      refine u_X11_driest_105 ?_
                      intro x114 ex114
                      exact ih88 _ _ _ _ _ _ _ _ ⟨rfl, rfl, rfl, rfl, rfl, (qm636 c12 r_x21 c22 c34 r_x43 c44 c54 c62 i1u72 r_x90 c91 c111 c113 ex114)⟩ (mu_up (qm637 c12 r_x21 c22 c34 r_x43 c44 c54 c62 i1u72 r_x90 c91 c111 c113 ex114) (qm638 c12 r_x21 c22 c34 r_x43 c44 c54 c62 i1u72 r_x90 c91 c111 c113 ex114))
                    · refine u_X11_driest_105 ?_
                      intro x115 ex115
                      exact ih88 _ _ _ _ _ _ _ _ ⟨rfl, rfl, rfl, rfl, rfl, (qm639 c12 r_x21 c22 c34 r_x43 c44 c54 c62 i1u72 r_x90 c91 c111 c113 ex115)⟩ (mu_up (qm640 c12 r_x21 c22 c34 r_x43 c44 c54 c62 i1u72 r_x90 c91 c111 c113 ex115) (qm641 c12 r_x21 c22 c34 r_x43 c44 c54 c62 i1u72 r_x90 c91 c111 c113 ex115))
set_option maxHeartbeats 4000000 in
set_option maxRecDepth 20000 in
theorem m_X11_even {v0 : Nat} {v1 : Int32} {v2 : Int32} {v3 : Int32} {v4 : Int32} {Q : Int32 → HS → Prop} {S : HS} (hI : IV S) (o_v0 : ob S v0 11)     (hq : ∀ (r : Int32) (T : HS), IV T → Gr S T → FRI [(11, 0), (11, 1), (11, 2)] [] S T → Q r T) : P_X11_even v0 v1 v2 v3 v4 Q S := by
  have g0 := gr_rf S
  have f0 := fri_rf [(11, 0), (11, 1), (11, 2)] [] S
  refine u_X11_even ?_
  refine u_X11_even_0 ?_
  refine ⟨o_v0, ?_⟩
  intro S1 eS1
  have hIn : IV S1 := by rw [eS1]; exact iv11_sI hI o_v0 (by decide) (nu_free (by decide))
  have hI := hIn
  have f0 := fr_I eS1 g0 f0 o_v0 (by decide)
  obtain ⟨kv2, hkv2⟩ : ∃ z : Int32, z = (0 : Int32) := ⟨_, rfl⟩
  have d_kv2 := rd_Is eS1 hkv2
  have g0 := gr_I eS1 g0
  have o_v0 := ob_I eS1 o_v0
  refine u_X11_isWalker ?_
  refine u_X11_isWalker_0 ?_
  refine ⟨o_v0, ?_⟩
  refine ⟨fun e4 => ?_, fun a3 ea3 => ?_⟩
  · intro _ _
    refine ⟨fun c6 => ?_, fun c6 => absurd (show ¬ (0 : Int32) = 0 from c6) (by decide)⟩
    refine u_X11_even_39 ?_
    refine ⟨o_v0, ?_⟩
    refine u_X11_refused ?_
    refine u_X11_refused_0 ?_
    refine ⟨o_v0, ?_⟩
    intro S7 eS7
    have hIn : IV S7 := by rw [eS7]; exact iv11_sI hI o_v0 (by decide) (nu_free (by decide))
    have hI := hIn
    have f0 := fr_I eS7 g0 f0 o_v0 (by decide)
    have d_kv2 := rd_Ij eS7 (by decide) d_kv2
    obtain ⟨kv8, hkv8⟩ : ∃ z : Int32, z = (1 : Int32) := ⟨_, rfl⟩
    have d_kv8 := rd_Is eS7 hkv8
    have g0 := gr_I eS7 g0
    have o_v0 := ob_I eS7 o_v0
    intro S9 eS9
    have hIn : IV S9 := by rw [eS9]; exact iv11_sI hI o_v0 (by decide) (nu_free (by decide))
    have hI := hIn
    have f0 := fr_I eS9 g0 f0 o_v0 (by decide)
    have d_kv2 := rd_Ij eS9 (by decide) d_kv2
    have d_kv8 := rd_Ij eS9 (by decide) d_kv8
    obtain ⟨kv10, hkv10⟩ : ∃ z : Int32, z = (-1 : Int32) := ⟨_, rfl⟩
    have d_kv10 := rd_Is eS9 hkv10
    have g0 := gr_I eS9 g0
    have o_v0 := ob_I eS9 o_v0
    intro _
    exact hq _ _ hI g0 f0
  · have o_a3 := ml_ob hI o_v0 ea3
    refine ⟨fun c12 => ?_, fun c12 => ?_⟩
    · intro _ _
      refine ⟨fun c14 => ?_, fun c14 => absurd (show ¬ (0 : Int32) = 0 from c14) (by decide)⟩
      refine u_X11_even_39 ?_
      refine ⟨o_v0, ?_⟩
      refine u_X11_refused ?_
      refine u_X11_refused_0 ?_
      refine ⟨o_v0, ?_⟩
      intro S15 eS15
      have hIn : IV S15 := by rw [eS15]; exact iv11_sI hI o_v0 (by decide) (nu_free (by decide))
      have hI := hIn
      have f0 := fr_I eS15 g0 f0 o_v0 (by decide)
      have d_kv2 := rd_Ij eS15 (by decide) d_kv2
      obtain ⟨kv16, hkv16⟩ : ∃ z : Int32, z = (1 : Int32) := ⟨_, rfl⟩
      have d_kv16 := rd_Is eS15 hkv16
      have ea3 := rf_I eS15 ea3
      have g0 := gr_I eS15 g0
      have o_a3 := ob_I eS15 o_a3
      have o_v0 := ob_I eS15 o_v0
      intro S17 eS17
      have hIn : IV S17 := by rw [eS17]; exact iv11_sI hI o_v0 (by decide) (nu_free (by decide))
      have hI := hIn
      have f0 := fr_I eS17 g0 f0 o_v0 (by decide)
      have d_kv2 := rd_Ij eS17 (by decide) d_kv2
      have d_kv16 := rd_Ij eS17 (by decide) d_kv16
      obtain ⟨kv18, hkv18⟩ : ∃ z : Int32, z = (-1 : Int32) := ⟨_, rfl⟩
      have d_kv18 := rd_Is eS17 hkv18
      have ea3 := rf_I eS17 ea3
      have g0 := gr_I eS17 g0
      have o_a3 := ob_I eS17 o_a3
      have o_v0 := ob_I eS17 o_v0
      intro _
      exact hq _ _ hI g0 f0
    · refine ⟨a3, ea3, ?_⟩
      refine ⟨o_a3, ?_⟩
      intro x21 ex21
      have r_x21 : (0 : Int32) ≤ x21 ∧ x21 ≤ (4 : Int32) := by rw [ex21]; exact nu 20 rfl hI o_a3
      have d_x21 := ex21
      refine ⟨fun c22 => ?_, fun c22 => ?_⟩
      · intro _ _
        refine ⟨fun c24 => ?_, fun c24 => absurd (show ¬ (0 : Int32) = 0 from c24) (by decide)⟩
        refine u_X11_even_39 ?_
        refine ⟨o_v0, ?_⟩
        refine u_X11_refused ?_
        refine u_X11_refused_0 ?_
        refine ⟨o_v0, ?_⟩
        intro S25 eS25
        have hIn : IV S25 := by rw [eS25]; exact iv11_sI hI o_v0 (by decide) (nu_free (by decide))
        have hI := hIn
        have f0 := fr_I eS25 g0 f0 o_v0 (by decide)
        have d_kv2 := rd_Ij eS25 (by decide) d_kv2
        have d_x21 := rd_Ik eS25 o_v0 o_a3 (by decide) d_x21
        obtain ⟨kv26, hkv26⟩ : ∃ z : Int32, z = (1 : Int32) := ⟨_, rfl⟩
        have d_kv26 := rd_Is eS25 hkv26
        have ea3 := rf_I eS25 ea3
        have g0 := gr_I eS25 g0
        have o_a3 := ob_I eS25 o_a3
        have o_v0 := ob_I eS25 o_v0
        intro S27 eS27
        have hIn : IV S27 := by rw [eS27]; exact iv11_sI hI o_v0 (by decide) (nu_free (by decide))
        have hI := hIn
        have f0 := fr_I eS27 g0 f0 o_v0 (by decide)
        have d_kv2 := rd_Ij eS27 (by decide) d_kv2
        have d_x21 := rd_Ik eS27 o_v0 o_a3 (by decide) d_x21
        have d_kv26 := rd_Ij eS27 (by decide) d_kv26
        obtain ⟨kv28, hkv28⟩ : ∃ z : Int32, z = (-1 : Int32) := ⟨_, rfl⟩
        have d_kv28 := rd_Is eS27 hkv28
        have ea3 := rf_I eS27 ea3
        have g0 := gr_I eS27 g0
        have o_a3 := ob_I eS27 o_a3
        have o_v0 := ob_I eS27 o_v0
        intro _
        exact hq _ _ hI g0 f0
      · intro _ _
        refine ⟨fun c31 => absurd (show (1 : Int32) = 0 from c31) (by decide), fun c31 => ?_⟩
        refine u_X11_isRoad ?_
        refine u_X11_isRoad_0 ?_
        refine ⟨o_v0, ?_⟩
        refine ⟨fun e33 => (nomatch (e33.symm.trans ea3)), fun a32 ea32 => ?_⟩
        obtain rfl : a3 = a32 := Option.some.inj (ea3.symm.trans ea32)
        refine ⟨fun c34 => ?_, fun c34 => ?_⟩
        · intro _ _
          refine ⟨fun c36 => ?_, fun c36 => absurd (show ¬ (0 : Int32) = 0 from c36) (by decide)⟩
          refine u_X11_even_39 ?_
          refine ⟨o_v0, ?_⟩
          refine u_X11_refused ?_
          refine u_X11_refused_0 ?_
          refine ⟨o_v0, ?_⟩
          intro S37 eS37
          have hIn : IV S37 := by rw [eS37]; exact iv11_sI hI o_v0 (by decide) (nu_free (by decide))
          have hI := hIn
          have f0 := fr_I eS37 g0 f0 o_v0 (by decide)
          have d_kv2 := rd_Ij eS37 (by decide) d_kv2
          have d_x21 := rd_Ik eS37 o_v0 o_a3 (by decide) d_x21
          obtain ⟨kv38, hkv38⟩ : ∃ z : Int32, z = (1 : Int32) := ⟨_, rfl⟩
          have d_kv38 := rd_Is eS37 hkv38
          have ea3 := rf_I eS37 ea3
          have g0 := gr_I eS37 g0
          have o_a3 := ob_I eS37 o_a3
          have o_v0 := ob_I eS37 o_v0
          intro S39 eS39
          have hIn : IV S39 := by rw [eS39]; exact iv11_sI hI o_v0 (by decide) (nu_free (by decide))
          have hI := hIn
          have f0 := fr_I eS39 g0 f0 o_v0 (by decide)
          have d_kv2 := rd_Ij eS39 (by decide) d_kv2
          have d_x21 := rd_Ik eS39 o_v0 o_a3 (by decide) d_x21
          have d_kv38 := rd_Ij eS39 (by decide) d_kv38
          obtain ⟨kv40, hkv40⟩ : ∃ z : Int32, z = (-1 : Int32) := ⟨_, rfl⟩
          have d_kv40 := rd_Is eS39 hkv40
          have ea3 := rf_I eS39 ea3
          have g0 := gr_I eS39 g0
          have o_a3 := ob_I eS39 o_a3
          have o_v0 := ob_I eS39 o_v0
          intro _
          exact hq _ _ hI g0 f0
        · refine ⟨a3, ea3, ?_⟩
          refine ⟨o_a3, ?_⟩
          intro x43 ex43
          have r_x43 : (0 : Int32) ≤ x43 ∧ x43 ≤ (12 : Int32) := by rw [ex43]; exact nu 19 rfl hI o_a3
          have d_x43 := ex43
          refine ⟨fun c44 => ?_, fun c44 => ?_⟩
          · intro _ _
            refine ⟨fun c46 => ?_, fun c46 => absurd (show ¬ (0 : Int32) = 0 from c46) (by decide)⟩
            refine u_X11_even_39 ?_
            refine ⟨o_v0, ?_⟩
            refine u_X11_refused ?_
            refine u_X11_refused_0 ?_
            refine ⟨o_v0, ?_⟩
            intro S47 eS47
            have hIn : IV S47 := by rw [eS47]; exact iv11_sI hI o_v0 (by decide) (nu_free (by decide))
            have hI := hIn
            have f0 := fr_I eS47 g0 f0 o_v0 (by decide)
            have d_kv2 := rd_Ij eS47 (by decide) d_kv2
            have d_x21 := rd_Ik eS47 o_v0 o_a3 (by decide) d_x21
            have d_x43 := rd_Ik eS47 o_v0 o_a3 (by decide) d_x43
            obtain ⟨kv48, hkv48⟩ : ∃ z : Int32, z = (1 : Int32) := ⟨_, rfl⟩
            have d_kv48 := rd_Is eS47 hkv48
            have ea3 := rf_I eS47 ea3
            have g0 := gr_I eS47 g0
            have o_a3 := ob_I eS47 o_a3
            have o_v0 := ob_I eS47 o_v0
            intro S49 eS49
            have hIn : IV S49 := by rw [eS49]; exact iv11_sI hI o_v0 (by decide) (nu_free (by decide))
            have hI := hIn
            have f0 := fr_I eS49 g0 f0 o_v0 (by decide)
            have d_kv2 := rd_Ij eS49 (by decide) d_kv2
            have d_x21 := rd_Ik eS49 o_v0 o_a3 (by decide) d_x21
            have d_x43 := rd_Ik eS49 o_v0 o_a3 (by decide) d_x43
            have d_kv48 := rd_Ij eS49 (by decide) d_kv48
            obtain ⟨kv50, hkv50⟩ : ∃ z : Int32, z = (-1 : Int32) := ⟨_, rfl⟩
            have d_kv50 := rd_Is eS49 hkv50
            have ea3 := rf_I eS49 ea3
            have g0 := gr_I eS49 g0
            have o_a3 := ob_I eS49 o_a3
            have o_v0 := ob_I eS49 o_v0
            intro _
            exact hq _ _ hI g0 f0
          · intro _ _
            refine ⟨fun c53 => absurd (show (1 : Int32) = 0 from c53) (by decide), fun c53 => ?_⟩
            refine u_X11_in ?_
            refine u_X11_in_0 ?_
            refine ⟨fun c54 => ?_, fun c54 => ?_⟩
            · intro _ _
              refine ⟨fun c56 => ?_, fun c56 => absurd (show ¬ (0 : Int32) = 0 from c56) (by decide)⟩
              refine u_X11_even_39 ?_
              refine ⟨o_v0, ?_⟩
              refine u_X11_refused ?_
              refine u_X11_refused_0 ?_
              refine ⟨o_v0, ?_⟩
              intro S57 eS57
              have hIn : IV S57 := by rw [eS57]; exact iv11_sI hI o_v0 (by decide) (nu_free (by decide))
              have hI := hIn
              have f0 := fr_I eS57 g0 f0 o_v0 (by decide)
              have d_kv2 := rd_Ij eS57 (by decide) d_kv2
              have d_x21 := rd_Ik eS57 o_v0 o_a3 (by decide) d_x21
              have d_x43 := rd_Ik eS57 o_v0 o_a3 (by decide) d_x43
              obtain ⟨kv58, hkv58⟩ : ∃ z : Int32, z = (1 : Int32) := ⟨_, rfl⟩
              have d_kv58 := rd_Is eS57 hkv58
              have ea3 := rf_I eS57 ea3
              have g0 := gr_I eS57 g0
              have o_a3 := ob_I eS57 o_a3
              have o_v0 := ob_I eS57 o_v0
              intro S59 eS59
              have hIn : IV S59 := by rw [eS59]; exact iv11_sI hI o_v0 (by decide) (nu_free (by decide))
              have hI := hIn
              have f0 := fr_I eS59 g0 f0 o_v0 (by decide)
              have d_kv2 := rd_Ij eS59 (by decide) d_kv2
              have d_x21 := rd_Ik eS59 o_v0 o_a3 (by decide) d_x21
              have d_x43 := rd_Ik eS59 o_v0 o_a3 (by decide) d_x43
              have d_kv58 := rd_Ij eS59 (by decide) d_kv58
              obtain ⟨kv60, hkv60⟩ : ∃ z : Int32, z = (-1 : Int32) := ⟨_, rfl⟩
              have d_kv60 := rd_Is eS59 hkv60
              have ea3 := rf_I eS59 ea3
              have g0 := gr_I eS59 g0
              have o_a3 := ob_I eS59 o_a3
              have o_v0 := ob_I eS59 o_v0
              intro _
              exact hq _ _ hI g0 f0
            · refine ⟨fun c62 => ?_, fun c62 => ?_⟩
              · intro _ _
                refine ⟨fun c64 => ?_, fun c64 => absurd (show ¬ (0 : Int32) = 0 from c64) (by decide)⟩
                refine u_X11_even_39 ?_
                refine ⟨o_v0, ?_⟩
                refine u_X11_refused ?_
                refine u_X11_refused_0 ?_
                refine ⟨o_v0, ?_⟩
                intro S65 eS65
                have hIn : IV S65 := by rw [eS65]; exact iv11_sI hI o_v0 (by decide) (nu_free (by decide))
                have hI := hIn
                have f0 := fr_I eS65 g0 f0 o_v0 (by decide)
                have d_kv2 := rd_Ij eS65 (by decide) d_kv2
                have d_x21 := rd_Ik eS65 o_v0 o_a3 (by decide) d_x21
                have d_x43 := rd_Ik eS65 o_v0 o_a3 (by decide) d_x43
                obtain ⟨kv66, hkv66⟩ : ∃ z : Int32, z = (1 : Int32) := ⟨_, rfl⟩
                have d_kv66 := rd_Is eS65 hkv66
                have ea3 := rf_I eS65 ea3
                have g0 := gr_I eS65 g0
                have o_a3 := ob_I eS65 o_a3
                have o_v0 := ob_I eS65 o_v0
                intro S67 eS67
                have hIn : IV S67 := by rw [eS67]; exact iv11_sI hI o_v0 (by decide) (nu_free (by decide))
                have hI := hIn
                have f0 := fr_I eS67 g0 f0 o_v0 (by decide)
                have d_kv2 := rd_Ij eS67 (by decide) d_kv2
                have d_x21 := rd_Ik eS67 o_v0 o_a3 (by decide) d_x21
                have d_x43 := rd_Ik eS67 o_v0 o_a3 (by decide) d_x43
                have d_kv66 := rd_Ij eS67 (by decide) d_kv66
                obtain ⟨kv68, hkv68⟩ : ∃ z : Int32, z = (-1 : Int32) := ⟨_, rfl⟩
                have d_kv68 := rd_Is eS67 hkv68
                have ea3 := rf_I eS67 ea3
                have g0 := gr_I eS67 g0
                have o_a3 := ob_I eS67 o_a3
                have o_v0 := ob_I eS67 o_v0
                intro _
                exact hq _ _ hI g0 f0
              · intro _ _
                refine ⟨fun c71 => absurd (show (1 : Int32) = 0 from c71) (by decide), fun c71 => ?_⟩
                refine u_X11_isHour ?_
                refine u_X11_isHour_0 ?_
                refine ⟨o_v0, ?_⟩
                refine ⟨fun e73 => (nomatch (e73.symm.trans ea3)), fun a72 ea72 => ?_⟩
                obtain rfl : a3 = a72 := Option.some.inj (ea3.symm.trans ea72)
                refine ⟨fun c74 => ?_, fun c74 => ?_⟩
                · intro _ _
                  refine ⟨fun c76 => absurd (show ¬ (0 : Int32) = 0 from c76) (by decide), fun c76 => ?_⟩
                  refine u_X11_even_39 ?_
                  refine ⟨o_v0, ?_⟩
                  refine u_X11_refused ?_
                  refine u_X11_refused_0 ?_
                  refine ⟨o_v0, ?_⟩
                  intro S77 eS77
                  have hIn : IV S77 := by rw [eS77]; exact iv11_sI hI o_v0 (by decide) (nu_free (by decide))
                  have hI := hIn
                  have f0 := fr_I eS77 g0 f0 o_v0 (by decide)
                  have d_kv2 := rd_Ij eS77 (by decide) d_kv2
                  have d_x21 := rd_Ik eS77 o_v0 o_a3 (by decide) d_x21
                  have d_x43 := rd_Ik eS77 o_v0 o_a3 (by decide) d_x43
                  obtain ⟨kv78, hkv78⟩ : ∃ z : Int32, z = (1 : Int32) := ⟨_, rfl⟩
                  have d_kv78 := rd_Is eS77 hkv78
                  have ea3 := rf_I eS77 ea3
                  have g0 := gr_I eS77 g0
                  have o_a3 := ob_I eS77 o_a3
                  have o_v0 := ob_I eS77 o_v0
                  intro S79 eS79
                  have hIn : IV S79 := by rw [eS79]; exact iv11_sI hI o_v0 (by decide) (nu_free (by decide))
                  have hI := hIn
                  have f0 := fr_I eS79 g0 f0 o_v0 (by decide)
                  have d_kv2 := rd_Ij eS79 (by decide) d_kv2
                  have d_x21 := rd_Ik eS79 o_v0 o_a3 (by decide) d_x21
                  have d_x43 := rd_Ik eS79 o_v0 o_a3 (by decide) d_x43
                  have d_kv78 := rd_Ij eS79 (by decide) d_kv78
                  obtain ⟨kv80, hkv80⟩ : ∃ z : Int32, z = (-1 : Int32) := ⟨_, rfl⟩
                  have d_kv80 := rd_Is eS79 hkv80
                  have ea3 := rf_I eS79 ea3
                  have g0 := gr_I eS79 g0
                  have o_a3 := ob_I eS79 o_a3
                  have o_v0 := ob_I eS79 o_v0
                  intro _
                  exact hq _ _ hI g0 f0
                · refine ⟨a3, ea3, ?_⟩
                  refine ⟨o_a3, ?_⟩
                  intro x83 ex83
                  have r_x83 : (0 : Int32) ≤ x83 ∧ x83 ≤ (6 : Int32) := by rw [ex83]; exact nu 17 rfl hI o_a3
                  have d_x83 := ex83
                  refine ⟨fun c84 => ?_, fun c84 => ?_⟩
                  · intro _ _
                    refine ⟨fun c86 => absurd (show ¬ (0 : Int32) = 0 from c86) (by decide), fun c86 => ?_⟩
                    refine u_X11_even_39 ?_
                    refine ⟨o_v0, ?_⟩
                    refine u_X11_refused ?_
                    refine u_X11_refused_0 ?_
                    refine ⟨o_v0, ?_⟩
                    intro S87 eS87
                    have hIn : IV S87 := by rw [eS87]; exact iv11_sI hI o_v0 (by decide) (nu_free (by decide))
                    have hI := hIn
                    have f0 := fr_I eS87 g0 f0 o_v0 (by decide)
                    have d_kv2 := rd_Ij eS87 (by decide) d_kv2
                    have d_x21 := rd_Ik eS87 o_v0 o_a3 (by decide) d_x21
                    have d_x43 := rd_Ik eS87 o_v0 o_a3 (by decide) d_x43
                    have d_x83 := rd_Ik eS87 o_v0 o_a3 (by decide) d_x83
                    obtain ⟨kv88, hkv88⟩ : ∃ z : Int32, z = (1 : Int32) := ⟨_, rfl⟩
                    have d_kv88 := rd_Is eS87 hkv88
                    have ea3 := rf_I eS87 ea3
                    have g0 := gr_I eS87 g0
                    have o_a3 := ob_I eS87 o_a3
                    have o_v0 := ob_I eS87 o_v0
                    intro S89 eS89
                    have hIn : IV S89 := by rw [eS89]; exact iv11_sI hI o_v0 (by decide) (nu_free (by decide))
                    have hI := hIn
                    have f0 := fr_I eS89 g0 f0 o_v0 (by decide)
                    have d_kv2 := rd_Ij eS89 (by decide) d_kv2
                    have d_x21 := rd_Ik eS89 o_v0 o_a3 (by decide) d_x21
                    have d_x43 := rd_Ik eS89 o_v0 o_a3 (by decide) d_x43
                    have d_x83 := rd_Ik eS89 o_v0 o_a3 (by decide) d_x83
                    have d_kv88 := rd_Ij eS89 (by decide) d_kv88
                    obtain ⟨kv90, hkv90⟩ : ∃ z : Int32, z = (-1 : Int32) := ⟨_, rfl⟩
                    have d_kv90 := rd_Is eS89 hkv90
                    have ea3 := rf_I eS89 ea3
                    have g0 := gr_I eS89 g0
                    have o_a3 := ob_I eS89 o_a3
                    have o_v0 := ob_I eS89 o_v0
                    intro _
                    exact hq _ _ hI g0 f0
                  · intro _ _
                    refine ⟨fun c93 => ?_, fun c93 => absurd (show (1 : Int32) = 0 from c93) (by decide)⟩
                    refine ⟨a3, ea3, ?_⟩
                    refine ⟨o_a3, ?_⟩
                    obtain ⟨a95, ea95, o_a95, l_a95⟩ := shl 46 rfl hI o_a3
                    refine ⟨a95, ea95, ?_⟩
                    refine ⟨o_a95, ?_⟩
                    refine ⟨(vin l_a95 (m := 4) (by decide) (qm664 c12 r_x21 c22 c34 r_x43 c44 c54 c62 c74 r_x83 c84)), ?_⟩
                    intro x96 ex96
                    have gy_x96 : 0 ≤ v1 ∧ v1 < fI S1 a3 4 := by rw [← d_x21]; exact (qm665 c12 r_x21 c22 c34 r_x43 c44 c54 c62 c74 r_x83 c84)
                    have g_x96 : (1 : Int32) ≤ x96 ∧ x96 ≤ (9 : Int32) := by rw [ex96]; exact wg_at (ml_wg hI o_v0 ea3) 3 rfl gy_x96 ea95
                    refine i_X11_even_59 (fun (y0 : Nat) (y1 : Int32) (y2 : Int32) (y3 : Int32) (y4 : Int32) (y5 : Int32) (y6 : Int32) (Z : HS) => ((2147483647 : Int32).toInt - y6.toInt).toNat) (fun (y0 : Nat) (y1 : Int32) (y2 : Int32) (y3 : Int32) (y4 : Int32) (y5 : Int32) (y6 : Int32) (Z : HS) => (S1 = Z) ∧ (v0 = y0) ∧ (v1 = y1) ∧ (v2 = y2) ∧ (v3 = y3) ∧ (v4 = y4) ∧ (1 ≤ y6)) ?_ _ _ _ _ _ _ _ _ ⟨rfl, rfl, rfl, rfl, rfl, rfl, (qm666 c12 r_x21 c22 c34 r_x43 c44 c54 c62 c74 r_x83 c84 g_x96)⟩
                    intro w101 w103 w105 w107 w109 w111 w112 S98 X113 ⟨eS98, q102, q104, q106, q108, q110, i1u97⟩ ih114
                    subst q102
                    subst q104
                    subst q106
                    subst q108
                    subst q110
                    subst eS98
                    refine u_X11_even_59 ?_
                    refine ⟨o_v0, ?_⟩
                    refine ⟨a3, ea3, ?_⟩
                    refine ⟨o_a3, ?_⟩
                    obtain ⟨a116, ea116, o_a116, l_a116⟩ := shl 47 rfl hI o_a3
                    refine ⟨a116, ea116, ?_⟩
                    refine ⟨o_a116, ?_⟩
                    refine ⟨(vin l_a116 (m := 4) (by decide) (qm664 c12 r_x21 c22 c34 r_x43 c44 c54 c62 c74 r_x83 c84)), ?_⟩
                    intro x117 ex117
                    have gy_x117 : 0 ≤ v1 ∧ v1 < fI S1 a3 4 := by rw [← d_x21]; exact (qm665 c12 r_x21 c22 c34 r_x43 c44 c54 c62 c74 r_x83 c84)
                    have g_x117 : (0 : Int32) ≤ x117 ∧ x117 ≤ (9 : Int32) := by rw [ex117]; exact wg_at (ml_wg hI o_v0 ea3) 4 rfl gy_x117 ea116
                    refine ⟨fun c118 => ?_, fun c118 => ?_⟩
                    · refine ⟨fun c119 => ?_, fun c119 => ?_⟩
                      · refine u_X11_even_130 ?_
                        refine ⟨o_v0, ?_⟩
                        refine u_X11_good ?_
                        refine u_X11_good_0 ?_
                        refine ⟨o_v0, ?_⟩
                        intro S120 eS120
                        have hIn : IV S120 := by rw [eS120]; exact iv11_sI hI o_v0 (by decide) (nu_free (by decide))
                        have hI := hIn
                        have f0 := fr_I eS120 g0 f0 o_v0 (by decide)
                        have d_kv2 := rd_Ij eS120 (by decide) d_kv2
                        have d_x21 := rd_Ik eS120 o_v0 o_a3 (by decide) d_x21
                        have d_x43 := rd_Ik eS120 o_v0 o_a3 (by decide) d_x43
                        have d_x83 := rd_Ik eS120 o_v0 o_a3 (by decide) d_x83
                        obtain ⟨kv121, hkv121⟩ : ∃ z : Int32, z = (0 : Int32) := ⟨_, rfl⟩
                        have d_kv121 := rd_Is eS120 hkv121
                        have ea3 := rf_I eS120 ea3
                        have ea95 := rf_I eS120 ea95
                        have ea116 := rf_I eS120 ea116
                        have l_a116 := ln_I eS120 l_a116
                        have l_a95 := ln_I eS120 l_a95
                        have g0 := gr_I eS120 g0
                        have o_a116 := ob_I eS120 o_a116
                        have o_a3 := ob_I eS120 o_a3
                        have o_a95 := ob_I eS120 o_a95
                        have o_v0 := ob_I eS120 o_v0
                        intro S122 eS122
                        have hIn : IV S122 := by rw [eS122]; exact iv11_sI hI o_v0 (by decide) (nu_free (by decide))
                        have hI := hIn
                        have f0 := fr_I eS122 g0 f0 o_v0 (by decide)
                        have d_kv2 := rd_Ij eS122 (by decide) d_kv2
                        have d_x21 := rd_Ik eS122 o_v0 o_a3 (by decide) d_x21
                        have d_x43 := rd_Ik eS122 o_v0 o_a3 (by decide) d_x43
                        have d_x83 := rd_Ik eS122 o_v0 o_a3 (by decide) d_x83
                        have d_kv121 := rd_Ij eS122 (by decide) d_kv121
                        obtain ⟨kv123, hkv123⟩ : ∃ z : Int32, z = (-1 : Int32) := ⟨_, rfl⟩
                        have d_kv123 := rd_Is eS122 hkv123
                        have ea3 := rf_I eS122 ea3
                        have ea95 := rf_I eS122 ea95
                        have ea116 := rf_I eS122 ea116
                        have l_a116 := ln_I eS122 l_a116
                        have l_a95 := ln_I eS122 l_a95
                        have g0 := gr_I eS122 g0
                        have o_a116 := ob_I eS122 o_a116
                        have o_a3 := ob_I eS122 o_a3
                        have o_a95 := ob_I eS122 o_a95
                        have o_v0 := ob_I eS122 o_v0
                        intro _
                        exact hq _ _ hI g0 f0
                      · refine u_X11_even_130 ?_
                        refine ⟨o_v0, ?_⟩
                        refine u_X11_good ?_
                        refine u_X11_good_0 ?_
                        refine ⟨o_v0, ?_⟩
                        intro S125 eS125
                        have hIn : IV S125 := by rw [eS125]; exact iv11_sI hI o_v0 (by decide) (nu_free (by decide))
                        have hI := hIn
                        have f0 := fr_I eS125 g0 f0 o_v0 (by decide)
                        have d_kv2 := rd_Ij eS125 (by decide) d_kv2
                        have d_x21 := rd_Ik eS125 o_v0 o_a3 (by decide) d_x21
                        have d_x43 := rd_Ik eS125 o_v0 o_a3 (by decide) d_x43
                        have d_x83 := rd_Ik eS125 o_v0 o_a3 (by decide) d_x83
                        obtain ⟨kv126, hkv126⟩ : ∃ z : Int32, z = (0 : Int32) := ⟨_, rfl⟩
                        have d_kv126 := rd_Is eS125 hkv126
                        have ea3 := rf_I eS125 ea3
                        have ea95 := rf_I eS125 ea95
                        have ea116 := rf_I eS125 ea116
                        have l_a116 := ln_I eS125 l_a116
                        have l_a95 := ln_I eS125 l_a95
                        have g0 := gr_I eS125 g0
                        have o_a116 := ob_I eS125 o_a116
                        have o_a3 := ob_I eS125 o_a3
                        have o_a95 := ob_I eS125 o_a95
                        have o_v0 := ob_I eS125 o_v0
                        intro S127 eS127
                        have hIn : IV S127 := by rw [eS127]; exact iv11_sI hI o_v0 (by decide) (nu_free (by decide))
                        have hI := hIn
                        have f0 := fr_I eS127 g0 f0 o_v0 (by decide)
                        have d_kv2 := rd_Ij eS127 (by decide) d_kv2
                        have d_x21 := rd_Ik eS127 o_v0 o_a3 (by decide) d_x21
                        have d_x43 := rd_Ik eS127 o_v0 o_a3 (by decide) d_x43
                        have d_x83 := rd_Ik eS127 o_v0 o_a3 (by decide) d_x83
                        have d_kv126 := rd_Ij eS127 (by decide) d_kv126
                        obtain ⟨kv128, hkv128⟩ : ∃ z : Int32, z = (-1 : Int32) := ⟨_, rfl⟩
                        have d_kv128 := rd_Is eS127 hkv128
                        have ea3 := rf_I eS127 ea3
                        have ea95 := rf_I eS127 ea95
                        have ea116 := rf_I eS127 ea116
                        have l_a116 := ln_I eS127 l_a116
                        have l_a95 := ln_I eS127 l_a95
                        have g0 := gr_I eS127 g0
                        have o_a116 := ob_I eS127 o_a116
                        have o_a3 := ob_I eS127 o_a3
                        have o_a95 := ob_I eS127 o_a95
                        have o_v0 := ob_I eS127 o_v0
                        intro _
                        exact hq _ _ hI g0 f0
                    · refine ⟨fun c130 => ?_, fun c130 => ?_⟩
                      · refine u_X11_even_110 ?_
                        refine u_X11_even_111 ?_
                        intro x131 ex131
                        exact ih114 _ _ _ _ _ _ _ _ ⟨rfl, rfl, rfl, rfl, rfl, rfl, (qm667 c12 r_x21 c22 c34 r_x43 c44 c54 c62 c74 r_x83 c84 i1u97 g_x117 c118 c130 ex131)⟩ (mu_up (qm668 c12 r_x21 c22 c34 r_x43 c44 c54 c62 c74 r_x83 c84 i1u97 g_x117 c118 c130 ex131) (qm669 c12 r_x21 c22 c34 r_x43 c44 c54 c62 c74 r_x83 c84 i1u97 g_x117 c118 c130 ex131))
                      · refine m_X11_wetOf hI o_v0 (qm670 c12 r_x21 c22 c34 r_x43 c44 c54 c62 c74 r_x83 c84 i1u97 g_x117 c118 c130) (qm671 c12 r_x21 c22 c34 r_x43 c44 c54 c62 c74 r_x83 c84 i1u97 g_x117 c118 c130) (qm672 c12 r_x21 c22 c34 r_x43 c44 c54 c62 c74 r_x83 c84 i1u97 g_x117 c118 c130) (qm673 c12 r_x21 c22 c34 r_x43 c44 c54 c62 c74 r_x83 c84 i1u97 g_x117 c118 c130) ⟨_, ea3⟩ (fun x132 S133 hI2 g134 p_x132 => ?_)
                        subst p_x132
                        intro _
                        refine m_X11_wetOf hI o_v0 (qm670 c12 r_x21 c22 c34 r_x43 c44 c54 c62 c74 r_x83 c84 i1u97 g_x117 c118 c130) (qm671 c12 r_x21 c22 c34 r_x43 c44 c54 c62 c74 r_x83 c84 i1u97 g_x117 c118 c130) (qm672 c12 r_x21 c22 c34 r_x43 c44 c54 c62 c74 r_x83 c84 i1u97 g_x117 c118 c130) (qm674 c12 r_x21 c22 c34 r_x43 c44 c54 c62 c74 r_x83 c84 i1u97 g_x117 c118 c130) ⟨_, ea3⟩ (fun x136 S137 hI2 g138 p_x136 => ?_)
                        subst p_x136
                        intro _
                        refine ⟨fun c140 => ?_, fun c140 => ?_⟩
                        · refine u_X11_even_110 ?_
                          refine u_X11_even_111 ?_
                          intro x141 ex141
                          exact ih114 _ _ _ _ _ _ _ _ ⟨rfl, rfl, rfl, rfl, rfl, rfl, (qm675 c12 r_x21 c22 c34 r_x43 c44 c54 c62 c74 r_x83 c84 i1u97 g_x117 c118 c130 c140 ex141)⟩ (mu_up (qm676 c12 r_x21 c22 c34 r_x43 c44 c54 c62 c74 r_x83 c84 i1u97 g_x117 c118 c130 c140 ex141) (qm677 c12 r_x21 c22 c34 r_x43 c44 c54 c62 c74 r_x83 c84 i1u97 g_x117 c118 c130 c140 ex141))
                        · refine u_X11_even_111 ?_
                          intro x142 ex142
                          exact ih114 _ _ _ _ _ _ _ _ ⟨rfl, rfl, rfl, rfl, rfl, rfl, (qm678 c12 r_x21 c22 c34 r_x43 c44 c54 c62 c74 r_x83 c84 i1u97 g_x117 c118 c130 c140 ex142)⟩ (mu_up (qm679 c12 r_x21 c22 c34 r_x43 c44 c54 c62 c74 r_x83 c84 i1u97 g_x117 c118 c130 c140 ex142) (qm680 c12 r_x21 c22 c34 r_x43 c44 c54 c62 c74 r_x83 c84 i1u97 g_x117 c118 c130 c140 ex142))
end
section
set_option maxHeartbeats 4000000 in
set_option maxRecDepth 20000 in
theorem m_X11_told {v0 : Nat} {v1 : Int64} {v3 : Int64} {v5 : Int32} {Q : Int64 → HS → Prop} {S : HS} (hI : IV S) (o_v0 : ob S v0 11)   (h3 : ¬ v3 = 0)  (hq : ∀ (r : Int64) (T : HS), IV T → Gr S T → FRI [(11, 1), (11, 2)] [] S T → Q r T) : P_X11_told v0 v1 v3 v5 Q S := by
  have g0 := gr_rf S
  have f0 := fri_rf [(11, 1), (11, 2)] [] S
  refine u_X11_told ?_
  refine u_X11_told_0 ?_
  refine ⟨o_v0, ?_⟩
  refine u_X11_good ?_
  refine u_X11_good_0 ?_
  refine ⟨o_v0, ?_⟩
  intro S1 eS1
  have hIn : IV S1 := by rw [eS1]; exact iv11_sI hI o_v0 (by decide) (nu_free (by decide))
  have hI := hIn
  have f0 := fr_I eS1 g0 f0 o_v0 (by decide)
  obtain ⟨kv2, hkv2⟩ : ∃ z : Int32, z = (0 : Int32) := ⟨_, rfl⟩
  have d_kv2 := rd_Is eS1 hkv2
  have g0 := gr_I eS1 g0
  have o_v0 := ob_I eS1 o_v0
  intro S3 eS3
  have hIn : IV S3 := by rw [eS3]; exact iv11_sI hI o_v0 (by decide) (nu_free (by decide))
  have hI := hIn
  have f0 := fr_I eS3 g0 f0 o_v0 (by decide)
  have d_kv2 := rd_Ij eS3 (by decide) d_kv2
  obtain ⟨kv4, hkv4⟩ : ∃ z : Int32, z = (-1 : Int32) := ⟨_, rfl⟩
  have d_kv4 := rd_Is eS3 hkv4
  have g0 := gr_I eS3 g0
  have o_v0 := ob_I eS3 o_v0
  intro _
  refine i_X11_told_12 (fun (y1 : Int64) (y3 : Int64) (y5 : Int32) (y6 : Int64) (y8 : Int64) (Z : HS) => y8.toInt.natAbs) (fun (y1 : Int64) (y3 : Int64) (y5 : Int32) (y6 : Int64) (y8 : Int64) (Z : HS) => (S3 = Z) ∧ (v1 = y1) ∧ (v3 = y3) ∧ (v5 = y5) ∧ (¬ y6 = 0 ∨ ¬ y8 = 0)) ?_ _ _ _ _ _ _ ⟨rfl, rfl, rfl, rfl, (qm542 h3)⟩
  intro w10 w12 w14 w16 w17 S7 X18 ⟨eS7, q11, q13, q15, i1u6⟩ ih19
  subst q11
  subst q13
  subst q15
  subst eS7
  refine u_X11_told_12 ?_
  refine ⟨fun c20 => ?_, fun c20 => ?_⟩
  · have z_c20 := lc_eq c20
    refine ⟨fun c21 => ?_, fun c21 => ?_⟩
    · refine ⟨(qm543 i1u6 c20 z_c20 c21), ?_⟩
      intro x22 ex22
      exact hq _ _ hI g0 f0
    · refine ⟨(qm544 i1u6 c20 z_c20 c21), ?_⟩
      intro x23 ex23
      exact hq _ _ hI g0 f0
  · have z_c20 := lc_ne c20
    refine ⟨(qm545 i1u6 c20 z_c20), ?_⟩
    intro x24 ex24
    exact ih19 _ _ _ _ _ _ ⟨rfl, rfl, rfl, rfl, (qm546 i1u6 c20 z_c20)⟩ (by rw [ex24]; exact rem_abs z_c20)
set_option maxHeartbeats 4000000 in
set_option maxRecDepth 20000 in
theorem m_X11_face {v0 : Nat} {v1 : Int32} {v2 : Int32} {v3 : Int32} {v4 : Int32} {v5 : Int32} {v6 : Int32} {v7 : Int32} {Q : Int64 → HS → Prop} {S : HS} (hI : IV S) (o_v0 : ob S v0 11)     (hq : ∀ (r : Int64) (T : HS), IV T → Gr S T → FRI [(11, 0), (11, 1), (11, 2)] [] S T → Q r T) : P_X11_face v0 v1 v2 v3 v4 v5 v6 v7 Q S := by
  have g0 := gr_rf S
  have f0 := fri_rf [(11, 0), (11, 1), (11, 2)] [] S
  refine u_X11_face ?_
  refine u_X11_face_0 ?_
  refine ⟨o_v0, ?_⟩
  intro S1 eS1
  have hIn : IV S1 := by rw [eS1]; exact iv11_sI hI o_v0 (by decide) (nu_free (by decide))
  have hI := hIn
  have f0 := fr_I eS1 g0 f0 o_v0 (by decide)
  obtain ⟨kv2, hkv2⟩ : ∃ z : Int32, z = (0 : Int32) := ⟨_, rfl⟩
  have d_kv2 := rd_Is eS1 hkv2
  have g0 := gr_I eS1 g0
  have o_v0 := ob_I eS1 o_v0
  refine u_X11_in ?_
  refine u_X11_in_0 ?_
  refine ⟨fun c3 => ?_, fun c3 => ?_⟩
  · intro _ _
    refine ⟨fun c5 => ?_, fun c5 => absurd (show ¬ (0 : Int32) = 0 from c5) (by decide)⟩
    refine u_X11_face_30 ?_
    refine ⟨fun c6 => absurd (show (1 : Int32) ≤ 0 from c6) (by decide), fun c6 => ?_⟩
    refine ⟨o_v0, ?_⟩
    refine u_X11_refused ?_
    refine u_X11_refused_0 ?_
    refine ⟨o_v0, ?_⟩
    intro S7 eS7
    have hIn : IV S7 := by rw [eS7]; exact iv11_sI hI o_v0 (by decide) (nu_free (by decide))
    have hI := hIn
    have f0 := fr_I eS7 g0 f0 o_v0 (by decide)
    have d_kv2 := rd_Ij eS7 (by decide) d_kv2
    obtain ⟨kv8, hkv8⟩ : ∃ z : Int32, z = (1 : Int32) := ⟨_, rfl⟩
    have d_kv8 := rd_Is eS7 hkv8
    have g0 := gr_I eS7 g0
    have o_v0 := ob_I eS7 o_v0
    intro S9 eS9
    have hIn : IV S9 := by rw [eS9]; exact iv11_sI hI o_v0 (by decide) (nu_free (by decide))
    have hI := hIn
    have f0 := fr_I eS9 g0 f0 o_v0 (by decide)
    have d_kv2 := rd_Ij eS9 (by decide) d_kv2
    have d_kv8 := rd_Ij eS9 (by decide) d_kv8
    obtain ⟨kv10, hkv10⟩ : ∃ z : Int32, z = (-1 : Int32) := ⟨_, rfl⟩
    have d_kv10 := rd_Is eS9 hkv10
    have g0 := gr_I eS9 g0
    have o_v0 := ob_I eS9 o_v0
    intro _
    exact hq _ _ hI g0 f0
  · refine ⟨fun c12 => ?_, fun c12 => ?_⟩
    · intro _ _
      refine ⟨fun c14 => ?_, fun c14 => absurd (show ¬ (0 : Int32) = 0 from c14) (by decide)⟩
      refine u_X11_face_30 ?_
      refine ⟨fun c15 => absurd (show (1 : Int32) ≤ 0 from c15) (by decide), fun c15 => ?_⟩
      refine ⟨o_v0, ?_⟩
      refine u_X11_refused ?_
      refine u_X11_refused_0 ?_
      refine ⟨o_v0, ?_⟩
      intro S16 eS16
      have hIn : IV S16 := by rw [eS16]; exact iv11_sI hI o_v0 (by decide) (nu_free (by decide))
      have hI := hIn
      have f0 := fr_I eS16 g0 f0 o_v0 (by decide)
      have d_kv2 := rd_Ij eS16 (by decide) d_kv2
      obtain ⟨kv17, hkv17⟩ : ∃ z : Int32, z = (1 : Int32) := ⟨_, rfl⟩
      have d_kv17 := rd_Is eS16 hkv17
      have g0 := gr_I eS16 g0
      have o_v0 := ob_I eS16 o_v0
      intro S18 eS18
      have hIn : IV S18 := by rw [eS18]; exact iv11_sI hI o_v0 (by decide) (nu_free (by decide))
      have hI := hIn
      have f0 := fr_I eS18 g0 f0 o_v0 (by decide)
      have d_kv2 := rd_Ij eS18 (by decide) d_kv2
      have d_kv17 := rd_Ij eS18 (by decide) d_kv17
      obtain ⟨kv19, hkv19⟩ : ∃ z : Int32, z = (-1 : Int32) := ⟨_, rfl⟩
      have d_kv19 := rd_Is eS18 hkv19
      have g0 := gr_I eS18 g0
      have o_v0 := ob_I eS18 o_v0
      intro _
      exact hq _ _ hI g0 f0
    · intro _ _
      refine ⟨fun c22 => absurd (show (1 : Int32) = 0 from c22) (by decide), fun c22 => ?_⟩
      refine u_X11_refuses ?_
      refine u_X11_refuses_0 ?_
      refine ⟨o_v0, ?_⟩
      refine u_X11_isWalker ?_
      refine u_X11_isWalker_0 ?_
      refine ⟨o_v0, ?_⟩
      refine ⟨fun e24 => ?_, fun a23 ea23 => ?_⟩
      · intro _ _
        refine ⟨fun c26 => ?_, fun c26 => absurd (show ¬ (0 : Int32) = 0 from c26) (by decide)⟩
        intro _
        refine u_X11_face_30 ?_
        refine ⟨fun c28 => absurd (show (1 : Int32) ≤ 0 from c28) (by decide), fun c28 => ?_⟩
        refine ⟨o_v0, ?_⟩
        refine u_X11_refused ?_
        refine u_X11_refused_0 ?_
        refine ⟨o_v0, ?_⟩
        intro S29 eS29
        have hIn : IV S29 := by rw [eS29]; exact iv11_sI hI o_v0 (by decide) (nu_free (by decide))
        have hI := hIn
        have f0 := fr_I eS29 g0 f0 o_v0 (by decide)
        have d_kv2 := rd_Ij eS29 (by decide) d_kv2
        obtain ⟨kv30, hkv30⟩ : ∃ z : Int32, z = (1 : Int32) := ⟨_, rfl⟩
        have d_kv30 := rd_Is eS29 hkv30
        have g0 := gr_I eS29 g0
        have o_v0 := ob_I eS29 o_v0
        intro S31 eS31
        have hIn : IV S31 := by rw [eS31]; exact iv11_sI hI o_v0 (by decide) (nu_free (by decide))
        have hI := hIn
        have f0 := fr_I eS31 g0 f0 o_v0 (by decide)
        have d_kv2 := rd_Ij eS31 (by decide) d_kv2
        have d_kv30 := rd_Ij eS31 (by decide) d_kv30
        obtain ⟨kv32, hkv32⟩ : ∃ z : Int32, z = (-1 : Int32) := ⟨_, rfl⟩
        have d_kv32 := rd_Is eS31 hkv32
        have g0 := gr_I eS31 g0
        have o_v0 := ob_I eS31 o_v0
        intro _
        exact hq _ _ hI g0 f0
      · have o_a23 := ml_ob hI o_v0 ea23
        refine ⟨fun c34 => ?_, fun c34 => ?_⟩
        · intro _ _
          refine ⟨fun c36 => ?_, fun c36 => absurd (show ¬ (0 : Int32) = 0 from c36) (by decide)⟩
          intro _
          refine u_X11_face_30 ?_
          refine ⟨fun c38 => absurd (show (1 : Int32) ≤ 0 from c38) (by decide), fun c38 => ?_⟩
          refine ⟨o_v0, ?_⟩
          refine u_X11_refused ?_
          refine u_X11_refused_0 ?_
          refine ⟨o_v0, ?_⟩
          intro S39 eS39
          have hIn : IV S39 := by rw [eS39]; exact iv11_sI hI o_v0 (by decide) (nu_free (by decide))
          have hI := hIn
          have f0 := fr_I eS39 g0 f0 o_v0 (by decide)
          have d_kv2 := rd_Ij eS39 (by decide) d_kv2
          obtain ⟨kv40, hkv40⟩ : ∃ z : Int32, z = (1 : Int32) := ⟨_, rfl⟩
          have d_kv40 := rd_Is eS39 hkv40
          have ea23 := rf_I eS39 ea23
          have g0 := gr_I eS39 g0
          have o_a23 := ob_I eS39 o_a23
          have o_v0 := ob_I eS39 o_v0
          intro S41 eS41
          have hIn : IV S41 := by rw [eS41]; exact iv11_sI hI o_v0 (by decide) (nu_free (by decide))
          have hI := hIn
          have f0 := fr_I eS41 g0 f0 o_v0 (by decide)
          have d_kv2 := rd_Ij eS41 (by decide) d_kv2
          have d_kv40 := rd_Ij eS41 (by decide) d_kv40
          obtain ⟨kv42, hkv42⟩ : ∃ z : Int32, z = (-1 : Int32) := ⟨_, rfl⟩
          have d_kv42 := rd_Is eS41 hkv42
          have ea23 := rf_I eS41 ea23
          have g0 := gr_I eS41 g0
          have o_a23 := ob_I eS41 o_a23
          have o_v0 := ob_I eS41 o_v0
          intro _
          exact hq _ _ hI g0 f0
        · refine ⟨a23, ea23, ?_⟩
          refine ⟨o_a23, ?_⟩
          intro x45 ex45
          have r_x45 : (0 : Int32) ≤ x45 ∧ x45 ≤ (4 : Int32) := by rw [ex45]; exact nu 20 rfl hI o_a23
          have d_x45 := ex45
          refine ⟨fun c46 => ?_, fun c46 => ?_⟩
          · intro _ _
            refine ⟨fun c48 => ?_, fun c48 => absurd (show ¬ (0 : Int32) = 0 from c48) (by decide)⟩
            intro _
            refine u_X11_face_30 ?_
            refine ⟨fun c50 => absurd (show (1 : Int32) ≤ 0 from c50) (by decide), fun c50 => ?_⟩
            refine ⟨o_v0, ?_⟩
            refine u_X11_refused ?_
            refine u_X11_refused_0 ?_
            refine ⟨o_v0, ?_⟩
            intro S51 eS51
            have hIn : IV S51 := by rw [eS51]; exact iv11_sI hI o_v0 (by decide) (nu_free (by decide))
            have hI := hIn
            have f0 := fr_I eS51 g0 f0 o_v0 (by decide)
            have d_kv2 := rd_Ij eS51 (by decide) d_kv2
            have d_x45 := rd_Ik eS51 o_v0 o_a23 (by decide) d_x45
            obtain ⟨kv52, hkv52⟩ : ∃ z : Int32, z = (1 : Int32) := ⟨_, rfl⟩
            have d_kv52 := rd_Is eS51 hkv52
            have ea23 := rf_I eS51 ea23
            have g0 := gr_I eS51 g0
            have o_a23 := ob_I eS51 o_a23
            have o_v0 := ob_I eS51 o_v0
            intro S53 eS53
            have hIn : IV S53 := by rw [eS53]; exact iv11_sI hI o_v0 (by decide) (nu_free (by decide))
            have hI := hIn
            have f0 := fr_I eS53 g0 f0 o_v0 (by decide)
            have d_kv2 := rd_Ij eS53 (by decide) d_kv2
            have d_x45 := rd_Ik eS53 o_v0 o_a23 (by decide) d_x45
            have d_kv52 := rd_Ij eS53 (by decide) d_kv52
            obtain ⟨kv54, hkv54⟩ : ∃ z : Int32, z = (-1 : Int32) := ⟨_, rfl⟩
            have d_kv54 := rd_Is eS53 hkv54
            have ea23 := rf_I eS53 ea23
            have g0 := gr_I eS53 g0
            have o_a23 := ob_I eS53 o_a23
            have o_v0 := ob_I eS53 o_v0
            intro _
            exact hq _ _ hI g0 f0
          · intro _ _
            refine ⟨fun c57 => absurd (show (1 : Int32) = 0 from c57) (by decide), fun c57 => ?_⟩
            refine u_X11_isRoad ?_
            refine u_X11_isRoad_0 ?_
            refine ⟨o_v0, ?_⟩
            refine ⟨fun e59 => (nomatch (e59.symm.trans ea23)), fun a58 ea58 => ?_⟩
            obtain rfl : a23 = a58 := Option.some.inj (ea23.symm.trans ea58)
            refine ⟨fun c60 => ?_, fun c60 => ?_⟩
            · intro _ _
              refine ⟨fun c62 => ?_, fun c62 => absurd (show ¬ (0 : Int32) = 0 from c62) (by decide)⟩
              intro _
              refine u_X11_face_30 ?_
              refine ⟨fun c64 => absurd (show (1 : Int32) ≤ 0 from c64) (by decide), fun c64 => ?_⟩
              refine ⟨o_v0, ?_⟩
              refine u_X11_refused ?_
              refine u_X11_refused_0 ?_
              refine ⟨o_v0, ?_⟩
              intro S65 eS65
              have hIn : IV S65 := by rw [eS65]; exact iv11_sI hI o_v0 (by decide) (nu_free (by decide))
              have hI := hIn
              have f0 := fr_I eS65 g0 f0 o_v0 (by decide)
              have d_kv2 := rd_Ij eS65 (by decide) d_kv2
              have d_x45 := rd_Ik eS65 o_v0 o_a23 (by decide) d_x45
              obtain ⟨kv66, hkv66⟩ : ∃ z : Int32, z = (1 : Int32) := ⟨_, rfl⟩
              have d_kv66 := rd_Is eS65 hkv66
              have ea23 := rf_I eS65 ea23
              have g0 := gr_I eS65 g0
              have o_a23 := ob_I eS65 o_a23
              have o_v0 := ob_I eS65 o_v0
              intro S67 eS67
              have hIn : IV S67 := by rw [eS67]; exact iv11_sI hI o_v0 (by decide) (nu_free (by decide))
              have hI := hIn
              have f0 := fr_I eS67 g0 f0 o_v0 (by decide)
              have d_kv2 := rd_Ij eS67 (by decide) d_kv2
              have d_x45 := rd_Ik eS67 o_v0 o_a23 (by decide) d_x45
              have d_kv66 := rd_Ij eS67 (by decide) d_kv66
              obtain ⟨kv68, hkv68⟩ : ∃ z : Int32, z = (-1 : Int32) := ⟨_, rfl⟩
              have d_kv68 := rd_Is eS67 hkv68
              have ea23 := rf_I eS67 ea23
              have g0 := gr_I eS67 g0
              have o_a23 := ob_I eS67 o_a23
              have o_v0 := ob_I eS67 o_v0
              intro _
              exact hq _ _ hI g0 f0
            · refine ⟨a23, ea23, ?_⟩
              refine ⟨o_a23, ?_⟩
              intro x71 ex71
              have r_x71 : (0 : Int32) ≤ x71 ∧ x71 ≤ (12 : Int32) := by rw [ex71]; exact nu 19 rfl hI o_a23
              have d_x71 := ex71
              refine ⟨fun c72 => ?_, fun c72 => ?_⟩
              · intro _ _
                refine ⟨fun c74 => ?_, fun c74 => absurd (show ¬ (0 : Int32) = 0 from c74) (by decide)⟩
                intro _
                refine u_X11_face_30 ?_
                refine ⟨fun c76 => absurd (show (1 : Int32) ≤ 0 from c76) (by decide), fun c76 => ?_⟩
                refine ⟨o_v0, ?_⟩
                refine u_X11_refused ?_
                refine u_X11_refused_0 ?_
                refine ⟨o_v0, ?_⟩
                intro S77 eS77
                have hIn : IV S77 := by rw [eS77]; exact iv11_sI hI o_v0 (by decide) (nu_free (by decide))
                have hI := hIn
                have f0 := fr_I eS77 g0 f0 o_v0 (by decide)
                have d_kv2 := rd_Ij eS77 (by decide) d_kv2
                have d_x45 := rd_Ik eS77 o_v0 o_a23 (by decide) d_x45
                have d_x71 := rd_Ik eS77 o_v0 o_a23 (by decide) d_x71
                obtain ⟨kv78, hkv78⟩ : ∃ z : Int32, z = (1 : Int32) := ⟨_, rfl⟩
                have d_kv78 := rd_Is eS77 hkv78
                have ea23 := rf_I eS77 ea23
                have g0 := gr_I eS77 g0
                have o_a23 := ob_I eS77 o_a23
                have o_v0 := ob_I eS77 o_v0
                intro S79 eS79
                have hIn : IV S79 := by rw [eS79]; exact iv11_sI hI o_v0 (by decide) (nu_free (by decide))
                have hI := hIn
                have f0 := fr_I eS79 g0 f0 o_v0 (by decide)
                have d_kv2 := rd_Ij eS79 (by decide) d_kv2
                have d_x45 := rd_Ik eS79 o_v0 o_a23 (by decide) d_x45
                have d_x71 := rd_Ik eS79 o_v0 o_a23 (by decide) d_x71
                have d_kv78 := rd_Ij eS79 (by decide) d_kv78
                obtain ⟨kv80, hkv80⟩ : ∃ z : Int32, z = (-1 : Int32) := ⟨_, rfl⟩
                have d_kv80 := rd_Is eS79 hkv80
                have ea23 := rf_I eS79 ea23
                have g0 := gr_I eS79 g0
                have o_a23 := ob_I eS79 o_a23
                have o_v0 := ob_I eS79 o_v0
                intro _
                exact hq _ _ hI g0 f0
              · intro _ _
                refine ⟨fun c83 => absurd (show (1 : Int32) = 0 from c83) (by decide), fun c83 => ?_⟩
                refine u_X11_in ?_
                refine u_X11_in_0 ?_
                refine ⟨fun c84 => ?_, fun c84 => ?_⟩
                · intro _ _
                  refine ⟨fun c86 => ?_, fun c86 => absurd (show ¬ (0 : Int32) = 0 from c86) (by decide)⟩
                  intro _
                  refine u_X11_face_30 ?_
                  refine ⟨fun c88 => absurd (show (1 : Int32) ≤ 0 from c88) (by decide), fun c88 => ?_⟩
                  refine ⟨o_v0, ?_⟩
                  refine u_X11_refused ?_
                  refine u_X11_refused_0 ?_
                  refine ⟨o_v0, ?_⟩
                  intro S89 eS89
                  have hIn : IV S89 := by rw [eS89]; exact iv11_sI hI o_v0 (by decide) (nu_free (by decide))
                  have hI := hIn
                  have f0 := fr_I eS89 g0 f0 o_v0 (by decide)
                  have d_kv2 := rd_Ij eS89 (by decide) d_kv2
                  have d_x45 := rd_Ik eS89 o_v0 o_a23 (by decide) d_x45
                  have d_x71 := rd_Ik eS89 o_v0 o_a23 (by decide) d_x71
                  obtain ⟨kv90, hkv90⟩ : ∃ z : Int32, z = (1 : Int32) := ⟨_, rfl⟩
                  have d_kv90 := rd_Is eS89 hkv90
                  have ea23 := rf_I eS89 ea23
                  have g0 := gr_I eS89 g0
                  have o_a23 := ob_I eS89 o_a23
                  have o_v0 := ob_I eS89 o_v0
                  intro S91 eS91
                  have hIn : IV S91 := by rw [eS91]; exact iv11_sI hI o_v0 (by decide) (nu_free (by decide))
                  have hI := hIn
                  have f0 := fr_I eS91 g0 f0 o_v0 (by decide)
                  have d_kv2 := rd_Ij eS91 (by decide) d_kv2
                  have d_x45 := rd_Ik eS91 o_v0 o_a23 (by decide) d_x45
                  have d_x71 := rd_Ik eS91 o_v0 o_a23 (by decide) d_x71
                  have d_kv90 := rd_Ij eS91 (by decide) d_kv90
                  obtain ⟨kv92, hkv92⟩ : ∃ z : Int32, z = (-1 : Int32) := ⟨_, rfl⟩
                  have d_kv92 := rd_Is eS91 hkv92
                  have ea23 := rf_I eS91 ea23
                  have g0 := gr_I eS91 g0
                  have o_a23 := ob_I eS91 o_a23
                  have o_v0 := ob_I eS91 o_v0
                  intro _
                  exact hq _ _ hI g0 f0
                · refine ⟨fun c94 => ?_, fun c94 => ?_⟩
                  · intro _ _
                    refine ⟨fun c96 => ?_, fun c96 => absurd (show ¬ (0 : Int32) = 0 from c96) (by decide)⟩
                    intro _
                    refine u_X11_face_30 ?_
                    refine ⟨fun c98 => absurd (show (1 : Int32) ≤ 0 from c98) (by decide), fun c98 => ?_⟩
                    refine ⟨o_v0, ?_⟩
                    refine u_X11_refused ?_
                    refine u_X11_refused_0 ?_
                    refine ⟨o_v0, ?_⟩
                    intro S99 eS99
                    have hIn : IV S99 := by rw [eS99]; exact iv11_sI hI o_v0 (by decide) (nu_free (by decide))
                    have hI := hIn
                    have f0 := fr_I eS99 g0 f0 o_v0 (by decide)
                    have d_kv2 := rd_Ij eS99 (by decide) d_kv2
                    have d_x45 := rd_Ik eS99 o_v0 o_a23 (by decide) d_x45
                    have d_x71 := rd_Ik eS99 o_v0 o_a23 (by decide) d_x71
                    obtain ⟨kv100, hkv100⟩ : ∃ z : Int32, z = (1 : Int32) := ⟨_, rfl⟩
                    have d_kv100 := rd_Is eS99 hkv100
                    have ea23 := rf_I eS99 ea23
                    have g0 := gr_I eS99 g0
                    have o_a23 := ob_I eS99 o_a23
                    have o_v0 := ob_I eS99 o_v0
                    intro S101 eS101
                    have hIn : IV S101 := by rw [eS101]; exact iv11_sI hI o_v0 (by decide) (nu_free (by decide))
                    have hI := hIn
                    have f0 := fr_I eS101 g0 f0 o_v0 (by decide)
                    have d_kv2 := rd_Ij eS101 (by decide) d_kv2
                    have d_x45 := rd_Ik eS101 o_v0 o_a23 (by decide) d_x45
                    have d_x71 := rd_Ik eS101 o_v0 o_a23 (by decide) d_x71
                    have d_kv100 := rd_Ij eS101 (by decide) d_kv100
                    obtain ⟨kv102, hkv102⟩ : ∃ z : Int32, z = (-1 : Int32) := ⟨_, rfl⟩
                    have d_kv102 := rd_Is eS101 hkv102
                    have ea23 := rf_I eS101 ea23
                    have g0 := gr_I eS101 g0
                    have o_a23 := ob_I eS101 o_a23
                    have o_v0 := ob_I eS101 o_v0
                    intro _
                    exact hq _ _ hI g0 f0
                  · intro _ _
                    refine ⟨fun c105 => absurd (show (1 : Int32) = 0 from c105) (by decide), fun c105 => ?_⟩
                    refine u_X11_isHour ?_
                    refine u_X11_isHour_0 ?_
                    refine ⟨o_v0, ?_⟩
                    refine ⟨fun e107 => (nomatch (e107.symm.trans ea23)), fun a106 ea106 => ?_⟩
                    obtain rfl : a23 = a106 := Option.some.inj (ea23.symm.trans ea106)
                    refine ⟨fun c108 => ?_, fun c108 => ?_⟩
                    · intro _ _
                      refine ⟨fun c110 => absurd (show ¬ (0 : Int32) = 0 from c110) (by decide), fun c110 => ?_⟩
                      intro _
                      refine u_X11_face_30 ?_
                      refine ⟨fun c112 => absurd (show (1 : Int32) ≤ 0 from c112) (by decide), fun c112 => ?_⟩
                      refine ⟨o_v0, ?_⟩
                      refine u_X11_refused ?_
                      refine u_X11_refused_0 ?_
                      refine ⟨o_v0, ?_⟩
                      intro S113 eS113
                      have hIn : IV S113 := by rw [eS113]; exact iv11_sI hI o_v0 (by decide) (nu_free (by decide))
                      have hI := hIn
                      have f0 := fr_I eS113 g0 f0 o_v0 (by decide)
                      have d_kv2 := rd_Ij eS113 (by decide) d_kv2
                      have d_x45 := rd_Ik eS113 o_v0 o_a23 (by decide) d_x45
                      have d_x71 := rd_Ik eS113 o_v0 o_a23 (by decide) d_x71
                      obtain ⟨kv114, hkv114⟩ : ∃ z : Int32, z = (1 : Int32) := ⟨_, rfl⟩
                      have d_kv114 := rd_Is eS113 hkv114
                      have ea23 := rf_I eS113 ea23
                      have g0 := gr_I eS113 g0
                      have o_a23 := ob_I eS113 o_a23
                      have o_v0 := ob_I eS113 o_v0
                      intro S115 eS115
                      have hIn : IV S115 := by rw [eS115]; exact iv11_sI hI o_v0 (by decide) (nu_free (by decide))
                      have hI := hIn
                      have f0 := fr_I eS115 g0 f0 o_v0 (by decide)
                      have d_kv2 := rd_Ij eS115 (by decide) d_kv2
                      have d_x45 := rd_Ik eS115 o_v0 o_a23 (by decide) d_x45
                      have d_x71 := rd_Ik eS115 o_v0 o_a23 (by decide) d_x71
                      have d_kv114 := rd_Ij eS115 (by decide) d_kv114
                      obtain ⟨kv116, hkv116⟩ : ∃ z : Int32, z = (-1 : Int32) := ⟨_, rfl⟩
                      have d_kv116 := rd_Is eS115 hkv116
                      have ea23 := rf_I eS115 ea23
                      have g0 := gr_I eS115 g0
                      have o_a23 := ob_I eS115 o_a23
                      have o_v0 := ob_I eS115 o_v0
                      intro _
                      exact hq _ _ hI g0 f0
                    · refine ⟨a23, ea23, ?_⟩
                      refine ⟨o_a23, ?_⟩
                      intro x119 ex119
                      have r_x119 : (0 : Int32) ≤ x119 ∧ x119 ≤ (6 : Int32) := by rw [ex119]; exact nu 17 rfl hI o_a23
                      have d_x119 := ex119
                      refine ⟨fun c120 => ?_, fun c120 => ?_⟩
                      · intro _ _
                        refine ⟨fun c122 => absurd (show ¬ (0 : Int32) = 0 from c122) (by decide), fun c122 => ?_⟩
                        intro _
                        refine u_X11_face_30 ?_
                        refine ⟨fun c124 => absurd (show (1 : Int32) ≤ 0 from c124) (by decide), fun c124 => ?_⟩
                        refine ⟨o_v0, ?_⟩
                        refine u_X11_refused ?_
                        refine u_X11_refused_0 ?_
                        refine ⟨o_v0, ?_⟩
                        intro S125 eS125
                        have hIn : IV S125 := by rw [eS125]; exact iv11_sI hI o_v0 (by decide) (nu_free (by decide))
                        have hI := hIn
                        have f0 := fr_I eS125 g0 f0 o_v0 (by decide)
                        have d_kv2 := rd_Ij eS125 (by decide) d_kv2
                        have d_x45 := rd_Ik eS125 o_v0 o_a23 (by decide) d_x45
                        have d_x71 := rd_Ik eS125 o_v0 o_a23 (by decide) d_x71
                        have d_x119 := rd_Ik eS125 o_v0 o_a23 (by decide) d_x119
                        obtain ⟨kv126, hkv126⟩ : ∃ z : Int32, z = (1 : Int32) := ⟨_, rfl⟩
                        have d_kv126 := rd_Is eS125 hkv126
                        have ea23 := rf_I eS125 ea23
                        have g0 := gr_I eS125 g0
                        have o_a23 := ob_I eS125 o_a23
                        have o_v0 := ob_I eS125 o_v0
                        intro S127 eS127
                        have hIn : IV S127 := by rw [eS127]; exact iv11_sI hI o_v0 (by decide) (nu_free (by decide))
                        have hI := hIn
                        have f0 := fr_I eS127 g0 f0 o_v0 (by decide)
                        have d_kv2 := rd_Ij eS127 (by decide) d_kv2
                        have d_x45 := rd_Ik eS127 o_v0 o_a23 (by decide) d_x45
                        have d_x71 := rd_Ik eS127 o_v0 o_a23 (by decide) d_x71
                        have d_x119 := rd_Ik eS127 o_v0 o_a23 (by decide) d_x119
                        have d_kv126 := rd_Ij eS127 (by decide) d_kv126
                        obtain ⟨kv128, hkv128⟩ : ∃ z : Int32, z = (-1 : Int32) := ⟨_, rfl⟩
                        have d_kv128 := rd_Is eS127 hkv128
                        have ea23 := rf_I eS127 ea23
                        have g0 := gr_I eS127 g0
                        have o_a23 := ob_I eS127 o_a23
                        have o_v0 := ob_I eS127 o_v0
                        intro _
                        exact hq _ _ hI g0 f0
                      · intro _ _
                        refine ⟨fun c131 => ?_, fun c131 => absurd (show (1 : Int32) = 0 from c131) (by decide)⟩
                        refine u_X11_isSpeed ?_
                        refine u_X11_isSpeed_0 ?_
                        refine ⟨o_v0, ?_⟩
                        refine ⟨a23, ea23, ?_⟩
                        refine ⟨o_a23, ?_⟩
                        obtain ⟨a133, ea133, o_a133, l_a133⟩ := shl 46 rfl hI o_a23
                        refine ⟨a133, ea133, ?_⟩
                        refine ⟨o_a133, ?_⟩
                        refine ⟨(vin l_a133 (m := 4) (by decide) (qm607 c3 c12 c34 r_x45 c46 c60 r_x71 c72 c84 c94 c108 r_x119 c120)), ?_⟩
                        intro x134 ex134
                        have gy_x134 : 0 ≤ v1 ∧ v1 < fI S1 a23 4 := by rw [← d_x45]; exact (qm608 c3 c12 c34 r_x45 c46 c60 r_x71 c72 c84 c94 c108 r_x119 c120)
                        have g_x134 : (1 : Int32) ≤ x134 ∧ x134 ≤ (9 : Int32) := by rw [ex134]; exact wg_at (ml_wg hI o_v0 ea23) 3 rfl gy_x134 ea133
                        refine ⟨a23, ea23, ?_⟩
                        refine ⟨o_a23, ?_⟩
                        obtain ⟨a136, ea136, o_a136, l_a136⟩ := shl 47 rfl hI o_a23
                        refine ⟨a136, ea136, ?_⟩
                        refine ⟨o_a136, ?_⟩
                        refine ⟨(vin l_a136 (m := 4) (by decide) (qm607 c3 c12 c34 r_x45 c46 c60 r_x71 c72 c84 c94 c108 r_x119 c120)), ?_⟩
                        intro x137 ex137
                        have gy_x137 : 0 ≤ v1 ∧ v1 < fI S1 a23 4 := by rw [← d_x45]; exact (qm608 c3 c12 c34 r_x45 c46 c60 r_x71 c72 c84 c94 c108 r_x119 c120)
                        have g_x137 : (0 : Int32) ≤ x137 ∧ x137 ≤ (9 : Int32) := by rw [ex137]; exact wg_at (ml_wg hI o_v0 ea23) 4 rfl gy_x137 ea136
                        refine u_X11_in ?_
                        refine u_X11_in_0 ?_
                        refine ⟨fun c138 => ?_, fun c138 => ?_⟩
                        · intro _ _
                          refine ⟨(Or.inl rfl), ?_⟩
                          intro _ _
                          refine ⟨fun c141 => ?_, fun c141 => absurd (show ¬ (0 : Int32) = 0 from c141) (by decide)⟩
                          intro _
                          refine u_X11_face_30 ?_
                          refine ⟨fun c143 => absurd (show (2 : Int32) ≤ 0 from c143) (by decide), fun c143 => ?_⟩
                          refine ⟨o_v0, ?_⟩
                          refine u_X11_refused ?_
                          refine u_X11_refused_0 ?_
                          refine ⟨o_v0, ?_⟩
                          intro S144 eS144
                          have hIn : IV S144 := by rw [eS144]; exact iv11_sI hI o_v0 (by decide) (nu_free (by decide))
                          have hI := hIn
                          have f0 := fr_I eS144 g0 f0 o_v0 (by decide)
                          have d_kv2 := rd_Ij eS144 (by decide) d_kv2
                          have d_x45 := rd_Ik eS144 o_v0 o_a23 (by decide) d_x45
                          have d_x71 := rd_Ik eS144 o_v0 o_a23 (by decide) d_x71
                          have d_x119 := rd_Ik eS144 o_v0 o_a23 (by decide) d_x119
                          obtain ⟨kv145, hkv145⟩ : ∃ z : Int32, z = (2 : Int32) := ⟨_, rfl⟩
                          have d_kv145 := rd_Is eS144 hkv145
                          have ea23 := rf_I eS144 ea23
                          have ea133 := rf_I eS144 ea133
                          have ea136 := rf_I eS144 ea136
                          have l_a133 := ln_I eS144 l_a133
                          have l_a136 := ln_I eS144 l_a136
                          have g0 := gr_I eS144 g0
                          have o_a133 := ob_I eS144 o_a133
                          have o_a136 := ob_I eS144 o_a136
                          have o_a23 := ob_I eS144 o_a23
                          have o_v0 := ob_I eS144 o_v0
                          intro S146 eS146
                          have hIn : IV S146 := by rw [eS146]; exact iv11_sI hI o_v0 (by decide) (nu_free (by decide))
                          have hI := hIn
                          have f0 := fr_I eS146 g0 f0 o_v0 (by decide)
                          have d_kv2 := rd_Ij eS146 (by decide) d_kv2
                          have d_x45 := rd_Ik eS146 o_v0 o_a23 (by decide) d_x45
                          have d_x71 := rd_Ik eS146 o_v0 o_a23 (by decide) d_x71
                          have d_x119 := rd_Ik eS146 o_v0 o_a23 (by decide) d_x119
                          have d_kv145 := rd_Ij eS146 (by decide) d_kv145
                          obtain ⟨kv147, hkv147⟩ : ∃ z : Int32, z = (-1 : Int32) := ⟨_, rfl⟩
                          have d_kv147 := rd_Is eS146 hkv147
                          have ea23 := rf_I eS146 ea23
                          have ea133 := rf_I eS146 ea133
                          have ea136 := rf_I eS146 ea136
                          have l_a133 := ln_I eS146 l_a133
                          have l_a136 := ln_I eS146 l_a136
                          have g0 := gr_I eS146 g0
                          have o_a133 := ob_I eS146 o_a133
                          have o_a136 := ob_I eS146 o_a136
                          have o_a23 := ob_I eS146 o_a23
                          have o_v0 := ob_I eS146 o_v0
                          intro _
                          exact hq _ _ hI g0 f0
                        · refine ⟨fun c149 => ?_, fun c149 => ?_⟩
                          · intro _ _
                            refine ⟨(Or.inl rfl), ?_⟩
                            intro _ _
                            refine ⟨fun c152 => ?_, fun c152 => absurd (show ¬ (0 : Int32) = 0 from c152) (by decide)⟩
                            intro _
                            refine u_X11_face_30 ?_
                            refine ⟨fun c154 => absurd (show (2 : Int32) ≤ 0 from c154) (by decide), fun c154 => ?_⟩
                            refine ⟨o_v0, ?_⟩
                            refine u_X11_refused ?_
                            refine u_X11_refused_0 ?_
                            refine ⟨o_v0, ?_⟩
                            intro S155 eS155
                            have hIn : IV S155 := by rw [eS155]; exact iv11_sI hI o_v0 (by decide) (nu_free (by decide))
                            have hI := hIn
                            have f0 := fr_I eS155 g0 f0 o_v0 (by decide)
                            have d_kv2 := rd_Ij eS155 (by decide) d_kv2
                            have d_x45 := rd_Ik eS155 o_v0 o_a23 (by decide) d_x45
                            have d_x71 := rd_Ik eS155 o_v0 o_a23 (by decide) d_x71
                            have d_x119 := rd_Ik eS155 o_v0 o_a23 (by decide) d_x119
                            obtain ⟨kv156, hkv156⟩ : ∃ z : Int32, z = (2 : Int32) := ⟨_, rfl⟩
                            have d_kv156 := rd_Is eS155 hkv156
                            have ea23 := rf_I eS155 ea23
                            have ea133 := rf_I eS155 ea133
                            have ea136 := rf_I eS155 ea136
                            have l_a133 := ln_I eS155 l_a133
                            have l_a136 := ln_I eS155 l_a136
                            have g0 := gr_I eS155 g0
                            have o_a133 := ob_I eS155 o_a133
                            have o_a136 := ob_I eS155 o_a136
                            have o_a23 := ob_I eS155 o_a23
                            have o_v0 := ob_I eS155 o_v0
                            intro S157 eS157
                            have hIn : IV S157 := by rw [eS157]; exact iv11_sI hI o_v0 (by decide) (nu_free (by decide))
                            have hI := hIn
                            have f0 := fr_I eS157 g0 f0 o_v0 (by decide)
                            have d_kv2 := rd_Ij eS157 (by decide) d_kv2
                            have d_x45 := rd_Ik eS157 o_v0 o_a23 (by decide) d_x45
                            have d_x71 := rd_Ik eS157 o_v0 o_a23 (by decide) d_x71
                            have d_x119 := rd_Ik eS157 o_v0 o_a23 (by decide) d_x119
                            have d_kv156 := rd_Ij eS157 (by decide) d_kv156
                            obtain ⟨kv158, hkv158⟩ : ∃ z : Int32, z = (-1 : Int32) := ⟨_, rfl⟩
                            have d_kv158 := rd_Is eS157 hkv158
                            have ea23 := rf_I eS157 ea23
                            have ea133 := rf_I eS157 ea133
                            have ea136 := rf_I eS157 ea136
                            have l_a133 := ln_I eS157 l_a133
                            have l_a136 := ln_I eS157 l_a136
                            have g0 := gr_I eS157 g0
                            have o_a133 := ob_I eS157 o_a133
                            have o_a136 := ob_I eS157 o_a136
                            have o_a23 := ob_I eS157 o_a23
                            have o_v0 := ob_I eS157 o_v0
                            intro _
                            exact hq _ _ hI g0 f0
                          · intro _ _
                            refine ⟨(Or.inr rfl), ?_⟩
                            intro _ _
                            refine ⟨fun c162 => absurd (show (1 : Int32) = 0 from c162) (by decide), fun c162 => ?_⟩
                            intro _
                            refine u_X11_face_30 ?_
                            refine ⟨fun c164 => ?_, fun c164 => absurd (show ¬ (0 : Int32) ≤ 0 from c164) (by decide)⟩
                            refine ⟨o_v0, ?_⟩
                            refine m_X11_partsOf hI o_v0 (qm609 c3 c12 c34 r_x45 c46 c60 r_x71 c72 c84 c94 c108 r_x119 c120 g_x134 g_x137 c138 c149) (qm610 c3 c12 c34 r_x45 c46 c60 r_x71 c72 c84 c94 c108 r_x119 c120 g_x134 g_x137 c138 c149) (qm611 c3 c12 c34 r_x45 c46 c60 r_x71 c72 c84 c94 c108 r_x119 c120 g_x134 g_x137 c138 c149) (qm612 c3 c12 c34 r_x45 c46 c60 r_x71 c72 c84 c94 c108 r_x119 c120 g_x134 g_x137 c138 c149) ⟨_, ea23⟩ (fun x165 S166 hI2 g167 p_x165 => ?_)
                            subst p_x165
                            intro _
                            refine m_X11_told hI o_v0 (qm613 c3 c12 c34 r_x45 c46 c60 r_x71 c72 c84 c94 c108 r_x119 c120 g_x134 g_x137 c138 c149) (fun x169 S170 hJ g171 fc172 => ?_)
                            have hI := hJ
                            have l_a133 := (gr_len g171 o_a133).trans l_a133
                            have l_a136 := (gr_len g171 o_a136).trans l_a136
                            have d_kv2 := d_kv2.trans (fri_at fc172 (by decide) (by decide) o_v0).symm
                            have d_x45 := d_x45.trans (fri_at fc172 (by decide) (by decide) o_a23).symm
                            have d_x71 := d_x71.trans (fri_at fc172 (by decide) (by decide) o_a23).symm
                            have d_x119 := d_x119.trans (fri_at fc172 (by decide) (by decide) o_a23).symm
                            have ea23 := (frr_at fc172 (by decide) (by decide) o_v0).trans ea23
                            have ea133 := (frr_at fc172 (by decide) (by decide) o_a23).trans ea133
                            have ea136 := (frr_at fc172 (by decide) (by decide) o_a23).trans ea136
                            have f0 := fri_tr (S := S1) g0 f0 fc172 (by decide) (by decide)
                            have o_a133 := gr_ob g171 o_a133
                            have o_a136 := gr_ob g171 o_a136
                            have o_a23 := gr_ob g171 o_a23
                            have o_v0 := gr_ob g171 o_v0
                            have g0 := gr_tr (T := S1) g0 g171
                            intro _
                            exact hq _ _ hI g0 f0
set_option maxHeartbeats 4000000 in
set_option maxRecDepth 20000 in
theorem m_X11_fault {v0 : Nat} {Q : Int32 → HS → Prop} {S : HS} (hI : IV S) (o_v0 : ob S v0 11)     (hq : ∀ (r : Int32) (T : HS), IV T → Gr S T → FRI [(11, 0)] [] S T → Q r T) : P_X11_fault v0 Q S := by
  have g0 := gr_rf S
  have f0 := fri_rf [(11, 0)] [] S
  refine u_X11_fault ?_
  refine u_X11_fault_0 ?_
  refine ⟨o_v0, ?_⟩
  intro S1 eS1
  have hIn : IV S1 := by rw [eS1]; exact iv11_sI hI o_v0 (by decide) (nu_free (by decide))
  have hI := hIn
  have f0 := fr_I eS1 g0 f0 o_v0 (by decide)
  obtain ⟨kv2, hkv2⟩ : ∃ z : Int32, z = (0 : Int32) := ⟨_, rfl⟩
  have d_kv2 := rd_Is eS1 hkv2
  have g0 := gr_I eS1 g0
  have o_v0 := ob_I eS1 o_v0
  intro x3 ex3
  have d_x3 := ex3
  exact hq _ _ hI g0 f0
set_option maxHeartbeats 4000000 in
set_option maxRecDepth 20000 in
theorem m_X11_feed {v0 : Nat} {v1 : Int32} {v2 : Int32} {v3 : Int32} {v4 : Int32} {v5 : Int32} {Q : Int32 → HS → Prop} {S : HS} (hI : IV S) (o_v0 : ob S v0 11)     (hq : ∀ (r : Int32) (T : HS), IV T → Gr S T → FRI [(11, 0), (11, 6)] [] S T → ((900 < fI S v0 6 + 20 → r = -1 ∧ fI T v0 6 = fI S v0 6) ∧ (fI S v0 6 + 20 ≤ 900 → r = fI T v0 6 ∧ fI T v0 6 = fI S v0 6 + 20)) → Q r T) : P_X11_feed v0 v1 v2 v3 v4 v5 Q S := by
  have g0 := gr_rf S
  have f0 := fri_rf [(11, 0), (11, 6)] [] S
  obtain ⟨kv1, d_kv1⟩ : ∃ z : Int32, z = fI S v0 6 := ⟨_, rfl⟩
  have r_kv1 : (0 : Int32) ≤ kv1 ∧ kv1 ≤ (900 : Int32) := by rw [d_kv1]; exact nu 23 rfl hI o_v0
  have di_6 := d_kv1
  refine u_X11_feed ?_
  refine u_X11_feed_0 ?_
  refine ⟨o_v0, ?_⟩
  intro S2 eS2
  have hIn : IV S2 := by rw [eS2]; exact iv11_sI hI o_v0 (by decide) (nu_free (by decide))
  have hI := hIn
  have f0 := fr_I eS2 g0 f0 o_v0 (by decide)
  have d_kv1 := rd_Ij eS2 (by decide) d_kv1
  obtain ⟨kv3, hkv3⟩ : ∃ z : Int32, z = (0 : Int32) := ⟨_, rfl⟩
  have d_kv3 := rd_Is eS2 hkv3
  have g0 := gr_I eS2 g0
  have o_v0 := ob_I eS2 o_v0
  intro x4 ex4
  have r_x4 : (0 : Int32) ≤ x4 ∧ x4 ≤ (900 : Int32) := by rw [ex4]; exact nu 23 rfl hI o_v0
  have q_x4 : x4 = kv1 := ex4.trans d_kv1.symm
  have d_x4 := ex4
  refine ⟨fun c5 => ?_, fun c5 => ?_⟩
  · refine i_X11_feed_23 (fun (y0 : Nat) (y1 : Int32) (y2 : Int32) (y3 : Int32) (y4 : Int32) (y5 : Int32) (y6 : Int32) (Z : HS) => ((20 : Int32).toInt - y6.toInt).toNat) (fun (y0 : Nat) (y1 : Int32) (y2 : Int32) (y3 : Int32) (y4 : Int32) (y5 : Int32) (y6 : Int32) (Z : HS) => (IV Z) ∧ (Gr S2 Z) ∧ (FRI [(11, 6)] [] S2 Z) ∧ (v0 = y0) ∧ (v1 = y1) ∧ (v2 = y2) ∧ (v3 = y3) ∧ (v4 = y4) ∧ (v5 = y5) ∧ (0 ≤ y6 ∧ y6 ≤ 20) ∧ (fI Z v0 6 = kv1 + y6)) ?_ _ _ _ _ _ _ _ _ ⟨hI, (gr_rf _), (fri_rf _ _ _), rfl, rfl, rfl, rfl, rfl, rfl, (qm440 r_kv1 r_x4 q_x4 c5), (by rw [← d_x4]; exact (qm441 r_kv1 r_x4 q_x4 c5))⟩
    intro w10 w12 w14 w16 w18 w20 w22 S7 X23 ⟨hI, gL8, fL9, q11, q13, q15, q17, q19, q21, i1u6, k1u6⟩ ih24
    subst q11
    subst q13
    subst q15
    subst q17
    subst q19
    subst q21
    have d_kv3 := d_kv3.trans (fri_at fL9 (by decide) (by decide) o_v0).symm
    have f0 := fri_tr (S := S2) g0 f0 fL9 (by decide) (by decide)
    have o_v0 := gr_ob gL8 o_v0
    have g0 := gr_tr (T := S2) g0 gL8
    obtain ⟨kv25, d_kv25⟩ : ∃ z : Int32, z = fI S7 v0 6 := ⟨_, rfl⟩
    have p_k1u6 : kv25 = kv1 + w22 := by rw [d_kv25]; exact k1u6
    refine u_X11_feed_23 ?_
    refine ⟨fun c26 => ?_, fun c26 => ?_⟩
    · refine ⟨o_v0, ?_⟩
      intro x27 ex27
      have r_x27 : (0 : Int32) ≤ x27 ∧ x27 ≤ (900 : Int32) := by rw [ex27]; exact nu 23 rfl hI o_v0
      have q_x27 : x27 = kv25 := ex27.trans d_kv25.symm
      have d_x27 := ex27
      obtain ⟨ra28, hra28⟩ : ∃ z : Int32, z = x27 := ⟨_, rfl⟩
      exact hq _ _ hI g0 f0 (by have t : (900 < kv1 + 20 → ra28 = -1 ∧ x27 = kv1) ∧ (kv1 + 20 ≤ 900 → ra28 = x27 ∧ x27 = kv1 + 20) := (qm442 r_kv1 r_x4 q_x4 c5 i1u6 p_k1u6 c26 r_x27 q_x27 hra28); rw [di_6, d_x27, hra28] at t; exact t)
    · refine ⟨fun c29 => ?_, fun c29 => ?_⟩
      · refine ⟨fun c30 => ?_, fun c30 => ?_⟩
        · refine ⟨fun c31 => ?_, fun c31 => ?_⟩
          · refine ⟨fun c32 => ?_, fun c32 => ?_⟩
            · refine u_X11_feed_76 ?_
              refine ⟨o_v0, ?_⟩
              obtain ⟨a33, ea33, o_a33, l_a33⟩ := shl 53 rfl hI o_v0
              refine ⟨a33, ea33, ?_⟩
              intro x34 ex34
              have r_x34 : (0 : Int32) ≤ x34 ∧ x34 ≤ (900 : Int32) := by rw [ex34]; exact nu 23 rfl hI o_v0
              have q_x34 : x34 = kv25 := ex34.trans d_kv25.symm
              have d_x34 := ex34
              intro x35 ex35
              refine ⟨o_a33, ?_⟩
              intro x36 ex36
              have i37 : vp_in x34 (hN _ a33) := (vin l_a33 (m := 900) (by decide) (qm443 r_kv1 r_x4 q_x4 c5 i1u6 p_k1u6 c26 c29 c30 c31 c32 r_x34 q_x34 ex35 ex36))
              refine ⟨i37, ?_⟩
              intro S38 eS38
              have hIn : IV S38 := by rw [eS38]; exact iv11_aI hI o_v0 ea33 o_a33 (by decide)
              have hI := hIn
              have f0 := fr_A eS38 g0 f0 o_a33 (by decide)
              have fL9 := fr_A eS38 gL8 fL9 o_a33 (by decide)
              have d_kv3 := rd_Ik eS38 o_a33 o_v0 (by decide) d_kv3
              have d_x34 := rd_Ik eS38 o_a33 o_v0 (by decide) d_x34
              have ea33 := rf_I eS38 ea33
              have l_a33 := ln_I eS38 l_a33
              have g0 := gr_I eS38 g0
              have gL8 := gr_I eS38 gL8
              have o_a33 := ob_I eS38 o_a33
              have o_v0 := ob_I eS38 o_v0
              intro x39 ex39
              have r_x39 : (0 : Int32) ≤ x39 ∧ x39 ≤ (900 : Int32) := by rw [ex39]; exact nu 23 rfl hI o_v0
              have q_x39 : x39 = x34 := ex39.trans d_x34.symm
              have d_x39 := ex39
              intro x40 ex40
              intro S41 eS41
              have hIn : IV S41 := by rw [eS41]; exact iv11_sI hI o_v0 (by decide) (nu_one (lo := (0 : Int32)) (hi := (900 : Int32)) (by decide) (qm444 r_kv1 r_x4 q_x4 c5 i1u6 p_k1u6 c26 c29 c30 c31 c32 r_x34 q_x34 ex35 ex36 r_x39 q_x39 ex40))
              have hI := hIn
              have f0 := fr_I eS41 g0 f0 o_v0 (by decide)
              have fL9 := fr_I eS41 gL8 fL9 o_v0 (by decide)
              have d_kv3 := rd_Ij eS41 (by decide) d_kv3
              have d_x40 := rd_Is eS41 (rfl : x40 = x40)
              have ea33 := rf_I eS41 ea33
              have l_a33 := ln_I eS41 l_a33
              have g0 := gr_I eS41 g0
              have gL8 := gr_I eS41 gL8
              have o_a33 := ob_I eS41 o_a33
              have o_v0 := ob_I eS41 o_v0
              intro x42 ex42
              exact ih24 _ _ _ _ _ _ _ _ ⟨hI, gL8, fL9, rfl, rfl, rfl, rfl, rfl, rfl, (qm445 r_kv1 r_x4 q_x4 c5 i1u6 p_k1u6 c26 c29 c30 c31 c32 r_x34 q_x34 ex35 ex36 r_x39 q_x39 ex40 ex42), (by rw [← d_x40]; exact (qm446 r_kv1 r_x4 q_x4 c5 i1u6 p_k1u6 c26 c29 c30 c31 c32 r_x34 q_x34 ex35 ex36 r_x39 q_x39 ex40 ex42))⟩ (mu_up (qm447 r_kv1 r_x4 q_x4 c5 i1u6 p_k1u6 c26 c29 c30 c31 c32 r_x34 q_x34 ex35 ex36 r_x39 q_x39 ex40 ex42) (qm448 r_kv1 r_x4 q_x4 c5 i1u6 p_k1u6 c26 c29 c30 c31 c32 r_x34 q_x34 ex35 ex36 r_x39 q_x39 ex40 ex42))
            · refine u_X11_feed_76 ?_
              refine ⟨o_v0, ?_⟩
              obtain ⟨a43, ea43, o_a43, l_a43⟩ := shl 53 rfl hI o_v0
              refine ⟨a43, ea43, ?_⟩
              intro x44 ex44
              have r_x44 : (0 : Int32) ≤ x44 ∧ x44 ≤ (900 : Int32) := by rw [ex44]; exact nu 23 rfl hI o_v0
              have q_x44 : x44 = kv25 := ex44.trans d_kv25.symm
              have d_x44 := ex44
              intro x45 ex45
              refine ⟨o_a43, ?_⟩
              intro x46 ex46
              have i47 : vp_in x44 (hN _ a43) := (vin l_a43 (m := 900) (by decide) (qm449 r_kv1 r_x4 q_x4 c5 i1u6 p_k1u6 c26 c29 c30 c31 c32 r_x44 q_x44 ex45 ex46))
              refine ⟨i47, ?_⟩
              intro S48 eS48
              have hIn : IV S48 := by rw [eS48]; exact iv11_aI hI o_v0 ea43 o_a43 (by decide)
              have hI := hIn
              have f0 := fr_A eS48 g0 f0 o_a43 (by decide)
              have fL9 := fr_A eS48 gL8 fL9 o_a43 (by decide)
              have d_kv3 := rd_Ik eS48 o_a43 o_v0 (by decide) d_kv3
              have d_x44 := rd_Ik eS48 o_a43 o_v0 (by decide) d_x44
              have ea43 := rf_I eS48 ea43
              have l_a43 := ln_I eS48 l_a43
              have g0 := gr_I eS48 g0
              have gL8 := gr_I eS48 gL8
              have o_a43 := ob_I eS48 o_a43
              have o_v0 := ob_I eS48 o_v0
              intro x49 ex49
              have r_x49 : (0 : Int32) ≤ x49 ∧ x49 ≤ (900 : Int32) := by rw [ex49]; exact nu 23 rfl hI o_v0
              have q_x49 : x49 = x44 := ex49.trans d_x44.symm
              have d_x49 := ex49
              intro x50 ex50
              intro S51 eS51
              have hIn : IV S51 := by rw [eS51]; exact iv11_sI hI o_v0 (by decide) (nu_one (lo := (0 : Int32)) (hi := (900 : Int32)) (by decide) (qm450 r_kv1 r_x4 q_x4 c5 i1u6 p_k1u6 c26 c29 c30 c31 c32 r_x44 q_x44 ex45 ex46 r_x49 q_x49 ex50))
              have hI := hIn
              have f0 := fr_I eS51 g0 f0 o_v0 (by decide)
              have fL9 := fr_I eS51 gL8 fL9 o_v0 (by decide)
              have d_kv3 := rd_Ij eS51 (by decide) d_kv3
              have d_x50 := rd_Is eS51 (rfl : x50 = x50)
              have ea43 := rf_I eS51 ea43
              have l_a43 := ln_I eS51 l_a43
              have g0 := gr_I eS51 g0
              have gL8 := gr_I eS51 gL8
              have o_a43 := ob_I eS51 o_a43
              have o_v0 := ob_I eS51 o_v0
              intro x52 ex52
              exact ih24 _ _ _ _ _ _ _ _ ⟨hI, gL8, fL9, rfl, rfl, rfl, rfl, rfl, rfl, (qm451 r_kv1 r_x4 q_x4 c5 i1u6 p_k1u6 c26 c29 c30 c31 c32 r_x44 q_x44 ex45 ex46 r_x49 q_x49 ex50 ex52), (by rw [← d_x50]; exact (qm452 r_kv1 r_x4 q_x4 c5 i1u6 p_k1u6 c26 c29 c30 c31 c32 r_x44 q_x44 ex45 ex46 r_x49 q_x49 ex50 ex52))⟩ (mu_up (qm453 r_kv1 r_x4 q_x4 c5 i1u6 p_k1u6 c26 c29 c30 c31 c32 r_x44 q_x44 ex45 ex46 r_x49 q_x49 ex50 ex52) (qm454 r_kv1 r_x4 q_x4 c5 i1u6 p_k1u6 c26 c29 c30 c31 c32 r_x44 q_x44 ex45 ex46 r_x49 q_x49 ex50 ex52))
          · refine u_X11_feed_76 ?_
            refine ⟨o_v0, ?_⟩
            obtain ⟨a53, ea53, o_a53, l_a53⟩ := shl 53 rfl hI o_v0
            refine ⟨a53, ea53, ?_⟩
            intro x54 ex54
            have r_x54 : (0 : Int32) ≤ x54 ∧ x54 ≤ (900 : Int32) := by rw [ex54]; exact nu 23 rfl hI o_v0
            have q_x54 : x54 = kv25 := ex54.trans d_kv25.symm
            have d_x54 := ex54
            intro x55 ex55
            refine ⟨o_a53, ?_⟩
            intro x56 ex56
            have i57 : vp_in x54 (hN _ a53) := (vin l_a53 (m := 900) (by decide) (qm455 r_kv1 r_x4 q_x4 c5 i1u6 p_k1u6 c26 c29 c30 c31 r_x54 q_x54 ex55 ex56))
            refine ⟨i57, ?_⟩
            intro S58 eS58
            have hIn : IV S58 := by rw [eS58]; exact iv11_aI hI o_v0 ea53 o_a53 (by decide)
            have hI := hIn
            have f0 := fr_A eS58 g0 f0 o_a53 (by decide)
            have fL9 := fr_A eS58 gL8 fL9 o_a53 (by decide)
            have d_kv3 := rd_Ik eS58 o_a53 o_v0 (by decide) d_kv3
            have d_x54 := rd_Ik eS58 o_a53 o_v0 (by decide) d_x54
            have ea53 := rf_I eS58 ea53
            have l_a53 := ln_I eS58 l_a53
            have g0 := gr_I eS58 g0
            have gL8 := gr_I eS58 gL8
            have o_a53 := ob_I eS58 o_a53
            have o_v0 := ob_I eS58 o_v0
            intro x59 ex59
            have r_x59 : (0 : Int32) ≤ x59 ∧ x59 ≤ (900 : Int32) := by rw [ex59]; exact nu 23 rfl hI o_v0
            have q_x59 : x59 = x54 := ex59.trans d_x54.symm
            have d_x59 := ex59
            intro x60 ex60
            intro S61 eS61
            have hIn : IV S61 := by rw [eS61]; exact iv11_sI hI o_v0 (by decide) (nu_one (lo := (0 : Int32)) (hi := (900 : Int32)) (by decide) (qm456 r_kv1 r_x4 q_x4 c5 i1u6 p_k1u6 c26 c29 c30 c31 r_x54 q_x54 ex55 ex56 r_x59 q_x59 ex60))
            have hI := hIn
            have f0 := fr_I eS61 g0 f0 o_v0 (by decide)
            have fL9 := fr_I eS61 gL8 fL9 o_v0 (by decide)
            have d_kv3 := rd_Ij eS61 (by decide) d_kv3
            have d_x60 := rd_Is eS61 (rfl : x60 = x60)
            have ea53 := rf_I eS61 ea53
            have l_a53 := ln_I eS61 l_a53
            have g0 := gr_I eS61 g0
            have gL8 := gr_I eS61 gL8
            have o_a53 := ob_I eS61 o_a53
            have o_v0 := ob_I eS61 o_v0
            intro x62 ex62
            exact ih24 _ _ _ _ _ _ _ _ ⟨hI, gL8, fL9, rfl, rfl, rfl, rfl, rfl, rfl, (qm457 r_kv1 r_x4 q_x4 c5 i1u6 p_k1u6 c26 c29 c30 c31 r_x54 q_x54 ex55 ex56 r_x59 q_x59 ex60 ex62), (by rw [← d_x60]; exact (qm458 r_kv1 r_x4 q_x4 c5 i1u6 p_k1u6 c26 c29 c30 c31 r_x54 q_x54 ex55 ex56 r_x59 q_x59 ex60 ex62))⟩ (mu_up (qm459 r_kv1 r_x4 q_x4 c5 i1u6 p_k1u6 c26 c29 c30 c31 r_x54 q_x54 ex55 ex56 r_x59 q_x59 ex60 ex62) (qm460 r_kv1 r_x4 q_x4 c5 i1u6 p_k1u6 c26 c29 c30 c31 r_x54 q_x54 ex55 ex56 r_x59 q_x59 ex60 ex62))
        · refine u_X11_feed_76 ?_
          refine ⟨o_v0, ?_⟩
          obtain ⟨a63, ea63, o_a63, l_a63⟩ := shl 53 rfl hI o_v0
          refine ⟨a63, ea63, ?_⟩
          intro x64 ex64
          have r_x64 : (0 : Int32) ≤ x64 ∧ x64 ≤ (900 : Int32) := by rw [ex64]; exact nu 23 rfl hI o_v0
          have q_x64 : x64 = kv25 := ex64.trans d_kv25.symm
          have d_x64 := ex64
          intro x65 ex65
          refine ⟨o_a63, ?_⟩
          intro x66 ex66
          have i67 : vp_in x64 (hN _ a63) := (vin l_a63 (m := 900) (by decide) (qm461 r_kv1 r_x4 q_x4 c5 i1u6 p_k1u6 c26 c29 c30 r_x64 q_x64 ex65 ex66))
          refine ⟨i67, ?_⟩
          intro S68 eS68
          have hIn : IV S68 := by rw [eS68]; exact iv11_aI hI o_v0 ea63 o_a63 (by decide)
          have hI := hIn
          have f0 := fr_A eS68 g0 f0 o_a63 (by decide)
          have fL9 := fr_A eS68 gL8 fL9 o_a63 (by decide)
          have d_kv3 := rd_Ik eS68 o_a63 o_v0 (by decide) d_kv3
          have d_x64 := rd_Ik eS68 o_a63 o_v0 (by decide) d_x64
          have ea63 := rf_I eS68 ea63
          have l_a63 := ln_I eS68 l_a63
          have g0 := gr_I eS68 g0
          have gL8 := gr_I eS68 gL8
          have o_a63 := ob_I eS68 o_a63
          have o_v0 := ob_I eS68 o_v0
          intro x69 ex69
          have r_x69 : (0 : Int32) ≤ x69 ∧ x69 ≤ (900 : Int32) := by rw [ex69]; exact nu 23 rfl hI o_v0
          have q_x69 : x69 = x64 := ex69.trans d_x64.symm
          have d_x69 := ex69
          intro x70 ex70
          intro S71 eS71
          have hIn : IV S71 := by rw [eS71]; exact iv11_sI hI o_v0 (by decide) (nu_one (lo := (0 : Int32)) (hi := (900 : Int32)) (by decide) (qm462 r_kv1 r_x4 q_x4 c5 i1u6 p_k1u6 c26 c29 c30 r_x64 q_x64 ex65 ex66 r_x69 q_x69 ex70))
          have hI := hIn
          have f0 := fr_I eS71 g0 f0 o_v0 (by decide)
          have fL9 := fr_I eS71 gL8 fL9 o_v0 (by decide)
          have d_kv3 := rd_Ij eS71 (by decide) d_kv3
          have d_x70 := rd_Is eS71 (rfl : x70 = x70)
          have ea63 := rf_I eS71 ea63
          have l_a63 := ln_I eS71 l_a63
          have g0 := gr_I eS71 g0
          have gL8 := gr_I eS71 gL8
          have o_a63 := ob_I eS71 o_a63
          have o_v0 := ob_I eS71 o_v0
          intro x72 ex72
          exact ih24 _ _ _ _ _ _ _ _ ⟨hI, gL8, fL9, rfl, rfl, rfl, rfl, rfl, rfl, (qm463 r_kv1 r_x4 q_x4 c5 i1u6 p_k1u6 c26 c29 c30 r_x64 q_x64 ex65 ex66 r_x69 q_x69 ex70 ex72), (by rw [← d_x70]; exact (qm464 r_kv1 r_x4 q_x4 c5 i1u6 p_k1u6 c26 c29 c30 r_x64 q_x64 ex65 ex66 r_x69 q_x69 ex70 ex72))⟩ (mu_up (qm465 r_kv1 r_x4 q_x4 c5 i1u6 p_k1u6 c26 c29 c30 r_x64 q_x64 ex65 ex66 r_x69 q_x69 ex70 ex72) (qm466 r_kv1 r_x4 q_x4 c5 i1u6 p_k1u6 c26 c29 c30 r_x64 q_x64 ex65 ex66 r_x69 q_x69 ex70 ex72))
      · refine u_X11_feed_76 ?_
        refine ⟨o_v0, ?_⟩
        obtain ⟨a73, ea73, o_a73, l_a73⟩ := shl 53 rfl hI o_v0
        refine ⟨a73, ea73, ?_⟩
        intro x74 ex74
        have r_x74 : (0 : Int32) ≤ x74 ∧ x74 ≤ (900 : Int32) := by rw [ex74]; exact nu 23 rfl hI o_v0
        have q_x74 : x74 = kv25 := ex74.trans d_kv25.symm
        have d_x74 := ex74
        intro x75 ex75
        refine ⟨o_a73, ?_⟩
        intro x76 ex76
        have i77 : vp_in x74 (hN _ a73) := (vin l_a73 (m := 900) (by decide) (qm467 r_kv1 r_x4 q_x4 c5 i1u6 p_k1u6 c26 c29 r_x74 q_x74 ex75 ex76))
        refine ⟨i77, ?_⟩
        intro S78 eS78
        have hIn : IV S78 := by rw [eS78]; exact iv11_aI hI o_v0 ea73 o_a73 (by decide)
        have hI := hIn
        have f0 := fr_A eS78 g0 f0 o_a73 (by decide)
        have fL9 := fr_A eS78 gL8 fL9 o_a73 (by decide)
        have d_kv3 := rd_Ik eS78 o_a73 o_v0 (by decide) d_kv3
        have d_x74 := rd_Ik eS78 o_a73 o_v0 (by decide) d_x74
        have ea73 := rf_I eS78 ea73
        have l_a73 := ln_I eS78 l_a73
        have g0 := gr_I eS78 g0
        have gL8 := gr_I eS78 gL8
        have o_a73 := ob_I eS78 o_a73
        have o_v0 := ob_I eS78 o_v0
        intro x79 ex79
        have r_x79 : (0 : Int32) ≤ x79 ∧ x79 ≤ (900 : Int32) := by rw [ex79]; exact nu 23 rfl hI o_v0
        have q_x79 : x79 = x74 := ex79.trans d_x74.symm
        have d_x79 := ex79
        intro x80 ex80
        intro S81 eS81
        have hIn : IV S81 := by rw [eS81]; exact iv11_sI hI o_v0 (by decide) (nu_one (lo := (0 : Int32)) (hi := (900 : Int32)) (by decide) (qm468 r_kv1 r_x4 q_x4 c5 i1u6 p_k1u6 c26 c29 r_x74 q_x74 ex75 ex76 r_x79 q_x79 ex80))
        have hI := hIn
        have f0 := fr_I eS81 g0 f0 o_v0 (by decide)
        have fL9 := fr_I eS81 gL8 fL9 o_v0 (by decide)
        have d_kv3 := rd_Ij eS81 (by decide) d_kv3
        have d_x80 := rd_Is eS81 (rfl : x80 = x80)
        have ea73 := rf_I eS81 ea73
        have l_a73 := ln_I eS81 l_a73
        have g0 := gr_I eS81 g0
        have gL8 := gr_I eS81 gL8
        have o_a73 := ob_I eS81 o_a73
        have o_v0 := ob_I eS81 o_v0
        intro x82 ex82
        exact ih24 _ _ _ _ _ _ _ _ ⟨hI, gL8, fL9, rfl, rfl, rfl, rfl, rfl, rfl, (qm469 r_kv1 r_x4 q_x4 c5 i1u6 p_k1u6 c26 c29 r_x74 q_x74 ex75 ex76 r_x79 q_x79 ex80 ex82), (by rw [← d_x80]; exact (qm470 r_kv1 r_x4 q_x4 c5 i1u6 p_k1u6 c26 c29 r_x74 q_x74 ex75 ex76 r_x79 q_x79 ex80 ex82))⟩ (mu_up (qm471 r_kv1 r_x4 q_x4 c5 i1u6 p_k1u6 c26 c29 r_x74 q_x74 ex75 ex76 r_x79 q_x79 ex80 ex82) (qm472 r_kv1 r_x4 q_x4 c5 i1u6 p_k1u6 c26 c29 r_x74 q_x74 ex75 ex76 r_x79 q_x79 ex80 ex82))
  · exact hq _ _ hI g0 f0 (by have t : (900 < kv1 + 20 → (-1 : Int32) = -1 ∧ x4 = kv1) ∧ (kv1 + 20 ≤ 900 → (-1 : Int32) = x4 ∧ x4 = kv1 + 20) := (qm473 r_kv1 r_x4 q_x4 c5); rw [di_6, d_x4] at t; exact t)
end
section
set_option maxHeartbeats 4000000 in
set_option maxRecDepth 20000 in
theorem m_X11_together {v0 : Nat} {v1 : Int32} {v2 : Int32} {v3 : Int32} {v4 : Int32} {v5 : Int32} {v6 : Int32} {Q : Int64 → HS → Prop} {S : HS} (hI : IV S) (o_v0 : ob S v0 11)   (h0 : 0 ≤ v1 ∧ v1 < 4) (h1 : 0 ≤ v2 ∧ v2 < 4) (h2 : 0 ≤ v3 ∧ v3 < 12) (h3 : 0 ≤ v5 ∧ v5 < 6) (h4 : 1 ≤ v6)  (hw : WN S v0) (hq : ∀ (r : Int64) (T : HS), IV T → Gr S T → (S = T) → Q r T) : P_X11_together v0 v1 v2 v3 v4 v5 v6 Q S := by
  have g0 := gr_rf S
  obtain ⟨a1, ea1⟩ := hw
  have o_a1 := ml_ob hI o_v0 ea1
  refine u_X11_together ?_
  refine u_X11_together_0 ?_
  refine i_X11_together_6 (fun (y0 : Nat) (y1 : Int32) (y2 : Int32) (y3 : Int32) (y4 : Int32) (y5 : Int32) (y6 : Int32) (y7 : Int64) (y9 : Int32) (Z : HS) => ((2147483647 : Int32).toInt - y9.toInt).toNat) (fun (y0 : Nat) (y1 : Int32) (y2 : Int32) (y3 : Int32) (y4 : Int32) (y5 : Int32) (y6 : Int32) (y7 : Int64) (y9 : Int32) (Z : HS) => (S = Z) ∧ (v0 = y0) ∧ (v1 = y1) ∧ (v2 = y2) ∧ (v3 = y3) ∧ (v4 = y4) ∧ (v5 = y5) ∧ (v6 = y6) ∧ (0 ≤ y9)) ?_ _ _ _ _ _ _ _ _ _ _ ⟨rfl, rfl, rfl, rfl, rfl, rfl, rfl, rfl, (qm8)⟩
  intro w6 w8 w10 w12 w14 w16 w18 w20 w21 S3 X22 ⟨eS3, q7, q9, q11, q13, q15, q17, q19, i1u2⟩ ih23
  subst q7
  subst q9
  subst q11
  subst q13
  subst q15
  subst q17
  subst q19
  subst eS3
  refine u_X11_together_6 ?_
  refine ⟨fun c24 => ?_, fun c24 => ?_⟩
  · refine ⟨o_v0, ?_⟩
    refine ⟨a1, ea1, ?_⟩
    refine ⟨o_a1, ?_⟩
    obtain ⟨a26, ea26, o_a26, l_a26⟩ := shl 38 rfl hI o_a1
    refine ⟨a26, ea26, ?_⟩
    refine ⟨o_a26, ?_⟩
    refine ⟨(vin l_a26 (m := 12) (by decide) (qm623 h2 i1u2 c24)), ?_⟩
    intro x27 ex27
    refine ⟨a1, ea1, ?_⟩
    refine ⟨o_a1, ?_⟩
    obtain ⟨a29, ea29, o_a29, l_a29⟩ := shl 39 rfl hI o_a1
    refine ⟨a29, ea29, ?_⟩
    refine ⟨o_a29, ?_⟩
    refine ⟨(vin l_a29 (m := 12) (by decide) (qm623 h2 i1u2 c24)), ?_⟩
    intro x30 ex30
    refine ⟨(qm624 h4 i1u2 c24), ?_⟩
    intro x31 ex31
    exact hq _ _ hI g0 rfl
  · refine ⟨o_v0, ?_⟩
    refine ⟨a1, ea1, ?_⟩
    refine ⟨o_a1, ?_⟩
    obtain ⟨a33, ea33, o_a33, l_a33⟩ := shl 44 rfl hI o_a1
    refine ⟨a33, ea33, ?_⟩
    refine ⟨o_a33, ?_⟩
    refine ⟨(vin l_a33 (m := 4) (by decide) (qm625 h1 i1u2 c24)), ?_⟩
    intro x34 ex34
    refine m_X11_inTime hI o_v0 (qm9 h0 i1u2 c24) (qm10 h2 i1u2 c24) (qm11 h3 i1u2 c24) ⟨_, ea1⟩ (fun x35 S36 hI2 g37 p_x35 => ?_)
    subst p_x35
    intro _
    intro x39 ex39
    refine ⟨a1, ea1, ?_⟩
    refine ⟨o_a1, ?_⟩
    refine ⟨a33, ea33, ?_⟩
    refine ⟨o_a33, ?_⟩
    refine ⟨(vin l_a33 (m := 4) (by decide) (qm625 h0 i1u2 c24)), ?_⟩
    intro x42 ex42
    refine m_X11_inTime hI o_v0 (qm9 h1 i1u2 c24) (qm10 h2 i1u2 c24) (qm11 h3 i1u2 c24) ⟨_, ea1⟩ (fun x43 S44 hI2 g45 p_x43 => ?_)
    subst p_x43
    intro _
    intro x47 ex47
    intro x48 ex48
    exact ih23 _ _ _ _ _ _ _ _ _ _ ⟨rfl, rfl, rfl, rfl, rfl, rfl, rfl, rfl, (qm13 i1u2 c24 ex48)⟩ (mu_up (qm14 i1u2 c24 ex48) (qm15 i1u2 c24 ex48))
set_option maxHeartbeats 4000000 in
set_option maxRecDepth 20000 in
theorem m_X11_first {v0 : Nat} {v1 : Int32} {v2 : Int32} {v3 : Int32} {v4 : Int32} {v5 : Int32} {v6 : Int32} {Q : Int32 → HS → Prop} {S : HS} (hI : IV S) (o_v0 : ob S v0 11)     (hq : ∀ (r : Int32) (T : HS), IV T → Gr S T → FRI [(11, 0), (11, 1), (11, 2)] [] S T → Q r T) : P_X11_first v0 v1 v2 v3 v4 v5 v6 Q S := by
  have g0 := gr_rf S
  have f0 := fri_rf [(11, 0), (11, 1), (11, 2)] [] S
  refine u_X11_first ?_
  refine u_X11_first_0 ?_
  refine ⟨o_v0, ?_⟩
  intro S1 eS1
  have hIn : IV S1 := by rw [eS1]; exact iv11_sI hI o_v0 (by decide) (nu_free (by decide))
  have hI := hIn
  have f0 := fr_I eS1 g0 f0 o_v0 (by decide)
  obtain ⟨kv2, hkv2⟩ : ∃ z : Int32, z = (0 : Int32) := ⟨_, rfl⟩
  have d_kv2 := rd_Is eS1 hkv2
  have g0 := gr_I eS1 g0
  have o_v0 := ob_I eS1 o_v0
  refine u_X11_refusesTwo ?_
  refine u_X11_refusesTwo_0 ?_
  refine ⟨fun c3 => ?_, fun c3 => ?_⟩
  · intro _
    refine ⟨fun c5 => absurd (show (1 : Int32) ≤ 0 from c5) (by decide), fun c5 => ?_⟩
    refine u_X11_refused ?_
    refine u_X11_refused_0 ?_
    refine ⟨o_v0, ?_⟩
    intro S6 eS6
    have hIn : IV S6 := by rw [eS6]; exact iv11_sI hI o_v0 (by decide) (nu_free (by decide))
    have hI := hIn
    have f0 := fr_I eS6 g0 f0 o_v0 (by decide)
    have d_kv2 := rd_Ij eS6 (by decide) d_kv2
    obtain ⟨kv7, hkv7⟩ : ∃ z : Int32, z = (1 : Int32) := ⟨_, rfl⟩
    have d_kv7 := rd_Is eS6 hkv7
    have g0 := gr_I eS6 g0
    have o_v0 := ob_I eS6 o_v0
    intro S8 eS8
    have hIn : IV S8 := by rw [eS8]; exact iv11_sI hI o_v0 (by decide) (nu_free (by decide))
    have hI := hIn
    have f0 := fr_I eS8 g0 f0 o_v0 (by decide)
    have d_kv2 := rd_Ij eS8 (by decide) d_kv2
    have d_kv7 := rd_Ij eS8 (by decide) d_kv7
    obtain ⟨kv9, hkv9⟩ : ∃ z : Int32, z = (-1 : Int32) := ⟨_, rfl⟩
    have d_kv9 := rd_Is eS8 hkv9
    have g0 := gr_I eS8 g0
    have o_v0 := ob_I eS8 o_v0
    intro _
    exact hq _ _ hI g0 f0
  · refine ⟨o_v0, ?_⟩
    refine u_X11_isWalker ?_
    refine u_X11_isWalker_0 ?_
    refine ⟨o_v0, ?_⟩
    refine ⟨fun e12 => ?_, fun a11 ea11 => ?_⟩
    · intro _ _
      refine ⟨fun c14 => absurd (show ¬ (0 : Int32) = 0 from c14) (by decide), fun c14 => ?_⟩
      intro _
      refine ⟨fun c16 => absurd (show (1 : Int32) ≤ 0 from c16) (by decide), fun c16 => ?_⟩
      refine u_X11_refused ?_
      refine u_X11_refused_0 ?_
      refine ⟨o_v0, ?_⟩
      intro S17 eS17
      have hIn : IV S17 := by rw [eS17]; exact iv11_sI hI o_v0 (by decide) (nu_free (by decide))
      have hI := hIn
      have f0 := fr_I eS17 g0 f0 o_v0 (by decide)
      have d_kv2 := rd_Ij eS17 (by decide) d_kv2
      obtain ⟨kv18, hkv18⟩ : ∃ z : Int32, z = (1 : Int32) := ⟨_, rfl⟩
      have d_kv18 := rd_Is eS17 hkv18
      have g0 := gr_I eS17 g0
      have o_v0 := ob_I eS17 o_v0
      intro S19 eS19
      have hIn : IV S19 := by rw [eS19]; exact iv11_sI hI o_v0 (by decide) (nu_free (by decide))
      have hI := hIn
      have f0 := fr_I eS19 g0 f0 o_v0 (by decide)
      have d_kv2 := rd_Ij eS19 (by decide) d_kv2
      have d_kv18 := rd_Ij eS19 (by decide) d_kv18
      obtain ⟨kv20, hkv20⟩ : ∃ z : Int32, z = (-1 : Int32) := ⟨_, rfl⟩
      have d_kv20 := rd_Is eS19 hkv20
      have g0 := gr_I eS19 g0
      have o_v0 := ob_I eS19 o_v0
      intro _
      exact hq _ _ hI g0 f0
    · have o_a11 := ml_ob hI o_v0 ea11
      refine ⟨fun c22 => ?_, fun c22 => ?_⟩
      · intro _ _
        refine ⟨fun c24 => absurd (show ¬ (0 : Int32) = 0 from c24) (by decide), fun c24 => ?_⟩
        intro _
        refine ⟨fun c26 => absurd (show (1 : Int32) ≤ 0 from c26) (by decide), fun c26 => ?_⟩
        refine u_X11_refused ?_
        refine u_X11_refused_0 ?_
        refine ⟨o_v0, ?_⟩
        intro S27 eS27
        have hIn : IV S27 := by rw [eS27]; exact iv11_sI hI o_v0 (by decide) (nu_free (by decide))
        have hI := hIn
        have f0 := fr_I eS27 g0 f0 o_v0 (by decide)
        have d_kv2 := rd_Ij eS27 (by decide) d_kv2
        obtain ⟨kv28, hkv28⟩ : ∃ z : Int32, z = (1 : Int32) := ⟨_, rfl⟩
        have d_kv28 := rd_Is eS27 hkv28
        have ea11 := rf_I eS27 ea11
        have g0 := gr_I eS27 g0
        have o_a11 := ob_I eS27 o_a11
        have o_v0 := ob_I eS27 o_v0
        intro S29 eS29
        have hIn : IV S29 := by rw [eS29]; exact iv11_sI hI o_v0 (by decide) (nu_free (by decide))
        have hI := hIn
        have f0 := fr_I eS29 g0 f0 o_v0 (by decide)
        have d_kv2 := rd_Ij eS29 (by decide) d_kv2
        have d_kv28 := rd_Ij eS29 (by decide) d_kv28
        obtain ⟨kv30, hkv30⟩ : ∃ z : Int32, z = (-1 : Int32) := ⟨_, rfl⟩
        have d_kv30 := rd_Is eS29 hkv30
        have ea11 := rf_I eS29 ea11
        have g0 := gr_I eS29 g0
        have o_a11 := ob_I eS29 o_a11
        have o_v0 := ob_I eS29 o_v0
        intro _
        exact hq _ _ hI g0 f0
      · refine ⟨a11, ea11, ?_⟩
        refine ⟨o_a11, ?_⟩
        intro x33 ex33
        have r_x33 : (0 : Int32) ≤ x33 ∧ x33 ≤ (4 : Int32) := by rw [ex33]; exact nu 20 rfl hI o_a11
        have d_x33 := ex33
        refine ⟨fun c34 => ?_, fun c34 => ?_⟩
        · intro _ _
          refine ⟨fun c36 => absurd (show ¬ (0 : Int32) = 0 from c36) (by decide), fun c36 => ?_⟩
          intro _
          refine ⟨fun c38 => absurd (show (1 : Int32) ≤ 0 from c38) (by decide), fun c38 => ?_⟩
          refine u_X11_refused ?_
          refine u_X11_refused_0 ?_
          refine ⟨o_v0, ?_⟩
          intro S39 eS39
          have hIn : IV S39 := by rw [eS39]; exact iv11_sI hI o_v0 (by decide) (nu_free (by decide))
          have hI := hIn
          have f0 := fr_I eS39 g0 f0 o_v0 (by decide)
          have d_kv2 := rd_Ij eS39 (by decide) d_kv2
          have d_x33 := rd_Ik eS39 o_v0 o_a11 (by decide) d_x33
          obtain ⟨kv40, hkv40⟩ : ∃ z : Int32, z = (1 : Int32) := ⟨_, rfl⟩
          have d_kv40 := rd_Is eS39 hkv40
          have ea11 := rf_I eS39 ea11
          have g0 := gr_I eS39 g0
          have o_a11 := ob_I eS39 o_a11
          have o_v0 := ob_I eS39 o_v0
          intro S41 eS41
          have hIn : IV S41 := by rw [eS41]; exact iv11_sI hI o_v0 (by decide) (nu_free (by decide))
          have hI := hIn
          have f0 := fr_I eS41 g0 f0 o_v0 (by decide)
          have d_kv2 := rd_Ij eS41 (by decide) d_kv2
          have d_x33 := rd_Ik eS41 o_v0 o_a11 (by decide) d_x33
          have d_kv40 := rd_Ij eS41 (by decide) d_kv40
          obtain ⟨kv42, hkv42⟩ : ∃ z : Int32, z = (-1 : Int32) := ⟨_, rfl⟩
          have d_kv42 := rd_Is eS41 hkv42
          have ea11 := rf_I eS41 ea11
          have g0 := gr_I eS41 g0
          have o_a11 := ob_I eS41 o_a11
          have o_v0 := ob_I eS41 o_v0
          intro _
          exact hq _ _ hI g0 f0
        · intro _ _
          refine ⟨fun c45 => ?_, fun c45 => absurd (show (1 : Int32) = 0 from c45) (by decide)⟩
          refine u_X11_refuses ?_
          refine u_X11_refuses_0 ?_
          refine ⟨o_v0, ?_⟩
          refine u_X11_isWalker ?_
          refine u_X11_isWalker_0 ?_
          refine ⟨o_v0, ?_⟩
          refine ⟨fun e47 => (nomatch (e47.symm.trans ea11)), fun a46 ea46 => ?_⟩
          obtain rfl : a11 = a46 := Option.some.inj (ea11.symm.trans ea46)
          refine ⟨fun c48 => ?_, fun c48 => ?_⟩
          · intro _ _
            refine ⟨fun c50 => ?_, fun c50 => absurd (show ¬ (0 : Int32) = 0 from c50) (by decide)⟩
            intro _
            refine ⟨fun c52 => absurd (show (1 : Int32) ≤ 0 from c52) (by decide), fun c52 => ?_⟩
            intro _
            refine ⟨fun c54 => absurd (show (1 : Int32) ≤ 0 from c54) (by decide), fun c54 => ?_⟩
            refine u_X11_refused ?_
            refine u_X11_refused_0 ?_
            refine ⟨o_v0, ?_⟩
            intro S55 eS55
            have hIn : IV S55 := by rw [eS55]; exact iv11_sI hI o_v0 (by decide) (nu_free (by decide))
            have hI := hIn
            have f0 := fr_I eS55 g0 f0 o_v0 (by decide)
            have d_kv2 := rd_Ij eS55 (by decide) d_kv2
            have d_x33 := rd_Ik eS55 o_v0 o_a11 (by decide) d_x33
            obtain ⟨kv56, hkv56⟩ : ∃ z : Int32, z = (1 : Int32) := ⟨_, rfl⟩
            have d_kv56 := rd_Is eS55 hkv56
            have ea11 := rf_I eS55 ea11
            have g0 := gr_I eS55 g0
            have o_a11 := ob_I eS55 o_a11
            have o_v0 := ob_I eS55 o_v0
            intro S57 eS57
            have hIn : IV S57 := by rw [eS57]; exact iv11_sI hI o_v0 (by decide) (nu_free (by decide))
            have hI := hIn
            have f0 := fr_I eS57 g0 f0 o_v0 (by decide)
            have d_kv2 := rd_Ij eS57 (by decide) d_kv2
            have d_x33 := rd_Ik eS57 o_v0 o_a11 (by decide) d_x33
            have d_kv56 := rd_Ij eS57 (by decide) d_kv56
            obtain ⟨kv58, hkv58⟩ : ∃ z : Int32, z = (-1 : Int32) := ⟨_, rfl⟩
            have d_kv58 := rd_Is eS57 hkv58
            have ea11 := rf_I eS57 ea11
            have g0 := gr_I eS57 g0
            have o_a11 := ob_I eS57 o_a11
            have o_v0 := ob_I eS57 o_v0
            intro _
            exact hq _ _ hI g0 f0
          · refine ⟨a11, ea11, ?_⟩
            refine ⟨o_a11, ?_⟩
            intro x61 ex61
            have r_x61 : (0 : Int32) ≤ x61 ∧ x61 ≤ (4 : Int32) := by rw [ex61]; exact nu 20 rfl hI o_a11
            have q_x61 : x61 = x33 := ex61.trans d_x33.symm
            have d_x61 := ex61
            refine ⟨fun c62 => ?_, fun c62 => ?_⟩
            · intro _ _
              refine ⟨fun c64 => ?_, fun c64 => absurd (show ¬ (0 : Int32) = 0 from c64) (by decide)⟩
              intro _
              refine ⟨fun c66 => absurd (show (1 : Int32) ≤ 0 from c66) (by decide), fun c66 => ?_⟩
              intro _
              refine ⟨fun c68 => absurd (show (1 : Int32) ≤ 0 from c68) (by decide), fun c68 => ?_⟩
              refine u_X11_refused ?_
              refine u_X11_refused_0 ?_
              refine ⟨o_v0, ?_⟩
              intro S69 eS69
              have hIn : IV S69 := by rw [eS69]; exact iv11_sI hI o_v0 (by decide) (nu_free (by decide))
              have hI := hIn
              have f0 := fr_I eS69 g0 f0 o_v0 (by decide)
              have d_kv2 := rd_Ij eS69 (by decide) d_kv2
              have d_x61 := rd_Ik eS69 o_v0 o_a11 (by decide) d_x61
              obtain ⟨kv70, hkv70⟩ : ∃ z : Int32, z = (1 : Int32) := ⟨_, rfl⟩
              have d_kv70 := rd_Is eS69 hkv70
              have ea11 := rf_I eS69 ea11
              have g0 := gr_I eS69 g0
              have o_a11 := ob_I eS69 o_a11
              have o_v0 := ob_I eS69 o_v0
              intro S71 eS71
              have hIn : IV S71 := by rw [eS71]; exact iv11_sI hI o_v0 (by decide) (nu_free (by decide))
              have hI := hIn
              have f0 := fr_I eS71 g0 f0 o_v0 (by decide)
              have d_kv2 := rd_Ij eS71 (by decide) d_kv2
              have d_x61 := rd_Ik eS71 o_v0 o_a11 (by decide) d_x61
              have d_kv70 := rd_Ij eS71 (by decide) d_kv70
              obtain ⟨kv72, hkv72⟩ : ∃ z : Int32, z = (-1 : Int32) := ⟨_, rfl⟩
              have d_kv72 := rd_Is eS71 hkv72
              have ea11 := rf_I eS71 ea11
              have g0 := gr_I eS71 g0
              have o_a11 := ob_I eS71 o_a11
              have o_v0 := ob_I eS71 o_v0
              intro _
              exact hq _ _ hI g0 f0
            · intro _ _
              refine ⟨fun c75 => absurd (show (1 : Int32) = 0 from c75) (by decide), fun c75 => ?_⟩
              refine u_X11_isRoad ?_
              refine u_X11_isRoad_0 ?_
              refine ⟨o_v0, ?_⟩
              refine ⟨fun e77 => (nomatch (e77.symm.trans ea11)), fun a76 ea76 => ?_⟩
              obtain rfl : a11 = a76 := Option.some.inj (ea11.symm.trans ea76)
              refine ⟨fun c78 => ?_, fun c78 => ?_⟩
              · intro _ _
                refine ⟨fun c80 => ?_, fun c80 => absurd (show ¬ (0 : Int32) = 0 from c80) (by decide)⟩
                intro _
                refine ⟨fun c82 => absurd (show (1 : Int32) ≤ 0 from c82) (by decide), fun c82 => ?_⟩
                intro _
                refine ⟨fun c84 => absurd (show (1 : Int32) ≤ 0 from c84) (by decide), fun c84 => ?_⟩
                refine u_X11_refused ?_
                refine u_X11_refused_0 ?_
                refine ⟨o_v0, ?_⟩
                intro S85 eS85
                have hIn : IV S85 := by rw [eS85]; exact iv11_sI hI o_v0 (by decide) (nu_free (by decide))
                have hI := hIn
                have f0 := fr_I eS85 g0 f0 o_v0 (by decide)
                have d_kv2 := rd_Ij eS85 (by decide) d_kv2
                have d_x61 := rd_Ik eS85 o_v0 o_a11 (by decide) d_x61
                obtain ⟨kv86, hkv86⟩ : ∃ z : Int32, z = (1 : Int32) := ⟨_, rfl⟩
                have d_kv86 := rd_Is eS85 hkv86
                have ea11 := rf_I eS85 ea11
                have g0 := gr_I eS85 g0
                have o_a11 := ob_I eS85 o_a11
                have o_v0 := ob_I eS85 o_v0
                intro S87 eS87
                have hIn : IV S87 := by rw [eS87]; exact iv11_sI hI o_v0 (by decide) (nu_free (by decide))
                have hI := hIn
                have f0 := fr_I eS87 g0 f0 o_v0 (by decide)
                have d_kv2 := rd_Ij eS87 (by decide) d_kv2
                have d_x61 := rd_Ik eS87 o_v0 o_a11 (by decide) d_x61
                have d_kv86 := rd_Ij eS87 (by decide) d_kv86
                obtain ⟨kv88, hkv88⟩ : ∃ z : Int32, z = (-1 : Int32) := ⟨_, rfl⟩
                have d_kv88 := rd_Is eS87 hkv88
                have ea11 := rf_I eS87 ea11
                have g0 := gr_I eS87 g0
                have o_a11 := ob_I eS87 o_a11
                have o_v0 := ob_I eS87 o_v0
                intro _
                exact hq _ _ hI g0 f0
              · refine ⟨a11, ea11, ?_⟩
                refine ⟨o_a11, ?_⟩
                intro x91 ex91
                have r_x91 : (0 : Int32) ≤ x91 ∧ x91 ≤ (12 : Int32) := by rw [ex91]; exact nu 19 rfl hI o_a11
                have d_x91 := ex91
                refine ⟨fun c92 => ?_, fun c92 => ?_⟩
                · intro _ _
                  refine ⟨fun c94 => ?_, fun c94 => absurd (show ¬ (0 : Int32) = 0 from c94) (by decide)⟩
                  intro _
                  refine ⟨fun c96 => absurd (show (1 : Int32) ≤ 0 from c96) (by decide), fun c96 => ?_⟩
                  intro _
                  refine ⟨fun c98 => absurd (show (1 : Int32) ≤ 0 from c98) (by decide), fun c98 => ?_⟩
                  refine u_X11_refused ?_
                  refine u_X11_refused_0 ?_
                  refine ⟨o_v0, ?_⟩
                  intro S99 eS99
                  have hIn : IV S99 := by rw [eS99]; exact iv11_sI hI o_v0 (by decide) (nu_free (by decide))
                  have hI := hIn
                  have f0 := fr_I eS99 g0 f0 o_v0 (by decide)
                  have d_kv2 := rd_Ij eS99 (by decide) d_kv2
                  have d_x61 := rd_Ik eS99 o_v0 o_a11 (by decide) d_x61
                  have d_x91 := rd_Ik eS99 o_v0 o_a11 (by decide) d_x91
                  obtain ⟨kv100, hkv100⟩ : ∃ z : Int32, z = (1 : Int32) := ⟨_, rfl⟩
                  have d_kv100 := rd_Is eS99 hkv100
                  have ea11 := rf_I eS99 ea11
                  have g0 := gr_I eS99 g0
                  have o_a11 := ob_I eS99 o_a11
                  have o_v0 := ob_I eS99 o_v0
                  intro S101 eS101
                  have hIn : IV S101 := by rw [eS101]; exact iv11_sI hI o_v0 (by decide) (nu_free (by decide))
                  have hI := hIn
                  have f0 := fr_I eS101 g0 f0 o_v0 (by decide)
                  have d_kv2 := rd_Ij eS101 (by decide) d_kv2
                  have d_x61 := rd_Ik eS101 o_v0 o_a11 (by decide) d_x61
                  have d_x91 := rd_Ik eS101 o_v0 o_a11 (by decide) d_x91
                  have d_kv100 := rd_Ij eS101 (by decide) d_kv100
                  obtain ⟨kv102, hkv102⟩ : ∃ z : Int32, z = (-1 : Int32) := ⟨_, rfl⟩
                  have d_kv102 := rd_Is eS101 hkv102
                  have ea11 := rf_I eS101 ea11
                  have g0 := gr_I eS101 g0
                  have o_a11 := ob_I eS101 o_a11
                  have o_v0 := ob_I eS101 o_v0
                  intro _
                  exact hq _ _ hI g0 f0
                · intro _ _
                  refine ⟨fun c105 => absurd (show (1 : Int32) = 0 from c105) (by decide), fun c105 => ?_⟩
                  refine u_X11_in ?_
                  refine u_X11_in_0 ?_
                  refine ⟨fun c106 => ?_, fun c106 => ?_⟩
                  · intro _ _
                    refine ⟨fun c108 => ?_, fun c108 => absurd (show ¬ (0 : Int32) = 0 from c108) (by decide)⟩
                    intro _
                    refine ⟨fun c110 => absurd (show (1 : Int32) ≤ 0 from c110) (by decide), fun c110 => ?_⟩
                    intro _
                    refine ⟨fun c112 => absurd (show (1 : Int32) ≤ 0 from c112) (by decide), fun c112 => ?_⟩
                    refine u_X11_refused ?_
                    refine u_X11_refused_0 ?_
                    refine ⟨o_v0, ?_⟩
                    intro S113 eS113
                    have hIn : IV S113 := by rw [eS113]; exact iv11_sI hI o_v0 (by decide) (nu_free (by decide))
                    have hI := hIn
                    have f0 := fr_I eS113 g0 f0 o_v0 (by decide)
                    have d_kv2 := rd_Ij eS113 (by decide) d_kv2
                    have d_x61 := rd_Ik eS113 o_v0 o_a11 (by decide) d_x61
                    have d_x91 := rd_Ik eS113 o_v0 o_a11 (by decide) d_x91
                    obtain ⟨kv114, hkv114⟩ : ∃ z : Int32, z = (1 : Int32) := ⟨_, rfl⟩
                    have d_kv114 := rd_Is eS113 hkv114
                    have ea11 := rf_I eS113 ea11
                    have g0 := gr_I eS113 g0
                    have o_a11 := ob_I eS113 o_a11
                    have o_v0 := ob_I eS113 o_v0
                    intro S115 eS115
                    have hIn : IV S115 := by rw [eS115]; exact iv11_sI hI o_v0 (by decide) (nu_free (by decide))
                    have hI := hIn
                    have f0 := fr_I eS115 g0 f0 o_v0 (by decide)
                    have d_kv2 := rd_Ij eS115 (by decide) d_kv2
                    have d_x61 := rd_Ik eS115 o_v0 o_a11 (by decide) d_x61
                    have d_x91 := rd_Ik eS115 o_v0 o_a11 (by decide) d_x91
                    have d_kv114 := rd_Ij eS115 (by decide) d_kv114
                    obtain ⟨kv116, hkv116⟩ : ∃ z : Int32, z = (-1 : Int32) := ⟨_, rfl⟩
                    have d_kv116 := rd_Is eS115 hkv116
                    have ea11 := rf_I eS115 ea11
                    have g0 := gr_I eS115 g0
                    have o_a11 := ob_I eS115 o_a11
                    have o_v0 := ob_I eS115 o_v0
                    intro _
                    exact hq _ _ hI g0 f0
                  · refine ⟨fun c118 => ?_, fun c118 => ?_⟩
                    · intro _ _
                      refine ⟨fun c120 => ?_, fun c120 => absurd (show ¬ (0 : Int32) = 0 from c120) (by decide)⟩
                      intro _
                      refine ⟨fun c122 => absurd (show (1 : Int32) ≤ 0 from c122) (by decide), fun c122 => ?_⟩
                      intro _
                      refine ⟨fun c124 => absurd (show (1 : Int32) ≤ 0 from c124) (by decide), fun c124 => ?_⟩
                      refine u_X11_refused ?_
                      refine u_X11_refused_0 ?_
                      refine ⟨o_v0, ?_⟩
                      intro S125 eS125
                      have hIn : IV S125 := by rw [eS125]; exact iv11_sI hI o_v0 (by decide) (nu_free (by decide))
                      have hI := hIn
                      have f0 := fr_I eS125 g0 f0 o_v0 (by decide)
                      have d_kv2 := rd_Ij eS125 (by decide) d_kv2
                      have d_x61 := rd_Ik eS125 o_v0 o_a11 (by decide) d_x61
                      have d_x91 := rd_Ik eS125 o_v0 o_a11 (by decide) d_x91
                      obtain ⟨kv126, hkv126⟩ : ∃ z : Int32, z = (1 : Int32) := ⟨_, rfl⟩
                      have d_kv126 := rd_Is eS125 hkv126
                      have ea11 := rf_I eS125 ea11
                      have g0 := gr_I eS125 g0
                      have o_a11 := ob_I eS125 o_a11
                      have o_v0 := ob_I eS125 o_v0
                      intro S127 eS127
                      have hIn : IV S127 := by rw [eS127]; exact iv11_sI hI o_v0 (by decide) (nu_free (by decide))
                      have hI := hIn
                      have f0 := fr_I eS127 g0 f0 o_v0 (by decide)
                      have d_kv2 := rd_Ij eS127 (by decide) d_kv2
                      have d_x61 := rd_Ik eS127 o_v0 o_a11 (by decide) d_x61
                      have d_x91 := rd_Ik eS127 o_v0 o_a11 (by decide) d_x91
                      have d_kv126 := rd_Ij eS127 (by decide) d_kv126
                      obtain ⟨kv128, hkv128⟩ : ∃ z : Int32, z = (-1 : Int32) := ⟨_, rfl⟩
                      have d_kv128 := rd_Is eS127 hkv128
                      have ea11 := rf_I eS127 ea11
                      have g0 := gr_I eS127 g0
                      have o_a11 := ob_I eS127 o_a11
                      have o_v0 := ob_I eS127 o_v0
                      intro _
                      exact hq _ _ hI g0 f0
                    · intro _ _
                      refine ⟨fun c131 => absurd (show (1 : Int32) = 0 from c131) (by decide), fun c131 => ?_⟩
                      refine u_X11_isHour ?_
                      refine u_X11_isHour_0 ?_
                      refine ⟨o_v0, ?_⟩
                      refine ⟨fun e133 => (nomatch (e133.symm.trans ea11)), fun a132 ea132 => ?_⟩
                      obtain rfl : a11 = a132 := Option.some.inj (ea11.symm.trans ea132)
                      refine ⟨fun c134 => ?_, fun c134 => ?_⟩
                      · intro _ _
                        refine ⟨fun c136 => absurd (show ¬ (0 : Int32) = 0 from c136) (by decide), fun c136 => ?_⟩
                        intro _
                        refine ⟨fun c138 => absurd (show (1 : Int32) ≤ 0 from c138) (by decide), fun c138 => ?_⟩
                        intro _
                        refine ⟨fun c140 => absurd (show (1 : Int32) ≤ 0 from c140) (by decide), fun c140 => ?_⟩
                        refine u_X11_refused ?_
                        refine u_X11_refused_0 ?_
                        refine ⟨o_v0, ?_⟩
                        intro S141 eS141
                        have hIn : IV S141 := by rw [eS141]; exact iv11_sI hI o_v0 (by decide) (nu_free (by decide))
                        have hI := hIn
                        have f0 := fr_I eS141 g0 f0 o_v0 (by decide)
                        have d_kv2 := rd_Ij eS141 (by decide) d_kv2
                        have d_x61 := rd_Ik eS141 o_v0 o_a11 (by decide) d_x61
                        have d_x91 := rd_Ik eS141 o_v0 o_a11 (by decide) d_x91
                        obtain ⟨kv142, hkv142⟩ : ∃ z : Int32, z = (1 : Int32) := ⟨_, rfl⟩
                        have d_kv142 := rd_Is eS141 hkv142
                        have ea11 := rf_I eS141 ea11
                        have g0 := gr_I eS141 g0
                        have o_a11 := ob_I eS141 o_a11
                        have o_v0 := ob_I eS141 o_v0
                        intro S143 eS143
                        have hIn : IV S143 := by rw [eS143]; exact iv11_sI hI o_v0 (by decide) (nu_free (by decide))
                        have hI := hIn
                        have f0 := fr_I eS143 g0 f0 o_v0 (by decide)
                        have d_kv2 := rd_Ij eS143 (by decide) d_kv2
                        have d_x61 := rd_Ik eS143 o_v0 o_a11 (by decide) d_x61
                        have d_x91 := rd_Ik eS143 o_v0 o_a11 (by decide) d_x91
                        have d_kv142 := rd_Ij eS143 (by decide) d_kv142
                        obtain ⟨kv144, hkv144⟩ : ∃ z : Int32, z = (-1 : Int32) := ⟨_, rfl⟩
                        have d_kv144 := rd_Is eS143 hkv144
                        have ea11 := rf_I eS143 ea11
                        have g0 := gr_I eS143 g0
                        have o_a11 := ob_I eS143 o_a11
                        have o_v0 := ob_I eS143 o_v0
                        intro _
                        exact hq _ _ hI g0 f0
                      · refine ⟨a11, ea11, ?_⟩
                        refine ⟨o_a11, ?_⟩
                        intro x147 ex147
                        have r_x147 : (0 : Int32) ≤ x147 ∧ x147 ≤ (6 : Int32) := by rw [ex147]; exact nu 17 rfl hI o_a11
                        have d_x147 := ex147
                        refine ⟨fun c148 => ?_, fun c148 => ?_⟩
                        · intro _ _
                          refine ⟨fun c150 => absurd (show ¬ (0 : Int32) = 0 from c150) (by decide), fun c150 => ?_⟩
                          intro _
                          refine ⟨fun c152 => absurd (show (1 : Int32) ≤ 0 from c152) (by decide), fun c152 => ?_⟩
                          intro _
                          refine ⟨fun c154 => absurd (show (1 : Int32) ≤ 0 from c154) (by decide), fun c154 => ?_⟩
                          refine u_X11_refused ?_
                          refine u_X11_refused_0 ?_
                          refine ⟨o_v0, ?_⟩
                          intro S155 eS155
                          have hIn : IV S155 := by rw [eS155]; exact iv11_sI hI o_v0 (by decide) (nu_free (by decide))
                          have hI := hIn
                          have f0 := fr_I eS155 g0 f0 o_v0 (by decide)
                          have d_kv2 := rd_Ij eS155 (by decide) d_kv2
                          have d_x61 := rd_Ik eS155 o_v0 o_a11 (by decide) d_x61
                          have d_x91 := rd_Ik eS155 o_v0 o_a11 (by decide) d_x91
                          have d_x147 := rd_Ik eS155 o_v0 o_a11 (by decide) d_x147
                          obtain ⟨kv156, hkv156⟩ : ∃ z : Int32, z = (1 : Int32) := ⟨_, rfl⟩
                          have d_kv156 := rd_Is eS155 hkv156
                          have ea11 := rf_I eS155 ea11
                          have g0 := gr_I eS155 g0
                          have o_a11 := ob_I eS155 o_a11
                          have o_v0 := ob_I eS155 o_v0
                          intro S157 eS157
                          have hIn : IV S157 := by rw [eS157]; exact iv11_sI hI o_v0 (by decide) (nu_free (by decide))
                          have hI := hIn
                          have f0 := fr_I eS157 g0 f0 o_v0 (by decide)
                          have d_kv2 := rd_Ij eS157 (by decide) d_kv2
                          have d_x61 := rd_Ik eS157 o_v0 o_a11 (by decide) d_x61
                          have d_x91 := rd_Ik eS157 o_v0 o_a11 (by decide) d_x91
                          have d_x147 := rd_Ik eS157 o_v0 o_a11 (by decide) d_x147
                          have d_kv156 := rd_Ij eS157 (by decide) d_kv156
                          obtain ⟨kv158, hkv158⟩ : ∃ z : Int32, z = (-1 : Int32) := ⟨_, rfl⟩
                          have d_kv158 := rd_Is eS157 hkv158
                          have ea11 := rf_I eS157 ea11
                          have g0 := gr_I eS157 g0
                          have o_a11 := ob_I eS157 o_a11
                          have o_v0 := ob_I eS157 o_v0
                          intro _
                          exact hq _ _ hI g0 f0
                        · intro _ _
                          refine ⟨fun c161 => ?_, fun c161 => absurd (show (1 : Int32) = 0 from c161) (by decide)⟩
                          refine u_X11_isSpeed ?_
                          refine u_X11_isSpeed_0 ?_
                          refine ⟨o_v0, ?_⟩
                          refine ⟨a11, ea11, ?_⟩
                          refine ⟨o_a11, ?_⟩
                          obtain ⟨a163, ea163, o_a163, l_a163⟩ := shl 46 rfl hI o_a11
                          refine ⟨a163, ea163, ?_⟩
                          refine ⟨o_a163, ?_⟩
                          refine ⟨(vin l_a163 (m := 4) (by decide) (qm614 c3 c22 r_x33 c34 c48 r_x61 q_x61 c62 c78 r_x91 c92 c106 c118 c134 r_x147 c148)), ?_⟩
                          intro x164 ex164
                          have gy_x164 : 0 ≤ v1 ∧ v1 < fI S1 a11 4 := by rw [← d_x61]; exact (qm615 c3 c22 r_x33 c34 c48 r_x61 q_x61 c62 c78 r_x91 c92 c106 c118 c134 r_x147 c148)
                          have g_x164 : (1 : Int32) ≤ x164 ∧ x164 ≤ (9 : Int32) := by rw [ex164]; exact wg_at (ml_wg hI o_v0 ea11) 3 rfl gy_x164 ea163
                          refine ⟨a11, ea11, ?_⟩
                          refine ⟨o_a11, ?_⟩
                          obtain ⟨a166, ea166, o_a166, l_a166⟩ := shl 47 rfl hI o_a11
                          refine ⟨a166, ea166, ?_⟩
                          refine ⟨o_a166, ?_⟩
                          refine ⟨(vin l_a166 (m := 4) (by decide) (qm614 c3 c22 r_x33 c34 c48 r_x61 q_x61 c62 c78 r_x91 c92 c106 c118 c134 r_x147 c148)), ?_⟩
                          intro x167 ex167
                          have gy_x167 : 0 ≤ v1 ∧ v1 < fI S1 a11 4 := by rw [← d_x61]; exact (qm615 c3 c22 r_x33 c34 c48 r_x61 q_x61 c62 c78 r_x91 c92 c106 c118 c134 r_x147 c148)
                          have g_x167 : (0 : Int32) ≤ x167 ∧ x167 ≤ (9 : Int32) := by rw [ex167]; exact wg_at (ml_wg hI o_v0 ea11) 4 rfl gy_x167 ea166
                          refine u_X11_in ?_
                          refine u_X11_in_0 ?_
                          refine ⟨fun c168 => ?_, fun c168 => ?_⟩
                          · intro _ _
                            refine ⟨(Or.inl rfl), ?_⟩
                            intro _ _
                            refine ⟨fun c171 => ?_, fun c171 => absurd (show ¬ (0 : Int32) = 0 from c171) (by decide)⟩
                            intro _
                            refine ⟨fun c173 => absurd (show (2 : Int32) ≤ 0 from c173) (by decide), fun c173 => ?_⟩
                            intro _
                            refine ⟨fun c175 => absurd (show (2 : Int32) ≤ 0 from c175) (by decide), fun c175 => ?_⟩
                            refine u_X11_refused ?_
                            refine u_X11_refused_0 ?_
                            refine ⟨o_v0, ?_⟩
                            intro S176 eS176
                            have hIn : IV S176 := by rw [eS176]; exact iv11_sI hI o_v0 (by decide) (nu_free (by decide))
                            have hI := hIn
                            have f0 := fr_I eS176 g0 f0 o_v0 (by decide)
                            have d_kv2 := rd_Ij eS176 (by decide) d_kv2
                            have d_x61 := rd_Ik eS176 o_v0 o_a11 (by decide) d_x61
                            have d_x91 := rd_Ik eS176 o_v0 o_a11 (by decide) d_x91
                            have d_x147 := rd_Ik eS176 o_v0 o_a11 (by decide) d_x147
                            obtain ⟨kv177, hkv177⟩ : ∃ z : Int32, z = (2 : Int32) := ⟨_, rfl⟩
                            have d_kv177 := rd_Is eS176 hkv177
                            have ea11 := rf_I eS176 ea11
                            have ea163 := rf_I eS176 ea163
                            have ea166 := rf_I eS176 ea166
                            have l_a163 := ln_I eS176 l_a163
                            have l_a166 := ln_I eS176 l_a166
                            have g0 := gr_I eS176 g0
                            have o_a11 := ob_I eS176 o_a11
                            have o_a163 := ob_I eS176 o_a163
                            have o_a166 := ob_I eS176 o_a166
                            have o_v0 := ob_I eS176 o_v0
                            intro S178 eS178
                            have hIn : IV S178 := by rw [eS178]; exact iv11_sI hI o_v0 (by decide) (nu_free (by decide))
                            have hI := hIn
                            have f0 := fr_I eS178 g0 f0 o_v0 (by decide)
                            have d_kv2 := rd_Ij eS178 (by decide) d_kv2
                            have d_x61 := rd_Ik eS178 o_v0 o_a11 (by decide) d_x61
                            have d_x91 := rd_Ik eS178 o_v0 o_a11 (by decide) d_x91
                            have d_x147 := rd_Ik eS178 o_v0 o_a11 (by decide) d_x147
                            have d_kv177 := rd_Ij eS178 (by decide) d_kv177
                            obtain ⟨kv179, hkv179⟩ : ∃ z : Int32, z = (-1 : Int32) := ⟨_, rfl⟩
                            have d_kv179 := rd_Is eS178 hkv179
                            have ea11 := rf_I eS178 ea11
                            have ea163 := rf_I eS178 ea163
                            have ea166 := rf_I eS178 ea166
                            have l_a163 := ln_I eS178 l_a163
                            have l_a166 := ln_I eS178 l_a166
                            have g0 := gr_I eS178 g0
                            have o_a11 := ob_I eS178 o_a11
                            have o_a163 := ob_I eS178 o_a163
                            have o_a166 := ob_I eS178 o_a166
                            have o_v0 := ob_I eS178 o_v0
                            intro _
                            exact hq _ _ hI g0 f0
                          · refine ⟨fun c181 => ?_, fun c181 => ?_⟩
                            · intro _ _
                              refine ⟨(Or.inl rfl), ?_⟩
                              intro _ _
                              refine ⟨fun c184 => ?_, fun c184 => absurd (show ¬ (0 : Int32) = 0 from c184) (by decide)⟩
                              intro _
                              refine ⟨fun c186 => absurd (show (2 : Int32) ≤ 0 from c186) (by decide), fun c186 => ?_⟩
                              intro _
                              refine ⟨fun c188 => absurd (show (2 : Int32) ≤ 0 from c188) (by decide), fun c188 => ?_⟩
                              refine u_X11_refused ?_
                              refine u_X11_refused_0 ?_
                              refine ⟨o_v0, ?_⟩
                              intro S189 eS189
                              have hIn : IV S189 := by rw [eS189]; exact iv11_sI hI o_v0 (by decide) (nu_free (by decide))
                              have hI := hIn
                              have f0 := fr_I eS189 g0 f0 o_v0 (by decide)
                              have d_kv2 := rd_Ij eS189 (by decide) d_kv2
                              have d_x61 := rd_Ik eS189 o_v0 o_a11 (by decide) d_x61
                              have d_x91 := rd_Ik eS189 o_v0 o_a11 (by decide) d_x91
                              have d_x147 := rd_Ik eS189 o_v0 o_a11 (by decide) d_x147
                              obtain ⟨kv190, hkv190⟩ : ∃ z : Int32, z = (2 : Int32) := ⟨_, rfl⟩
                              have d_kv190 := rd_Is eS189 hkv190
                              have ea11 := rf_I eS189 ea11
                              have ea163 := rf_I eS189 ea163
                              have ea166 := rf_I eS189 ea166
                              have l_a163 := ln_I eS189 l_a163
                              have l_a166 := ln_I eS189 l_a166
                              have g0 := gr_I eS189 g0
                              have o_a11 := ob_I eS189 o_a11
                              have o_a163 := ob_I eS189 o_a163
                              have o_a166 := ob_I eS189 o_a166
                              have o_v0 := ob_I eS189 o_v0
                              intro S191 eS191
                              have hIn : IV S191 := by rw [eS191]; exact iv11_sI hI o_v0 (by decide) (nu_free (by decide))
                              have hI := hIn
                              have f0 := fr_I eS191 g0 f0 o_v0 (by decide)
                              have d_kv2 := rd_Ij eS191 (by decide) d_kv2
                              have d_x61 := rd_Ik eS191 o_v0 o_a11 (by decide) d_x61
                              have d_x91 := rd_Ik eS191 o_v0 o_a11 (by decide) d_x91
                              have d_x147 := rd_Ik eS191 o_v0 o_a11 (by decide) d_x147
                              have d_kv190 := rd_Ij eS191 (by decide) d_kv190
                              obtain ⟨kv192, hkv192⟩ : ∃ z : Int32, z = (-1 : Int32) := ⟨_, rfl⟩
                              have d_kv192 := rd_Is eS191 hkv192
                              have ea11 := rf_I eS191 ea11
                              have ea163 := rf_I eS191 ea163
                              have ea166 := rf_I eS191 ea166
                              have l_a163 := ln_I eS191 l_a163
                              have l_a166 := ln_I eS191 l_a166
                              have g0 := gr_I eS191 g0
                              have o_a11 := ob_I eS191 o_a11
                              have o_a163 := ob_I eS191 o_a163
                              have o_a166 := ob_I eS191 o_a166
                              have o_v0 := ob_I eS191 o_v0
                              intro _
                              exact hq _ _ hI g0 f0
                            · intro _ _
                              refine ⟨(Or.inr rfl), ?_⟩
                              intro _ _
                              refine ⟨fun c196 => absurd (show (1 : Int32) = 0 from c196) (by decide), fun c196 => ?_⟩
                              intro _
                              refine ⟨fun c198 => ?_, fun c198 => absurd (show ¬ (0 : Int32) ≤ 0 from c198) (by decide)⟩
                              refine u_X11_isSpeed ?_
                              refine u_X11_isSpeed_0 ?_
                              refine ⟨o_v0, ?_⟩
                              refine ⟨a11, ea11, ?_⟩
                              refine ⟨o_a11, ?_⟩
                              refine ⟨a163, ea163, ?_⟩
                              refine ⟨o_a163, ?_⟩
                              refine ⟨(vin l_a163 (m := 4) (by decide) (qm616 c3 c22 r_x33 c34 c48 r_x61 q_x61 c62 c78 r_x91 c92 c106 c118 c134 r_x147 c148 g_x164 g_x167 c168 c181)), ?_⟩
                              intro x201 ex201
                              have gy_x201 : 0 ≤ v2 ∧ v2 < fI S1 a11 4 := by rw [← d_x61]; exact (qm617 c3 c22 r_x33 c34 c48 r_x61 q_x61 c62 c78 r_x91 c92 c106 c118 c134 r_x147 c148 g_x164 g_x167 c168 c181)
                              have g_x201 : (1 : Int32) ≤ x201 ∧ x201 ≤ (9 : Int32) := by rw [ex201]; exact wg_at (ml_wg hI o_v0 ea11) 3 rfl gy_x201 ea163
                              refine ⟨a11, ea11, ?_⟩
                              refine ⟨o_a11, ?_⟩
                              refine ⟨a166, ea166, ?_⟩
                              refine ⟨o_a166, ?_⟩
                              refine ⟨(vin l_a166 (m := 4) (by decide) (qm616 c3 c22 r_x33 c34 c48 r_x61 q_x61 c62 c78 r_x91 c92 c106 c118 c134 r_x147 c148 g_x164 g_x167 c168 c181)), ?_⟩
                              intro x204 ex204
                              have gy_x204 : 0 ≤ v2 ∧ v2 < fI S1 a11 4 := by rw [← d_x61]; exact (qm617 c3 c22 r_x33 c34 c48 r_x61 q_x61 c62 c78 r_x91 c92 c106 c118 c134 r_x147 c148 g_x164 g_x167 c168 c181)
                              have g_x204 : (0 : Int32) ≤ x204 ∧ x204 ≤ (9 : Int32) := by rw [ex204]; exact wg_at (ml_wg hI o_v0 ea11) 4 rfl gy_x204 ea166
                              refine u_X11_in ?_
                              refine u_X11_in_0 ?_
                              refine ⟨fun c205 => ?_, fun c205 => ?_⟩
                              · intro _ _
                                refine ⟨(Or.inl rfl), ?_⟩
                                intro _ _
                                refine ⟨fun c208 => ?_, fun c208 => absurd (show ¬ (0 : Int32) = 0 from c208) (by decide)⟩
                                intro _
                                refine ⟨fun c210 => absurd (show (2 : Int32) ≤ 0 from c210) (by decide), fun c210 => ?_⟩
                                refine u_X11_refused ?_
                                refine u_X11_refused_0 ?_
                                refine ⟨o_v0, ?_⟩
                                intro S211 eS211
                                have hIn : IV S211 := by rw [eS211]; exact iv11_sI hI o_v0 (by decide) (nu_free (by decide))
                                have hI := hIn
                                have f0 := fr_I eS211 g0 f0 o_v0 (by decide)
                                have d_kv2 := rd_Ij eS211 (by decide) d_kv2
                                have d_x61 := rd_Ik eS211 o_v0 o_a11 (by decide) d_x61
                                have d_x91 := rd_Ik eS211 o_v0 o_a11 (by decide) d_x91
                                have d_x147 := rd_Ik eS211 o_v0 o_a11 (by decide) d_x147
                                obtain ⟨kv212, hkv212⟩ : ∃ z : Int32, z = (2 : Int32) := ⟨_, rfl⟩
                                have d_kv212 := rd_Is eS211 hkv212
                                have ea11 := rf_I eS211 ea11
                                have ea163 := rf_I eS211 ea163
                                have ea166 := rf_I eS211 ea166
                                have l_a163 := ln_I eS211 l_a163
                                have l_a166 := ln_I eS211 l_a166
                                have g0 := gr_I eS211 g0
                                have o_a11 := ob_I eS211 o_a11
                                have o_a163 := ob_I eS211 o_a163
                                have o_a166 := ob_I eS211 o_a166
                                have o_v0 := ob_I eS211 o_v0
                                intro S213 eS213
                                have hIn : IV S213 := by rw [eS213]; exact iv11_sI hI o_v0 (by decide) (nu_free (by decide))
                                have hI := hIn
                                have f0 := fr_I eS213 g0 f0 o_v0 (by decide)
                                have d_kv2 := rd_Ij eS213 (by decide) d_kv2
                                have d_x61 := rd_Ik eS213 o_v0 o_a11 (by decide) d_x61
                                have d_x91 := rd_Ik eS213 o_v0 o_a11 (by decide) d_x91
                                have d_x147 := rd_Ik eS213 o_v0 o_a11 (by decide) d_x147
                                have d_kv212 := rd_Ij eS213 (by decide) d_kv212
                                obtain ⟨kv214, hkv214⟩ : ∃ z : Int32, z = (-1 : Int32) := ⟨_, rfl⟩
                                have d_kv214 := rd_Is eS213 hkv214
                                have ea11 := rf_I eS213 ea11
                                have ea163 := rf_I eS213 ea163
                                have ea166 := rf_I eS213 ea166
                                have l_a163 := ln_I eS213 l_a163
                                have l_a166 := ln_I eS213 l_a166
                                have g0 := gr_I eS213 g0
                                have o_a11 := ob_I eS213 o_a11
                                have o_a163 := ob_I eS213 o_a163
                                have o_a166 := ob_I eS213 o_a166
                                have o_v0 := ob_I eS213 o_v0
                                intro _
                                exact hq _ _ hI g0 f0
                              · refine ⟨fun c216 => ?_, fun c216 => ?_⟩
                                · intro _ _
                                  refine ⟨(Or.inl rfl), ?_⟩
                                  intro _ _
                                  refine ⟨fun c219 => ?_, fun c219 => absurd (show ¬ (0 : Int32) = 0 from c219) (by decide)⟩
                                  intro _
                                  refine ⟨fun c221 => absurd (show (2 : Int32) ≤ 0 from c221) (by decide), fun c221 => ?_⟩
                                  refine u_X11_refused ?_
                                  refine u_X11_refused_0 ?_
                                  refine ⟨o_v0, ?_⟩
                                  intro S222 eS222
                                  have hIn : IV S222 := by rw [eS222]; exact iv11_sI hI o_v0 (by decide) (nu_free (by decide))
                                  have hI := hIn
                                  have f0 := fr_I eS222 g0 f0 o_v0 (by decide)
                                  have d_kv2 := rd_Ij eS222 (by decide) d_kv2
                                  have d_x61 := rd_Ik eS222 o_v0 o_a11 (by decide) d_x61
                                  have d_x91 := rd_Ik eS222 o_v0 o_a11 (by decide) d_x91
                                  have d_x147 := rd_Ik eS222 o_v0 o_a11 (by decide) d_x147
                                  obtain ⟨kv223, hkv223⟩ : ∃ z : Int32, z = (2 : Int32) := ⟨_, rfl⟩
                                  have d_kv223 := rd_Is eS222 hkv223
                                  have ea11 := rf_I eS222 ea11
                                  have ea163 := rf_I eS222 ea163
                                  have ea166 := rf_I eS222 ea166
                                  have l_a163 := ln_I eS222 l_a163
                                  have l_a166 := ln_I eS222 l_a166
                                  have g0 := gr_I eS222 g0
                                  have o_a11 := ob_I eS222 o_a11
                                  have o_a163 := ob_I eS222 o_a163
                                  have o_a166 := ob_I eS222 o_a166
                                  have o_v0 := ob_I eS222 o_v0
                                  intro S224 eS224
                                  have hIn : IV S224 := by rw [eS224]; exact iv11_sI hI o_v0 (by decide) (nu_free (by decide))
                                  have hI := hIn
                                  have f0 := fr_I eS224 g0 f0 o_v0 (by decide)
                                  have d_kv2 := rd_Ij eS224 (by decide) d_kv2
                                  have d_x61 := rd_Ik eS224 o_v0 o_a11 (by decide) d_x61
                                  have d_x91 := rd_Ik eS224 o_v0 o_a11 (by decide) d_x91
                                  have d_x147 := rd_Ik eS224 o_v0 o_a11 (by decide) d_x147
                                  have d_kv223 := rd_Ij eS224 (by decide) d_kv223
                                  obtain ⟨kv225, hkv225⟩ : ∃ z : Int32, z = (-1 : Int32) := ⟨_, rfl⟩
                                  have d_kv225 := rd_Is eS224 hkv225
                                  have ea11 := rf_I eS224 ea11
                                  have ea163 := rf_I eS224 ea163
                                  have ea166 := rf_I eS224 ea166
                                  have l_a163 := ln_I eS224 l_a163
                                  have l_a166 := ln_I eS224 l_a166
                                  have g0 := gr_I eS224 g0
                                  have o_a11 := ob_I eS224 o_a11
                                  have o_a163 := ob_I eS224 o_a163
                                  have o_a166 := ob_I eS224 o_a166
                                  have o_v0 := ob_I eS224 o_v0
                                  intro _
                                  exact hq _ _ hI g0 f0
                                · intro _ _
                                  refine ⟨(Or.inr rfl), ?_⟩
                                  intro _ _
                                  refine ⟨fun c229 => absurd (show (1 : Int32) = 0 from c229) (by decide), fun c229 => ?_⟩
                                  intro _
                                  refine ⟨fun c231 => ?_, fun c231 => absurd (show ¬ (0 : Int32) ≤ 0 from c231) (by decide)⟩
                                  refine m_X11_together hI o_v0 (qm618 c3 c22 r_x33 c34 c48 r_x61 q_x61 c62 c78 r_x91 c92 c106 c118 c134 r_x147 c148 g_x164 g_x167 c168 c181 g_x201 g_x204 c205 c216) (qm619 c3 c22 r_x33 c34 c48 r_x61 q_x61 c62 c78 r_x91 c92 c106 c118 c134 r_x147 c148 g_x164 g_x167 c168 c181 g_x201 g_x204 c205 c216) (qm620 c3 c22 r_x33 c34 c48 r_x61 q_x61 c62 c78 r_x91 c92 c106 c118 c134 r_x147 c148 g_x164 g_x167 c168 c181 g_x201 g_x204 c205 c216) (qm621 c3 c22 r_x33 c34 c48 r_x61 q_x61 c62 c78 r_x91 c92 c106 c118 c134 r_x147 c148 g_x164 g_x167 c168 c181 g_x201 g_x204 c205 c216) (qm622 c3 c22 r_x33 c34 c48 r_x61 q_x61 c62 c78 r_x91 c92 c106 c118 c134 r_x147 c148 g_x164 g_x167 c168 c181 g_x201 g_x204 c205 c216) ⟨_, ea11⟩ (fun x232 S233 hI2 g234 p_x232 => ?_)
                                  subst p_x232
                                  intro _
                                  refine m_X11_together hI o_v0 (qm619 c3 c22 r_x33 c34 c48 r_x61 q_x61 c62 c78 r_x91 c92 c106 c118 c134 r_x147 c148 g_x164 g_x167 c168 c181 g_x201 g_x204 c205 c216) (qm618 c3 c22 r_x33 c34 c48 r_x61 q_x61 c62 c78 r_x91 c92 c106 c118 c134 r_x147 c148 g_x164 g_x167 c168 c181 g_x201 g_x204 c205 c216) (qm620 c3 c22 r_x33 c34 c48 r_x61 q_x61 c62 c78 r_x91 c92 c106 c118 c134 r_x147 c148 g_x164 g_x167 c168 c181 g_x201 g_x204 c205 c216) (qm621 c3 c22 r_x33 c34 c48 r_x61 q_x61 c62 c78 r_x91 c92 c106 c118 c134 r_x147 c148 g_x164 g_x167 c168 c181 g_x201 g_x204 c205 c216) (qm622 c3 c22 r_x33 c34 c48 r_x61 q_x61 c62 c78 r_x91 c92 c106 c118 c134 r_x147 c148 g_x164 g_x167 c168 c181 g_x201 g_x204 c205 c216) ⟨_, ea11⟩ (fun x236 S237 hI2 g238 p_x236 => ?_)
                                  subst p_x236
                                  intro _
                                  refine ⟨fun c240 => ?_, fun c240 => ?_⟩
                                  · refine ⟨fun c241 => ?_, fun c241 => ?_⟩
                                    · refine u_X11_first_89 ?_
                                      refine ⟨o_v0, ?_⟩
                                      refine u_X11_good ?_
                                      refine u_X11_good_0 ?_
                                      refine ⟨o_v0, ?_⟩
                                      intro S242 eS242
                                      have hIn : IV S242 := by rw [eS242]; exact iv11_sI hI o_v0 (by decide) (nu_free (by decide))
                                      have hI := hIn
                                      have f0 := fr_I eS242 g0 f0 o_v0 (by decide)
                                      have d_kv2 := rd_Ij eS242 (by decide) d_kv2
                                      have d_x61 := rd_Ik eS242 o_v0 o_a11 (by decide) d_x61
                                      have d_x91 := rd_Ik eS242 o_v0 o_a11 (by decide) d_x91
                                      have d_x147 := rd_Ik eS242 o_v0 o_a11 (by decide) d_x147
                                      obtain ⟨kv243, hkv243⟩ : ∃ z : Int32, z = (0 : Int32) := ⟨_, rfl⟩
                                      have d_kv243 := rd_Is eS242 hkv243
                                      have ea11 := rf_I eS242 ea11
                                      have ea163 := rf_I eS242 ea163
                                      have ea166 := rf_I eS242 ea166
                                      have l_a163 := ln_I eS242 l_a163
                                      have l_a166 := ln_I eS242 l_a166
                                      have g0 := gr_I eS242 g0
                                      have o_a11 := ob_I eS242 o_a11
                                      have o_a163 := ob_I eS242 o_a163
                                      have o_a166 := ob_I eS242 o_a166
                                      have o_v0 := ob_I eS242 o_v0
                                      intro S244 eS244
                                      have hIn : IV S244 := by rw [eS244]; exact iv11_sI hI o_v0 (by decide) (nu_free (by decide))
                                      have hI := hIn
                                      have f0 := fr_I eS244 g0 f0 o_v0 (by decide)
                                      have d_kv2 := rd_Ij eS244 (by decide) d_kv2
                                      have d_x61 := rd_Ik eS244 o_v0 o_a11 (by decide) d_x61
                                      have d_x91 := rd_Ik eS244 o_v0 o_a11 (by decide) d_x91
                                      have d_x147 := rd_Ik eS244 o_v0 o_a11 (by decide) d_x147
                                      have d_kv243 := rd_Ij eS244 (by decide) d_kv243
                                      obtain ⟨kv245, hkv245⟩ : ∃ z : Int32, z = (-1 : Int32) := ⟨_, rfl⟩
                                      have d_kv245 := rd_Is eS244 hkv245
                                      have ea11 := rf_I eS244 ea11
                                      have ea163 := rf_I eS244 ea163
                                      have ea166 := rf_I eS244 ea166
                                      have l_a163 := ln_I eS244 l_a163
                                      have l_a166 := ln_I eS244 l_a166
                                      have g0 := gr_I eS244 g0
                                      have o_a11 := ob_I eS244 o_a11
                                      have o_a163 := ob_I eS244 o_a163
                                      have o_a166 := ob_I eS244 o_a166
                                      have o_v0 := ob_I eS244 o_v0
                                      intro _
                                      exact hq _ _ hI g0 f0
                                    · refine u_X11_first_89 ?_
                                      refine ⟨o_v0, ?_⟩
                                      refine u_X11_good ?_
                                      refine u_X11_good_0 ?_
                                      refine ⟨o_v0, ?_⟩
                                      intro S247 eS247
                                      have hIn : IV S247 := by rw [eS247]; exact iv11_sI hI o_v0 (by decide) (nu_free (by decide))
                                      have hI := hIn
                                      have f0 := fr_I eS247 g0 f0 o_v0 (by decide)
                                      have d_kv2 := rd_Ij eS247 (by decide) d_kv2
                                      have d_x61 := rd_Ik eS247 o_v0 o_a11 (by decide) d_x61
                                      have d_x91 := rd_Ik eS247 o_v0 o_a11 (by decide) d_x91
                                      have d_x147 := rd_Ik eS247 o_v0 o_a11 (by decide) d_x147
                                      obtain ⟨kv248, hkv248⟩ : ∃ z : Int32, z = (0 : Int32) := ⟨_, rfl⟩
                                      have d_kv248 := rd_Is eS247 hkv248
                                      have ea11 := rf_I eS247 ea11
                                      have ea163 := rf_I eS247 ea163
                                      have ea166 := rf_I eS247 ea166
                                      have l_a163 := ln_I eS247 l_a163
                                      have l_a166 := ln_I eS247 l_a166
                                      have g0 := gr_I eS247 g0
                                      have o_a11 := ob_I eS247 o_a11
                                      have o_a163 := ob_I eS247 o_a163
                                      have o_a166 := ob_I eS247 o_a166
                                      have o_v0 := ob_I eS247 o_v0
                                      intro S249 eS249
                                      have hIn : IV S249 := by rw [eS249]; exact iv11_sI hI o_v0 (by decide) (nu_free (by decide))
                                      have hI := hIn
                                      have f0 := fr_I eS249 g0 f0 o_v0 (by decide)
                                      have d_kv2 := rd_Ij eS249 (by decide) d_kv2
                                      have d_x61 := rd_Ik eS249 o_v0 o_a11 (by decide) d_x61
                                      have d_x91 := rd_Ik eS249 o_v0 o_a11 (by decide) d_x91
                                      have d_x147 := rd_Ik eS249 o_v0 o_a11 (by decide) d_x147
                                      have d_kv248 := rd_Ij eS249 (by decide) d_kv248
                                      obtain ⟨kv250, hkv250⟩ : ∃ z : Int32, z = (-1 : Int32) := ⟨_, rfl⟩
                                      have d_kv250 := rd_Is eS249 hkv250
                                      have ea11 := rf_I eS249 ea11
                                      have ea163 := rf_I eS249 ea163
                                      have ea166 := rf_I eS249 ea166
                                      have l_a163 := ln_I eS249 l_a163
                                      have l_a166 := ln_I eS249 l_a166
                                      have g0 := gr_I eS249 g0
                                      have o_a11 := ob_I eS249 o_a11
                                      have o_a163 := ob_I eS249 o_a163
                                      have o_a166 := ob_I eS249 o_a166
                                      have o_v0 := ob_I eS249 o_v0
                                      intro _
                                      exact hq _ _ hI g0 f0
                                  · refine u_X11_first_89 ?_
                                    refine ⟨o_v0, ?_⟩
                                    refine u_X11_good ?_
                                    refine u_X11_good_0 ?_
                                    refine ⟨o_v0, ?_⟩
                                    intro S252 eS252
                                    have hIn : IV S252 := by rw [eS252]; exact iv11_sI hI o_v0 (by decide) (nu_free (by decide))
                                    have hI := hIn
                                    have f0 := fr_I eS252 g0 f0 o_v0 (by decide)
                                    have d_kv2 := rd_Ij eS252 (by decide) d_kv2
                                    have d_x61 := rd_Ik eS252 o_v0 o_a11 (by decide) d_x61
                                    have d_x91 := rd_Ik eS252 o_v0 o_a11 (by decide) d_x91
                                    have d_x147 := rd_Ik eS252 o_v0 o_a11 (by decide) d_x147
                                    obtain ⟨kv253, hkv253⟩ : ∃ z : Int32, z = (0 : Int32) := ⟨_, rfl⟩
                                    have d_kv253 := rd_Is eS252 hkv253
                                    have ea11 := rf_I eS252 ea11
                                    have ea163 := rf_I eS252 ea163
                                    have ea166 := rf_I eS252 ea166
                                    have l_a163 := ln_I eS252 l_a163
                                    have l_a166 := ln_I eS252 l_a166
                                    have g0 := gr_I eS252 g0
                                    have o_a11 := ob_I eS252 o_a11
                                    have o_a163 := ob_I eS252 o_a163
                                    have o_a166 := ob_I eS252 o_a166
                                    have o_v0 := ob_I eS252 o_v0
                                    intro S254 eS254
                                    have hIn : IV S254 := by rw [eS254]; exact iv11_sI hI o_v0 (by decide) (nu_free (by decide))
                                    have hI := hIn
                                    have f0 := fr_I eS254 g0 f0 o_v0 (by decide)
                                    have d_kv2 := rd_Ij eS254 (by decide) d_kv2
                                    have d_x61 := rd_Ik eS254 o_v0 o_a11 (by decide) d_x61
                                    have d_x91 := rd_Ik eS254 o_v0 o_a11 (by decide) d_x91
                                    have d_x147 := rd_Ik eS254 o_v0 o_a11 (by decide) d_x147
                                    have d_kv253 := rd_Ij eS254 (by decide) d_kv253
                                    obtain ⟨kv255, hkv255⟩ : ∃ z : Int32, z = (-1 : Int32) := ⟨_, rfl⟩
                                    have d_kv255 := rd_Is eS254 hkv255
                                    have ea11 := rf_I eS254 ea11
                                    have ea163 := rf_I eS254 ea163
                                    have ea166 := rf_I eS254 ea166
                                    have l_a163 := ln_I eS254 l_a163
                                    have l_a166 := ln_I eS254 l_a166
                                    have g0 := gr_I eS254 g0
                                    have o_a11 := ob_I eS254 o_a11
                                    have o_a163 := ob_I eS254 o_a163
                                    have o_a166 := ob_I eS254 o_a166
                                    have o_v0 := ob_I eS254 o_v0
                                    intro _
                                    exact hq _ _ hI g0 f0
end
