set_option maxRecDepth 20000 in
set_option maxHeartbeats 1000000 in
theorem kf_X11_isSeen_0 {Q : Int32 → HS → Prop} {v0 : Nat} {v1 : Int32} {S0 S : HS} (h : P_X11_isSeen_0 Q v0 v1 S) (K : K2 S0 S) : P_X11_isSeen_0 (fun r T => Q r T ∧ K2 S0 T) v0 v1 S := by
  delta P_X11_isSeen_0 at h ⊢
  obtain ⟨c1, h⟩ := h
  refine ⟨c1, ?_⟩
  have n2 := k2_ne K c1 (by decide)
  refine ⟨?_, ?_⟩
  · intro c3
    have h := h.1 c3
    exact ⟨h, K⟩
  · intro x4 c5
    have h := h.2 x4 c5
    refine ⟨?_, ?_⟩
    · intro c6
      have h := h.1 c6
      exact ⟨h, K⟩
    · intro c7
      have h := h.2 c7
      obtain ⟨b8, e9, h⟩ := h
      refine ⟨b8, e9, ?_⟩
      obtain ⟨c10, h⟩ := h
      refine ⟨c10, ?_⟩
      have n11 := k2_ne K c10 (by decide)
      intro x13 e12
      have h := h x13 e12
      refine ⟨?_, ?_⟩
      · intro c14
        have h := h.1 c14
        exact ⟨h, K⟩
      · intro c15
        have h := h.2 c15
        exact ⟨h, K⟩
theorem kf_X11_isSeen {Q : Int32 → HS → Prop} {v0 : Nat} {v1 : Int32} {S : HS} (h : P_X11_isSeen v0 v1 Q S) : P_X11_isSeen v0 v1 (fun r T => Q r T ∧ K2 S T) S := kf_X11_isSeen_0 h (k2_rf S)
set_option maxRecDepth 20000 in
set_option maxHeartbeats 1000000 in
theorem kf_X11_fit_27 {Q : Int32 → HS → Prop} {v0 : Nat} {s0 : Int32} {S0 S : HS} (h : P_X11_fit_27 Q v0 s0 S) (K : K2 S0 S) : P_X11_fit_27 (fun r T => Q r T ∧ K2 S0 T) v0 s0 S := by
  delta P_X11_fit_27 at h ⊢
  refine ⟨?_, ?_⟩
  · intro c1
    have h := h.1 c1
    obtain ⟨c2, h⟩ := h
    refine ⟨c2, ?_⟩
    have n3 := k2_ne K c2 (by decide)
    refine cm_X11_good (kf_X11_good h) h (fun x4 x5 hp h g6 => ?_)
    have h := h g6
    have K := k2_tr K hp.2
    exact ⟨h, K⟩
  · intro c7
    have h := h.2 c7
    obtain ⟨c8, h⟩ := h
    refine ⟨c8, ?_⟩
    have n9 := k2_ne K c8 (by decide)
    refine cm_X11_refused (kf_X11_refused h) h (fun x10 x11 hp h g12 => ?_)
    have h := h g12
    have K := k2_tr K hp.2
    exact ⟨h, K⟩
set_option maxRecDepth 20000 in
set_option maxHeartbeats 1000000 in
theorem kf_X11_fit_26 {Q : Int32 → HS → Prop} {v0 : Nat} {S0 S : HS} (h : P_X11_fit_26 Q v0 S) (K : K2 S0 S) : P_X11_fit_26 (fun r T => Q r T ∧ K2 S0 T) v0 S := by
  delta P_X11_fit_26 at h ⊢
  exact kf_X11_fit_27 h K
set_option maxRecDepth 20000 in
set_option maxHeartbeats 1000000 in
theorem kf_X11_fit_0 {Q : Int32 → HS → Prop} {v0 : Nat} {v1 : Int32} {v2 : Int32} {S0 S : HS} (h : P_X11_fit_0 Q v0 v1 v2 S) (K : K2 S0 S) : P_X11_fit_0 (fun r T => Q r T ∧ K2 S0 T) v0 v1 v2 S := by
  delta P_X11_fit_0 at h ⊢
  obtain ⟨c1, h⟩ := h
  refine ⟨c1, ?_⟩
  have n2 := k2_ne K c1 (by decide)
  intro x4 e3
  have h := h x4 e3
  have K := k2_I K e3 n2
  refine cm_X11_isSeen (kf_X11_isSeen h) h (fun x5 x6 hp h g7 g8 => ?_)
  have h := h g7 g8
  have K := k2_tr K hp.2
  refine ⟨?_, ?_⟩
  · intro c9
    have h := h.1 c9
    exact kf_X11_fit_26 h K
  · intro c10
    have h := h.2 c10
    refine ⟨?_, ?_⟩
    · intro c11
      have h := h.1 c11
      exact kf_X11_fit_26 h K
    · intro c12
      have h := h.2 c12
      refine cm_X11_fitOf (kf_X11_fitOf h) h (fun x13 x14 hp h g15 => ?_)
      have h := h g15
      have K := k2_tr K hp.2
      exact kf_X11_fit_27 h K
theorem kf_X11_fit {Q : Int32 → HS → Prop} {v0 : Nat} {v1 : Int32} {v2 : Int32} {S : HS} (h : P_X11_fit v0 v1 v2 Q S) : P_X11_fit v0 v1 v2 (fun r T => Q r T ∧ K2 S T) S := kf_X11_fit_0 h (k2_rf S)
set_option maxRecDepth 20000 in
set_option maxHeartbeats 1000000 in
theorem kf_X11_fits_0 {Q : Int32 → HS → Prop} {v0 : Nat} {v1 : Int32} {S0 S : HS} (h : P_X11_fits_0 Q v0 v1 S) (K : K2 S0 S) : P_X11_fits_0 (fun r T => Q r T ∧ K2 S0 T) v0 v1 S := by
  delta P_X11_fits_0 at h ⊢
  obtain ⟨c1, h⟩ := h
  refine ⟨c1, ?_⟩
  have n2 := k2_ne K c1 (by decide)
  intro x4 e3
  have h := h x4 e3
  have K := k2_I K e3 n2
  refine cm_X11_isSeen (kf_X11_isSeen h) h (fun x5 x6 hp h g7 g8 => ?_)
  have h := h g7 g8
  have K := k2_tr K hp.2
  refine ⟨?_, ?_⟩
  · intro c9
    have h := h.1 c9
    refine cm_X11_refused (kf_X11_refused h) h (fun x10 x11 hp h g12 => ?_)
    have h := h g12
    have K := k2_tr K hp.2
    exact ⟨h, K⟩
  · intro c13
    have h := h.2 c13
    refine cm_X11_fitOf (kf_X11_fitOf h) h (fun x14 x15 hp h g16 => ?_)
    have h := h g16
    have K := k2_tr K hp.2
    refine cm_X11_good (kf_X11_good h) h (fun x17 x18 hp h g19 => ?_)
    have h := h g19
    have K := k2_tr K hp.2
    exact ⟨h, K⟩
theorem kf_X11_fits {Q : Int32 → HS → Prop} {v0 : Nat} {v1 : Int32} {S : HS} (h : P_X11_fits v0 v1 Q S) : P_X11_fits v0 v1 (fun r T => Q r T ∧ K2 S T) S := kf_X11_fits_0 h (k2_rf S)
set_option maxRecDepth 20000 in
set_option maxHeartbeats 1000000 in
theorem kf_X11_hourOf_0 {Q : Int32 → HS → Prop} {v0 : Nat} {v1 : Int32} {S0 S : HS} (h : P_X11_hourOf_0 Q v0 v1 S) (K : K2 S0 S) : P_X11_hourOf_0 (fun r T => Q r T ∧ K2 S0 T) v0 v1 S := by
  delta P_X11_hourOf_0 at h ⊢
  obtain ⟨c1, h⟩ := h
  refine ⟨c1, ?_⟩
  have n2 := k2_ne K c1 (by decide)
  obtain ⟨b3, e4, h⟩ := h
  refine ⟨b3, e4, ?_⟩
  obtain ⟨c5, h⟩ := h
  refine ⟨c5, ?_⟩
  have n6 := k2_ne K c5 (by decide)
  intro x8 e7
  have h := h x8 e7
  obtain ⟨c9, h⟩ := h
  refine ⟨c9, ?_⟩
  intro x11 e10
  have h := h x11 e10
  exact ⟨h, K⟩
theorem kf_X11_hourOf {Q : Int32 → HS → Prop} {v0 : Nat} {v1 : Int32} {S : HS} (h : P_X11_hourOf v0 v1 Q S) : P_X11_hourOf v0 v1 (fun r T => Q r T ∧ K2 S T) S := kf_X11_hourOf_0 h (k2_rf S)
set_option maxRecDepth 20000 in
set_option maxHeartbeats 1000000 in
theorem kfB_X11_keeps_50 {Q : HS → Prop} {X50 X50_2 : Nat → Int32 → HS → Prop} {v0 : Nat} {v1 : Int32} {S0 S : HS} (h : B_X11_keeps_50 Q X50 v0 v1 S) (K : K2 S0 S) (hX50 : ∀ (u0 : Nat) (u1 : Int32) (u2 : HS), X50 u0 u1 u2 → K2 S0 u2 → X50_2 u0 u1 u2) : B_X11_keeps_50 (fun T => Q T ∧ K2 S0 T) X50_2 v0 v1 S := by
  delta B_X11_keeps_50 at h ⊢
  refine ⟨?_, ?_⟩
  · intro c1
    have h := h.1 c1
    obtain ⟨c2, h⟩ := h
    refine ⟨c2, ?_⟩
    have n3 := k2_ne K c2 (by decide)
    intro x5 e4
    have h := h x5 e4
    intro x7 e6
    have h := h x7 e6
    intro x9 e8
    have h := h x9 e8
    have K := k2_I K e8 n3
    exact ⟨h, K⟩
  · intro c10
    have h := h.2 c10
    obtain ⟨c11, h⟩ := h
    refine ⟨c11, ?_⟩
    have n12 := k2_ne K c11 (by decide)
    obtain ⟨b13, e14, h⟩ := h
    refine ⟨b13, e14, ?_⟩
    intro x16 e15
    have h := h x16 e15
    obtain ⟨b17, e18, h⟩ := h
    refine ⟨b17, e18, ?_⟩
    obtain ⟨c19, h⟩ := h
    refine ⟨c19, ?_⟩
    have n20 := k2_ne K c19 (by decide)
    obtain ⟨c21, h⟩ := h
    refine ⟨c21, ?_⟩
    intro x23 e22
    have h := h x23 e22
    obtain ⟨c24, h⟩ := h
    refine ⟨c24, ?_⟩
    have n25 := k2_ne K c24 (by decide)
    obtain ⟨c26, h⟩ := h
    refine ⟨c26, ?_⟩
    intro x28 e27
    have h := h x28 e27
    have K := k2_J K e27
    intro x30 e29
    have h := h x30 e29
    exact hX50 _ _ _ h K
theorem kf_X11_keeps_50 {Q : HS → Prop} {v0 : Nat} {v1 : Int32} {S0 S : HS} (h : P_X11_keeps_50 Q v0 v1 S) (K : K2 S0 S) : P_X11_keeps_50 (fun T => Q T ∧ K2 S0 T) v0 v1 S := h (fun v0 v1 S => K2 S0 S → P_X11_keeps_50 (fun T => Q T ∧ K2 S0 T) v0 v1 S) (fun v0 v1 S hB K => fd_X11_keeps_50 (kfB_X11_keeps_50 hB K (fun _ _ _ hx K => hx K))) K
set_option maxRecDepth 20000 in
set_option maxHeartbeats 1000000 in
theorem kf_X11_keeps_48 {Q : HS → Prop} {v0 : Nat} {S0 S : HS} (h : P_X11_keeps_48 Q v0 S) (K : K2 S0 S) : P_X11_keeps_48 (fun T => Q T ∧ K2 S0 T) v0 S := by
  delta P_X11_keeps_48 at h ⊢
  exact kf_X11_keeps_50 h K
set_option maxRecDepth 20000 in
set_option maxHeartbeats 1000000 in
theorem kfB_X11_keeps_11 {Q : HS → Prop} {X11 X11_2 : Nat → Int32 → HS → Prop} {v0 : Nat} {v1 : Int32} {S0 S : HS} (h : B_X11_keeps_11 Q X11 v0 v1 S) (K : K2 S0 S) (hX11 : ∀ (u0 : Nat) (u1 : Int32) (u2 : HS), X11 u0 u1 u2 → K2 S0 u2 → X11_2 u0 u1 u2) : B_X11_keeps_11 (fun T => Q T ∧ K2 S0 T) X11_2 v0 v1 S := by
  delta B_X11_keeps_11 at h ⊢
  refine ⟨?_, ?_⟩
  · intro c1
    have h := h.1 c1
    obtain ⟨c2, h⟩ := h
    refine ⟨c2, ?_⟩
    have n3 := k2_ne K c2 (by decide)
    intro x5 e4
    have h := h x5 e4
    intro x7 e6
    have h := h x7 e6
    intro x9 e8
    have h := h x9 e8
    have K := k2_I K e8 n3
    exact kf_X11_keeps_48 h K
  · intro c10
    have h := h.2 c10
    obtain ⟨c11, h⟩ := h
    refine ⟨c11, ?_⟩
    have n12 := k2_ne K c11 (by decide)
    obtain ⟨b13, e14, h⟩ := h
    refine ⟨b13, e14, ?_⟩
    obtain ⟨b15, e16, h⟩ := h
    refine ⟨b15, e16, ?_⟩
    obtain ⟨c17, h⟩ := h
    refine ⟨c17, ?_⟩
    have n18 := k2_ne K c17 (by decide)
    intro x20 e19
    have h := h x20 e19
    obtain ⟨c21, h⟩ := h
    refine ⟨c21, ?_⟩
    intro x23 e22
    have h := h x23 e22
    obtain ⟨c24, h⟩ := h
    refine ⟨c24, ?_⟩
    have n25 := k2_ne K c24 (by decide)
    obtain ⟨c26, h⟩ := h
    refine ⟨c26, ?_⟩
    intro x28 e27
    have h := h x28 e27
    have K := k2_J K e27
    intro x30 e29
    have h := h x30 e29
    exact hX11 _ _ _ h K
theorem kf_X11_keeps_11 {Q : HS → Prop} {v0 : Nat} {v1 : Int32} {S0 S : HS} (h : P_X11_keeps_11 Q v0 v1 S) (K : K2 S0 S) : P_X11_keeps_11 (fun T => Q T ∧ K2 S0 T) v0 v1 S := h (fun v0 v1 S => K2 S0 S → P_X11_keeps_11 (fun T => Q T ∧ K2 S0 T) v0 v1 S) (fun v0 v1 S hB K => fd_X11_keeps_11 (kfB_X11_keeps_11 hB K (fun _ _ _ hx K => hx K))) K
set_option maxRecDepth 20000 in
set_option maxHeartbeats 1000000 in
theorem kf_X11_keeps_0 {Q : HS → Prop} {v0 : Nat} {S0 S : HS} (h : P_X11_keeps_0 Q v0 S) (K : K2 S0 S) : P_X11_keeps_0 (fun T => Q T ∧ K2 S0 T) v0 S := by
  delta P_X11_keeps_0 at h ⊢
  obtain ⟨c1, h⟩ := h
  refine ⟨c1, ?_⟩
  have n2 := k2_ne K c1 (by decide)
  intro x4 e3
  have h := h x4 e3
  refine ⟨?_, ?_⟩
  · intro c5
    have h := h.1 c5
    exact kf_X11_keeps_48 h K
  · intro c6
    have h := h.2 c6
    exact kf_X11_keeps_11 h K
theorem kf_X11_keeps {Q : HS → Prop} {v0 : Nat} {S : HS} (h : P_X11_keeps v0 Q S) : P_X11_keeps v0 (fun T => Q T ∧ K2 S T) S := kf_X11_keeps_0 h (k2_rf S)
set_option maxRecDepth 20000 in
set_option maxHeartbeats 1000000 in
theorem kf_X11_rainsIn_0 {Q : Int32 → HS → Prop} {v0 : Nat} {v1 : Int32} {S0 S : HS} (h : P_X11_rainsIn_0 Q v0 v1 S) (K : K2 S0 S) : P_X11_rainsIn_0 (fun r T => Q r T ∧ K2 S0 T) v0 v1 S := by
  delta P_X11_rainsIn_0 at h ⊢
  obtain ⟨c1, h⟩ := h
  refine ⟨c1, ?_⟩
  have n2 := k2_ne K c1 (by decide)
  refine cm_X11_hourOf (kf_X11_hourOf h) h (fun x3 x4 hp h g5 => ?_)
  have h := h g5
  have K := k2_tr K hp.2
  obtain ⟨b6, e7, h⟩ := h
  refine ⟨b6, e7, ?_⟩
  obtain ⟨c8, h⟩ := h
  refine ⟨c8, ?_⟩
  have n9 := k2_ne K c8 (by decide)
  intro x11 e10
  have h := h x11 e10
  refine ⟨?_, ?_⟩
  · intro c12
    have h := h.1 c12
    exact ⟨h, K⟩
  · intro c13
    have h := h.2 c13
    intro x15 e14
    have h := h x15 e14
    refine ⟨?_, ?_⟩
    · intro c16
      have h := h.1 c16
      exact ⟨h, K⟩
    · intro c17
      have h := h.2 c17
      exact ⟨h, K⟩
theorem kf_X11_rainsIn {Q : Int32 → HS → Prop} {v0 : Nat} {v1 : Int32} {S : HS} (h : P_X11_rainsIn v0 v1 Q S) : P_X11_rainsIn v0 v1 (fun r T => Q r T ∧ K2 S T) S := kf_X11_rainsIn_0 h (k2_rf S)
set_option maxRecDepth 20000 in
set_option maxHeartbeats 1000000 in
theorem kf_X11_go_29 {Q : Int32 → HS → Prop} {v0 : Nat} {S0 S : HS} (h : P_X11_go_29 Q v0 S) (K : K2 S0 S) : P_X11_go_29 (fun r T => Q r T ∧ K2 S0 T) v0 S := by
  delta P_X11_go_29 at h ⊢
  obtain ⟨c1, h⟩ := h
  refine ⟨c1, ?_⟩
  have n2 := k2_ne K c1 (by decide)
  refine cm_X11_refused (kf_X11_refused h) h (fun x3 x4 hp h g5 => ?_)
  have h := h g5
  have K := k2_tr K hp.2
  exact ⟨h, K⟩
set_option maxRecDepth 20000 in
set_option maxHeartbeats 1000000 in
theorem kf_X11_go_171 {Q : Int32 → HS → Prop} {v0 : Nat} {v1 : Int32} {v2 : Int32} {v3 : Int32} {v4 : Int32} {S0 S : HS} (h : P_X11_go_171 Q v0 v1 v2 v3 v4 S) (K : K2 S0 S) : P_X11_go_171 (fun r T => Q r T ∧ K2 S0 T) v0 v1 v2 v3 v4 S := by
  delta P_X11_go_171 at h ⊢
  obtain ⟨c1, h⟩ := h
  refine ⟨c1, ?_⟩
  have n2 := k2_ne K c1 (by decide)
  obtain ⟨b3, e4, h⟩ := h
  refine ⟨b3, e4, ?_⟩
  obtain ⟨b5, e6, h⟩ := h
  refine ⟨b5, e6, ?_⟩
  obtain ⟨c7, h⟩ := h
  refine ⟨c7, ?_⟩
  have n8 := k2_ne K c7 (by decide)
  refine cm_X10_ends (kf_X10_ends h) h (fun x9 x10 hp h g11 => ?_)
  have h := h g11
  have K := k2_tr K hp.2
  obtain ⟨c12, h⟩ := h
  refine ⟨c12, ?_⟩
  have n13 := k2_ne K c12 (by decide)
  intro x15 e14
  have h := h x15 e14
  obtain ⟨c16, h⟩ := h
  refine ⟨c16, ?_⟩
  intro x18 e17
  have h := h x18 e17
  have K := k2_J K e17
  obtain ⟨b19, e20, h⟩ := h
  refine ⟨b19, e20, ?_⟩
  obtain ⟨b21, e22, h⟩ := h
  refine ⟨b21, e22, ?_⟩
  obtain ⟨c23, h⟩ := h
  refine ⟨c23, ?_⟩
  have n24 := k2_ne K c23 (by decide)
  refine cm_X10_minutes (kf_X10_minutes h) h (fun x25 x26 hp h g27 => ?_)
  have h := h g27
  have K := k2_tr K hp.2
  obtain ⟨c28, h⟩ := h
  refine ⟨c28, ?_⟩
  have n29 := k2_ne K c28 (by decide)
  intro x31 e30
  have h := h x31 e30
  obtain ⟨c32, h⟩ := h
  refine ⟨c32, ?_⟩
  intro x34 e33
  have h := h x34 e33
  have K := k2_J K e33
  obtain ⟨b35, e36, h⟩ := h
  refine ⟨b35, e36, ?_⟩
  obtain ⟨c37, h⟩ := h
  refine ⟨c37, ?_⟩
  have n38 := k2_ne K c37 (by decide)
  obtain ⟨c39, h⟩ := h
  refine ⟨c39, ?_⟩
  intro x41 e40
  have h := h x41 e40
  refine cm_X11_good (kf_X11_good h) h (fun x42 x43 hp h g44 => ?_)
  have h := h g44
  have K := k2_tr K hp.2
  exact ⟨h, K⟩
set_option maxRecDepth 20000 in
set_option maxHeartbeats 1000000 in
theorem kfB_X11_go_119 {Q : Int32 → HS → Prop} {X119 X119_2 : Nat → Int32 → Int32 → Int32 → Int32 → Int32 → HS → Prop} {v0 : Nat} {v1 : Int32} {v2 : Int32} {v3 : Int32} {v4 : Int32} {v5 : Int32} {S0 S : HS} (h : B_X11_go_119 Q X119 v0 v1 v2 v3 v4 v5 S) (K : K2 S0 S) (hX119 : ∀ (u0 : Nat) (u1 : Int32) (u2 : Int32) (u3 : Int32) (u4 : Int32) (u5 : Int32) (u6 : HS), X119 u0 u1 u2 u3 u4 u5 u6 → K2 S0 u6 → X119_2 u0 u1 u2 u3 u4 u5 u6) : B_X11_go_119 (fun r T => Q r T ∧ K2 S0 T) X119_2 v0 v1 v2 v3 v4 v5 S := by
  delta B_X11_go_119 at h ⊢
  refine ⟨?_, ?_⟩
  · intro c1
    have h := h.1 c1
    exact kf_X11_go_171 h K
  · intro c2
    have h := h.2 c2
    obtain ⟨c3, h⟩ := h
    refine ⟨c3, ?_⟩
    have n4 := k2_ne K c3 (by decide)
    refine cm_X11_rainsIn (kf_X11_rainsIn h) h (fun x5 x6 hp h g7 g8 => ?_)
    have h := h g7 g8
    have K := k2_tr K hp.2
    refine ⟨?_, ?_⟩
    · intro c9
      have h := h.1 c9
      exact kf_X11_go_171 h K
    · intro c10
      have h := h.2 c10
      obtain ⟨b11, e12, h⟩ := h
      refine ⟨b11, e12, ?_⟩
      obtain ⟨c13, h⟩ := h
      refine ⟨c13, ?_⟩
      have n14 := k2_ne K c13 (by decide)
      intro x16 e15
      have h := h x16 e15
      obtain ⟨c17, h⟩ := h
      refine ⟨c17, ?_⟩
      intro x19 e18
      have h := h x19 e18
      intro x21 e20
      have h := h x21 e20
      refine cm_X11_hourOf (kf_X11_hourOf h) h (fun x22 x23 hp h g24 => ?_)
      have h := h g24
      have K := k2_tr K hp.2
      refine cm_X11_partsOf (kf_X11_partsOf h) h (fun x25 x26 hp h g27 => ?_)
      have h := h g27
      have K := k2_tr K hp.2
      intro x29 e28
      have h := h x29 e28
      obtain ⟨c30, h⟩ := h
      refine ⟨c30, ?_⟩
      intro x32 e31
      have h := h x32 e31
      have K := k2_J K e31
      intro x34 e33
      have h := h x34 e33
      exact hX119 _ _ _ _ _ _ _ h K
theorem kf_X11_go_119 {Q : Int32 → HS → Prop} {v0 : Nat} {v1 : Int32} {v2 : Int32} {v3 : Int32} {v4 : Int32} {v5 : Int32} {S0 S : HS} (h : P_X11_go_119 Q v0 v1 v2 v3 v4 v5 S) (K : K2 S0 S) : P_X11_go_119 (fun r T => Q r T ∧ K2 S0 T) v0 v1 v2 v3 v4 v5 S := h (fun v0 v1 v2 v3 v4 v5 S => K2 S0 S → P_X11_go_119 (fun r T => Q r T ∧ K2 S0 T) v0 v1 v2 v3 v4 v5 S) (fun v0 v1 v2 v3 v4 v5 S hB K => fd_X11_go_119 (kfB_X11_go_119 hB K (fun _ _ _ _ _ _ _ hx K => hx K))) K
set_option maxRecDepth 20000 in
set_option maxHeartbeats 1000000 in
theorem kf_X11_go_0 {Q : Int32 → HS → Prop} {v0 : Nat} {v1 : Int32} {v2 : Int32} {v3 : Int32} {S0 S : HS} (h : P_X11_go_0 Q v0 v1 v2 v3 S) (K : K2 S0 S) : P_X11_go_0 (fun r T => Q r T ∧ K2 S0 T) v0 v1 v2 v3 S := by
  delta P_X11_go_0 at h ⊢
  obtain ⟨c1, h⟩ := h
  refine ⟨c1, ?_⟩
  have n2 := k2_ne K c1 (by decide)
  intro x4 e3
  have h := h x4 e3
  have K := k2_I K e3 n2
  refine cm_X11_isDay (kf_X11_isDay h) h (fun x5 x6 hp h g7 g8 => ?_)
  have h := h g7 g8
  have K := k2_tr K hp.2
  refine ⟨?_, ?_⟩
  · intro c9
    have h := h.1 c9
    exact kf_X11_go_29 h K
  · intro c10
    have h := h.2 c10
    refine cm_X11_isRoad (kf_X11_isRoad h) h (fun x11 x12 hp h g13 g14 => ?_)
    have h := h g13 g14
    have K := k2_tr K hp.2
    refine ⟨?_, ?_⟩
    · intro c15
      have h := h.1 c15
      exact kf_X11_go_29 h K
    · intro c16
      have h := h.2 c16
      refine cm_X11_in (kf_X11_in h) h (fun x17 x18 hp h g19 g20 => ?_)
      have h := h g19 g20
      have K := k2_tr K hp.2
      refine ⟨?_, ?_⟩
      · intro c21
        have h := h.1 c21
        intro x23 e22
        have h := h x23 e22
        refine cm_X11_isSpeed (kf_X11_isSpeed h) h (fun x24 x25 hp h g26 g27 => ?_)
        have h := h g26 g27
        have K := k2_tr K hp.2
        refine ⟨?_, ?_⟩
        · intro c28
          have h := h.1 c28
          obtain ⟨b29, e30, h⟩ := h
          refine ⟨b29, e30, ?_⟩
          obtain ⟨c31, h⟩ := h
          refine ⟨c31, ?_⟩
          have n32 := k2_ne K c31 (by decide)
          refine cm_X10_begins (kf_X10_begins h) h (fun x33 x34 hp h g35 => ?_)
          have h := h g35
          have K := k2_tr K hp.2
          obtain ⟨b36, e37, h⟩ := h
          refine ⟨b36, e37, ?_⟩
          obtain ⟨c38, h⟩ := h
          refine ⟨c38, ?_⟩
          have n39 := k2_ne K c38 (by decide)
          obtain ⟨c40, h⟩ := h
          refine ⟨c40, ?_⟩
          intro x42 e41
          have h := h x42 e41
          refine ⟨?_, ?_⟩
          · intro c43
            have h := h.1 c43
            obtain ⟨b44, e45, h⟩ := h
            refine ⟨b44, e45, ?_⟩
            obtain ⟨c46, h⟩ := h
            refine ⟨c46, ?_⟩
            have n47 := k2_ne K c46 (by decide)
            obtain ⟨c48, h⟩ := h
            refine ⟨c48, ?_⟩
            intro x50 e49
            have h := h x50 e49
            intro x52 e51
            have h := h x52 e51
            obtain ⟨b53, e54, h⟩ := h
            refine ⟨b53, e54, ?_⟩
            obtain ⟨c55, h⟩ := h
            refine ⟨c55, ?_⟩
            have n56 := k2_ne K c55 (by decide)
            refine cm_X10_minutes (kf_X10_minutes h) h (fun x57 x58 hp h g59 => ?_)
            have h := h g59
            have K := k2_tr K hp.2
            refine ⟨?_, ?_⟩
            · intro c60
              have h := h.1 c60
              refine cm_X11_keeps (kf_X11_keeps h) h (fun x61 hp h g62 => ?_)
              have h := h g62
              have K := k2_tr K hp.2
              exact kf_X11_go_119 h K
            · intro c63
              have h := h.2 c63
              refine cm_X11_refused (kf_X11_refused h) h (fun x64 x65 hp h g66 => ?_)
              have h := h g66
              have K := k2_tr K hp.2
              exact ⟨h, K⟩
          · intro c67
            have h := h.2 c67
            refine cm_X11_refused (kf_X11_refused h) h (fun x68 x69 hp h g70 => ?_)
            have h := h g70
            have K := k2_tr K hp.2
            exact ⟨h, K⟩
        · intro c71
          have h := h.2 c71
          refine cm_X11_refused (kf_X11_refused h) h (fun x72 x73 hp h g74 => ?_)
          have h := h g74
          have K := k2_tr K hp.2
          exact ⟨h, K⟩
      · intro c75
        have h := h.2 c75
        exact kf_X11_go_29 h K
theorem kf_X11_go {Q : Int32 → HS → Prop} {v0 : Nat} {v1 : Int32} {v2 : Int32} {v3 : Int32} {S : HS} (h : P_X11_go v0 v1 v2 v3 Q S) : P_X11_go v0 v1 v2 v3 (fun r T => Q r T ∧ K2 S T) S := kf_X11_go_0 h (k2_rf S)
set_option maxRecDepth 20000 in
set_option maxHeartbeats 1000000 in
theorem kf_X11_got_40 {Q : Int64 → HS → Prop} {v0 : Nat} {S0 S : HS} (h : P_X11_got_40 Q v0 S) (K : K2 S0 S) : P_X11_got_40 (fun r T => Q r T ∧ K2 S0 T) v0 S := by
  delta P_X11_got_40 at h ⊢
  obtain ⟨c1, h⟩ := h
  refine ⟨c1, ?_⟩
  have n2 := k2_ne K c1 (by decide)
  refine cm_X11_refused (kf_X11_refused h) h (fun x3 x4 hp h g5 => ?_)
  have h := h g5
  have K := k2_tr K hp.2
  exact ⟨h, K⟩
set_option maxRecDepth 20000 in
set_option maxHeartbeats 1000000 in
theorem kf_X11_got_0 {Q : Int64 → HS → Prop} {v0 : Nat} {v1 : Int32} {v2 : Int32} {S0 S : HS} (h : P_X11_got_0 Q v0 v1 v2 S) (K : K2 S0 S) : P_X11_got_0 (fun r T => Q r T ∧ K2 S0 T) v0 v1 v2 S := by
  delta P_X11_got_0 at h ⊢
  obtain ⟨c1, h⟩ := h
  refine ⟨c1, ?_⟩
  have n2 := k2_ne K c1 (by decide)
  intro x4 e3
  have h := h x4 e3
  have K := k2_I K e3 n2
  refine cm_X11_isDay (kf_X11_isDay h) h (fun x5 x6 hp h g7 g8 => ?_)
  have h := h g7 g8
  have K := k2_tr K hp.2
  refine ⟨?_, ?_⟩
  · intro c9
    have h := h.1 c9
    exact kf_X11_got_40 h K
  · intro c10
    have h := h.2 c10
    refine cm_X11_in (kf_X11_in h) h (fun x11 x12 hp h g13 g14 => ?_)
    have h := h g13 g14
    have K := k2_tr K hp.2
    refine ⟨?_, ?_⟩
    · intro c15
      have h := h.1 c15
      exact kf_X11_got_40 h K
    · intro c16
      have h := h.2 c16
      obtain ⟨b17, e18, h⟩ := h
      refine ⟨b17, e18, ?_⟩
      obtain ⟨c19, h⟩ := h
      refine ⟨c19, ?_⟩
      have n20 := k2_ne K c19 (by decide)
      intro x22 e21
      have h := h x22 e21
      obtain ⟨c23, h⟩ := h
      refine ⟨c23, ?_⟩
      intro x25 e24
      have h := h x25 e24
      refine cm_X11_told (kf_X11_told h) h (fun x26 x27 hp h g28 => ?_)
      have h := h g28
      have K := k2_tr K hp.2
      exact ⟨h, K⟩
theorem kf_X11_got {Q : Int64 → HS → Prop} {v0 : Nat} {v1 : Int32} {v2 : Int32} {S : HS} (h : P_X11_got v0 v1 v2 Q S) : P_X11_got v0 v1 v2 (fun r T => Q r T ∧ K2 S T) S := kf_X11_got_0 h (k2_rf S)
set_option maxRecDepth 20000 in
set_option maxHeartbeats 1000000 in
theorem kfB_X11_gotInAll_4 {Q : Int64 → HS → Prop} {X4 X4_2 : Nat → Int64 → Int32 → HS → Prop} {v0 : Nat} {v1 : Int64} {v3 : Int32} {S0 S : HS} (h : B_X11_gotInAll_4 Q X4 v0 v1 v3 S) (K : K2 S0 S) (hX4 : ∀ (u0 : Nat) (u1 : Int64) (u2 : Int32) (u3 : HS), X4 u0 u1 u2 u3 → K2 S0 u3 → X4_2 u0 u1 u2 u3) : B_X11_gotInAll_4 (fun r T => Q r T ∧ K2 S0 T) X4_2 v0 v1 v3 S := by
  delta B_X11_gotInAll_4 at h ⊢
  refine ⟨?_, ?_⟩
  · intro c1
    have h := h.1 c1
    exact ⟨h, K⟩
  · intro c2
    have h := h.2 c2
    obtain ⟨c3, h⟩ := h
    refine ⟨c3, ?_⟩
    have n4 := k2_ne K c3 (by decide)
    obtain ⟨b5, e6, h⟩ := h
    refine ⟨b5, e6, ?_⟩
    obtain ⟨c7, h⟩ := h
    refine ⟨c7, ?_⟩
    have n8 := k2_ne K c7 (by decide)
    intro x10 e9
    have h := h x10 e9
    obtain ⟨c11, h⟩ := h
    refine ⟨c11, ?_⟩
    intro x13 e12
    have h := h x13 e12
    intro x15 e14
    have h := h x15 e14
    intro x17 e16
    have h := h x17 e16
    exact hX4 _ _ _ _ h K
theorem kf_X11_gotInAll_4 {Q : Int64 → HS → Prop} {v0 : Nat} {v1 : Int64} {v3 : Int32} {S0 S : HS} (h : P_X11_gotInAll_4 Q v0 v1 v3 S) (K : K2 S0 S) : P_X11_gotInAll_4 (fun r T => Q r T ∧ K2 S0 T) v0 v1 v3 S := h (fun v0 v1 v3 S => K2 S0 S → P_X11_gotInAll_4 (fun r T => Q r T ∧ K2 S0 T) v0 v1 v3 S) (fun v0 v1 v3 S hB K => fd_X11_gotInAll_4 (kfB_X11_gotInAll_4 hB K (fun _ _ _ _ hx K => hx K))) K
set_option maxRecDepth 20000 in
set_option maxHeartbeats 1000000 in
theorem kf_X11_gotInAll_0 {Q : Int64 → HS → Prop} {v0 : Nat} {S0 S : HS} (h : P_X11_gotInAll_0 Q v0 S) (K : K2 S0 S) : P_X11_gotInAll_0 (fun r T => Q r T ∧ K2 S0 T) v0 S := by
  delta P_X11_gotInAll_0 at h ⊢
  exact kf_X11_gotInAll_4 h K
theorem kf_X11_gotInAll {Q : Int64 → HS → Prop} {v0 : Nat} {S : HS} (h : P_X11_gotInAll v0 Q S) : P_X11_gotInAll v0 (fun r T => Q r T ∧ K2 S T) S := kf_X11_gotInAll_0 h (k2_rf S)
set_option maxRecDepth 20000 in
set_option maxHeartbeats 1000000 in
theorem kf_X11_held_68 {Q : Int32 → HS → Prop} {s0 : Nat} {s1 : Int32} {S0 S : HS} (h : P_X11_held_68 Q s0 s1 S) (K : K2 S0 S) : P_X11_held_68 (fun r T => Q r T ∧ K2 S0 T) s0 s1 S := by
  delta P_X11_held_68 at h ⊢
  obtain ⟨c1, h⟩ := h
  refine ⟨c1, ?_⟩
  have n2 := k2_ne K c1 (by decide)
  refine cm_X11_good (kf_X11_good h) h (fun x3 x4 hp h g5 => ?_)
  have h := h g5
  have K := k2_tr K hp.2
  exact ⟨h, K⟩
set_option maxRecDepth 20000 in
set_option maxHeartbeats 1000000 in
theorem kf_X11_held_0 {Q : Int32 → HS → Prop} {v0 : Nat} {v1 : Int32} {v2 : Int32} {v3 : Int32} {v4 : Int32} {v5 : Int32} {S0 S : HS} (h : P_X11_held_0 Q v0 v1 v2 v3 v4 v5 S) (K : K2 S0 S) : P_X11_held_0 (fun r T => Q r T ∧ K2 S0 T) v0 v1 v2 v3 v4 v5 S := by
  delta P_X11_held_0 at h ⊢
  obtain ⟨c1, h⟩ := h
  refine ⟨c1, ?_⟩
  have n2 := k2_ne K c1 (by decide)
  intro x4 e3
  have h := h x4 e3
  have K := k2_I K e3 n2
  refine cm_X11_refuses (kf_X11_refuses h) h (fun x5 x6 hp h g7 => ?_)
  have h := h g7
  have K := k2_tr K hp.2
  refine ⟨?_, ?_⟩
  · intro c8
    have h := h.1 c8
    obtain ⟨b9, e10, h⟩ := h
    refine ⟨b9, e10, ?_⟩
    obtain ⟨c11, h⟩ := h
    refine ⟨c11, ?_⟩
    have n12 := k2_ne K c11 (by decide)
    obtain ⟨b13, e14, h⟩ := h
    refine ⟨b13, e14, ?_⟩
    obtain ⟨c15, h⟩ := h
    refine ⟨c15, ?_⟩
    have n16 := k2_ne K c15 (by decide)
    obtain ⟨c17, h⟩ := h
    refine ⟨c17, ?_⟩
    intro x19 e18
    have h := h x19 e18
    refine ⟨?_, ?_⟩
    · intro c20
      have h := h.1 c20
      refine cm_X11_isForward (kf_X11_isForward h) h (fun x21 x22 hp h g23 g24 => ?_)
      have h := h g23 g24
      have K := k2_tr K hp.2
      refine ⟨?_, ?_⟩
      · intro c25
        have h := h.1 c25
        exact kf_X11_held_68 h K
      · intro c26
        have h := h.2 c26
        exact kf_X11_held_68 h K
    · intro c27
      have h := h.2 c27
      exact kf_X11_held_68 h K
  · intro c28
    have h := h.2 c28
    refine cm_X11_refused (kf_X11_refused h) h (fun x29 x30 hp h g31 => ?_)
    have h := h g31
    have K := k2_tr K hp.2
    exact ⟨h, K⟩
theorem kf_X11_held {Q : Int32 → HS → Prop} {v0 : Nat} {v1 : Int32} {v2 : Int32} {v3 : Int32} {v4 : Int32} {v5 : Int32} {S : HS} (h : P_X11_held v0 v1 v2 v3 v4 v5 Q S) : P_X11_held v0 v1 v2 v3 v4 v5 (fun r T => Q r T ∧ K2 S T) S := kf_X11_held_0 h (k2_rf S)
set_option maxRecDepth 20000 in
set_option maxHeartbeats 1000000 in
theorem kf_X11_holds_0 {Q : Int64 → HS → Prop} {v0 : Nat} {S0 S : HS} (h : P_X11_holds_0 Q v0 S) (K : K2 S0 S) : P_X11_holds_0 (fun r T => Q r T ∧ K2 S0 T) v0 S := by
  delta P_X11_holds_0 at h ⊢
  obtain ⟨c1, h⟩ := h
  refine ⟨c1, ?_⟩
  have n2 := k2_ne K c1 (by decide)
  obtain ⟨b3, e4, h⟩ := h
  refine ⟨b3, e4, ?_⟩
  obtain ⟨c5, h⟩ := h
  refine ⟨c5, ?_⟩
  have n6 := k2_ne K c5 (by decide)
  obtain ⟨b7, e8, h⟩ := h
  refine ⟨b7, e8, ?_⟩
  intro x10 e9
  have h := h x10 e9
  obtain ⟨c11, h⟩ := h
  refine ⟨c11, ?_⟩
  have n12 := k2_ne K c11 (by decide)
  obtain ⟨c13, h⟩ := h
  refine ⟨c13, ?_⟩
  intro x15 e14
  have h := h x15 e14
  refine ⟨?_, ?_⟩
  · intro c16
    have h := h.1 c16
    exact ⟨h, K⟩
  · intro c17
    have h := h.2 c17
    obtain ⟨b18, e19, h⟩ := h
    refine ⟨b18, e19, ?_⟩
    obtain ⟨c20, h⟩ := h
    refine ⟨c20, ?_⟩
    have n21 := k2_ne K c20 (by decide)
    obtain ⟨b22, e23, h⟩ := h
    refine ⟨b22, e23, ?_⟩
    intro x25 e24
    have h := h x25 e24
    obtain ⟨c26, h⟩ := h
    refine ⟨c26, ?_⟩
    have n27 := k2_ne K c26 (by decide)
    obtain ⟨c28, h⟩ := h
    refine ⟨c28, ?_⟩
    intro x30 e29
    have h := h x30 e29
    exact ⟨h, K⟩
theorem kf_X11_holds {Q : Int64 → HS → Prop} {v0 : Nat} {S : HS} (h : P_X11_holds v0 Q S) : P_X11_holds v0 (fun r T => Q r T ∧ K2 S T) S := kf_X11_holds_0 h (k2_rf S)
set_option maxRecDepth 20000 in
set_option maxHeartbeats 1000000 in
theorem kf_X11_init_0 {Q : HS → Prop} {v0 : Nat} {S0 S : HS} (h : P_X11_init_0 Q v0 S) (K : K2 S0 S) : P_X11_init_0 (fun T => Q T ∧ K2 S0 T) v0 S := by
  delta P_X11_init_0 at h ⊢
  obtain ⟨c1, h⟩ := h
  refine ⟨c1, ?_⟩
  have n2 := k2_ne K c1 (by decide)
  intro x4 e3
  have h := h x4 e3
  have K := k2_I K e3 n2
  intro x6 e5
  have h := h x6 e5
  intro x8 e7
  have h := h x8 e7
  have K := k2_W K e5 e7
  intro x10 e9
  have h := h x10 e9
  have K := k2_R K e9
  intro x12 e11
  have h := h x12 e11
  intro x14 e13
  have h := h x14 e13
  have K := k2_W K e11 e13
  intro x16 e15
  have h := h x16 e15
  have K := k2_R K e15
  intro x18 e17
  have h := h x18 e17
  intro x20 e19
  have h := h x20 e19
  have K := k2_W K e17 e19
  intro x22 e21
  have h := h x22 e21
  have K := k2_R K e21
  intro x24 e23
  have h := h x24 e23
  intro x26 e25
  have h := h x26 e25
  have K := k2_W K e23 e25
  intro x28 e27
  have h := h x28 e27
  have K := k2_R K e27
  intro x30 e29
  have h := h x30 e29
  have K := k2_I K e29 n2
  intro x32 e31
  have h := h x32 e31
  intro x34 e33
  have h := h x34 e33
  have K := k2_W K e31 e33
  intro x36 e35
  have h := h x36 e35
  have K := k2_R K e35
  intro x38 e37
  have h := h x38 e37
  intro x40 e39
  have h := h x40 e39
  have K := k2_W K e37 e39
  intro x42 e41
  have h := h x42 e41
  have K := k2_R K e41
  intro x44 e43
  have h := h x44 e43
  intro x46 e45
  have h := h x46 e45
  have K := k2_W K e43 e45
  intro x48 e47
  have h := h x48 e47
  have K := k2_R K e47
  exact ⟨h, K⟩
theorem kf_X11_init {Q : HS → Prop} {v0 : Nat} {S : HS} (h : P_X11_init v0 Q S) : P_X11_init v0 (fun T => Q T ∧ K2 S T) S := kf_X11_init_0 h (k2_rf S)
set_option maxRecDepth 20000 in
set_option maxHeartbeats 1000000 in
theorem kf_X11_isName_0 {Q : Int32 → HS → Prop} {v0 : Nat} {S0 S : HS} (h : P_X11_isName_0 Q v0 S) (K : K2 S0 S) : P_X11_isName_0 (fun r T => Q r T ∧ K2 S0 T) v0 S := by
  delta P_X11_isName_0 at h ⊢
  obtain ⟨c1, h⟩ := h
  refine ⟨c1, ?_⟩
  have n2 := k2_ne K c1 (by decide)
  intro x4 e3
  have h := h x4 e3
  refine ⟨?_, ?_⟩
  · intro c5
    have h := h.1 c5
    exact ⟨h, K⟩
  · intro c6
    have h := h.2 c6
    refine cm_X11_isWord (kf_X11_isWord h) h (fun x7 x8 hp h g9 g10 => ?_)
    have h := h g9 g10
    have K := k2_tr K hp.2
    refine ⟨?_, ?_⟩
    · intro c11
      have h := h.1 c11
      exact ⟨h, K⟩
    · intro c12
      have h := h.2 c12
      refine cm_X11_isWord (kf_X11_isWord h) h (fun x13 x14 hp h g15 g16 => ?_)
      have h := h g15 g16
      have K := k2_tr K hp.2
      refine ⟨?_, ?_⟩
      · intro c17
        have h := h.1 c17
        exact ⟨h, K⟩
      · intro c18
        have h := h.2 c18
        refine cm_X11_isWord (kf_X11_isWord h) h (fun x19 x20 hp h g21 g22 => ?_)
        have h := h g21 g22
        have K := k2_tr K hp.2
        refine ⟨?_, ?_⟩
        · intro c23
          have h := h.1 c23
          exact ⟨h, K⟩
        · intro c24
          have h := h.2 c24
          refine cm_X11_isWord (kf_X11_isWord h) h (fun x25 x26 hp h g27 g28 => ?_)
          have h := h g27 g28
          have K := k2_tr K hp.2
          refine ⟨?_, ?_⟩
          · intro c29
            have h := h.1 c29
            refine cm_X11_isWord (kf_X11_isWord h) h (fun x30 x31 hp h g32 g33 => ?_)
            have h := h g32 g33
            have K := k2_tr K hp.2
            refine ⟨?_, ?_⟩
            · intro c34
              have h := h.1 c34
              exact ⟨h, K⟩
            · intro c35
              have h := h.2 c35
              refine cm_X11_isWord (kf_X11_isWord h) h (fun x36 x37 hp h g38 g39 => ?_)
              have h := h g38 g39
              have K := k2_tr K hp.2
              refine ⟨?_, ?_⟩
              · intro c40
                have h := h.1 c40
                exact ⟨h, K⟩
              · intro c41
                have h := h.2 c41
                refine cm_X11_isWord (kf_X11_isWord h) h (fun x42 x43 hp h g44 g45 => ?_)
                have h := h g44 g45
                have K := k2_tr K hp.2
                refine ⟨?_, ?_⟩
                · intro c46
                  have h := h.1 c46
                  exact ⟨h, K⟩
                · intro c47
                  have h := h.2 c47
                  refine cm_X11_isWord (kf_X11_isWord h) h (fun x48 x49 hp h g50 g51 => ?_)
                  have h := h g50 g51
                  have K := k2_tr K hp.2
                  refine ⟨?_, ?_⟩
                  · intro c52
                    have h := h.1 c52
                    exact ⟨h, K⟩
                  · intro c53
                    have h := h.2 c53
                    refine cm_X11_isWord (kf_X11_isWord h) h (fun x54 x55 hp h g56 g57 => ?_)
                    have h := h g56 g57
                    have K := k2_tr K hp.2
                    refine ⟨?_, ?_⟩
                    · intro c58
                      have h := h.1 c58
                      exact ⟨h, K⟩
                    · intro c59
                      have h := h.2 c59
                      exact ⟨h, K⟩
          · intro c60
            have h := h.2 c60
            exact ⟨h, K⟩
theorem kf_X11_isName {Q : Int32 → HS → Prop} {v0 : Nat} {S : HS} (h : P_X11_isName v0 Q S) : P_X11_isName v0 (fun r T => Q r T ∧ K2 S T) S := kf_X11_isName_0 h (k2_rf S)
set_option maxRecDepth 20000 in
set_option maxHeartbeats 1000000 in
theorem kf_X11_known_47 {Q : Int32 → HS → Prop} {v0 : Nat} {v2 : Int32} {S0 S : HS} (h : P_X11_known_47 Q v0 v2 S) (K : K2 S0 S) : P_X11_known_47 (fun r T => Q r T ∧ K2 S0 T) v0 v2 S := by
  delta P_X11_known_47 at h ⊢
  obtain ⟨c1, h⟩ := h
  refine ⟨c1, ?_⟩
  have n2 := k2_ne K c1 (by decide)
  intro x4 e3
  have h := h x4 e3
  refine ⟨?_, ?_⟩
  · intro c5
    have h := h.1 c5
    obtain ⟨b6, e7, h⟩ := h
    refine ⟨b6, e7, ?_⟩
    obtain ⟨c8, h⟩ := h
    refine ⟨c8, ?_⟩
    have n9 := k2_ne K c8 (by decide)
    obtain ⟨b10, e11, h⟩ := h
    refine ⟨b10, e11, ?_⟩
    obtain ⟨c12, h⟩ := h
    refine ⟨c12, ?_⟩
    have n13 := k2_ne K c12 (by decide)
    obtain ⟨c14, h⟩ := h
    refine ⟨c14, ?_⟩
    intro x16 e15
    have h := h x16 e15
    exact ⟨h, K⟩
  · intro c17
    have h := h.2 c17
    exact ⟨h, K⟩
set_option maxRecDepth 20000 in
set_option maxHeartbeats 1000000 in
theorem kf_X11_known_42 {Q : Int32 → HS → Prop} {v0 : Nat} {v2 : Int32} {S0 S : HS} (h : P_X11_known_42 Q v0 v2 S) (K : K2 S0 S) : P_X11_known_42 (fun r T => Q r T ∧ K2 S0 T) v0 v2 S := by
  delta P_X11_known_42 at h ⊢
  obtain ⟨c1, h⟩ := h
  refine ⟨c1, ?_⟩
  have n2 := k2_ne K c1 (by decide)
  refine cm_X11_flaw (kf_X11_flaw h) h (fun x3 hp h g4 => ?_)
  have h := h g4
  have K := k2_tr K hp.2
  exact kf_X11_known_47 h K
set_option maxRecDepth 20000 in
set_option maxHeartbeats 1000000 in
theorem kf_X11_known_12 {Q : Int32 → HS → Prop} {v0 : Nat} {v1 : Int32} {S0 S : HS} (h : P_X11_known_12 Q v0 v1 S) (K : K2 S0 S) : P_X11_known_12 (fun r T => Q r T ∧ K2 S0 T) v0 v1 S := by
  delta P_X11_known_12 at h ⊢
  obtain ⟨c1, h⟩ := h
  refine ⟨c1, ?_⟩
  have n2 := k2_ne K c1 (by decide)
  obtain ⟨b3, e4, h⟩ := h
  refine ⟨b3, e4, ?_⟩
  intro x6 e5
  have h := h x6 e5
  obtain ⟨c7, h⟩ := h
  refine ⟨c7, ?_⟩
  have n8 := k2_ne K c7 (by decide)
  refine cm_X10_find (kf_X10_find h) h (fun x9 x10 hp h g11 => ?_)
  have h := h g11
  have K := k2_tr K hp.2
  refine ⟨?_, ?_⟩
  · intro c12
    have h := h.1 c12
    exact kf_X11_known_42 h K
  · intro c13
    have h := h.2 c13
    obtain ⟨b14, e15, h⟩ := h
    refine ⟨b14, e15, ?_⟩
    obtain ⟨c16, h⟩ := h
    refine ⟨c16, ?_⟩
    have n17 := k2_ne K c16 (by decide)
    obtain ⟨b18, e19, h⟩ := h
    refine ⟨b18, e19, ?_⟩
    obtain ⟨c20, h⟩ := h
    refine ⟨c20, ?_⟩
    have n21 := k2_ne K c20 (by decide)
    obtain ⟨c22, h⟩ := h
    refine ⟨c22, ?_⟩
    intro x24 e23
    have h := h x24 e23
    refine ⟨?_, ?_⟩
    · intro c25
      have h := h.1 c25
      exact kf_X11_known_47 h K
    · intro c26
      have h := h.2 c26
      exact kf_X11_known_42 h K
set_option maxRecDepth 20000 in
set_option maxHeartbeats 1000000 in
theorem kf_X11_known_0 {Q : Int32 → HS → Prop} {v0 : Nat} {v1 : Int32} {S0 S : HS} (h : P_X11_known_0 Q v0 v1 S) (K : K2 S0 S) : P_X11_known_0 (fun r T => Q r T ∧ K2 S0 T) v0 v1 S := by
  delta P_X11_known_0 at h ⊢
  obtain ⟨c1, h⟩ := h
  refine ⟨c1, ?_⟩
  have n2 := k2_ne K c1 (by decide)
  refine cm_X11_isName (kf_X11_isName h) h (fun x3 x4 hp h g5 g6 => ?_)
  have h := h g5 g6
  have K := k2_tr K hp.2
  refine ⟨?_, ?_⟩
  · intro c7
    have h := h.1 c7
    exact kf_X11_known_12 h K
  · intro c8
    have h := h.2 c8
    refine cm_X11_flaw (kf_X11_flaw h) h (fun x9 hp h g10 => ?_)
    have h := h g10
    have K := k2_tr K hp.2
    exact kf_X11_known_12 h K
theorem kf_X11_known {Q : Int32 → HS → Prop} {v0 : Nat} {v1 : Int32} {S : HS} (h : P_X11_known v0 v1 Q S) : P_X11_known v0 v1 (fun r T => Q r T ∧ K2 S T) S := kf_X11_known_0 h (k2_rf S)
set_option maxRecDepth 20000 in
set_option maxHeartbeats 1000000 in
theorem kf_X11_spotOf_0 {Q : Int32 → HS → Prop} {v0 : Int32} {v1 : Int32} {S0 S : HS} (h : P_X11_spotOf_0 Q v0 v1 S) (K : K2 S0 S) : P_X11_spotOf_0 (fun r T => Q r T ∧ K2 S0 T) v0 v1 S := by
  delta P_X11_spotOf_0 at h ⊢
  exact ⟨h, K⟩
theorem kf_X11_spotOf {Q : Int32 → HS → Prop} {v0 : Int32} {v1 : Int32} {S : HS} (h : P_X11_spotOf v0 v1 Q S) : P_X11_spotOf v0 v1 (fun r T => Q r T ∧ K2 S T) S := kf_X11_spotOf_0 h (k2_rf S)
set_option maxRecDepth 20000 in
set_option maxHeartbeats 1000000 in
theorem kf_X11_meanOf_0 {Q : Int64 → HS → Prop} {v0 : Nat} {v1 : Int32} {v2 : Int32} {v3 : Int32} {v4 : Int32} {v5 : Int32} {S0 S : HS} (h : P_X11_meanOf_0 Q v0 v1 v2 v3 v4 v5 S) (K : K2 S0 S) : P_X11_meanOf_0 (fun r T => Q r T ∧ K2 S0 T) v0 v1 v2 v3 v4 v5 S := by
  delta P_X11_meanOf_0 at h ⊢
  obtain ⟨c1, h⟩ := h
  refine ⟨c1, ?_⟩
  have n2 := k2_ne K c1 (by decide)
  refine cm_X11_hourOf (kf_X11_hourOf h) h (fun x3 x4 hp h g5 => ?_)
  have h := h g5
  have K := k2_tr K hp.2
  obtain ⟨b6, e7, h⟩ := h
  refine ⟨b6, e7, ?_⟩
  obtain ⟨c8, h⟩ := h
  refine ⟨c8, ?_⟩
  have n9 := k2_ne K c8 (by decide)
  intro x11 e10
  have h := h x11 e10
  refine ⟨?_, ?_⟩
  · intro c12
    have h := h.1 c12
    exact ⟨h, K⟩
  · intro c13
    have h := h.2 c13
    refine cm_X11_wetOf (kf_X11_wetOf h) h (fun x14 x15 hp h g16 => ?_)
    have h := h g16
    have K := k2_tr K hp.2
    obtain ⟨b17, e18, h⟩ := h
    refine ⟨b17, e18, ?_⟩
    obtain ⟨c19, h⟩ := h
    refine ⟨c19, ?_⟩
    have n20 := k2_ne K c19 (by decide)
    obtain ⟨b21, e22, h⟩ := h
    refine ⟨b21, e22, ?_⟩
    obtain ⟨c23, h⟩ := h
    refine ⟨c23, ?_⟩
    have n24 := k2_ne K c23 (by decide)
    obtain ⟨c25, h⟩ := h
    refine ⟨c25, ?_⟩
    intro x27 e26
    have h := h x27 e26
    exact ⟨h, K⟩
theorem kf_X11_meanOf {Q : Int64 → HS → Prop} {v0 : Nat} {v1 : Int32} {v2 : Int32} {v3 : Int32} {v4 : Int32} {v5 : Int32} {S : HS} (h : P_X11_meanOf v0 v1 v2 v3 v4 v5 Q S) : P_X11_meanOf v0 v1 v2 v3 v4 v5 (fun r T => Q r T ∧ K2 S T) S := kf_X11_meanOf_0 h (k2_rf S)
set_option maxRecDepth 20000 in
set_option maxHeartbeats 1000000 in
theorem kf_X11_takes_77 {Q : HS → Prop} {v0 : Nat} {v1 : Int32} {v2 : Int32} {v5 : Int32} {v6 : Int64} {S0 S : HS} (h : P_X11_takes_77 Q v0 v1 v2 v5 v6 S) (K : K2 S0 S) : P_X11_takes_77 (fun T => Q T ∧ K2 S0 T) v0 v1 v2 v5 v6 S := by
  delta P_X11_takes_77 at h ⊢
  obtain ⟨c1, h⟩ := h
  refine ⟨c1, ?_⟩
  have n2 := k2_ne K c1 (by decide)
  obtain ⟨b3, e4, h⟩ := h
  refine ⟨b3, e4, ?_⟩
  obtain ⟨c5, h⟩ := h
  refine ⟨c5, ?_⟩
  have n6 := k2_ne K c5 (by decide)
  obtain ⟨c7, h⟩ := h
  refine ⟨c7, ?_⟩
  intro x9 e8
  have h := h x9 e8
  have K := k2_J K e8
  obtain ⟨b10, e11, h⟩ := h
  refine ⟨b10, e11, ?_⟩
  obtain ⟨b12, e13, h⟩ := h
  refine ⟨b12, e13, ?_⟩
  obtain ⟨c14, h⟩ := h
  refine ⟨c14, ?_⟩
  have n15 := k2_ne K c14 (by decide)
  obtain ⟨c16, h⟩ := h
  refine ⟨c16, ?_⟩
  intro x18 e17
  have h := h x18 e17
  obtain ⟨c19, h⟩ := h
  refine ⟨c19, ?_⟩
  have n20 := k2_ne K c19 (by decide)
  obtain ⟨c21, h⟩ := h
  refine ⟨c21, ?_⟩
  intro x23 e22
  have h := h x23 e22
  have K := k2_I K e22 n20
  obtain ⟨b24, e25, h⟩ := h
  refine ⟨b24, e25, ?_⟩
  obtain ⟨c26, h⟩ := h
  refine ⟨c26, ?_⟩
  have n27 := k2_ne K c26 (by decide)
  obtain ⟨c28, h⟩ := h
  refine ⟨c28, ?_⟩
  intro x30 e29
  have h := h x30 e29
  have K := k2_I K e29 n27
  exact ⟨h, K⟩
set_option maxRecDepth 20000 in
set_option maxHeartbeats 1000000 in
theorem kf_X11_takes_0 {Q : HS → Prop} {v0 : Nat} {v1 : Int32} {v2 : Int32} {v3 : Int64} {v5 : Int32} {S0 S : HS} (h : P_X11_takes_0 Q v0 v1 v2 v3 v5 S) (K : K2 S0 S) : P_X11_takes_0 (fun T => Q T ∧ K2 S0 T) v0 v1 v2 v3 v5 S := by
  delta P_X11_takes_0 at h ⊢
  obtain ⟨c1, h⟩ := h
  refine ⟨c1, ?_⟩
  have n2 := k2_ne K c1 (by decide)
  obtain ⟨b3, e4, h⟩ := h
  refine ⟨b3, e4, ?_⟩
  obtain ⟨c5, h⟩ := h
  refine ⟨c5, ?_⟩
  have n6 := k2_ne K c5 (by decide)
  obtain ⟨c7, h⟩ := h
  refine ⟨c7, ?_⟩
  intro x9 e8
  have h := h x9 e8
  refine ⟨?_, ?_⟩
  · intro c10
    have h := h.1 c10
    obtain ⟨b11, e12, h⟩ := h
    refine ⟨b11, e12, ?_⟩
    obtain ⟨c13, h⟩ := h
    refine ⟨c13, ?_⟩
    have n14 := k2_ne K c13 (by decide)
    obtain ⟨c15, h⟩ := h
    refine ⟨c15, ?_⟩
    intro x17 e16
    have h := h x17 e16
    intro x19 e18
    have h := h x19 e18
    obtain ⟨b20, e21, h⟩ := h
    refine ⟨b20, e21, ?_⟩
    obtain ⟨c22, h⟩ := h
    refine ⟨c22, ?_⟩
    have n23 := k2_ne K c22 (by decide)
    obtain ⟨c24, h⟩ := h
    refine ⟨c24, ?_⟩
    intro x26 e25
    have h := h x26 e25
    refine ⟨?_, ?_⟩
    · intro c27
      have h := h.1 c27
      exact kf_X11_takes_77 h K
    · intro c28
      have h := h.2 c28
      obtain ⟨b29, e30, h⟩ := h
      refine ⟨b29, e30, ?_⟩
      obtain ⟨c31, h⟩ := h
      refine ⟨c31, ?_⟩
      have n32 := k2_ne K c31 (by decide)
      obtain ⟨c33, h⟩ := h
      refine ⟨c33, ?_⟩
      intro x35 e34
      have h := h x35 e34
      refine ⟨?_, ?_⟩
      · intro c36
        have h := h.1 c36
        exact ⟨h, K⟩
      · intro c37
        have h := h.2 c37
        obtain ⟨b38, e39, h⟩ := h
        refine ⟨b38, e39, ?_⟩
        obtain ⟨c40, h⟩ := h
        refine ⟨c40, ?_⟩
        have n41 := k2_ne K c40 (by decide)
        obtain ⟨c42, h⟩ := h
        refine ⟨c42, ?_⟩
        intro x44 e43
        have h := h x44 e43
        refine ⟨?_, ?_⟩
        · intro c45
          have h := h.1 c45
          exact kf_X11_takes_77 h K
        · intro c46
          have h := h.2 c46
          obtain ⟨b47, e48, h⟩ := h
          refine ⟨b47, e48, ?_⟩
          obtain ⟨c49, h⟩ := h
          refine ⟨c49, ?_⟩
          have n50 := k2_ne K c49 (by decide)
          obtain ⟨c51, h⟩ := h
          refine ⟨c51, ?_⟩
          intro x53 e52
          have h := h x53 e52
          obtain ⟨b54, e55, h⟩ := h
          refine ⟨b54, e55, ?_⟩
          obtain ⟨c56, h⟩ := h
          refine ⟨c56, ?_⟩
          have n57 := k2_ne K c56 (by decide)
          obtain ⟨c58, h⟩ := h
          refine ⟨c58, ?_⟩
          intro x60 e59
          have h := h x60 e59
          refine ⟨?_, ?_⟩
          · intro c61
            have h := h.1 c61
            exact kf_X11_takes_77 h K
          · intro c62
            have h := h.2 c62
            exact ⟨h, K⟩
  · intro c63
    have h := h.2 c63
    exact ⟨h, K⟩
theorem kf_X11_takes {Q : HS → Prop} {v0 : Nat} {v1 : Int32} {v2 : Int32} {v3 : Int64} {v5 : Int32} {S : HS} (h : P_X11_takes v0 v1 v2 v3 v5 Q S) : P_X11_takes v0 v1 v2 v3 v5 (fun T => Q T ∧ K2 S T) S := kf_X11_takes_0 h (k2_rf S)
set_option maxRecDepth 20000 in
set_option maxHeartbeats 1000000 in
theorem kf_X11_waitsOf_0 {Q : Int64 → HS → Prop} {v0 : Nat} {v1 : Int32} {v2 : Int32} {v3 : Int32} {S0 S : HS} (h : P_X11_waitsOf_0 Q v0 v1 v2 v3 S) (K : K2 S0 S) : P_X11_waitsOf_0 (fun r T => Q r T ∧ K2 S0 T) v0 v1 v2 v3 S := by
  delta P_X11_waitsOf_0 at h ⊢
  obtain ⟨c1, h⟩ := h
  refine ⟨c1, ?_⟩
  have n2 := k2_ne K c1 (by decide)
  refine cm_X11_hourOf (kf_X11_hourOf h) h (fun x3 x4 hp h g5 => ?_)
  have h := h g5
  have K := k2_tr K hp.2
  obtain ⟨b6, e7, h⟩ := h
  refine ⟨b6, e7, ?_⟩
  obtain ⟨c8, h⟩ := h
  refine ⟨c8, ?_⟩
  have n9 := k2_ne K c8 (by decide)
  obtain ⟨b10, e11, h⟩ := h
  refine ⟨b10, e11, ?_⟩
  obtain ⟨c12, h⟩ := h
  refine ⟨c12, ?_⟩
  have n13 := k2_ne K c12 (by decide)
  obtain ⟨c14, h⟩ := h
  refine ⟨c14, ?_⟩
  intro x16 e15
  have h := h x16 e15
  refine ⟨?_, ?_⟩
  · intro c17
    have h := h.1 c17
    exact ⟨h, K⟩
  · intro c18
    have h := h.2 c18
    obtain ⟨b19, e20, h⟩ := h
    refine ⟨b19, e20, ?_⟩
    obtain ⟨c21, h⟩ := h
    refine ⟨c21, ?_⟩
    have n22 := k2_ne K c21 (by decide)
    intro x24 e23
    have h := h x24 e23
    refine ⟨?_, ?_⟩
    · intro c25
      have h := h.1 c25
      refine cm_X11_drips (kf_X11_drips h) h (fun x26 x27 hp h g28 => ?_)
      have h := h g28
      have K := k2_tr K hp.2
      obtain ⟨b29, e30, h⟩ := h
      refine ⟨b29, e30, ?_⟩
      obtain ⟨c31, h⟩ := h
      refine ⟨c31, ?_⟩
      have n32 := k2_ne K c31 (by decide)
      obtain ⟨b33, e34, h⟩ := h
      refine ⟨b33, e34, ?_⟩
      obtain ⟨c35, h⟩ := h
      refine ⟨c35, ?_⟩
      have n36 := k2_ne K c35 (by decide)
      obtain ⟨c37, h⟩ := h
      refine ⟨c37, ?_⟩
      intro x39 e38
      have h := h x39 e38
      exact ⟨h, K⟩
    · intro c40
      have h := h.2 c40
      exact ⟨h, K⟩
theorem kf_X11_waitsOf {Q : Int64 → HS → Prop} {v0 : Nat} {v1 : Int32} {v2 : Int32} {v3 : Int32} {S : HS} (h : P_X11_waitsOf v0 v1 v2 v3 Q S) : P_X11_waitsOf v0 v1 v2 v3 (fun r T => Q r T ∧ K2 S T) S := kf_X11_waitsOf_0 h (k2_rf S)
set_option maxRecDepth 20000 in
set_option maxHeartbeats 1000000 in
theorem kf_X11_tries_140 {Q : HS → Prop} {X3 X3_2 : Nat → Int32 → Int32 → Int32 → Int32 → Int32 → HS → Prop} {X18 X18_2 : Nat → Int32 → Int32 → Int32 → Int32 → Int32 → Int32 → HS → Prop} {X53 X53_2 : Nat → Int32 → Int32 → Int32 → Int32 → Int32 → Int32 → Int32 → HS → Prop} {v0 : Nat} {v1 : Int32} {v2 : Int32} {v3 : Int32} {v4 : Int32} {v5 : Int32} {v6 : Int32} {v7 : Int32} {S0 S : HS} (h : P_X11_tries_140 Q X3 X18 X53 v0 v1 v2 v3 v4 v5 v6 v7 S) (K : K2 S0 S) (hX3 : ∀ (u0 : Nat) (u1 : Int32) (u2 : Int32) (u3 : Int32) (u4 : Int32) (u5 : Int32) (u6 : HS), X3 u0 u1 u2 u3 u4 u5 u6 → K2 S0 u6 → X3_2 u0 u1 u2 u3 u4 u5 u6) (hX18 : ∀ (u0 : Nat) (u1 : Int32) (u2 : Int32) (u3 : Int32) (u4 : Int32) (u5 : Int32) (u6 : Int32) (u7 : HS), X18 u0 u1 u2 u3 u4 u5 u6 u7 → K2 S0 u7 → X18_2 u0 u1 u2 u3 u4 u5 u6 u7) (hX53 : ∀ (u0 : Nat) (u1 : Int32) (u2 : Int32) (u3 : Int32) (u4 : Int32) (u5 : Int32) (u6 : Int32) (u7 : Int32) (u8 : HS), X53 u0 u1 u2 u3 u4 u5 u6 u7 u8 → K2 S0 u8 → X53_2 u0 u1 u2 u3 u4 u5 u6 u7 u8) : P_X11_tries_140 (fun T => Q T ∧ K2 S0 T) X3_2 X18_2 X53_2 v0 v1 v2 v3 v4 v5 v6 v7 S := by
  delta P_X11_tries_140 at h ⊢
  intro x2 e1
  have h := h x2 e1
  exact hX53 _ _ _ _ _ _ _ _ _ h K
set_option maxRecDepth 20000 in
set_option maxHeartbeats 1000000 in
theorem kf_X11_tries_146 {Q : HS → Prop} {X3 X3_2 : Nat → Int32 → Int32 → Int32 → Int32 → Int32 → HS → Prop} {X18 X18_2 : Nat → Int32 → Int32 → Int32 → Int32 → Int32 → Int32 → HS → Prop} {v0 : Nat} {v1 : Int32} {v2 : Int32} {v3 : Int32} {v4 : Int32} {v5 : Int32} {v6 : Int32} {S0 S : HS} (h : P_X11_tries_146 Q X3 X18 v0 v1 v2 v3 v4 v5 v6 S) (K : K2 S0 S) (hX3 : ∀ (u0 : Nat) (u1 : Int32) (u2 : Int32) (u3 : Int32) (u4 : Int32) (u5 : Int32) (u6 : HS), X3 u0 u1 u2 u3 u4 u5 u6 → K2 S0 u6 → X3_2 u0 u1 u2 u3 u4 u5 u6) (hX18 : ∀ (u0 : Nat) (u1 : Int32) (u2 : Int32) (u3 : Int32) (u4 : Int32) (u5 : Int32) (u6 : Int32) (u7 : HS), X18 u0 u1 u2 u3 u4 u5 u6 u7 → K2 S0 u7 → X18_2 u0 u1 u2 u3 u4 u5 u6 u7) : P_X11_tries_146 (fun T => Q T ∧ K2 S0 T) X3_2 X18_2 v0 v1 v2 v3 v4 v5 v6 S := by
  delta P_X11_tries_146 at h ⊢
  intro x2 e1
  have h := h x2 e1
  exact hX18 _ _ _ _ _ _ _ _ h K
set_option maxRecDepth 20000 in
set_option maxHeartbeats 1000000 in
theorem kfB_X11_tries_53 {Q : HS → Prop} {X3 X3_2 : Nat → Int32 → Int32 → Int32 → Int32 → Int32 → HS → Prop} {X18 X18_2 : Nat → Int32 → Int32 → Int32 → Int32 → Int32 → Int32 → HS → Prop} {X53 X53_2 : Nat → Int32 → Int32 → Int32 → Int32 → Int32 → Int32 → Int32 → HS → Prop} {v0 : Nat} {v1 : Int32} {v2 : Int32} {v3 : Int32} {v4 : Int32} {v5 : Int32} {v6 : Int32} {v7 : Int32} {S0 S : HS} (h : B_X11_tries_53 Q X3 X18 X53 v0 v1 v2 v3 v4 v5 v6 v7 S) (K : K2 S0 S) (hX3 : ∀ (u0 : Nat) (u1 : Int32) (u2 : Int32) (u3 : Int32) (u4 : Int32) (u5 : Int32) (u6 : HS), X3 u0 u1 u2 u3 u4 u5 u6 → K2 S0 u6 → X3_2 u0 u1 u2 u3 u4 u5 u6) (hX18 : ∀ (u0 : Nat) (u1 : Int32) (u2 : Int32) (u3 : Int32) (u4 : Int32) (u5 : Int32) (u6 : Int32) (u7 : HS), X18 u0 u1 u2 u3 u4 u5 u6 u7 → K2 S0 u7 → X18_2 u0 u1 u2 u3 u4 u5 u6 u7) (hX53 : ∀ (u0 : Nat) (u1 : Int32) (u2 : Int32) (u3 : Int32) (u4 : Int32) (u5 : Int32) (u6 : Int32) (u7 : Int32) (u8 : HS), X53 u0 u1 u2 u3 u4 u5 u6 u7 u8 → K2 S0 u8 → X53_2 u0 u1 u2 u3 u4 u5 u6 u7 u8) : B_X11_tries_53 (fun T => Q T ∧ K2 S0 T) X3_2 X18_2 X53_2 v0 v1 v2 v3 v4 v5 v6 v7 S := by
  delta B_X11_tries_53 at h ⊢
  obtain ⟨c1, h⟩ := h
  refine ⟨c1, ?_⟩
  have n2 := k2_ne K c1 (by decide)
  obtain ⟨b3, e4, h⟩ := h
  refine ⟨b3, e4, ?_⟩
  obtain ⟨c5, h⟩ := h
  refine ⟨c5, ?_⟩
  have n6 := k2_ne K c5 (by decide)
  obtain ⟨b7, e8, h⟩ := h
  refine ⟨b7, e8, ?_⟩
  obtain ⟨c9, h⟩ := h
  refine ⟨c9, ?_⟩
  have n10 := k2_ne K c9 (by decide)
  obtain ⟨c11, h⟩ := h
  refine ⟨c11, ?_⟩
  intro x13 e12
  have h := h x13 e12
  refine ⟨?_, ?_⟩
  · intro c14
    have h := h.1 c14
    exact kf_X11_tries_146 h K hX3 hX18
  · intro c15
    have h := h.2 c15
    obtain ⟨b16, e17, h⟩ := h
    refine ⟨b16, e17, ?_⟩
    obtain ⟨c18, h⟩ := h
    refine ⟨c18, ?_⟩
    have n19 := k2_ne K c18 (by decide)
    refine cm_X10_minutes (kf_X10_minutes h) h (fun x20 x21 hp h g22 => ?_)
    have h := h g22
    have K := k2_tr K hp.2
    intro x24 e23
    have h := h x24 e23
    refine ⟨?_, ?_⟩
    · intro c25
      have h := h.1 c25
      exact kf_X11_tries_140 h K hX3 hX18 hX53
    · intro c26
      have h := h.2 c26
      refine cm_X11_spotOf (kf_X11_spotOf h) h (fun x27 x28 hp h g29 => ?_)
      have h := h g29
      have K := k2_tr K hp.2
      obtain ⟨b30, e31, h⟩ := h
      refine ⟨b30, e31, ?_⟩
      obtain ⟨c32, h⟩ := h
      refine ⟨c32, ?_⟩
      have n33 := k2_ne K c32 (by decide)
      refine cm_X10_ends (kf_X10_ends h) h (fun x34 x35 hp h g36 => ?_)
      have h := h g36
      have K := k2_tr K hp.2
      refine cm_X11_spotOf (kf_X11_spotOf h) h (fun x37 x38 hp h g39 => ?_)
      have h := h g39
      have K := k2_tr K hp.2
      refine cm_X11_meanOf (kf_X11_meanOf h) h (fun x40 x41 hp h g42 => ?_)
      have h := h g42
      have K := k2_tr K hp.2
      refine cm_X11_takes (kf_X11_takes h) h (fun x43 hp h g44 => ?_)
      have h := h g44
      have K := k2_tr K hp.2
      exact kf_X11_tries_140 h K hX3 hX18 hX53
theorem kf_X11_tries_53 {Q : HS → Prop} {X3 X3_2 : Nat → Int32 → Int32 → Int32 → Int32 → Int32 → HS → Prop} {X18 X18_2 : Nat → Int32 → Int32 → Int32 → Int32 → Int32 → Int32 → HS → Prop} {v0 : Nat} {v1 : Int32} {v2 : Int32} {v3 : Int32} {v4 : Int32} {v5 : Int32} {v6 : Int32} {v7 : Int32} {S0 S : HS} (h : P_X11_tries_53 Q X3 X18 v0 v1 v2 v3 v4 v5 v6 v7 S) (K : K2 S0 S) (hX3 : ∀ (u0 : Nat) (u1 : Int32) (u2 : Int32) (u3 : Int32) (u4 : Int32) (u5 : Int32) (u6 : HS), X3 u0 u1 u2 u3 u4 u5 u6 → K2 S0 u6 → X3_2 u0 u1 u2 u3 u4 u5 u6) (hX18 : ∀ (u0 : Nat) (u1 : Int32) (u2 : Int32) (u3 : Int32) (u4 : Int32) (u5 : Int32) (u6 : Int32) (u7 : HS), X18 u0 u1 u2 u3 u4 u5 u6 u7 → K2 S0 u7 → X18_2 u0 u1 u2 u3 u4 u5 u6 u7) : P_X11_tries_53 (fun T => Q T ∧ K2 S0 T) X3_2 X18_2 v0 v1 v2 v3 v4 v5 v6 v7 S := h (fun v0 v1 v2 v3 v4 v5 v6 v7 S => K2 S0 S → P_X11_tries_53 (fun T => Q T ∧ K2 S0 T) X3_2 X18_2 v0 v1 v2 v3 v4 v5 v6 v7 S) (fun v0 v1 v2 v3 v4 v5 v6 v7 S hB K => fd_X11_tries_53 (kfB_X11_tries_53 hB K hX3 hX18 (fun _ _ _ _ _ _ _ _ _ hx K => hx K))) K
set_option maxRecDepth 20000 in
set_option maxHeartbeats 1000000 in
theorem kfB_X11_tries_18 {Q : HS → Prop} {X3 X3_2 : Nat → Int32 → Int32 → Int32 → Int32 → Int32 → HS → Prop} {X18 X18_2 : Nat → Int32 → Int32 → Int32 → Int32 → Int32 → Int32 → HS → Prop} {v0 : Nat} {v1 : Int32} {v2 : Int32} {v3 : Int32} {v4 : Int32} {v5 : Int32} {v6 : Int32} {S0 S : HS} (h : B_X11_tries_18 Q X3 X18 v0 v1 v2 v3 v4 v5 v6 S) (K : K2 S0 S) (hX3 : ∀ (u0 : Nat) (u1 : Int32) (u2 : Int32) (u3 : Int32) (u4 : Int32) (u5 : Int32) (u6 : HS), X3 u0 u1 u2 u3 u4 u5 u6 → K2 S0 u6 → X3_2 u0 u1 u2 u3 u4 u5 u6) (hX18 : ∀ (u0 : Nat) (u1 : Int32) (u2 : Int32) (u3 : Int32) (u4 : Int32) (u5 : Int32) (u6 : Int32) (u7 : HS), X18 u0 u1 u2 u3 u4 u5 u6 u7 → K2 S0 u7 → X18_2 u0 u1 u2 u3 u4 u5 u6 u7) : B_X11_tries_18 (fun T => Q T ∧ K2 S0 T) X3_2 X18_2 v0 v1 v2 v3 v4 v5 v6 S := by
  delta B_X11_tries_18 at h ⊢
  refine ⟨?_, ?_⟩
  · intro c1
    have h := h.1 c1
    intro x3 e2
    have h := h x3 e2
    exact hX3 _ _ _ _ _ _ _ h K
  · intro c4
    have h := h.2 c4
    obtain ⟨c5, h⟩ := h
    refine ⟨c5, ?_⟩
    have n6 := k2_ne K c5 (by decide)
    obtain ⟨b7, e8, h⟩ := h
    refine ⟨b7, e8, ?_⟩
    obtain ⟨c9, h⟩ := h
    refine ⟨c9, ?_⟩
    have n10 := k2_ne K c9 (by decide)
    refine cm_X10_begins (kf_X10_begins h) h (fun x11 x12 hp h g13 => ?_)
    have h := h g13
    have K := k2_tr K hp.2
    refine ⟨?_, ?_⟩
    · intro c14
      have h := h.1 c14
      obtain ⟨b15, e16, h⟩ := h
      refine ⟨b15, e16, ?_⟩
      obtain ⟨c17, h⟩ := h
      refine ⟨c17, ?_⟩
      have n18 := k2_ne K c17 (by decide)
      obtain ⟨b19, e20, h⟩ := h
      refine ⟨b19, e20, ?_⟩
      obtain ⟨c21, h⟩ := h
      refine ⟨c21, ?_⟩
      have n22 := k2_ne K c21 (by decide)
      obtain ⟨c23, h⟩ := h
      refine ⟨c23, ?_⟩
      intro x25 e24
      have h := h x25 e24
      exact kf_X11_tries_53 h K hX3 hX18
    · intro c26
      have h := h.2 c26
      exact kf_X11_tries_146 h K hX3 hX18
theorem kf_X11_tries_18 {Q : HS → Prop} {X3 X3_2 : Nat → Int32 → Int32 → Int32 → Int32 → Int32 → HS → Prop} {v0 : Nat} {v1 : Int32} {v2 : Int32} {v3 : Int32} {v4 : Int32} {v5 : Int32} {v6 : Int32} {S0 S : HS} (h : P_X11_tries_18 Q X3 v0 v1 v2 v3 v4 v5 v6 S) (K : K2 S0 S) (hX3 : ∀ (u0 : Nat) (u1 : Int32) (u2 : Int32) (u3 : Int32) (u4 : Int32) (u5 : Int32) (u6 : HS), X3 u0 u1 u2 u3 u4 u5 u6 → K2 S0 u6 → X3_2 u0 u1 u2 u3 u4 u5 u6) : P_X11_tries_18 (fun T => Q T ∧ K2 S0 T) X3_2 v0 v1 v2 v3 v4 v5 v6 S := h (fun v0 v1 v2 v3 v4 v5 v6 S => K2 S0 S → P_X11_tries_18 (fun T => Q T ∧ K2 S0 T) X3_2 v0 v1 v2 v3 v4 v5 v6 S) (fun v0 v1 v2 v3 v4 v5 v6 S hB K => fd_X11_tries_18 (kfB_X11_tries_18 hB K hX3 (fun _ _ _ _ _ _ _ _ hx K => hx K))) K
set_option maxRecDepth 20000 in
set_option maxHeartbeats 1000000 in
theorem kfB_X11_tries_3 {Q : HS → Prop} {X3 X3_2 : Nat → Int32 → Int32 → Int32 → Int32 → Int32 → HS → Prop} {v0 : Nat} {v1 : Int32} {v2 : Int32} {v3 : Int32} {v4 : Int32} {v5 : Int32} {S0 S : HS} (h : B_X11_tries_3 Q X3 v0 v1 v2 v3 v4 v5 S) (K : K2 S0 S) (hX3 : ∀ (u0 : Nat) (u1 : Int32) (u2 : Int32) (u3 : Int32) (u4 : Int32) (u5 : Int32) (u6 : HS), X3 u0 u1 u2 u3 u4 u5 u6 → K2 S0 u6 → X3_2 u0 u1 u2 u3 u4 u5 u6) : B_X11_tries_3 (fun T => Q T ∧ K2 S0 T) X3_2 v0 v1 v2 v3 v4 v5 S := by
  delta B_X11_tries_3 at h ⊢
  obtain ⟨c1, h⟩ := h
  refine ⟨c1, ?_⟩
  have n2 := k2_ne K c1 (by decide)
  obtain ⟨b3, e4, h⟩ := h
  refine ⟨b3, e4, ?_⟩
  obtain ⟨c5, h⟩ := h
  refine ⟨c5, ?_⟩
  have n6 := k2_ne K c5 (by decide)
  intro x8 e7
  have h := h x8 e7
  refine ⟨?_, ?_⟩
  · intro c9
    have h := h.1 c9
    refine cm_X11_canWait (kf_X11_canWait h) h (fun x10 x11 hp h g12 g13 => ?_)
    have h := h g12 g13
    have K := k2_tr K hp.2
    refine ⟨?_, ?_⟩
    · intro c14
      have h := h.1 c14
      exact ⟨h, K⟩
    · intro c15
      have h := h.2 c15
      refine ⟨?_, ?_⟩
      · intro c16
        have h := h.1 c16
        exact ⟨h, K⟩
      · intro c17
        have h := h.2 c17
        refine cm_X11_spotOf (kf_X11_spotOf h) h (fun x18 x19 hp h g20 => ?_)
        have h := h g20
        have K := k2_tr K hp.2
        refine cm_X11_spotOf (kf_X11_spotOf h) h (fun x21 x22 hp h g23 => ?_)
        have h := h g23
        have K := k2_tr K hp.2
        refine cm_X11_waitsOf (kf_X11_waitsOf h) h (fun x24 x25 hp h g26 => ?_)
        have h := h g26
        have K := k2_tr K hp.2
        refine cm_X11_takes (kf_X11_takes h) h (fun x27 hp h g28 => ?_)
        have h := h g28
        have K := k2_tr K hp.2
        exact ⟨h, K⟩
  · intro c29
    have h := h.2 c29
    exact kf_X11_tries_18 h K hX3
theorem kf_X11_tries_3 {Q : HS → Prop} {v0 : Nat} {v1 : Int32} {v2 : Int32} {v3 : Int32} {v4 : Int32} {v5 : Int32} {S0 S : HS} (h : P_X11_tries_3 Q v0 v1 v2 v3 v4 v5 S) (K : K2 S0 S) : P_X11_tries_3 (fun T => Q T ∧ K2 S0 T) v0 v1 v2 v3 v4 v5 S := h (fun v0 v1 v2 v3 v4 v5 S => K2 S0 S → P_X11_tries_3 (fun T => Q T ∧ K2 S0 T) v0 v1 v2 v3 v4 v5 S) (fun v0 v1 v2 v3 v4 v5 S hB K => fd_X11_tries_3 (kfB_X11_tries_3 hB K (fun _ _ _ _ _ _ _ hx K => hx K))) K
set_option maxRecDepth 20000 in
set_option maxHeartbeats 1000000 in
theorem kf_X11_tries_0 {Q : HS → Prop} {v0 : Nat} {v1 : Int32} {v2 : Int32} {v3 : Int32} {v4 : Int32} {S0 S : HS} (h : P_X11_tries_0 Q v0 v1 v2 v3 v4 S) (K : K2 S0 S) : P_X11_tries_0 (fun T => Q T ∧ K2 S0 T) v0 v1 v2 v3 v4 S := by
  delta P_X11_tries_0 at h ⊢
  exact kf_X11_tries_3 h K
theorem kf_X11_tries {Q : HS → Prop} {v0 : Nat} {v1 : Int32} {v2 : Int32} {v3 : Int32} {v4 : Int32} {S : HS} (h : P_X11_tries v0 v1 v2 v3 v4 Q S) : P_X11_tries v0 v1 v2 v3 v4 (fun T => Q T ∧ K2 S T) S := kf_X11_tries_0 h (k2_rf S)
set_option maxRecDepth 20000 in
set_option maxHeartbeats 1000000 in
theorem kf_X11_laysWays_85 {Q : HS → Prop} {X3 X3_2 : Nat → Int32 → Int32 → Int32 → Int32 → HS → Prop} {X11 X11_2 : Nat → Int32 → Int32 → Int32 → Int32 → Int32 → HS → Prop} {v0 : Nat} {v1 : Int32} {v2 : Int32} {v3 : Int32} {v4 : Int32} {v5 : Int32} {S0 S : HS} (h : P_X11_laysWays_85 Q X3 X11 v0 v1 v2 v3 v4 v5 S) (K : K2 S0 S) (hX3 : ∀ (u0 : Nat) (u1 : Int32) (u2 : Int32) (u3 : Int32) (u4 : Int32) (u5 : HS), X3 u0 u1 u2 u3 u4 u5 → K2 S0 u5 → X3_2 u0 u1 u2 u3 u4 u5) (hX11 : ∀ (u0 : Nat) (u1 : Int32) (u2 : Int32) (u3 : Int32) (u4 : Int32) (u5 : Int32) (u6 : HS), X11 u0 u1 u2 u3 u4 u5 u6 → K2 S0 u6 → X11_2 u0 u1 u2 u3 u4 u5 u6) : P_X11_laysWays_85 (fun T => Q T ∧ K2 S0 T) X3_2 X11_2 v0 v1 v2 v3 v4 v5 S := by
  delta P_X11_laysWays_85 at h ⊢
  intro x2 e1
  have h := h x2 e1
  exact hX11 _ _ _ _ _ _ _ h K
set_option maxRecDepth 20000 in
set_option maxHeartbeats 1000000 in
theorem kf_X11_laysWays_51 {Q : HS → Prop} {X3 X3_2 : Nat → Int32 → Int32 → Int32 → Int32 → HS → Prop} {X11 X11_2 : Nat → Int32 → Int32 → Int32 → Int32 → Int32 → HS → Prop} {v0 : Nat} {v1 : Int32} {v2 : Int32} {v3 : Int32} {v4 : Int32} {v5 : Int32} {v6 : Int32} {s0 : Nat} {s1 : Int32} {s2 : Int64} {S0 S : HS} (h : P_X11_laysWays_51 Q X3 X11 v0 v1 v2 v3 v4 v5 v6 s0 s1 s2 S) (K : K2 S0 S) (hX3 : ∀ (u0 : Nat) (u1 : Int32) (u2 : Int32) (u3 : Int32) (u4 : Int32) (u5 : HS), X3 u0 u1 u2 u3 u4 u5 → K2 S0 u5 → X3_2 u0 u1 u2 u3 u4 u5) (hX11 : ∀ (u0 : Nat) (u1 : Int32) (u2 : Int32) (u3 : Int32) (u4 : Int32) (u5 : Int32) (u6 : HS), X11 u0 u1 u2 u3 u4 u5 u6 → K2 S0 u6 → X11_2 u0 u1 u2 u3 u4 u5 u6) : P_X11_laysWays_51 (fun T => Q T ∧ K2 S0 T) X3_2 X11_2 v0 v1 v2 v3 v4 v5 v6 s0 s1 s2 S := by
  delta P_X11_laysWays_51 at h ⊢
  obtain ⟨c1, h⟩ := h
  refine ⟨c1, ?_⟩
  have n2 := k2_ne K c1 (by decide)
  obtain ⟨c3, h⟩ := h
  refine ⟨c3, ?_⟩
  intro x5 e4
  have h := h x5 e4
  have K := k2_J K e4
  obtain ⟨c6, h⟩ := h
  refine ⟨c6, ?_⟩
  have n7 := k2_ne K c6 (by decide)
  obtain ⟨b8, e9, h⟩ := h
  refine ⟨b8, e9, ?_⟩
  obtain ⟨c10, h⟩ := h
  refine ⟨c10, ?_⟩
  have n11 := k2_ne K c10 (by decide)
  obtain ⟨c12, h⟩ := h
  refine ⟨c12, ?_⟩
  intro x14 e13
  have h := h x14 e13
  have K := k2_I K e13 n11
  obtain ⟨b15, e16, h⟩ := h
  refine ⟨b15, e16, ?_⟩
  obtain ⟨c17, h⟩ := h
  refine ⟨c17, ?_⟩
  have n18 := k2_ne K c17 (by decide)
  obtain ⟨c19, h⟩ := h
  refine ⟨c19, ?_⟩
  intro x21 e20
  have h := h x21 e20
  have K := k2_I K e20 n18
  refine ⟨?_, ?_⟩
  · intro c22
    have h := h.1 c22
    exact kf_X11_laysWays_85 h K hX3 hX11
  · intro c23
    have h := h.2 c23
    refine cm_X11_tries (kf_X11_tries h) h (fun x24 hp h g25 => ?_)
    have h := h g25
    have K := k2_tr K hp.2
    exact kf_X11_laysWays_85 h K hX3 hX11
set_option maxRecDepth 20000 in
set_option maxHeartbeats 1000000 in
theorem kfB_X11_laysWays_11 {Q : HS → Prop} {X3 X3_2 : Nat → Int32 → Int32 → Int32 → Int32 → HS → Prop} {X11 X11_2 : Nat → Int32 → Int32 → Int32 → Int32 → Int32 → HS → Prop} {v0 : Nat} {v1 : Int32} {v2 : Int32} {v3 : Int32} {v4 : Int32} {v5 : Int32} {S0 S : HS} (h : B_X11_laysWays_11 Q X3 X11 v0 v1 v2 v3 v4 v5 S) (K : K2 S0 S) (hX3 : ∀ (u0 : Nat) (u1 : Int32) (u2 : Int32) (u3 : Int32) (u4 : Int32) (u5 : HS), X3 u0 u1 u2 u3 u4 u5 → K2 S0 u5 → X3_2 u0 u1 u2 u3 u4 u5) (hX11 : ∀ (u0 : Nat) (u1 : Int32) (u2 : Int32) (u3 : Int32) (u4 : Int32) (u5 : Int32) (u6 : HS), X11 u0 u1 u2 u3 u4 u5 u6 → K2 S0 u6 → X11_2 u0 u1 u2 u3 u4 u5 u6) : B_X11_laysWays_11 (fun T => Q T ∧ K2 S0 T) X3_2 X11_2 v0 v1 v2 v3 v4 v5 S := by
  delta B_X11_laysWays_11 at h ⊢
  obtain ⟨c1, h⟩ := h
  refine ⟨c1, ?_⟩
  have n2 := k2_ne K c1 (by decide)
  obtain ⟨b3, e4, h⟩ := h
  refine ⟨b3, e4, ?_⟩
  obtain ⟨c5, h⟩ := h
  refine ⟨c5, ?_⟩
  have n6 := k2_ne K c5 (by decide)
  intro x8 e7
  have h := h x8 e7
  refine ⟨?_, ?_⟩
  · intro c9
    have h := h.1 c9
    intro x11 e10
    have h := h x11 e10
    exact hX3 _ _ _ _ _ _ h K
  · intro c12
    have h := h.2 c12
    refine cm_X11_spotOf (kf_X11_spotOf h) h (fun x13 x14 hp h g15 => ?_)
    have h := h g15
    have K := k2_tr K hp.2
    obtain ⟨b16, e17, h⟩ := h
    refine ⟨b16, e17, ?_⟩
    refine ⟨?_, ?_⟩
    · intro c18
      have h := h.1 c18
      exact kf_X11_laysWays_51 h K hX3 hX11
    · intro c19
      have h := h.2 c19
      exact kf_X11_laysWays_51 h K hX3 hX11
theorem kf_X11_laysWays_11 {Q : HS → Prop} {X3 X3_2 : Nat → Int32 → Int32 → Int32 → Int32 → HS → Prop} {v0 : Nat} {v1 : Int32} {v2 : Int32} {v3 : Int32} {v4 : Int32} {v5 : Int32} {S0 S : HS} (h : P_X11_laysWays_11 Q X3 v0 v1 v2 v3 v4 v5 S) (K : K2 S0 S) (hX3 : ∀ (u0 : Nat) (u1 : Int32) (u2 : Int32) (u3 : Int32) (u4 : Int32) (u5 : HS), X3 u0 u1 u2 u3 u4 u5 → K2 S0 u5 → X3_2 u0 u1 u2 u3 u4 u5) : P_X11_laysWays_11 (fun T => Q T ∧ K2 S0 T) X3_2 v0 v1 v2 v3 v4 v5 S := h (fun v0 v1 v2 v3 v4 v5 S => K2 S0 S → P_X11_laysWays_11 (fun T => Q T ∧ K2 S0 T) X3_2 v0 v1 v2 v3 v4 v5 S) (fun v0 v1 v2 v3 v4 v5 S hB K => fd_X11_laysWays_11 (kfB_X11_laysWays_11 hB K hX3 (fun _ _ _ _ _ _ _ hx K => hx K))) K
set_option maxRecDepth 20000 in
set_option maxHeartbeats 1000000 in
theorem kfB_X11_laysWays_3 {Q : HS → Prop} {X3 X3_2 : Nat → Int32 → Int32 → Int32 → Int32 → HS → Prop} {v0 : Nat} {v1 : Int32} {v2 : Int32} {v3 : Int32} {v4 : Int32} {S0 S : HS} (h : B_X11_laysWays_3 Q X3 v0 v1 v2 v3 v4 S) (K : K2 S0 S) (hX3 : ∀ (u0 : Nat) (u1 : Int32) (u2 : Int32) (u3 : Int32) (u4 : Int32) (u5 : HS), X3 u0 u1 u2 u3 u4 u5 → K2 S0 u5 → X3_2 u0 u1 u2 u3 u4 u5) : B_X11_laysWays_3 (fun T => Q T ∧ K2 S0 T) X3_2 v0 v1 v2 v3 v4 S := by
  delta B_X11_laysWays_3 at h ⊢
  refine ⟨?_, ?_⟩
  · intro c1
    have h := h.1 c1
    exact ⟨h, K⟩
  · intro c2
    have h := h.2 c2
    exact kf_X11_laysWays_11 h K hX3
theorem kf_X11_laysWays_3 {Q : HS → Prop} {v0 : Nat} {v1 : Int32} {v2 : Int32} {v3 : Int32} {v4 : Int32} {S0 S : HS} (h : P_X11_laysWays_3 Q v0 v1 v2 v3 v4 S) (K : K2 S0 S) : P_X11_laysWays_3 (fun T => Q T ∧ K2 S0 T) v0 v1 v2 v3 v4 S := h (fun v0 v1 v2 v3 v4 S => K2 S0 S → P_X11_laysWays_3 (fun T => Q T ∧ K2 S0 T) v0 v1 v2 v3 v4 S) (fun v0 v1 v2 v3 v4 S hB K => fd_X11_laysWays_3 (kfB_X11_laysWays_3 hB K (fun _ _ _ _ _ _ hx K => hx K))) K
set_option maxRecDepth 20000 in
set_option maxHeartbeats 1000000 in
theorem kf_X11_laysWays_0 {Q : HS → Prop} {v0 : Nat} {v1 : Int32} {v2 : Int32} {v3 : Int32} {S0 S : HS} (h : P_X11_laysWays_0 Q v0 v1 v2 v3 S) (K : K2 S0 S) : P_X11_laysWays_0 (fun T => Q T ∧ K2 S0 T) v0 v1 v2 v3 S := by
  delta P_X11_laysWays_0 at h ⊢
  exact kf_X11_laysWays_3 h K
theorem kf_X11_laysWays {Q : HS → Prop} {v0 : Nat} {v1 : Int32} {v2 : Int32} {v3 : Int32} {S : HS} (h : P_X11_laysWays v0 v1 v2 v3 Q S) : P_X11_laysWays v0 v1 v2 v3 (fun T => Q T ∧ K2 S T) S := kf_X11_laysWays_0 h (k2_rf S)
set_option maxRecDepth 20000 in
set_option maxHeartbeats 1000000 in
theorem kf_X11_refusesWay_0 {Q : Int32 → HS → Prop} {v0 : Nat} {v1 : Int32} {v2 : Int32} {v3 : Int32} {v4 : Int32} {v5 : Int32} {S0 S : HS} (h : P_X11_refusesWay_0 Q v0 v1 v2 v3 v4 v5 S) (K : K2 S0 S) : P_X11_refusesWay_0 (fun r T => Q r T ∧ K2 S0 T) v0 v1 v2 v3 v4 v5 S := by
  delta P_X11_refusesWay_0 at h ⊢
  obtain ⟨c1, h⟩ := h
  refine ⟨c1, ?_⟩
  have n2 := k2_ne K c1 (by decide)
  refine cm_X11_isWalker (kf_X11_isWalker h) h (fun x3 x4 hp h g5 g6 => ?_)
  have h := h g5 g6
  have K := k2_tr K hp.2
  refine ⟨?_, ?_⟩
  · intro c7
    have h := h.1 c7
    exact ⟨h, K⟩
  · intro c8
    have h := h.2 c8
    refine cm_X11_isPlace (kf_X11_isPlace h) h (fun x9 x10 hp h g11 g12 => ?_)
    have h := h g11 g12
    have K := k2_tr K hp.2
    refine ⟨?_, ?_⟩
    · intro c13
      have h := h.1 c13
      exact ⟨h, K⟩
    · intro c14
      have h := h.2 c14
      refine cm_X11_isPlace (kf_X11_isPlace h) h (fun x15 x16 hp h g17 g18 => ?_)
      have h := h g17 g18
      have K := k2_tr K hp.2
      refine ⟨?_, ?_⟩
      · intro c19
        have h := h.1 c19
        refine cm_X11_in (kf_X11_in h) h (fun x20 x21 hp h g22 g23 => ?_)
        have h := h g22 g23
        have K := k2_tr K hp.2
        refine ⟨?_, ?_⟩
        · intro c24
          have h := h.1 c24
          exact ⟨h, K⟩
        · intro c25
          have h := h.2 c25
          refine cm_X11_in (kf_X11_in h) h (fun x26 x27 hp h g28 g29 => ?_)
          have h := h g28 g29
          have K := k2_tr K hp.2
          refine ⟨?_, ?_⟩
          · intro c30
            have h := h.1 c30
            refine cm_X11_laysWays (kf_X11_laysWays h) h (fun x31 hp h g32 => ?_)
            have h := h g32
            have K := k2_tr K hp.2
            obtain ⟨b33, e34, h⟩ := h
            refine ⟨b33, e34, ?_⟩
            refine cm_X11_spotOf (kf_X11_spotOf h) h (fun x35 x36 hp h g37 => ?_)
            have h := h g37
            have K := k2_tr K hp.2
            obtain ⟨c38, h⟩ := h
            refine ⟨c38, ?_⟩
            have n39 := k2_ne K c38 (by decide)
            obtain ⟨c40, h⟩ := h
            refine ⟨c40, ?_⟩
            intro x42 e41
            have h := h x42 e41
            refine ⟨?_, ?_⟩
            · intro c43
              have h := h.1 c43
              exact ⟨h, K⟩
            · intro c44
              have h := h.2 c44
              exact ⟨h, K⟩
          · intro c45
            have h := h.2 c45
            exact ⟨h, K⟩
      · intro c46
        have h := h.2 c46
        exact ⟨h, K⟩
theorem kf_X11_refusesWay {Q : Int32 → HS → Prop} {v0 : Nat} {v1 : Int32} {v2 : Int32} {v3 : Int32} {v4 : Int32} {v5 : Int32} {S : HS} (h : P_X11_refusesWay v0 v1 v2 v3 v4 v5 Q S) : P_X11_refusesWay v0 v1 v2 v3 v4 v5 (fun r T => Q r T ∧ K2 S T) S := kf_X11_refusesWay_0 h (k2_rf S)
set_option maxRecDepth 20000 in
set_option maxHeartbeats 1000000 in
theorem kf_X11_least_0 {Q : Int64 → HS → Prop} {v0 : Nat} {v1 : Int32} {v2 : Int32} {v3 : Int32} {v4 : Int32} {v5 : Int32} {v6 : Int32} {S0 S : HS} (h : P_X11_least_0 Q v0 v1 v2 v3 v4 v5 v6 S) (K : K2 S0 S) : P_X11_least_0 (fun r T => Q r T ∧ K2 S0 T) v0 v1 v2 v3 v4 v5 v6 S := by
  delta P_X11_least_0 at h ⊢
  obtain ⟨c1, h⟩ := h
  refine ⟨c1, ?_⟩
  have n2 := k2_ne K c1 (by decide)
  intro x4 e3
  have h := h x4 e3
  have K := k2_I K e3 n2
  refine cm_X11_refusesWay (kf_X11_refusesWay h) h (fun x5 x6 hp h g7 => ?_)
  have h := h g7
  have K := k2_tr K hp.2
  refine ⟨?_, ?_⟩
  · intro c8
    have h := h.1 c8
    obtain ⟨b9, e10, h⟩ := h
    refine ⟨b9, e10, ?_⟩
    refine cm_X11_spotOf (kf_X11_spotOf h) h (fun x11 x12 hp h g13 => ?_)
    have h := h g13
    have K := k2_tr K hp.2
    obtain ⟨c14, h⟩ := h
    refine ⟨c14, ?_⟩
    have n15 := k2_ne K c14 (by decide)
    obtain ⟨c16, h⟩ := h
    refine ⟨c16, ?_⟩
    intro x18 e17
    have h := h x18 e17
    refine cm_X11_told (kf_X11_told h) h (fun x19 x20 hp h g21 => ?_)
    have h := h g21
    have K := k2_tr K hp.2
    exact ⟨h, K⟩
  · intro c22
    have h := h.2 c22
    refine cm_X11_refused (kf_X11_refused h) h (fun x23 x24 hp h g25 => ?_)
    have h := h g25
    have K := k2_tr K hp.2
    exact ⟨h, K⟩
theorem kf_X11_least {Q : Int64 → HS → Prop} {v0 : Nat} {v1 : Int32} {v2 : Int32} {v3 : Int32} {v4 : Int32} {v5 : Int32} {v6 : Int32} {S : HS} (h : P_X11_least v0 v1 v2 v3 v4 v5 v6 Q S) : P_X11_least v0 v1 v2 v3 v4 v5 v6 (fun r T => Q r T ∧ K2 S T) S := kf_X11_least_0 h (k2_rf S)
set_option maxRecDepth 20000 in
set_option maxHeartbeats 1000000 in
theorem kf_X11_led_80 {Q : Int32 → HS → Prop} {X9 X9_2 : Nat → Int32 → Int32 → Int32 → HS → Prop} {v0 : Nat} {v1 : Int32} {v2 : Int32} {v3 : Int32} {S0 S : HS} (h : P_X11_led_80 Q X9 v0 v1 v2 v3 S) (K : K2 S0 S) (hX9 : ∀ (u0 : Nat) (u1 : Int32) (u2 : Int32) (u3 : Int32) (u4 : HS), X9 u0 u1 u2 u3 u4 → K2 S0 u4 → X9_2 u0 u1 u2 u3 u4) : P_X11_led_80 (fun r T => Q r T ∧ K2 S0 T) X9_2 v0 v1 v2 v3 S := by
  delta P_X11_led_80 at h ⊢
  intro x2 e1
  have h := h x2 e1
  exact hX9 _ _ _ _ _ h K
set_option maxRecDepth 20000 in
set_option maxHeartbeats 1000000 in
theorem kf_X11_led_70 {Q : Int32 → HS → Prop} {X9 X9_2 : Nat → Int32 → Int32 → Int32 → HS → Prop} {v0 : Nat} {v1 : Int32} {v2 : Int32} {v3 : Int32} {S0 S : HS} (h : P_X11_led_70 Q X9 v0 v1 v2 v3 S) (K : K2 S0 S) (hX9 : ∀ (u0 : Nat) (u1 : Int32) (u2 : Int32) (u3 : Int32) (u4 : HS), X9 u0 u1 u2 u3 u4 → K2 S0 u4 → X9_2 u0 u1 u2 u3 u4) : P_X11_led_70 (fun r T => Q r T ∧ K2 S0 T) X9_2 v0 v1 v2 v3 S := by
  delta P_X11_led_70 at h ⊢
  refine ⟨?_, ?_⟩
  · intro c1
    have h := h.1 c1
    intro x3 e2
    have h := h x3 e2
    exact kf_X11_led_80 h K hX9
  · intro c4
    have h := h.2 c4
    exact ⟨h, K⟩
set_option maxRecDepth 20000 in
set_option maxHeartbeats 1000000 in
theorem kfB_X11_led_9 {Q : Int32 → HS → Prop} {X9 X9_2 : Nat → Int32 → Int32 → Int32 → HS → Prop} {v0 : Nat} {v1 : Int32} {v2 : Int32} {v3 : Int32} {S0 S : HS} (h : B_X11_led_9 Q X9 v0 v1 v2 v3 S) (K : K2 S0 S) (hX9 : ∀ (u0 : Nat) (u1 : Int32) (u2 : Int32) (u3 : Int32) (u4 : HS), X9 u0 u1 u2 u3 u4 → K2 S0 u4 → X9_2 u0 u1 u2 u3 u4) : B_X11_led_9 (fun r T => Q r T ∧ K2 S0 T) X9_2 v0 v1 v2 v3 S := by
  delta B_X11_led_9 at h ⊢
  obtain ⟨c1, h⟩ := h
  refine ⟨c1, ?_⟩
  have n2 := k2_ne K c1 (by decide)
  refine cm_X11_isDay (kf_X11_isDay h) h (fun x3 x4 hp h g5 g6 => ?_)
  have h := h g5 g6
  have K := k2_tr K hp.2
  refine ⟨?_, ?_⟩
  · intro c7
    have h := h.1 c7
    intro x9 e8
    have h := h x9 e8
    have K := k2_I K e8 n2
    exact ⟨h, K⟩
  · intro c10
    have h := h.2 c10
    obtain ⟨b11, e12, h⟩ := h
    refine ⟨b11, e12, ?_⟩
    obtain ⟨c13, h⟩ := h
    refine ⟨c13, ?_⟩
    have n14 := k2_ne K c13 (by decide)
    intro x16 e15
    have h := h x16 e15
    refine ⟨?_, ?_⟩
    · intro c17
      have h := h.1 c17
      intro x19 e18
      have h := h x19 e18
      have K := k2_I K e18 n2
      exact ⟨h, K⟩
    · intro c20
      have h := h.2 c20
      obtain ⟨b21, e22, h⟩ := h
      refine ⟨b21, e22, ?_⟩
      obtain ⟨c23, h⟩ := h
      refine ⟨c23, ?_⟩
      have n24 := k2_ne K c23 (by decide)
      obtain ⟨b25, e26, h⟩ := h
      refine ⟨b25, e26, ?_⟩
      obtain ⟨c27, h⟩ := h
      refine ⟨c27, ?_⟩
      have n28 := k2_ne K c27 (by decide)
      obtain ⟨c29, h⟩ := h
      refine ⟨c29, ?_⟩
      intro x31 e30
      have h := h x31 e30
      obtain ⟨b32, e33, h⟩ := h
      refine ⟨b32, e33, ?_⟩
      obtain ⟨c34, h⟩ := h
      refine ⟨c34, ?_⟩
      have n35 := k2_ne K c34 (by decide)
      obtain ⟨c36, h⟩ := h
      refine ⟨c36, ?_⟩
      intro x38 e37
      have h := h x38 e37
      refine ⟨?_, ?_⟩
      · intro c39
        have h := h.1 c39
        exact kf_X11_led_70 h K hX9
      · intro c40
        have h := h.2 c40
        obtain ⟨b41, e42, h⟩ := h
        refine ⟨b41, e42, ?_⟩
        obtain ⟨c43, h⟩ := h
        refine ⟨c43, ?_⟩
        have n44 := k2_ne K c43 (by decide)
        obtain ⟨b45, e46, h⟩ := h
        refine ⟨b45, e46, ?_⟩
        obtain ⟨c47, h⟩ := h
        refine ⟨c47, ?_⟩
        have n48 := k2_ne K c47 (by decide)
        obtain ⟨c49, h⟩ := h
        refine ⟨c49, ?_⟩
        intro x51 e50
        have h := h x51 e50
        obtain ⟨b52, e53, h⟩ := h
        refine ⟨b52, e53, ?_⟩
        obtain ⟨c54, h⟩ := h
        refine ⟨c54, ?_⟩
        have n55 := k2_ne K c54 (by decide)
        obtain ⟨c56, h⟩ := h
        refine ⟨c56, ?_⟩
        intro x58 e57
        have h := h x58 e57
        refine ⟨?_, ?_⟩
        · intro c59
          have h := h.1 c59
          exact kf_X11_led_70 h K hX9
        · intro c60
          have h := h.2 c60
          exact kf_X11_led_80 h K hX9
theorem kf_X11_led_9 {Q : Int32 → HS → Prop} {v0 : Nat} {v1 : Int32} {v2 : Int32} {v3 : Int32} {S0 S : HS} (h : P_X11_led_9 Q v0 v1 v2 v3 S) (K : K2 S0 S) : P_X11_led_9 (fun r T => Q r T ∧ K2 S0 T) v0 v1 v2 v3 S := h (fun v0 v1 v2 v3 S => K2 S0 S → P_X11_led_9 (fun r T => Q r T ∧ K2 S0 T) v0 v1 v2 v3 S) (fun v0 v1 v2 v3 S hB K => fd_X11_led_9 (kfB_X11_led_9 hB K (fun _ _ _ _ _ hx K => hx K))) K
set_option maxRecDepth 20000 in
set_option maxHeartbeats 1000000 in
theorem kf_X11_led_0 {Q : Int32 → HS → Prop} {v0 : Nat} {v1 : Int32} {S0 S : HS} (h : P_X11_led_0 Q v0 v1 S) (K : K2 S0 S) : P_X11_led_0 (fun r T => Q r T ∧ K2 S0 T) v0 v1 S := by
  delta P_X11_led_0 at h ⊢
  obtain ⟨c1, h⟩ := h
  refine ⟨c1, ?_⟩
  have n2 := k2_ne K c1 (by decide)
  intro x4 e3
  have h := h x4 e3
  have K := k2_I K e3 n2
  exact kf_X11_led_9 h K
theorem kf_X11_led {Q : Int32 → HS → Prop} {v0 : Nat} {v1 : Int32} {S : HS} (h : P_X11_led v0 v1 Q S) : P_X11_led v0 v1 (fun r T => Q r T ∧ K2 S T) S := kf_X11_led_0 h (k2_rf S)
set_option maxRecDepth 20000 in
set_option maxHeartbeats 1000000 in
theorem kf_X11_lee_0 {Q : Int64 → HS → Prop} {v0 : Nat} {v1 : Int32} {v2 : Int32} {v3 : Int32} {v4 : Int32} {v5 : Int32} {v6 : Int32} {v7 : Int32} {S0 S : HS} (h : P_X11_lee_0 Q v0 v1 v2 v3 v4 v5 v6 v7 S) (K : K2 S0 S) : P_X11_lee_0 (fun r T => Q r T ∧ K2 S0 T) v0 v1 v2 v3 v4 v5 v6 v7 S := by
  delta P_X11_lee_0 at h ⊢
  obtain ⟨c1, h⟩ := h
  refine ⟨c1, ?_⟩
  have n2 := k2_ne K c1 (by decide)
  intro x4 e3
  have h := h x4 e3
  have K := k2_I K e3 n2
  refine cm_X11_refusesTwo (kf_X11_refusesTwo h) h (fun x5 x6 hp h g7 => ?_)
  have h := h g7
  have K := k2_tr K hp.2
  refine ⟨?_, ?_⟩
  · intro c8
    have h := h.1 c8
    refine cm_X11_together (kf_X11_together h) h (fun x9 x10 hp h g11 => ?_)
    have h := h g11
    have K := k2_tr K hp.2
    refine cm_X11_told (kf_X11_told h) h (fun x12 x13 hp h g14 => ?_)
    have h := h g14
    have K := k2_tr K hp.2
    exact ⟨h, K⟩
  · intro c15
    have h := h.2 c15
    refine cm_X11_refused (kf_X11_refused h) h (fun x16 x17 hp h g18 => ?_)
    have h := h g18
    have K := k2_tr K hp.2
    exact ⟨h, K⟩
theorem kf_X11_lee {Q : Int64 → HS → Prop} {v0 : Nat} {v1 : Int32} {v2 : Int32} {v3 : Int32} {v4 : Int32} {v5 : Int32} {v6 : Int32} {v7 : Int32} {S : HS} (h : P_X11_lee v0 v1 v2 v3 v4 v5 v6 v7 Q S) : P_X11_lee v0 v1 v2 v3 v4 v5 v6 v7 (fun r T => Q r T ∧ K2 S T) S := kf_X11_lee_0 h (k2_rf S)
set_option maxRecDepth 20000 in
set_option maxHeartbeats 1000000 in
theorem kf_X11_lies_50 {Q : Int32 → HS → Prop} {X22 X22_2 : Nat → Int32 → Int32 → HS → Prop} {v0 : Nat} {v2 : Int32} {s0 : Int32} {s1 : Int32} {S0 S : HS} (h : P_X11_lies_50 Q X22 v0 v2 s0 s1 S) (K : K2 S0 S) (hX22 : ∀ (u0 : Nat) (u1 : Int32) (u2 : Int32) (u3 : HS), X22 u0 u1 u2 u3 → K2 S0 u3 → X22_2 u0 u1 u2 u3) : P_X11_lies_50 (fun r T => Q r T ∧ K2 S0 T) X22_2 v0 v2 s0 s1 S := by
  delta P_X11_lies_50 at h ⊢
  intro x2 e1
  have h := h x2 e1
  intro x4 e3
  have h := h x4 e3
  exact hX22 _ _ _ _ h K
set_option maxRecDepth 20000 in
set_option maxHeartbeats 1000000 in
theorem kfB_X11_lies_22 {Q : Int32 → HS → Prop} {X22 X22_2 : Nat → Int32 → Int32 → HS → Prop} {v0 : Nat} {v1 : Int32} {v2 : Int32} {S0 S : HS} (h : B_X11_lies_22 Q X22 v0 v1 v2 S) (K : K2 S0 S) (hX22 : ∀ (u0 : Nat) (u1 : Int32) (u2 : Int32) (u3 : HS), X22 u0 u1 u2 u3 → K2 S0 u3 → X22_2 u0 u1 u2 u3) : B_X11_lies_22 (fun r T => Q r T ∧ K2 S0 T) X22_2 v0 v1 v2 S := by
  delta B_X11_lies_22 at h ⊢
  obtain ⟨c1, h⟩ := h
  refine ⟨c1, ?_⟩
  have n2 := k2_ne K c1 (by decide)
  obtain ⟨b3, e4, h⟩ := h
  refine ⟨b3, e4, ?_⟩
  obtain ⟨c5, h⟩ := h
  refine ⟨c5, ?_⟩
  have n6 := k2_ne K c5 (by decide)
  intro x8 e7
  have h := h x8 e7
  refine ⟨?_, ?_⟩
  · intro c9
    have h := h.1 c9
    refine cm_X11_good (kf_X11_good h) h (fun x10 x11 hp h g12 => ?_)
    have h := h g12
    have K := k2_tr K hp.2
    exact ⟨h, K⟩
  · intro c13
    have h := h.2 c13
    refine cm_X11_fitOf (kf_X11_fitOf h) h (fun x14 x15 hp h g16 => ?_)
    have h := h g16
    have K := k2_tr K hp.2
    refine ⟨?_, ?_⟩
    · intro c17
      have h := h.1 c17
      exact kf_X11_lies_50 h K hX22
    · intro c18
      have h := h.2 c18
      exact kf_X11_lies_50 h K hX22
theorem kf_X11_lies_22 {Q : Int32 → HS → Prop} {v0 : Nat} {v1 : Int32} {v2 : Int32} {S0 S : HS} (h : P_X11_lies_22 Q v0 v1 v2 S) (K : K2 S0 S) : P_X11_lies_22 (fun r T => Q r T ∧ K2 S0 T) v0 v1 v2 S := h (fun v0 v1 v2 S => K2 S0 S → P_X11_lies_22 (fun r T => Q r T ∧ K2 S0 T) v0 v1 v2 S) (fun v0 v1 v2 S hB K => fd_X11_lies_22 (kfB_X11_lies_22 hB K (fun _ _ _ _ hx K => hx K))) K
set_option maxRecDepth 20000 in
set_option maxHeartbeats 1000000 in
theorem kf_X11_lies_0 {Q : Int32 → HS → Prop} {v0 : Nat} {S0 S : HS} (h : P_X11_lies_0 Q v0 S) (K : K2 S0 S) : P_X11_lies_0 (fun r T => Q r T ∧ K2 S0 T) v0 S := by
  delta P_X11_lies_0 at h ⊢
  obtain ⟨c1, h⟩ := h
  refine ⟨c1, ?_⟩
  have n2 := k2_ne K c1 (by decide)
  intro x4 e3
  have h := h x4 e3
  have K := k2_I K e3 n2
  refine ⟨?_, ?_⟩
  · intro c5
    have h := h.1 c5
    refine cm_X11_refused (kf_X11_refused h) h (fun x6 x7 hp h g8 => ?_)
    have h := h g8
    have K := k2_tr K hp.2
    exact ⟨h, K⟩
  · intro x9 c10
    have h := h.2 x9 c10
    exact kf_X11_lies_22 h K
theorem kf_X11_lies {Q : Int32 → HS → Prop} {v0 : Nat} {S : HS} (h : P_X11_lies v0 Q S) : P_X11_lies v0 (fun r T => Q r T ∧ K2 S T) S := kf_X11_lies_0 h (k2_rf S)
set_option maxRecDepth 20000 in
set_option maxHeartbeats 1000000 in
theorem kfB_X11_mark_34 {Q : Int32 → HS → Prop} {X34 X34_2 : Nat → Int32 → HS → Prop} {v0 : Nat} {v1 : Int32} {S0 S : HS} (h : B_X11_mark_34 Q X34 v0 v1 S) (K : K2 S0 S) (hX34 : ∀ (u0 : Nat) (u1 : Int32) (u2 : HS), X34 u0 u1 u2 → K2 S0 u2 → X34_2 u0 u1 u2) : B_X11_mark_34 (fun r T => Q r T ∧ K2 S0 T) X34_2 v0 v1 S := by
  delta B_X11_mark_34 at h ⊢
  refine ⟨?_, ?_⟩
  · intro c1
    have h := h.1 c1
    obtain ⟨c2, h⟩ := h
    refine ⟨c2, ?_⟩
    have n3 := k2_ne K c2 (by decide)
    intro x5 e4
    have h := h x5 e4
    intro x7 e6
    have h := h x7 e6
    intro x9 e8
    have h := h x9 e8
    have K := k2_I K e8 n3
    intro x11 e10
    have h := h x11 e10
    refine cm_X11_good (kf_X11_good h) h (fun x12 x13 hp h g14 => ?_)
    have h := h g14
    have K := k2_tr K hp.2
    exact ⟨h, K⟩
  · intro c15
    have h := h.2 c15
    obtain ⟨c16, h⟩ := h
    refine ⟨c16, ?_⟩
    have n17 := k2_ne K c16 (by decide)
    obtain ⟨b18, e19, h⟩ := h
    refine ⟨b18, e19, ?_⟩
    intro x21 e20
    have h := h x21 e20
    obtain ⟨b22, e23, h⟩ := h
    refine ⟨b22, e23, ?_⟩
    obtain ⟨c24, h⟩ := h
    refine ⟨c24, ?_⟩
    have n25 := k2_ne K c24 (by decide)
    obtain ⟨c26, h⟩ := h
    refine ⟨c26, ?_⟩
    intro x28 e27
    have h := h x28 e27
    obtain ⟨c29, h⟩ := h
    refine ⟨c29, ?_⟩
    have n30 := k2_ne K c29 (by decide)
    obtain ⟨c31, h⟩ := h
    refine ⟨c31, ?_⟩
    intro x33 e32
    have h := h x33 e32
    have K := k2_J K e32
    intro x35 e34
    have h := h x35 e34
    exact hX34 _ _ _ h K
theorem kf_X11_mark_34 {Q : Int32 → HS → Prop} {v0 : Nat} {v1 : Int32} {S0 S : HS} (h : P_X11_mark_34 Q v0 v1 S) (K : K2 S0 S) : P_X11_mark_34 (fun r T => Q r T ∧ K2 S0 T) v0 v1 S := h (fun v0 v1 S => K2 S0 S → P_X11_mark_34 (fun r T => Q r T ∧ K2 S0 T) v0 v1 S) (fun v0 v1 S hB K => fd_X11_mark_34 (kfB_X11_mark_34 hB K (fun _ _ _ hx K => hx K))) K
set_option maxRecDepth 20000 in
set_option maxHeartbeats 1000000 in
theorem kf_X11_mark_0 {Q : Int32 → HS → Prop} {v0 : Nat} {S0 S : HS} (h : P_X11_mark_0 Q v0 S) (K : K2 S0 S) : P_X11_mark_0 (fun r T => Q r T ∧ K2 S0 T) v0 S := by
  delta P_X11_mark_0 at h ⊢
  obtain ⟨c1, h⟩ := h
  refine ⟨c1, ?_⟩
  have n2 := k2_ne K c1 (by decide)
  intro x4 e3
  have h := h x4 e3
  have K := k2_I K e3 n2
  refine cm_X11_isDay (kf_X11_isDay h) h (fun x5 x6 hp h g7 g8 => ?_)
  have h := h g7 g8
  have K := k2_tr K hp.2
  refine ⟨?_, ?_⟩
  · intro c9
    have h := h.1 c9
    intro x11 e10
    have h := h x11 e10
    refine ⟨?_, ?_⟩
    · intro c12
      have h := h.1 c12
      exact kf_X11_mark_34 h K
    · intro c13
      have h := h.2 c13
      refine cm_X11_refused (kf_X11_refused h) h (fun x14 x15 hp h g16 => ?_)
      have h := h g16
      have K := k2_tr K hp.2
      exact ⟨h, K⟩
  · intro c17
    have h := h.2 c17
    refine cm_X11_refused (kf_X11_refused h) h (fun x18 x19 hp h g20 => ?_)
    have h := h g20
    have K := k2_tr K hp.2
    exact ⟨h, K⟩
theorem kf_X11_mark {Q : Int32 → HS → Prop} {v0 : Nat} {S : HS} (h : P_X11_mark v0 Q S) : P_X11_mark v0 (fun r T => Q r T ∧ K2 S T) S := kf_X11_mark_0 h (k2_rf S)
set_option maxRecDepth 20000 in
set_option maxHeartbeats 1000000 in
theorem kf_X11_mean_0 {Q : Int64 → HS → Prop} {v0 : Nat} {v1 : Int32} {v2 : Int32} {v3 : Int32} {v4 : Int32} {v5 : Int32} {v6 : Int32} {S0 S : HS} (h : P_X11_mean_0 Q v0 v1 v2 v3 v4 v5 v6 S) (K : K2 S0 S) : P_X11_mean_0 (fun r T => Q r T ∧ K2 S0 T) v0 v1 v2 v3 v4 v5 v6 S := by
  delta P_X11_mean_0 at h ⊢
  obtain ⟨c1, h⟩ := h
  refine ⟨c1, ?_⟩
  have n2 := k2_ne K c1 (by decide)
  intro x4 e3
  have h := h x4 e3
  have K := k2_I K e3 n2
  refine cm_X11_refuses (kf_X11_refuses h) h (fun x5 x6 hp h g7 => ?_)
  have h := h g7
  have K := k2_tr K hp.2
  refine ⟨?_, ?_⟩
  · intro c8
    have h := h.1 c8
    refine cm_X11_wetOf (kf_X11_wetOf h) h (fun x9 x10 hp h g11 => ?_)
    have h := h g11
    have K := k2_tr K hp.2
    obtain ⟨b12, e13, h⟩ := h
    refine ⟨b12, e13, ?_⟩
    obtain ⟨c14, h⟩ := h
    refine ⟨c14, ?_⟩
    have n15 := k2_ne K c14 (by decide)
    obtain ⟨b16, e17, h⟩ := h
    refine ⟨b16, e17, ?_⟩
    obtain ⟨c18, h⟩ := h
    refine ⟨c18, ?_⟩
    have n19 := k2_ne K c18 (by decide)
    obtain ⟨c20, h⟩ := h
    refine ⟨c20, ?_⟩
    intro x22 e21
    have h := h x22 e21
    refine cm_X11_told (kf_X11_told h) h (fun x23 x24 hp h g25 => ?_)
    have h := h g25
    have K := k2_tr K hp.2
    exact ⟨h, K⟩
  · intro c26
    have h := h.2 c26
    refine cm_X11_refused (kf_X11_refused h) h (fun x27 x28 hp h g29 => ?_)
    have h := h g29
    have K := k2_tr K hp.2
    exact ⟨h, K⟩
theorem kf_X11_mean {Q : Int64 → HS → Prop} {v0 : Nat} {v1 : Int32} {v2 : Int32} {v3 : Int32} {v4 : Int32} {v5 : Int32} {v6 : Int32} {S : HS} (h : P_X11_mean v0 v1 v2 v3 v4 v5 v6 Q S) : P_X11_mean v0 v1 v2 v3 v4 v5 v6 (fun r T => Q r T ∧ K2 S T) S := kf_X11_mean_0 h (k2_rf S)
set_option maxRecDepth 20000 in
set_option maxHeartbeats 1000000 in
theorem kf_X11_minutes_21 {Q : Int32 → HS → Prop} {v0 : Nat} {S0 S : HS} (h : P_X11_minutes_21 Q v0 S) (K : K2 S0 S) : P_X11_minutes_21 (fun r T => Q r T ∧ K2 S0 T) v0 S := by
  delta P_X11_minutes_21 at h ⊢
  obtain ⟨c1, h⟩ := h
  refine ⟨c1, ?_⟩
  have n2 := k2_ne K c1 (by decide)
  refine cm_X11_refused (kf_X11_refused h) h (fun x3 x4 hp h g5 => ?_)
  have h := h g5
  have K := k2_tr K hp.2
  exact ⟨h, K⟩
set_option maxRecDepth 20000 in
set_option maxHeartbeats 1000000 in
theorem kf_X11_minutes_0 {Q : Int32 → HS → Prop} {v0 : Nat} {v1 : Int32} {v2 : Int32} {v3 : Int32} {S0 S : HS} (h : P_X11_minutes_0 Q v0 v1 v2 v3 S) (K : K2 S0 S) : P_X11_minutes_0 (fun r T => Q r T ∧ K2 S0 T) v0 v1 v2 v3 S := by
  delta P_X11_minutes_0 at h ⊢
  obtain ⟨c1, h⟩ := h
  refine ⟨c1, ?_⟩
  have n2 := k2_ne K c1 (by decide)
  intro x4 e3
  have h := h x4 e3
  have K := k2_I K e3 n2
  refine cm_X11_isWalker (kf_X11_isWalker h) h (fun x5 x6 hp h g7 g8 => ?_)
  have h := h g7 g8
  have K := k2_tr K hp.2
  refine ⟨?_, ?_⟩
  · intro c9
    have h := h.1 c9
    exact kf_X11_minutes_21 h K
  · intro c10
    have h := h.2 c10
    refine cm_X11_isRoad (kf_X11_isRoad h) h (fun x11 x12 hp h g13 g14 => ?_)
    have h := h g13 g14
    have K := k2_tr K hp.2
    refine ⟨?_, ?_⟩
    · intro c15
      have h := h.1 c15
      refine cm_X11_isSpeed (kf_X11_isSpeed h) h (fun x16 x17 hp h g18 g19 => ?_)
      have h := h g18 g19
      have K := k2_tr K hp.2
      refine ⟨?_, ?_⟩
      · intro c20
        have h := h.1 c20
        refine cm_X11_refused (kf_X11_refused h) h (fun x21 x22 hp h g23 => ?_)
        have h := h g23
        have K := k2_tr K hp.2
        exact ⟨h, K⟩
      · intro c24
        have h := h.2 c24
        obtain ⟨b25, e26, h⟩ := h
        refine ⟨b25, e26, ?_⟩
        obtain ⟨c27, h⟩ := h
        refine ⟨c27, ?_⟩
        have n28 := k2_ne K c27 (by decide)
        refine cm_X10_minutes (kf_X10_minutes h) h (fun x29 x30 hp h g31 => ?_)
        have h := h g31
        have K := k2_tr K hp.2
        refine cm_X11_good (kf_X11_good h) h (fun x32 x33 hp h g34 => ?_)
        have h := h g34
        have K := k2_tr K hp.2
        exact ⟨h, K⟩
    · intro c35
      have h := h.2 c35
      exact kf_X11_minutes_21 h K
theorem kf_X11_minutes {Q : Int32 → HS → Prop} {v0 : Nat} {v1 : Int32} {v2 : Int32} {v3 : Int32} {S : HS} (h : P_X11_minutes v0 v1 v2 v3 Q S) : P_X11_minutes v0 v1 v2 v3 (fun r T => Q r T ∧ K2 S T) S := kf_X11_minutes_0 h (k2_rf S)
set_option maxRecDepth 20000 in
set_option maxHeartbeats 1000000 in
theorem kf_X11_names_0 {Q : HS → Prop} {v0 : Nat} {v1 : Int64} {v3 : Int32} {v4 : Int32} {S0 S : HS} (h : P_X11_names_0 Q v0 v1 v3 v4 S) (K : K2 S0 S) : P_X11_names_0 (fun T => Q T ∧ K2 S0 T) v0 v1 v3 v4 S := by
  delta P_X11_names_0 at h ⊢
  obtain ⟨c1, h⟩ := h
  refine ⟨c1, ?_⟩
  have n2 := k2_ne K c1 (by decide)
  obtain ⟨b3, e4, h⟩ := h
  refine ⟨b3, e4, ?_⟩
  obtain ⟨c5, h⟩ := h
  refine ⟨c5, ?_⟩
  have n6 := k2_ne K c5 (by decide)
  obtain ⟨b7, e8, h⟩ := h
  refine ⟨b7, e8, ?_⟩
  obtain ⟨b9, e10, h⟩ := h
  refine ⟨b9, e10, ?_⟩
  obtain ⟨c11, h⟩ := h
  refine ⟨c11, ?_⟩
  have n12 := k2_ne K c11 (by decide)
  intro x14 e13
  have h := h x14 e13
  obtain ⟨c15, h⟩ := h
  refine ⟨c15, ?_⟩
  have n16 := k2_ne K c15 (by decide)
  obtain ⟨c17, h⟩ := h
  refine ⟨c17, ?_⟩
  intro x19 e18
  have h := h x19 e18
  have K := k2_J K e18
  obtain ⟨b20, e21, h⟩ := h
  refine ⟨b20, e21, ?_⟩
  obtain ⟨c22, h⟩ := h
  refine ⟨c22, ?_⟩
  have n23 := k2_ne K c22 (by decide)
  obtain ⟨b24, e25, h⟩ := h
  refine ⟨b24, e25, ?_⟩
  obtain ⟨b26, e27, h⟩ := h
  refine ⟨b26, e27, ?_⟩
  obtain ⟨c28, h⟩ := h
  refine ⟨c28, ?_⟩
  have n29 := k2_ne K c28 (by decide)
  intro x31 e30
  have h := h x31 e30
  obtain ⟨c32, h⟩ := h
  refine ⟨c32, ?_⟩
  have n33 := k2_ne K c32 (by decide)
  obtain ⟨c34, h⟩ := h
  refine ⟨c34, ?_⟩
  intro x36 e35
  have h := h x36 e35
  have K := k2_I K e35 n33
  obtain ⟨b37, e38, h⟩ := h
  refine ⟨b37, e38, ?_⟩
  obtain ⟨c39, h⟩ := h
  refine ⟨c39, ?_⟩
  have n40 := k2_ne K c39 (by decide)
  obtain ⟨b41, e42, h⟩ := h
  refine ⟨b41, e42, ?_⟩
  obtain ⟨b43, e44, h⟩ := h
  refine ⟨b43, e44, ?_⟩
  obtain ⟨c45, h⟩ := h
  refine ⟨c45, ?_⟩
  have n46 := k2_ne K c45 (by decide)
  intro x48 e47
  have h := h x48 e47
  obtain ⟨c49, h⟩ := h
  refine ⟨c49, ?_⟩
  have n50 := k2_ne K c49 (by decide)
  obtain ⟨c51, h⟩ := h
  refine ⟨c51, ?_⟩
  intro x53 e52
  have h := h x53 e52
  have K := k2_I K e52 n50
  obtain ⟨b54, e55, h⟩ := h
  refine ⟨b54, e55, ?_⟩
  obtain ⟨c56, h⟩ := h
  refine ⟨c56, ?_⟩
  have n57 := k2_ne K c56 (by decide)
  intro x59 e58
  have h := h x59 e58
  intro x61 e60
  have h := h x61 e60
  intro x63 e62
  have h := h x63 e62
  have K := k2_I K e62 n57
  exact ⟨h, K⟩
theorem kf_X11_names {Q : HS → Prop} {v0 : Nat} {v1 : Int64} {v3 : Int32} {v4 : Int32} {S : HS} (h : P_X11_names v0 v1 v3 v4 Q S) : P_X11_names v0 v1 v3 v4 (fun T => Q T ∧ K2 S T) S := kf_X11_names_0 h (k2_rf S)
set_option maxRecDepth 20000 in
set_option maxHeartbeats 1000000 in
theorem kf_X11_needs_13 {Q : HS → Prop} {v0 : Nat} {S0 S : HS} (h : P_X11_needs_13 Q v0 S) (K : K2 S0 S) : P_X11_needs_13 (fun T => Q T ∧ K2 S0 T) v0 S := by
  delta P_X11_needs_13 at h ⊢
  obtain ⟨c1, h⟩ := h
  refine ⟨c1, ?_⟩
  have n2 := k2_ne K c1 (by decide)
  refine cm_X11_goesOn (kf_X11_goesOn h) h (fun x3 hp h g4 => ?_)
  have h := h g4
  have K := k2_tr K hp.2
  exact ⟨h, K⟩
set_option maxRecDepth 20000 in
set_option maxHeartbeats 1000000 in
theorem kf_X11_needs_0 {Q : HS → Prop} {v0 : Nat} {v1 : Nat} {S0 S : HS} (h : P_X11_needs_0 Q v0 v1 S) (K : K2 S0 S) : P_X11_needs_0 (fun T => Q T ∧ K2 S0 T) v0 v1 S := by
  delta P_X11_needs_0 at h ⊢
  obtain ⟨c1, h⟩ := h
  refine ⟨c1, ?_⟩
  have n2 := k2_ne K c1 (by decide)
  refine cm_X11_isWord (kf_X11_isWord h) h (fun x3 x4 hp h g5 g6 => ?_)
  have h := h g5 g6
  have K := k2_tr K hp.2
  refine ⟨?_, ?_⟩
  · intro c7
    have h := h.1 c7
    exact kf_X11_needs_13 h K
  · intro c8
    have h := h.2 c8
    refine cm_X11_flaw (kf_X11_flaw h) h (fun x9 hp h g10 => ?_)
    have h := h g10
    have K := k2_tr K hp.2
    exact kf_X11_needs_13 h K
theorem kf_X11_needs {Q : HS → Prop} {v0 : Nat} {v1 : Nat} {S : HS} (h : P_X11_needs v0 v1 Q S) : P_X11_needs v0 v1 (fun T => Q T ∧ K2 S T) S := kf_X11_needs_0 h (k2_rf S)
set_option maxRecDepth 20000 in
set_option maxHeartbeats 1000000 in
theorem kf_X11_off_29 {Q : Int32 → HS → Prop} {v0 : Nat} {S0 S : HS} (h : P_X11_off_29 Q v0 S) (K : K2 S0 S) : P_X11_off_29 (fun r T => Q r T ∧ K2 S0 T) v0 S := by
  delta P_X11_off_29 at h ⊢
  obtain ⟨c1, h⟩ := h
  refine ⟨c1, ?_⟩
  have n2 := k2_ne K c1 (by decide)
  refine cm_X11_refused (kf_X11_refused h) h (fun x3 x4 hp h g5 => ?_)
  have h := h g5
  have K := k2_tr K hp.2
  exact ⟨h, K⟩
set_option maxRecDepth 20000 in
set_option maxHeartbeats 1000000 in
theorem kf_X11_off_128 {Q : Int32 → HS → Prop} {X67 X67_2 : Nat → Int32 → Int32 → Int32 → Int32 → HS → Prop} {v0 : Nat} {v2 : Int32} {v4 : Int32} {v5 : Int32} {v6 : Int32} {S0 S : HS} (h : P_X11_off_128 Q X67 v0 v2 v4 v5 v6 S) (K : K2 S0 S) (hX67 : ∀ (u0 : Nat) (u1 : Int32) (u2 : Int32) (u3 : Int32) (u4 : Int32) (u5 : HS), X67 u0 u1 u2 u3 u4 u5 → K2 S0 u5 → X67_2 u0 u1 u2 u3 u4 u5) : P_X11_off_128 (fun r T => Q r T ∧ K2 S0 T) X67_2 v0 v2 v4 v5 v6 S := by
  delta P_X11_off_128 at h ⊢
  intro x2 e1
  have h := h x2 e1
  exact hX67 _ _ _ _ _ _ h K
set_option maxRecDepth 20000 in
set_option maxHeartbeats 1000000 in
theorem kf_X11_off_124 {Q : Int32 → HS → Prop} {X67 X67_2 : Nat → Int32 → Int32 → Int32 → Int32 → HS → Prop} {v0 : Nat} {v2 : Int32} {v4 : Int32} {v6 : Int32} {S0 S : HS} (h : P_X11_off_124 Q X67 v0 v2 v4 v6 S) (K : K2 S0 S) (hX67 : ∀ (u0 : Nat) (u1 : Int32) (u2 : Int32) (u3 : Int32) (u4 : Int32) (u5 : HS), X67 u0 u1 u2 u3 u4 u5 → K2 S0 u5 → X67_2 u0 u1 u2 u3 u4 u5) : P_X11_off_124 (fun r T => Q r T ∧ K2 S0 T) X67_2 v0 v2 v4 v6 S := by
  delta P_X11_off_124 at h ⊢
  exact kf_X11_off_128 h K hX67
set_option maxRecDepth 20000 in
set_option maxHeartbeats 1000000 in
theorem kfB_X11_off_67 {Q : Int32 → HS → Prop} {X67 X67_2 : Nat → Int32 → Int32 → Int32 → Int32 → HS → Prop} {v0 : Nat} {v2 : Int32} {v4 : Int32} {v5 : Int32} {v6 : Int32} {S0 S : HS} (h : B_X11_off_67 Q X67 v0 v2 v4 v5 v6 S) (K : K2 S0 S) (hX67 : ∀ (u0 : Nat) (u1 : Int32) (u2 : Int32) (u3 : Int32) (u4 : Int32) (u5 : HS), X67 u0 u1 u2 u3 u4 u5 → K2 S0 u5 → X67_2 u0 u1 u2 u3 u4 u5) : B_X11_off_67 (fun r T => Q r T ∧ K2 S0 T) X67_2 v0 v2 v4 v5 v6 S := by
  delta B_X11_off_67 at h ⊢
  refine ⟨?_, ?_⟩
  · intro c1
    have h := h.1 c1
    refine ⟨?_, ?_⟩
    · intro c2
      have h := h.1 c2
      obtain ⟨c3, h⟩ := h
      refine ⟨c3, ?_⟩
      have n4 := k2_ne K c3 (by decide)
      refine cm_X11_good (kf_X11_good h) h (fun x5 x6 hp h g7 => ?_)
      have h := h g7
      have K := k2_tr K hp.2
      exact ⟨h, K⟩
    · intro c8
      have h := h.2 c8
      obtain ⟨c9, h⟩ := h
      refine ⟨c9, ?_⟩
      have n10 := k2_ne K c9 (by decide)
      refine cm_X11_refused (kf_X11_refused h) h (fun x11 x12 hp h g13 => ?_)
      have h := h g13
      have K := k2_tr K hp.2
      exact ⟨h, K⟩
  · intro c14
    have h := h.2 c14
    obtain ⟨c15, h⟩ := h
    refine ⟨c15, ?_⟩
    have n16 := k2_ne K c15 (by decide)
    obtain ⟨b17, e18, h⟩ := h
    refine ⟨b17, e18, ?_⟩
    refine cm_X11_spotOf (kf_X11_spotOf h) h (fun x19 x20 hp h g21 => ?_)
    have h := h g21
    have K := k2_tr K hp.2
    obtain ⟨c22, h⟩ := h
    refine ⟨c22, ?_⟩
    have n23 := k2_ne K c22 (by decide)
    obtain ⟨c24, h⟩ := h
    refine ⟨c24, ?_⟩
    intro x26 e25
    have h := h x26 e25
    refine ⟨?_, ?_⟩
    · intro c27
      have h := h.1 c27
      exact kf_X11_off_128 h K hX67
    · intro c28
      have h := h.2 c28
      refine ⟨?_, ?_⟩
      · intro c29
        have h := h.1 c29
        exact kf_X11_off_124 h K hX67
      · intro c30
        have h := h.2 c30
        obtain ⟨b31, e32, h⟩ := h
        refine ⟨b31, e32, ?_⟩
        refine cm_X11_spotOf (kf_X11_spotOf h) h (fun x33 x34 hp h g35 => ?_)
        have h := h g35
        have K := k2_tr K hp.2
        obtain ⟨c36, h⟩ := h
        refine ⟨c36, ?_⟩
        have n37 := k2_ne K c36 (by decide)
        obtain ⟨c38, h⟩ := h
        refine ⟨c38, ?_⟩
        intro x40 e39
        have h := h x40 e39
        obtain ⟨b41, e42, h⟩ := h
        refine ⟨b41, e42, ?_⟩
        refine cm_X11_spotOf (kf_X11_spotOf h) h (fun x43 x44 hp h g45 => ?_)
        have h := h g45
        have K := k2_tr K hp.2
        obtain ⟨c46, h⟩ := h
        refine ⟨c46, ?_⟩
        have n47 := k2_ne K c46 (by decide)
        obtain ⟨c48, h⟩ := h
        refine ⟨c48, ?_⟩
        intro x50 e49
        have h := h x50 e49
        refine ⟨?_, ?_⟩
        · intro c51
          have h := h.1 c51
          exact kf_X11_off_128 h K hX67
        · intro c52
          have h := h.2 c52
          exact kf_X11_off_124 h K hX67
theorem kf_X11_off_67 {Q : Int32 → HS → Prop} {v0 : Nat} {v2 : Int32} {v4 : Int32} {v5 : Int32} {v6 : Int32} {S0 S : HS} (h : P_X11_off_67 Q v0 v2 v4 v5 v6 S) (K : K2 S0 S) : P_X11_off_67 (fun r T => Q r T ∧ K2 S0 T) v0 v2 v4 v5 v6 S := h (fun v0 v2 v4 v5 v6 S => K2 S0 S → P_X11_off_67 (fun r T => Q r T ∧ K2 S0 T) v0 v2 v4 v5 v6 S) (fun v0 v2 v4 v5 v6 S hB K => fd_X11_off_67 (kfB_X11_off_67 hB K (fun _ _ _ _ _ _ hx K => hx K))) K
set_option maxRecDepth 20000 in
set_option maxHeartbeats 1000000 in
theorem kf_X11_off_0 {Q : Int32 → HS → Prop} {v0 : Nat} {v1 : Int32} {v2 : Int32} {v3 : Int32} {v4 : Int32} {S0 S : HS} (h : P_X11_off_0 Q v0 v1 v2 v3 v4 S) (K : K2 S0 S) : P_X11_off_0 (fun r T => Q r T ∧ K2 S0 T) v0 v1 v2 v3 v4 S := by
  delta P_X11_off_0 at h ⊢
  obtain ⟨c1, h⟩ := h
  refine ⟨c1, ?_⟩
  have n2 := k2_ne K c1 (by decide)
  intro x4 e3
  have h := h x4 e3
  have K := k2_I K e3 n2
  refine cm_X11_isWalker (kf_X11_isWalker h) h (fun x5 x6 hp h g7 g8 => ?_)
  have h := h g7 g8
  have K := k2_tr K hp.2
  refine ⟨?_, ?_⟩
  · intro c9
    have h := h.1 c9
    exact kf_X11_off_29 h K
  · intro c10
    have h := h.2 c10
    refine cm_X11_isPlace (kf_X11_isPlace h) h (fun x11 x12 hp h g13 g14 => ?_)
    have h := h g13 g14
    have K := k2_tr K hp.2
    refine ⟨?_, ?_⟩
    · intro c15
      have h := h.1 c15
      exact kf_X11_off_29 h K
    · intro c16
      have h := h.2 c16
      refine cm_X11_isPlace (kf_X11_isPlace h) h (fun x17 x18 hp h g19 g20 => ?_)
      have h := h g19 g20
      have K := k2_tr K hp.2
      refine ⟨?_, ?_⟩
      · intro c21
        have h := h.1 c21
        refine cm_X11_in (kf_X11_in h) h (fun x22 x23 hp h g24 g25 => ?_)
        have h := h g24 g25
        have K := k2_tr K hp.2
        refine ⟨?_, ?_⟩
        · intro c26
          have h := h.1 c26
          refine cm_X11_laysWays (kf_X11_laysWays h) h (fun x27 hp h g28 => ?_)
          have h := h g28
          have K := k2_tr K hp.2
          exact kf_X11_off_67 h K
        · intro c29
          have h := h.2 c29
          refine cm_X11_refused (kf_X11_refused h) h (fun x30 x31 hp h g32 => ?_)
          have h := h g32
          have K := k2_tr K hp.2
          exact ⟨h, K⟩
      · intro c33
        have h := h.2 c33
        exact kf_X11_off_29 h K
theorem kf_X11_off {Q : Int32 → HS → Prop} {v0 : Nat} {v1 : Int32} {v2 : Int32} {v3 : Int32} {v4 : Int32} {S : HS} (h : P_X11_off v0 v1 v2 v3 v4 Q S) : P_X11_off v0 v1 v2 v3 v4 (fun r T => Q r T ∧ K2 S T) S := kf_X11_off_0 h (k2_rf S)
set_option maxRecDepth 20000 in
set_option maxHeartbeats 1000000 in
theorem kf_X11_readFresh_32 {Q : Int64 → HS → Prop} {v0 : Nat} {S0 S : HS} (h : P_X11_readFresh_32 Q v0 S) (K : K2 S0 S) : P_X11_readFresh_32 (fun r T => Q r T ∧ K2 S0 T) v0 S := by
  delta P_X11_readFresh_32 at h ⊢
  obtain ⟨c1, h⟩ := h
  refine ⟨c1, ?_⟩
  have n2 := k2_ne K c1 (by decide)
  intro x4 e3
  have h := h x4 e3
  refine cm_X11_goesOn (kf_X11_goesOn h) h (fun x5 hp h g6 => ?_)
  have h := h g6
  have K := k2_tr K hp.2
  exact ⟨h, K⟩
set_option maxRecDepth 20000 in
set_option maxHeartbeats 1000000 in
theorem kf_X11_readFresh_12 {Q : Int64 → HS → Prop} {v0 : Nat} {S0 S : HS} (h : P_X11_readFresh_12 Q v0 S) (K : K2 S0 S) : P_X11_readFresh_12 (fun r T => Q r T ∧ K2 S0 T) v0 S := by
  delta P_X11_readFresh_12 at h ⊢
  obtain ⟨c1, h⟩ := h
  refine ⟨c1, ?_⟩
  have n2 := k2_ne K c1 (by decide)
  obtain ⟨b3, e4, h⟩ := h
  refine ⟨b3, e4, ?_⟩
  intro x6 e5
  have h := h x6 e5
  obtain ⟨c7, h⟩ := h
  refine ⟨c7, ?_⟩
  have n8 := k2_ne K c7 (by decide)
  refine cm_X10_find (kf_X10_find h) h (fun x9 x10 hp h g11 => ?_)
  have h := h g11
  have K := k2_tr K hp.2
  refine ⟨?_, ?_⟩
  · intro c12
    have h := h.1 c12
    exact kf_X11_readFresh_32 h K
  · intro c13
    have h := h.2 c13
    refine cm_X11_flaw (kf_X11_flaw h) h (fun x14 hp h g15 => ?_)
    have h := h g15
    have K := k2_tr K hp.2
    exact kf_X11_readFresh_32 h K
set_option maxRecDepth 20000 in
set_option maxHeartbeats 1000000 in
theorem kf_X11_readFresh_0 {Q : Int64 → HS → Prop} {v0 : Nat} {S0 S : HS} (h : P_X11_readFresh_0 Q v0 S) (K : K2 S0 S) : P_X11_readFresh_0 (fun r T => Q r T ∧ K2 S0 T) v0 S := by
  delta P_X11_readFresh_0 at h ⊢
  obtain ⟨c1, h⟩ := h
  refine ⟨c1, ?_⟩
  have n2 := k2_ne K c1 (by decide)
  refine cm_X11_isName (kf_X11_isName h) h (fun x3 x4 hp h g5 g6 => ?_)
  have h := h g5 g6
  have K := k2_tr K hp.2
  refine ⟨?_, ?_⟩
  · intro c7
    have h := h.1 c7
    exact kf_X11_readFresh_12 h K
  · intro c8
    have h := h.2 c8
    refine cm_X11_flaw (kf_X11_flaw h) h (fun x9 hp h g10 => ?_)
    have h := h g10
    have K := k2_tr K hp.2
    exact kf_X11_readFresh_12 h K
theorem kf_X11_readFresh {Q : Int64 → HS → Prop} {v0 : Nat} {S : HS} (h : P_X11_readFresh v0 Q S) : P_X11_readFresh v0 (fun r T => Q r T ∧ K2 S T) S := kf_X11_readFresh_0 h (k2_rf S)
set_option maxRecDepth 20000 in
set_option maxHeartbeats 1000000 in
theorem kf_X11_readWhole_49 {Q : Int32 → HS → Prop} {v0 : Nat} {s0 : Int32} {S0 S : HS} (h : P_X11_readWhole_49 Q v0 s0 S) (K : K2 S0 S) : P_X11_readWhole_49 (fun r T => Q r T ∧ K2 S0 T) v0 s0 S := by
  delta P_X11_readWhole_49 at h ⊢
  obtain ⟨c1, h⟩ := h
  refine ⟨c1, ?_⟩
  have n2 := k2_ne K c1 (by decide)
  refine cm_X11_goesOn (kf_X11_goesOn h) h (fun x3 hp h g4 => ?_)
  have h := h g4
  have K := k2_tr K hp.2
  exact ⟨h, K⟩
set_option maxRecDepth 20000 in
set_option maxHeartbeats 1000000 in
theorem kf_X11_readWhole_33 {Q : Int32 → HS → Prop} {v0 : Nat} {v1 : Int32} {S0 S : HS} (h : P_X11_readWhole_33 Q v0 v1 S) (K : K2 S0 S) : P_X11_readWhole_33 (fun r T => Q r T ∧ K2 S0 T) v0 v1 S := by
  delta P_X11_readWhole_33 at h ⊢
  obtain ⟨c1, h⟩ := h
  refine ⟨c1, ?_⟩
  have n2 := k2_ne K c1 (by decide)
  intro x4 e3
  have h := h x4 e3
  refine ⟨?_, ?_⟩
  · intro c5
    have h := h.1 c5
    intro x7 e6
    have h := h x7 e6
    exact kf_X11_readWhole_49 h K
  · intro c8
    have h := h.2 c8
    exact kf_X11_readWhole_49 h K
set_option maxRecDepth 20000 in
set_option maxHeartbeats 1000000 in
theorem kf_X11_readWhole_0 {Q : Int32 → HS → Prop} {v0 : Nat} {v1 : Int32} {v2 : Int32} {S0 S : HS} (h : P_X11_readWhole_0 Q v0 v1 v2 S) (K : K2 S0 S) : P_X11_readWhole_0 (fun r T => Q r T ∧ K2 S0 T) v0 v1 v2 S := by
  delta P_X11_readWhole_0 at h ⊢
  obtain ⟨c1, h⟩ := h
  refine ⟨c1, ?_⟩
  have n2 := k2_ne K c1 (by decide)
  intro x4 e3
  have h := h x4 e3
  refine ⟨?_, ?_⟩
  · intro c5
    have h := h.1 c5
    intro x7 e6
    have h := h x7 e6
    refine cm_X11_in (kf_X11_in h) h (fun x8 x9 hp h g10 g11 => ?_)
    have h := h g10 g11
    have K := k2_tr K hp.2
    refine ⟨?_, ?_⟩
    · intro c12
      have h := h.1 c12
      exact kf_X11_readWhole_33 h K
    · intro c13
      have h := h.2 c13
      refine cm_X11_flaw (kf_X11_flaw h) h (fun x14 hp h g15 => ?_)
      have h := h g15
      have K := k2_tr K hp.2
      exact kf_X11_readWhole_33 h K
  · intro c16
    have h := h.2 c16
    refine cm_X11_flaw (kf_X11_flaw h) h (fun x17 hp h g18 => ?_)
    have h := h g18
    have K := k2_tr K hp.2
    exact kf_X11_readWhole_33 h K
theorem kf_X11_readWhole {Q : Int32 → HS → Prop} {v0 : Nat} {v1 : Int32} {v2 : Int32} {S : HS} (h : P_X11_readWhole v0 v1 v2 Q S) : P_X11_readWhole v0 v1 v2 (fun r T => Q r T ∧ K2 S T) S := kf_X11_readWhole_0 h (k2_rf S)
set_option maxRecDepth 20000 in
set_option maxHeartbeats 1000000 in
theorem kf_X11_readPlace_50 {Q : HS → Prop} {v0 : Nat} {v1 : Int64} {v3 : Int32} {s0 : Int32} {S0 S : HS} (h : P_X11_readPlace_50 Q v0 v1 v3 s0 S) (K : K2 S0 S) : P_X11_readPlace_50 (fun T => Q T ∧ K2 S0 T) v0 v1 v3 s0 S := by
  delta P_X11_readPlace_50 at h ⊢
  obtain ⟨c1, h⟩ := h
  refine ⟨c1, ?_⟩
  have n2 := k2_ne K c1 (by decide)
  intro x4 e3
  have h := h x4 e3
  refine ⟨?_, ?_⟩
  · intro c5
    have h := h.1 c5
    obtain ⟨b6, e7, h⟩ := h
    refine ⟨b6, e7, ?_⟩
    obtain ⟨c8, h⟩ := h
    refine ⟨c8, ?_⟩
    have n9 := k2_ne K c8 (by decide)
    intro x11 e10
    have h := h x11 e10
    refine cm_X11_names (kf_X11_names h) h (fun x12 hp h g13 => ?_)
    have h := h g13
    have K := k2_tr K hp.2
    obtain ⟨b14, e15, h⟩ := h
    refine ⟨b14, e15, ?_⟩
    obtain ⟨c16, h⟩ := h
    refine ⟨c16, ?_⟩
    have n17 := k2_ne K c16 (by decide)
    obtain ⟨b18, e19, h⟩ := h
    refine ⟨b18, e19, ?_⟩
    obtain ⟨b20, e21, h⟩ := h
    refine ⟨b20, e21, ?_⟩
    obtain ⟨c22, h⟩ := h
    refine ⟨c22, ?_⟩
    have n23 := k2_ne K c22 (by decide)
    intro x25 e24
    have h := h x25 e24
    obtain ⟨c26, h⟩ := h
    refine ⟨c26, ?_⟩
    have n27 := k2_ne K c26 (by decide)
    obtain ⟨c28, h⟩ := h
    refine ⟨c28, ?_⟩
    intro x30 e29
    have h := h x30 e29
    have K := k2_I K e29 n27
    obtain ⟨b31, e32, h⟩ := h
    refine ⟨b31, e32, ?_⟩
    obtain ⟨c33, h⟩ := h
    refine ⟨c33, ?_⟩
    have n34 := k2_ne K c33 (by decide)
    obtain ⟨b35, e36, h⟩ := h
    refine ⟨b35, e36, ?_⟩
    obtain ⟨b37, e38, h⟩ := h
    refine ⟨b37, e38, ?_⟩
    obtain ⟨c39, h⟩ := h
    refine ⟨c39, ?_⟩
    have n40 := k2_ne K c39 (by decide)
    intro x42 e41
    have h := h x42 e41
    obtain ⟨c43, h⟩ := h
    refine ⟨c43, ?_⟩
    have n44 := k2_ne K c43 (by decide)
    obtain ⟨c45, h⟩ := h
    refine ⟨c45, ?_⟩
    intro x47 e46
    have h := h x47 e46
    have K := k2_I K e46 n44
    obtain ⟨b48, e49, h⟩ := h
    refine ⟨b48, e49, ?_⟩
    obtain ⟨c50, h⟩ := h
    refine ⟨c50, ?_⟩
    have n51 := k2_ne K c50 (by decide)
    intro x53 e52
    have h := h x53 e52
    intro x55 e54
    have h := h x55 e54
    intro x57 e56
    have h := h x57 e56
    have K := k2_I K e56 n51
    exact ⟨h, K⟩
  · intro c58
    have h := h.2 c58
    exact ⟨h, K⟩
set_option maxRecDepth 20000 in
set_option maxHeartbeats 1000000 in
theorem kf_X11_readPlace_48 {Q : HS → Prop} {v0 : Nat} {v1 : Int64} {v3 : Int32} {S0 S : HS} (h : P_X11_readPlace_48 Q v0 v1 v3 S) (K : K2 S0 S) : P_X11_readPlace_48 (fun T => Q T ∧ K2 S0 T) v0 v1 v3 S := by
  delta P_X11_readPlace_48 at h ⊢
  exact kf_X11_readPlace_50 h K
set_option maxRecDepth 20000 in
set_option maxHeartbeats 1000000 in
theorem kf_X11_readPlace_0 {Q : HS → Prop} {v0 : Nat} {S0 S : HS} (h : P_X11_readPlace_0 Q v0 S) (K : K2 S0 S) : P_X11_readPlace_0 (fun T => Q T ∧ K2 S0 T) v0 S := by
  delta P_X11_readPlace_0 at h ⊢
  obtain ⟨c1, h⟩ := h
  refine ⟨c1, ?_⟩
  have n2 := k2_ne K c1 (by decide)
  obtain ⟨b3, e4, h⟩ := h
  refine ⟨b3, e4, ?_⟩
  obtain ⟨c5, h⟩ := h
  refine ⟨c5, ?_⟩
  have n6 := k2_ne K c5 (by decide)
  intro x8 e7
  have h := h x8 e7
  refine cm_X11_begins (kf_X11_begins h) h (fun x9 hp h g10 => ?_)
  have h := h g10
  have K := k2_tr K hp.2
  refine cm_X11_readFresh (kf_X11_readFresh h) h (fun x11 x12 hp h g13 => ?_)
  have h := h g13
  have K := k2_tr K hp.2
  refine cm_X11_eatsWord (kf_X11_eatsWord h) h (fun x14 x15 hp h g16 g17 => ?_)
  have h := h g16 g17
  have K := k2_tr K hp.2
  refine ⟨?_, ?_⟩
  · intro c18
    have h := h.1 c18
    exact kf_X11_readPlace_48 h K
  · intro c19
    have h := h.2 c19
    refine cm_X11_eatsWord (kf_X11_eatsWord h) h (fun x20 x21 hp h g22 g23 => ?_)
    have h := h g22 g23
    have K := k2_tr K hp.2
    refine ⟨?_, ?_⟩
    · intro c24
      have h := h.1 c24
      exact kf_X11_readPlace_48 h K
    · intro c25
      have h := h.2 c25
      refine cm_X11_readWhole (kf_X11_readWhole h) h (fun x26 x27 hp h g28 => ?_)
      have h := h g28
      have K := k2_tr K hp.2
      exact kf_X11_readPlace_50 h K
theorem kf_X11_readPlace {Q : HS → Prop} {v0 : Nat} {S : HS} (h : P_X11_readPlace v0 Q S) : P_X11_readPlace v0 (fun T => Q T ∧ K2 S T) S := kf_X11_readPlace_0 h (k2_rf S)
set_option maxRecDepth 20000 in
set_option maxHeartbeats 1000000 in
theorem kf_X11_readPart_0 {Q : Int32 → HS → Prop} {v0 : Nat} {v1 : Nat} {v2 : Int32} {v3 : Int32} {S0 S : HS} (h : P_X11_readPart_0 Q v0 v1 v2 v3 S) (K : K2 S0 S) : P_X11_readPart_0 (fun r T => Q r T ∧ K2 S0 T) v0 v1 v2 v3 S := by
  delta P_X11_readPart_0 at h ⊢
  obtain ⟨c1, h⟩ := h
  refine ⟨c1, ?_⟩
  have n2 := k2_ne K c1 (by decide)
  refine cm_X11_needs (kf_X11_needs h) h (fun x3 hp h g4 => ?_)
  have h := h g4
  have K := k2_tr K hp.2
  refine cm_X11_readWhole (kf_X11_readWhole h) h (fun x5 x6 hp h g7 => ?_)
  have h := h g7
  have K := k2_tr K hp.2
  exact ⟨h, K⟩
theorem kf_X11_readPart {Q : Int32 → HS → Prop} {v0 : Nat} {v1 : Nat} {v2 : Int32} {v3 : Int32} {S : HS} (h : P_X11_readPart v0 v1 v2 v3 Q S) : P_X11_readPart v0 v1 v2 v3 (fun r T => Q r T ∧ K2 S T) S := kf_X11_readPart_0 h (k2_rf S)
set_option maxRecDepth 20000 in
set_option maxHeartbeats 1000000 in
theorem kf_X11_readSide_64 {Q : Int32 → HS → Prop} {v0 : Nat} {v1 : Int32} {S0 S : HS} (h : P_X11_readSide_64 Q v0 v1 S) (K : K2 S0 S) : P_X11_readSide_64 (fun r T => Q r T ∧ K2 S0 T) v0 v1 S := by
  delta P_X11_readSide_64 at h ⊢
  obtain ⟨c1, h⟩ := h
  refine ⟨c1, ?_⟩
  have n2 := k2_ne K c1 (by decide)
  refine cm_X11_goesOn (kf_X11_goesOn h) h (fun x3 hp h g4 => ?_)
  have h := h g4
  have K := k2_tr K hp.2
  exact ⟨h, K⟩
set_option maxRecDepth 20000 in
set_option maxHeartbeats 1000000 in
theorem kf_X11_readSide_53 {Q : Int32 → HS → Prop} {v0 : Nat} {s0 : Int32} {S0 S : HS} (h : P_X11_readSide_53 Q v0 s0 S) (K : K2 S0 S) : P_X11_readSide_53 (fun r T => Q r T ∧ K2 S0 T) v0 s0 S := by
  delta P_X11_readSide_53 at h ⊢
  refine ⟨?_, ?_⟩
  · intro c1
    have h := h.1 c1
    exact kf_X11_readSide_64 h K
  · intro c2
    have h := h.2 c2
    obtain ⟨c3, h⟩ := h
    refine ⟨c3, ?_⟩
    have n4 := k2_ne K c3 (by decide)
    refine cm_X11_flaw (kf_X11_flaw h) h (fun x5 hp h g6 => ?_)
    have h := h g6
    have K := k2_tr K hp.2
    exact kf_X11_readSide_64 h K
set_option maxRecDepth 20000 in
set_option maxHeartbeats 1000000 in
theorem kf_X11_readSide_0 {Q : Int32 → HS → Prop} {v0 : Nat} {S0 S : HS} (h : P_X11_readSide_0 Q v0 S) (K : K2 S0 S) : P_X11_readSide_0 (fun r T => Q r T ∧ K2 S0 T) v0 S := by
  delta P_X11_readSide_0 at h ⊢
  obtain ⟨c1, h⟩ := h
  refine ⟨c1, ?_⟩
  have n2 := k2_ne K c1 (by decide)
  refine cm_X11_isWord (kf_X11_isWord h) h (fun x3 x4 hp h g5 g6 => ?_)
  have h := h g5 g6
  have K := k2_tr K hp.2
  refine ⟨?_, ?_⟩
  · intro c7
    have h := h.1 c7
    refine cm_X11_isWord (kf_X11_isWord h) h (fun x8 x9 hp h g10 g11 => ?_)
    have h := h g10 g11
    have K := k2_tr K hp.2
    refine ⟨?_, ?_⟩
    · intro c12
      have h := h.1 c12
      refine cm_X11_isWord (kf_X11_isWord h) h (fun x13 x14 hp h g15 g16 => ?_)
      have h := h g15 g16
      have K := k2_tr K hp.2
      refine ⟨?_, ?_⟩
      · intro c17
        have h := h.1 c17
        refine cm_X11_isWord (kf_X11_isWord h) h (fun x18 x19 hp h g20 g21 => ?_)
        have h := h g20 g21
        have K := k2_tr K hp.2
        refine ⟨?_, ?_⟩
        · intro c22
          have h := h.1 c22
          exact kf_X11_readSide_53 h K
        · intro c23
          have h := h.2 c23
          exact kf_X11_readSide_53 h K
      · intro c24
        have h := h.2 c24
        exact kf_X11_readSide_53 h K
    · intro c25
      have h := h.2 c25
      exact kf_X11_readSide_53 h K
  · intro c26
    have h := h.2 c26
    exact kf_X11_readSide_53 h K
theorem kf_X11_readSide {Q : Int32 → HS → Prop} {v0 : Nat} {S : HS} (h : P_X11_readSide v0 Q S) : P_X11_readSide v0 (fun r T => Q r T ∧ K2 S T) S := kf_X11_readSide_0 h (k2_rf S)
set_option maxRecDepth 20000 in
set_option maxHeartbeats 1000000 in
theorem kf_X11_readRain_0 {Q : HS → Prop} {v0 : Nat} {S0 S : HS} (h : P_X11_readRain_0 Q v0 S) (K : K2 S0 S) : P_X11_readRain_0 (fun T => Q T ∧ K2 S0 T) v0 S := by
  delta P_X11_readRain_0 at h ⊢
  obtain ⟨c1, h⟩ := h
  refine ⟨c1, ?_⟩
  have n2 := k2_ne K c1 (by decide)
  obtain ⟨b3, e4, h⟩ := h
  refine ⟨b3, e4, ?_⟩
  obtain ⟨c5, h⟩ := h
  refine ⟨c5, ?_⟩
  have n6 := k2_ne K c5 (by decide)
  intro x8 e7
  have h := h x8 e7
  refine cm_X11_begins (kf_X11_begins h) h (fun x9 hp h g10 => ?_)
  have h := h g10
  have K := k2_tr K hp.2
  refine cm_X11_readPart (kf_X11_readPart h) h (fun x11 x12 hp h g13 => ?_)
  have h := h g13
  have K := k2_tr K hp.2
  refine cm_X11_readPart (kf_X11_readPart h) h (fun x14 x15 hp h g16 => ?_)
  have h := h g16
  have K := k2_tr K hp.2
  refine cm_X11_needs (kf_X11_needs h) h (fun x17 hp h g18 => ?_)
  have h := h g18
  have K := k2_tr K hp.2
  refine cm_X11_readSide (kf_X11_readSide h) h (fun x19 x20 hp h g21 => ?_)
  have h := h g21
  have K := k2_tr K hp.2
  refine cm_X11_readWhole (kf_X11_readWhole h) h (fun x22 x23 hp h g24 => ?_)
  have h := h g24
  have K := k2_tr K hp.2
  refine cm_X11_readPart (kf_X11_readPart h) h (fun x25 x26 hp h g27 => ?_)
  have h := h g27
  have K := k2_tr K hp.2
  intro x29 e28
  have h := h x29 e28
  refine ⟨?_, ?_⟩
  · intro c30
    have h := h.1 c30
    obtain ⟨b31, e32, h⟩ := h
    refine ⟨b31, e32, ?_⟩
    obtain ⟨c33, h⟩ := h
    refine ⟨c33, ?_⟩
    have n34 := k2_ne K c33 (by decide)
    obtain ⟨b35, e36, h⟩ := h
    refine ⟨b35, e36, ?_⟩
    obtain ⟨b37, e38, h⟩ := h
    refine ⟨b37, e38, ?_⟩
    obtain ⟨c39, h⟩ := h
    refine ⟨c39, ?_⟩
    have n40 := k2_ne K c39 (by decide)
    intro x42 e41
    have h := h x42 e41
    obtain ⟨c43, h⟩ := h
    refine ⟨c43, ?_⟩
    have n44 := k2_ne K c43 (by decide)
    obtain ⟨c45, h⟩ := h
    refine ⟨c45, ?_⟩
    intro x47 e46
    have h := h x47 e46
    have K := k2_I K e46 n44
    obtain ⟨b48, e49, h⟩ := h
    refine ⟨b48, e49, ?_⟩
    obtain ⟨c50, h⟩ := h
    refine ⟨c50, ?_⟩
    have n51 := k2_ne K c50 (by decide)
    obtain ⟨b52, e53, h⟩ := h
    refine ⟨b52, e53, ?_⟩
    obtain ⟨b54, e55, h⟩ := h
    refine ⟨b54, e55, ?_⟩
    obtain ⟨c56, h⟩ := h
    refine ⟨c56, ?_⟩
    have n57 := k2_ne K c56 (by decide)
    intro x59 e58
    have h := h x59 e58
    obtain ⟨c60, h⟩ := h
    refine ⟨c60, ?_⟩
    have n61 := k2_ne K c60 (by decide)
    obtain ⟨c62, h⟩ := h
    refine ⟨c62, ?_⟩
    intro x64 e63
    have h := h x64 e63
    have K := k2_I K e63 n61
    obtain ⟨b65, e66, h⟩ := h
    refine ⟨b65, e66, ?_⟩
    obtain ⟨c67, h⟩ := h
    refine ⟨c67, ?_⟩
    have n68 := k2_ne K c67 (by decide)
    obtain ⟨b69, e70, h⟩ := h
    refine ⟨b69, e70, ?_⟩
    obtain ⟨b71, e72, h⟩ := h
    refine ⟨b71, e72, ?_⟩
    obtain ⟨c73, h⟩ := h
    refine ⟨c73, ?_⟩
    have n74 := k2_ne K c73 (by decide)
    intro x76 e75
    have h := h x76 e75
    obtain ⟨c77, h⟩ := h
    refine ⟨c77, ?_⟩
    have n78 := k2_ne K c77 (by decide)
    obtain ⟨c79, h⟩ := h
    refine ⟨c79, ?_⟩
    intro x81 e80
    have h := h x81 e80
    have K := k2_I K e80 n78
    obtain ⟨b82, e83, h⟩ := h
    refine ⟨b82, e83, ?_⟩
    obtain ⟨c84, h⟩ := h
    refine ⟨c84, ?_⟩
    have n85 := k2_ne K c84 (by decide)
    obtain ⟨b86, e87, h⟩ := h
    refine ⟨b86, e87, ?_⟩
    obtain ⟨b88, e89, h⟩ := h
    refine ⟨b88, e89, ?_⟩
    obtain ⟨c90, h⟩ := h
    refine ⟨c90, ?_⟩
    have n91 := k2_ne K c90 (by decide)
    intro x93 e92
    have h := h x93 e92
    obtain ⟨c94, h⟩ := h
    refine ⟨c94, ?_⟩
    have n95 := k2_ne K c94 (by decide)
    obtain ⟨c96, h⟩ := h
    refine ⟨c96, ?_⟩
    intro x98 e97
    have h := h x98 e97
    have K := k2_I K e97 n95
    obtain ⟨b99, e100, h⟩ := h
    refine ⟨b99, e100, ?_⟩
    obtain ⟨c101, h⟩ := h
    refine ⟨c101, ?_⟩
    have n102 := k2_ne K c101 (by decide)
    obtain ⟨b103, e104, h⟩ := h
    refine ⟨b103, e104, ?_⟩
    obtain ⟨b105, e106, h⟩ := h
    refine ⟨b105, e106, ?_⟩
    obtain ⟨c107, h⟩ := h
    refine ⟨c107, ?_⟩
    have n108 := k2_ne K c107 (by decide)
    intro x110 e109
    have h := h x110 e109
    obtain ⟨c111, h⟩ := h
    refine ⟨c111, ?_⟩
    have n112 := k2_ne K c111 (by decide)
    obtain ⟨c113, h⟩ := h
    refine ⟨c113, ?_⟩
    intro x115 e114
    have h := h x115 e114
    have K := k2_I K e114 n112
    obtain ⟨b116, e117, h⟩ := h
    refine ⟨b116, e117, ?_⟩
    obtain ⟨c118, h⟩ := h
    refine ⟨c118, ?_⟩
    have n119 := k2_ne K c118 (by decide)
    intro x121 e120
    have h := h x121 e120
    intro x123 e122
    have h := h x123 e122
    intro x125 e124
    have h := h x125 e124
    have K := k2_I K e124 n119
    exact ⟨h, K⟩
  · intro c126
    have h := h.2 c126
    exact ⟨h, K⟩
theorem kf_X11_readRain {Q : HS → Prop} {v0 : Nat} {S : HS} (h : P_X11_readRain v0 Q S) : P_X11_readRain v0 (fun T => Q T ∧ K2 S T) S := kf_X11_readRain_0 h (k2_rf S)
set_option maxRecDepth 20000 in
set_option maxHeartbeats 1000000 in
theorem kf_X11_readRoad_85 {Q : HS → Prop} {v0 : Nat} {v1 : Int32} {v2 : Int32} {v3 : Int32} {v4 : Int32} {s0 : Int32} {S0 S : HS} (h : P_X11_readRoad_85 Q v0 v1 v2 v3 v4 s0 S) (K : K2 S0 S) : P_X11_readRoad_85 (fun T => Q T ∧ K2 S0 T) v0 v1 v2 v3 v4 s0 S := by
  delta P_X11_readRoad_85 at h ⊢
  obtain ⟨c1, h⟩ := h
  refine ⟨c1, ?_⟩
  have n2 := k2_ne K c1 (by decide)
  intro x4 e3
  have h := h x4 e3
  refine ⟨?_, ?_⟩
  · intro c5
    have h := h.1 c5
    obtain ⟨b6, e7, h⟩ := h
    refine ⟨b6, e7, ?_⟩
    obtain ⟨c8, h⟩ := h
    refine ⟨c8, ?_⟩
    have n9 := k2_ne K c8 (by decide)
    intro x11 e10
    have h := h x11 e10
    obtain ⟨b12, e13, h⟩ := h
    refine ⟨b12, e13, ?_⟩
    obtain ⟨c14, h⟩ := h
    refine ⟨c14, ?_⟩
    have n15 := k2_ne K c14 (by decide)
    obtain ⟨b16, e17, h⟩ := h
    refine ⟨b16, e17, ?_⟩
    obtain ⟨c18, h⟩ := h
    refine ⟨c18, ?_⟩
    have n19 := k2_ne K c18 (by decide)
    obtain ⟨c20, h⟩ := h
    refine ⟨c20, ?_⟩
    intro x22 e21
    have h := h x22 e21
    have K := k2_I K e21 n19
    obtain ⟨b23, e24, h⟩ := h
    refine ⟨b23, e24, ?_⟩
    obtain ⟨c25, h⟩ := h
    refine ⟨c25, ?_⟩
    have n26 := k2_ne K c25 (by decide)
    obtain ⟨b27, e28, h⟩ := h
    refine ⟨b27, e28, ?_⟩
    obtain ⟨c29, h⟩ := h
    refine ⟨c29, ?_⟩
    have n30 := k2_ne K c29 (by decide)
    obtain ⟨c31, h⟩ := h
    refine ⟨c31, ?_⟩
    intro x33 e32
    have h := h x33 e32
    have K := k2_I K e32 n30
    obtain ⟨b34, e35, h⟩ := h
    refine ⟨b34, e35, ?_⟩
    obtain ⟨c36, h⟩ := h
    refine ⟨c36, ?_⟩
    have n37 := k2_ne K c36 (by decide)
    obtain ⟨b38, e39, h⟩ := h
    refine ⟨b38, e39, ?_⟩
    obtain ⟨c40, h⟩ := h
    refine ⟨c40, ?_⟩
    have n41 := k2_ne K c40 (by decide)
    obtain ⟨c42, h⟩ := h
    refine ⟨c42, ?_⟩
    intro x44 e43
    have h := h x44 e43
    have K := k2_I K e43 n41
    obtain ⟨b45, e46, h⟩ := h
    refine ⟨b45, e46, ?_⟩
    obtain ⟨c47, h⟩ := h
    refine ⟨c47, ?_⟩
    have n48 := k2_ne K c47 (by decide)
    obtain ⟨b49, e50, h⟩ := h
    refine ⟨b49, e50, ?_⟩
    obtain ⟨c51, h⟩ := h
    refine ⟨c51, ?_⟩
    have n52 := k2_ne K c51 (by decide)
    obtain ⟨c53, h⟩ := h
    refine ⟨c53, ?_⟩
    intro x55 e54
    have h := h x55 e54
    have K := k2_I K e54 n52
    obtain ⟨b56, e57, h⟩ := h
    refine ⟨b56, e57, ?_⟩
    obtain ⟨c58, h⟩ := h
    refine ⟨c58, ?_⟩
    have n59 := k2_ne K c58 (by decide)
    obtain ⟨b60, e61, h⟩ := h
    refine ⟨b60, e61, ?_⟩
    obtain ⟨c62, h⟩ := h
    refine ⟨c62, ?_⟩
    have n63 := k2_ne K c62 (by decide)
    obtain ⟨c64, h⟩ := h
    refine ⟨c64, ?_⟩
    intro x66 e65
    have h := h x66 e65
    have K := k2_I K e65 n63
    obtain ⟨b67, e68, h⟩ := h
    refine ⟨b67, e68, ?_⟩
    obtain ⟨c69, h⟩ := h
    refine ⟨c69, ?_⟩
    have n70 := k2_ne K c69 (by decide)
    intro x72 e71
    have h := h x72 e71
    intro x74 e73
    have h := h x74 e73
    intro x76 e75
    have h := h x76 e75
    have K := k2_I K e75 n70
    exact ⟨h, K⟩
  · intro c77
    have h := h.2 c77
    exact ⟨h, K⟩
set_option maxRecDepth 20000 in
set_option maxHeartbeats 1000000 in
theorem kf_X11_readRoad_62 {Q : HS → Prop} {v0 : Nat} {v1 : Int32} {v2 : Int32} {v3 : Int32} {v4 : Int32} {S0 S : HS} (h : P_X11_readRoad_62 Q v0 v1 v2 v3 v4 S) (K : K2 S0 S) : P_X11_readRoad_62 (fun T => Q T ∧ K2 S0 T) v0 v1 v2 v3 v4 S := by
  delta P_X11_readRoad_62 at h ⊢
  obtain ⟨c1, h⟩ := h
  refine ⟨c1, ?_⟩
  have n2 := k2_ne K c1 (by decide)
  refine cm_X11_goesOn (kf_X11_goesOn h) h (fun x3 hp h g4 => ?_)
  have h := h g4
  have K := k2_tr K hp.2
  refine cm_X11_eatsWord (kf_X11_eatsWord h) h (fun x5 x6 hp h g7 g8 => ?_)
  have h := h g7 g8
  have K := k2_tr K hp.2
  refine ⟨?_, ?_⟩
  · intro c9
    have h := h.1 c9
    exact kf_X11_readRoad_85 h K
  · intro c10
    have h := h.2 c10
    refine cm_X11_readWhole (kf_X11_readWhole h) h (fun x11 x12 hp h g13 => ?_)
    have h := h g13
    have K := k2_tr K hp.2
    exact kf_X11_readRoad_85 h K
set_option maxRecDepth 20000 in
set_option maxHeartbeats 1000000 in
theorem kf_X11_readRoad_0 {Q : HS → Prop} {v0 : Nat} {S0 S : HS} (h : P_X11_readRoad_0 Q v0 S) (K : K2 S0 S) : P_X11_readRoad_0 (fun T => Q T ∧ K2 S0 T) v0 S := by
  delta P_X11_readRoad_0 at h ⊢
  obtain ⟨c1, h⟩ := h
  refine ⟨c1, ?_⟩
  have n2 := k2_ne K c1 (by decide)
  obtain ⟨b3, e4, h⟩ := h
  refine ⟨b3, e4, ?_⟩
  obtain ⟨c5, h⟩ := h
  refine ⟨c5, ?_⟩
  have n6 := k2_ne K c5 (by decide)
  intro x8 e7
  have h := h x8 e7
  refine cm_X11_begins (kf_X11_begins h) h (fun x9 hp h g10 => ?_)
  have h := h g10
  have K := k2_tr K hp.2
  refine cm_X11_known (kf_X11_known h) h (fun x11 x12 hp h g13 => ?_)
  have h := h g13
  have K := k2_tr K hp.2
  refine cm_X11_goesOn (kf_X11_goesOn h) h (fun x14 hp h g15 => ?_)
  have h := h g15
  have K := k2_tr K hp.2
  refine cm_X11_readSide (kf_X11_readSide h) h (fun x16 x17 hp h g18 => ?_)
  have h := h g18
  have K := k2_tr K hp.2
  refine cm_X11_readWhole (kf_X11_readWhole h) h (fun x19 x20 hp h g21 => ?_)
  have h := h g21
  have K := k2_tr K hp.2
  refine cm_X11_known (kf_X11_known h) h (fun x22 x23 hp h g24 => ?_)
  have h := h g24
  have K := k2_tr K hp.2
  intro x26 e25
  have h := h x26 e25
  refine ⟨?_, ?_⟩
  · intro c27
    have h := h.1 c27
    exact kf_X11_readRoad_62 h K
  · intro c28
    have h := h.2 c28
    refine ⟨?_, ?_⟩
    · intro c29
      have h := h.1 c29
      exact kf_X11_readRoad_62 h K
    · intro c30
      have h := h.2 c30
      refine cm_X11_flaw (kf_X11_flaw h) h (fun x31 hp h g32 => ?_)
      have h := h g32
      have K := k2_tr K hp.2
      exact kf_X11_readRoad_62 h K
theorem kf_X11_readRoad {Q : HS → Prop} {v0 : Nat} {S : HS} (h : P_X11_readRoad v0 Q S) : P_X11_readRoad v0 (fun T => Q T ∧ K2 S T) S := kf_X11_readRoad_0 h (k2_rf S)
set_option maxRecDepth 20000 in
set_option maxHeartbeats 1000000 in
theorem kf_X11_readSeen_47 {Q : HS → Prop} {X24 X24_2 : Nat → Int32 → Int32 → HS → Prop} {v0 : Nat} {v1 : Int32} {v2 : Int32} {S0 S : HS} (h : P_X11_readSeen_47 Q X24 v0 v1 v2 S) (K : K2 S0 S) (hX24 : ∀ (u0 : Nat) (u1 : Int32) (u2 : Int32) (u3 : HS), X24 u0 u1 u2 u3 → K2 S0 u3 → X24_2 u0 u1 u2 u3) : P_X11_readSeen_47 (fun T => Q T ∧ K2 S0 T) X24_2 v0 v1 v2 S := by
  delta P_X11_readSeen_47 at h ⊢
  obtain ⟨c1, h⟩ := h
  refine ⟨c1, ?_⟩
  have n2 := k2_ne K c1 (by decide)
  refine cm_X11_readWhole (kf_X11_readWhole h) h (fun x3 x4 hp h g5 => ?_)
  have h := h g5
  have K := k2_tr K hp.2
  intro x7 e6
  have h := h x7 e6
  refine ⟨?_, ?_⟩
  · intro c8
    have h := h.1 c8
    obtain ⟨b9, e10, h⟩ := h
    refine ⟨b9, e10, ?_⟩
    obtain ⟨c11, h⟩ := h
    refine ⟨c11, ?_⟩
    have n12 := k2_ne K c11 (by decide)
    obtain ⟨b13, e14, h⟩ := h
    refine ⟨b13, e14, ?_⟩
    obtain ⟨b15, e16, h⟩ := h
    refine ⟨b15, e16, ?_⟩
    obtain ⟨c17, h⟩ := h
    refine ⟨c17, ?_⟩
    have n18 := k2_ne K c17 (by decide)
    intro x20 e19
    have h := h x20 e19
    obtain ⟨c21, h⟩ := h
    refine ⟨c21, ?_⟩
    have n22 := k2_ne K c21 (by decide)
    obtain ⟨c23, h⟩ := h
    refine ⟨c23, ?_⟩
    intro x25 e24
    have h := h x25 e24
    have K := k2_I K e24 n22
    intro x27 e26
    have h := h x27 e26
    exact hX24 _ _ _ _ h K
  · intro c28
    have h := h.2 c28
    exact ⟨h, K⟩
set_option maxRecDepth 20000 in
set_option maxHeartbeats 1000000 in
theorem kfB_X11_readSeen_24 {Q : HS → Prop} {X24 X24_2 : Nat → Int32 → Int32 → HS → Prop} {v0 : Nat} {v1 : Int32} {v2 : Int32} {S0 S : HS} (h : B_X11_readSeen_24 Q X24 v0 v1 v2 S) (K : K2 S0 S) (hX24 : ∀ (u0 : Nat) (u1 : Int32) (u2 : Int32) (u3 : HS), X24 u0 u1 u2 u3 → K2 S0 u3 → X24_2 u0 u1 u2 u3) : B_X11_readSeen_24 (fun T => Q T ∧ K2 S0 T) X24_2 v0 v1 v2 S := by
  delta B_X11_readSeen_24 at h ⊢
  refine ⟨?_, ?_⟩
  · intro c1
    have h := h.1 c1
    obtain ⟨c2, h⟩ := h
    refine ⟨c2, ?_⟩
    have n3 := k2_ne K c2 (by decide)
    obtain ⟨b4, e5, h⟩ := h
    refine ⟨b4, e5, ?_⟩
    obtain ⟨c6, h⟩ := h
    refine ⟨c6, ?_⟩
    have n7 := k2_ne K c6 (by decide)
    obtain ⟨b8, e9, h⟩ := h
    refine ⟨b8, e9, ?_⟩
    obtain ⟨b10, e11, h⟩ := h
    refine ⟨b10, e11, ?_⟩
    obtain ⟨c12, h⟩ := h
    refine ⟨c12, ?_⟩
    have n13 := k2_ne K c12 (by decide)
    intro x15 e14
    have h := h x15 e14
    obtain ⟨c16, h⟩ := h
    refine ⟨c16, ?_⟩
    have n17 := k2_ne K c16 (by decide)
    obtain ⟨c18, h⟩ := h
    refine ⟨c18, ?_⟩
    intro x20 e19
    have h := h x20 e19
    have K := k2_I K e19 n17
    obtain ⟨b21, e22, h⟩ := h
    refine ⟨b21, e22, ?_⟩
    obtain ⟨c23, h⟩ := h
    refine ⟨c23, ?_⟩
    have n24 := k2_ne K c23 (by decide)
    intro x26 e25
    have h := h x26 e25
    intro x28 e27
    have h := h x28 e27
    intro x30 e29
    have h := h x30 e29
    have K := k2_I K e29 n24
    exact ⟨h, K⟩
  · intro c31
    have h := h.2 c31
    refine ⟨?_, ?_⟩
    · intro c32
      have h := h.1 c32
      exact kf_X11_readSeen_47 h K hX24
    · intro c33
      have h := h.2 c33
      obtain ⟨c34, h⟩ := h
      refine ⟨c34, ?_⟩
      have n35 := k2_ne K c34 (by decide)
      refine cm_X11_eatsSign (kf_X11_eatsSign h) h (fun x36 x37 hp h g38 g39 => ?_)
      have h := h g38 g39
      have K := k2_tr K hp.2
      refine ⟨?_, ?_⟩
      · intro c40
        have h := h.1 c40
        exact kf_X11_readSeen_47 h K hX24
      · intro c41
        have h := h.2 c41
        refine cm_X11_flaw (kf_X11_flaw h) h (fun x42 hp h g43 => ?_)
        have h := h g43
        have K := k2_tr K hp.2
        exact kf_X11_readSeen_47 h K hX24
theorem kf_X11_readSeen_24 {Q : HS → Prop} {v0 : Nat} {v1 : Int32} {v2 : Int32} {S0 S : HS} (h : P_X11_readSeen_24 Q v0 v1 v2 S) (K : K2 S0 S) : P_X11_readSeen_24 (fun T => Q T ∧ K2 S0 T) v0 v1 v2 S := h (fun v0 v1 v2 S => K2 S0 S → P_X11_readSeen_24 (fun T => Q T ∧ K2 S0 T) v0 v1 v2 S) (fun v0 v1 v2 S hB K => fd_X11_readSeen_24 (kfB_X11_readSeen_24 hB K (fun _ _ _ _ hx K => hx K))) K
set_option maxRecDepth 20000 in
set_option maxHeartbeats 1000000 in
theorem kf_X11_readSeen_0 {Q : HS → Prop} {v0 : Nat} {S0 S : HS} (h : P_X11_readSeen_0 Q v0 S) (K : K2 S0 S) : P_X11_readSeen_0 (fun T => Q T ∧ K2 S0 T) v0 S := by
  delta P_X11_readSeen_0 at h ⊢
  obtain ⟨c1, h⟩ := h
  refine ⟨c1, ?_⟩
  have n2 := k2_ne K c1 (by decide)
  obtain ⟨b3, e4, h⟩ := h
  refine ⟨b3, e4, ?_⟩
  obtain ⟨c5, h⟩ := h
  refine ⟨c5, ?_⟩
  have n6 := k2_ne K c5 (by decide)
  intro x8 e7
  have h := h x8 e7
  refine cm_X11_begins (kf_X11_begins h) h (fun x9 hp h g10 => ?_)
  have h := h g10
  have K := k2_tr K hp.2
  refine cm_X11_known (kf_X11_known h) h (fun x11 x12 hp h g13 => ?_)
  have h := h g13
  have K := k2_tr K hp.2
  refine cm_X11_goesOn (kf_X11_goesOn h) h (fun x14 hp h g15 => ?_)
  have h := h g15
  have K := k2_tr K hp.2
  exact kf_X11_readSeen_24 h K
theorem kf_X11_readSeen {Q : HS → Prop} {v0 : Nat} {S : HS} (h : P_X11_readSeen v0 Q S) : P_X11_readSeen v0 (fun T => Q T ∧ K2 S T) S := kf_X11_readSeen_0 h (k2_rf S)
set_option maxRecDepth 20000 in
set_option maxHeartbeats 1000000 in
theorem kf_X11_readWalker_149 {Q : HS → Prop} {v0 : Nat} {v1 : Int64} {v3 : Int32} {v4 : Int32} {s0 : Int32} {S0 S : HS} (h : P_X11_readWalker_149 Q v0 v1 v3 v4 s0 S) (K : K2 S0 S) : P_X11_readWalker_149 (fun T => Q T ∧ K2 S0 T) v0 v1 v3 v4 s0 S := by
  delta P_X11_readWalker_149 at h ⊢
  obtain ⟨c1, h⟩ := h
  refine ⟨c1, ?_⟩
  have n2 := k2_ne K c1 (by decide)
  refine cm_X11_readPart (kf_X11_readPart h) h (fun x3 x4 hp h g5 => ?_)
  have h := h g5
  have K := k2_tr K hp.2
  refine cm_X11_readPart (kf_X11_readPart h) h (fun x6 x7 hp h g8 => ?_)
  have h := h g8
  have K := k2_tr K hp.2
  refine cm_X11_readPart (kf_X11_readPart h) h (fun x9 x10 hp h g11 => ?_)
  have h := h g11
  have K := k2_tr K hp.2
  refine cm_X11_readPart (kf_X11_readPart h) h (fun x12 x13 hp h g14 => ?_)
  have h := h g14
  have K := k2_tr K hp.2
  refine cm_X11_readPart (kf_X11_readPart h) h (fun x15 x16 hp h g17 => ?_)
  have h := h g17
  have K := k2_tr K hp.2
  intro x19 e18
  have h := h x19 e18
  refine ⟨?_, ?_⟩
  · intro c20
    have h := h.1 c20
    obtain ⟨b21, e22, h⟩ := h
    refine ⟨b21, e22, ?_⟩
    obtain ⟨c23, h⟩ := h
    refine ⟨c23, ?_⟩
    have n24 := k2_ne K c23 (by decide)
    intro x26 e25
    have h := h x26 e25
    refine cm_X11_names (kf_X11_names h) h (fun x27 hp h g28 => ?_)
    have h := h g28
    have K := k2_tr K hp.2
    obtain ⟨b29, e30, h⟩ := h
    refine ⟨b29, e30, ?_⟩
    obtain ⟨c31, h⟩ := h
    refine ⟨c31, ?_⟩
    have n32 := k2_ne K c31 (by decide)
    obtain ⟨b33, e34, h⟩ := h
    refine ⟨b33, e34, ?_⟩
    obtain ⟨c35, h⟩ := h
    refine ⟨c35, ?_⟩
    have n36 := k2_ne K c35 (by decide)
    obtain ⟨c37, h⟩ := h
    refine ⟨c37, ?_⟩
    intro x39 e38
    have h := h x39 e38
    have K := k2_I K e38 n36
    obtain ⟨b40, e41, h⟩ := h
    refine ⟨b40, e41, ?_⟩
    obtain ⟨c42, h⟩ := h
    refine ⟨c42, ?_⟩
    have n43 := k2_ne K c42 (by decide)
    obtain ⟨b44, e45, h⟩ := h
    refine ⟨b44, e45, ?_⟩
    obtain ⟨c46, h⟩ := h
    refine ⟨c46, ?_⟩
    have n47 := k2_ne K c46 (by decide)
    obtain ⟨c48, h⟩ := h
    refine ⟨c48, ?_⟩
    intro x50 e49
    have h := h x50 e49
    have K := k2_I K e49 n47
    obtain ⟨b51, e52, h⟩ := h
    refine ⟨b51, e52, ?_⟩
    obtain ⟨c53, h⟩ := h
    refine ⟨c53, ?_⟩
    have n54 := k2_ne K c53 (by decide)
    obtain ⟨b55, e56, h⟩ := h
    refine ⟨b55, e56, ?_⟩
    obtain ⟨c57, h⟩ := h
    refine ⟨c57, ?_⟩
    have n58 := k2_ne K c57 (by decide)
    intro x60 e59
    have h := h x60 e59
    obtain ⟨c61, h⟩ := h
    refine ⟨c61, ?_⟩
    intro x63 e62
    have h := h x63 e62
    have K := k2_I K e62 n58
    obtain ⟨b64, e65, h⟩ := h
    refine ⟨b64, e65, ?_⟩
    obtain ⟨c66, h⟩ := h
    refine ⟨c66, ?_⟩
    have n67 := k2_ne K c66 (by decide)
    obtain ⟨b68, e69, h⟩ := h
    refine ⟨b68, e69, ?_⟩
    obtain ⟨c70, h⟩ := h
    refine ⟨c70, ?_⟩
    have n71 := k2_ne K c70 (by decide)
    intro x73 e72
    have h := h x73 e72
    obtain ⟨c74, h⟩ := h
    refine ⟨c74, ?_⟩
    intro x76 e75
    have h := h x76 e75
    have K := k2_I K e75 n71
    obtain ⟨b77, e78, h⟩ := h
    refine ⟨b77, e78, ?_⟩
    obtain ⟨c79, h⟩ := h
    refine ⟨c79, ?_⟩
    have n80 := k2_ne K c79 (by decide)
    obtain ⟨b81, e82, h⟩ := h
    refine ⟨b81, e82, ?_⟩
    obtain ⟨c83, h⟩ := h
    refine ⟨c83, ?_⟩
    have n84 := k2_ne K c83 (by decide)
    intro x86 e85
    have h := h x86 e85
    obtain ⟨c87, h⟩ := h
    refine ⟨c87, ?_⟩
    intro x89 e88
    have h := h x89 e88
    have K := k2_I K e88 n84
    obtain ⟨b90, e91, h⟩ := h
    refine ⟨b90, e91, ?_⟩
    obtain ⟨c92, h⟩ := h
    refine ⟨c92, ?_⟩
    have n93 := k2_ne K c92 (by decide)
    obtain ⟨b94, e95, h⟩ := h
    refine ⟨b94, e95, ?_⟩
    obtain ⟨c96, h⟩ := h
    refine ⟨c96, ?_⟩
    have n97 := k2_ne K c96 (by decide)
    obtain ⟨c98, h⟩ := h
    refine ⟨c98, ?_⟩
    intro x100 e99
    have h := h x100 e99
    have K := k2_I K e99 n97
    obtain ⟨b101, e102, h⟩ := h
    refine ⟨b101, e102, ?_⟩
    obtain ⟨c103, h⟩ := h
    refine ⟨c103, ?_⟩
    have n104 := k2_ne K c103 (by decide)
    obtain ⟨b105, e106, h⟩ := h
    refine ⟨b105, e106, ?_⟩
    obtain ⟨c107, h⟩ := h
    refine ⟨c107, ?_⟩
    have n108 := k2_ne K c107 (by decide)
    obtain ⟨c109, h⟩ := h
    refine ⟨c109, ?_⟩
    intro x111 e110
    have h := h x111 e110
    have K := k2_I K e110 n108
    obtain ⟨b112, e113, h⟩ := h
    refine ⟨b112, e113, ?_⟩
    obtain ⟨c114, h⟩ := h
    refine ⟨c114, ?_⟩
    have n115 := k2_ne K c114 (by decide)
    intro x117 e116
    have h := h x117 e116
    intro x119 e118
    have h := h x119 e118
    intro x121 e120
    have h := h x121 e120
    have K := k2_I K e120 n115
    exact ⟨h, K⟩
  · intro c122
    have h := h.2 c122
    exact ⟨h, K⟩
set_option maxRecDepth 20000 in
set_option maxHeartbeats 1000000 in
theorem kf_X11_readWalker_136 {Q : HS → Prop} {v0 : Nat} {v1 : Int64} {v3 : Int32} {s0 : Int32} {S0 S : HS} (h : P_X11_readWalker_136 Q v0 v1 v3 s0 S) (K : K2 S0 S) : P_X11_readWalker_136 (fun T => Q T ∧ K2 S0 T) v0 v1 v3 s0 S := by
  delta P_X11_readWalker_136 at h ⊢
  refine ⟨?_, ?_⟩
  · intro c1
    have h := h.1 c1
    exact kf_X11_readWalker_149 h K
  · intro c2
    have h := h.2 c2
    exact kf_X11_readWalker_149 h K
set_option maxRecDepth 20000 in
set_option maxHeartbeats 1000000 in
theorem kf_X11_readWalker_85 {Q : HS → Prop} {v0 : Nat} {v1 : Int64} {v3 : Int32} {S0 S : HS} (h : P_X11_readWalker_85 Q v0 v1 v3 S) (K : K2 S0 S) : P_X11_readWalker_85 (fun T => Q T ∧ K2 S0 T) v0 v1 v3 S := by
  delta P_X11_readWalker_85 at h ⊢
  obtain ⟨c1, h⟩ := h
  refine ⟨c1, ?_⟩
  have n2 := k2_ne K c1 (by decide)
  refine cm_X11_goesOn (kf_X11_goesOn h) h (fun x3 hp h g4 => ?_)
  have h := h g4
  have K := k2_tr K hp.2
  refine ⟨?_, ?_⟩
  · intro c5
    have h := h.1 c5
    refine ⟨?_, ?_⟩
    · intro c6
      have h := h.1 c6
      refine ⟨?_, ?_⟩
      · intro c7
        have h := h.1 c7
        exact kf_X11_readWalker_136 h K
      · intro c8
        have h := h.2 c8
        refine cm_X11_readWhole (kf_X11_readWhole h) h (fun x9 x10 hp h g11 => ?_)
        have h := h g11
        have K := k2_tr K hp.2
        exact kf_X11_readWalker_136 h K
    · intro c12
      have h := h.2 c12
      refine cm_X11_readWhole (kf_X11_readWhole h) h (fun x13 x14 hp h g15 => ?_)
      have h := h g15
      have K := k2_tr K hp.2
      exact kf_X11_readWalker_136 h K
  · intro c16
    have h := h.2 c16
    refine cm_X11_readWhole (kf_X11_readWhole h) h (fun x17 x18 hp h g19 => ?_)
    have h := h g19
    have K := k2_tr K hp.2
    exact kf_X11_readWalker_136 h K
set_option maxRecDepth 20000 in
set_option maxHeartbeats 1000000 in
theorem kf_X11_readWalker_74 {Q : HS → Prop} {v0 : Nat} {v1 : Int64} {s0 : Int32} {S0 S : HS} (h : P_X11_readWalker_74 Q v0 v1 s0 S) (K : K2 S0 S) : P_X11_readWalker_74 (fun T => Q T ∧ K2 S0 T) v0 v1 s0 S := by
  delta P_X11_readWalker_74 at h ⊢
  refine ⟨?_, ?_⟩
  · intro c1
    have h := h.1 c1
    exact kf_X11_readWalker_85 h K
  · intro c2
    have h := h.2 c2
    obtain ⟨c3, h⟩ := h
    refine ⟨c3, ?_⟩
    have n4 := k2_ne K c3 (by decide)
    refine cm_X11_flaw (kf_X11_flaw h) h (fun x5 hp h g6 => ?_)
    have h := h g6
    have K := k2_tr K hp.2
    exact kf_X11_readWalker_85 h K
set_option maxRecDepth 20000 in
set_option maxHeartbeats 1000000 in
theorem kf_X11_readWalker_0 {Q : HS → Prop} {v0 : Nat} {S0 S : HS} (h : P_X11_readWalker_0 Q v0 S) (K : K2 S0 S) : P_X11_readWalker_0 (fun T => Q T ∧ K2 S0 T) v0 S := by
  delta P_X11_readWalker_0 at h ⊢
  obtain ⟨c1, h⟩ := h
  refine ⟨c1, ?_⟩
  have n2 := k2_ne K c1 (by decide)
  obtain ⟨b3, e4, h⟩ := h
  refine ⟨b3, e4, ?_⟩
  obtain ⟨c5, h⟩ := h
  refine ⟨c5, ?_⟩
  have n6 := k2_ne K c5 (by decide)
  intro x8 e7
  have h := h x8 e7
  refine cm_X11_begins (kf_X11_begins h) h (fun x9 hp h g10 => ?_)
  have h := h g10
  have K := k2_tr K hp.2
  refine cm_X11_readFresh (kf_X11_readFresh h) h (fun x11 x12 hp h g13 => ?_)
  have h := h g13
  have K := k2_tr K hp.2
  refine cm_X11_isWord (kf_X11_isWord h) h (fun x14 x15 hp h g16 g17 => ?_)
  have h := h g16 g17
  have K := k2_tr K hp.2
  refine ⟨?_, ?_⟩
  · intro c18
    have h := h.1 c18
    refine cm_X11_isWord (kf_X11_isWord h) h (fun x19 x20 hp h g21 g22 => ?_)
    have h := h g21 g22
    have K := k2_tr K hp.2
    refine ⟨?_, ?_⟩
    · intro c23
      have h := h.1 c23
      refine cm_X11_isWord (kf_X11_isWord h) h (fun x24 x25 hp h g26 g27 => ?_)
      have h := h g26 g27
      have K := k2_tr K hp.2
      refine ⟨?_, ?_⟩
      · intro c28
        have h := h.1 c28
        refine cm_X11_isWord (kf_X11_isWord h) h (fun x29 x30 hp h g31 g32 => ?_)
        have h := h g31 g32
        have K := k2_tr K hp.2
        refine ⟨?_, ?_⟩
        · intro c33
          have h := h.1 c33
          exact kf_X11_readWalker_74 h K
        · intro c34
          have h := h.2 c34
          exact kf_X11_readWalker_74 h K
      · intro c35
        have h := h.2 c35
        exact kf_X11_readWalker_74 h K
    · intro c36
      have h := h.2 c36
      exact kf_X11_readWalker_74 h K
  · intro c37
    have h := h.2 c37
    exact kf_X11_readWalker_74 h K
theorem kf_X11_readWalker {Q : HS → Prop} {v0 : Nat} {S : HS} (h : P_X11_readWalker v0 Q S) : P_X11_readWalker v0 (fun T => Q T ∧ K2 S T) S := kf_X11_readWalker_0 h (k2_rf S)
set_option maxRecDepth 20000 in
set_option maxHeartbeats 1000000 in
theorem kf_X11_readWorld_15 {Q : HS → Prop} {v0 : Nat} {S0 S : HS} (h : P_X11_readWorld_15 Q v0 S) (K : K2 S0 S) : P_X11_readWorld_15 (fun T => Q T ∧ K2 S0 T) v0 S := by
  delta P_X11_readWorld_15 at h ⊢
  obtain ⟨c1, h⟩ := h
  refine ⟨c1, ?_⟩
  have n2 := k2_ne K c1 (by decide)
  refine cm_X11_goesOn (kf_X11_goesOn h) h (fun x3 hp h g4 => ?_)
  have h := h g4
  have K := k2_tr K hp.2
  refine cm_X11_readPart (kf_X11_readPart h) h (fun x5 x6 hp h g7 => ?_)
  have h := h g7
  have K := k2_tr K hp.2
  intro x9 e8
  have h := h x9 e8
  refine ⟨?_, ?_⟩
  · intro c10
    have h := h.1 c10
    exact ⟨h, K⟩
  · intro c11
    have h := h.2 c11
    obtain ⟨b12, e13, h⟩ := h
    refine ⟨b12, e13, ?_⟩
    obtain ⟨c14, h⟩ := h
    refine ⟨c14, ?_⟩
    have n15 := k2_ne K c14 (by decide)
    intro x17 e16
    have h := h x17 e16
    have K := k2_I K e16 n15
    exact ⟨h, K⟩
set_option maxRecDepth 20000 in
set_option maxHeartbeats 1000000 in
theorem kf_X11_readWorld_0 {Q : HS → Prop} {v0 : Nat} {S0 S : HS} (h : P_X11_readWorld_0 Q v0 S) (K : K2 S0 S) : P_X11_readWorld_0 (fun T => Q T ∧ K2 S0 T) v0 S := by
  delta P_X11_readWorld_0 at h ⊢
  obtain ⟨c1, h⟩ := h
  refine ⟨c1, ?_⟩
  have n2 := k2_ne K c1 (by decide)
  obtain ⟨b3, e4, h⟩ := h
  refine ⟨b3, e4, ?_⟩
  obtain ⟨c5, h⟩ := h
  refine ⟨c5, ?_⟩
  have n6 := k2_ne K c5 (by decide)
  intro x8 e7
  have h := h x8 e7
  refine ⟨?_, ?_⟩
  · intro c9
    have h := h.1 c9
    exact kf_X11_readWorld_15 h K
  · intro c10
    have h := h.2 c10
    refine cm_X11_flaw (kf_X11_flaw h) h (fun x11 hp h g12 => ?_)
    have h := h g12
    have K := k2_tr K hp.2
    exact kf_X11_readWorld_15 h K
theorem kf_X11_readWorld {Q : HS → Prop} {v0 : Nat} {S : HS} (h : P_X11_readWorld v0 Q S) : P_X11_readWorld v0 (fun T => Q T ∧ K2 S T) S := kf_X11_readWorld_0 h (k2_rf S)
set_option maxRecDepth 20000 in
set_option maxHeartbeats 1000000 in
theorem kf_X11_readLine_0 {Q : HS → Prop} {v0 : Nat} {S0 S : HS} (h : P_X11_readLine_0 Q v0 S) (K : K2 S0 S) : P_X11_readLine_0 (fun T => Q T ∧ K2 S0 T) v0 S := by
  delta P_X11_readLine_0 at h ⊢
  obtain ⟨c1, h⟩ := h
  refine ⟨c1, ?_⟩
  have n2 := k2_ne K c1 (by decide)
  refine cm_X11_isWord (kf_X11_isWord h) h (fun x3 x4 hp h g5 g6 => ?_)
  have h := h g5 g6
  have K := k2_tr K hp.2
  refine ⟨?_, ?_⟩
  · intro c7
    have h := h.1 c7
    refine cm_X11_isWord (kf_X11_isWord h) h (fun x8 x9 hp h g10 g11 => ?_)
    have h := h g10 g11
    have K := k2_tr K hp.2
    refine ⟨?_, ?_⟩
    · intro c12
      have h := h.1 c12
      refine cm_X11_isWord (kf_X11_isWord h) h (fun x13 x14 hp h g15 g16 => ?_)
      have h := h g15 g16
      have K := k2_tr K hp.2
      refine ⟨?_, ?_⟩
      · intro c17
        have h := h.1 c17
        refine cm_X11_isWord (kf_X11_isWord h) h (fun x18 x19 hp h g20 g21 => ?_)
        have h := h g20 g21
        have K := k2_tr K hp.2
        refine ⟨?_, ?_⟩
        · intro c22
          have h := h.1 c22
          refine cm_X11_isWord (kf_X11_isWord h) h (fun x23 x24 hp h g25 g26 => ?_)
          have h := h g25 g26
          have K := k2_tr K hp.2
          refine ⟨?_, ?_⟩
          · intro c27
            have h := h.1 c27
            refine cm_X11_isWord (kf_X11_isWord h) h (fun x28 x29 hp h g30 g31 => ?_)
            have h := h g30 g31
            have K := k2_tr K hp.2
            refine ⟨?_, ?_⟩
            · intro c32
              have h := h.1 c32
              refine cm_X11_flaw (kf_X11_flaw h) h (fun x33 hp h g34 => ?_)
              have h := h g34
              have K := k2_tr K hp.2
              exact ⟨h, K⟩
            · intro c35
              have h := h.2 c35
              refine cm_X11_readSeen (kf_X11_readSeen h) h (fun x36 hp h g37 => ?_)
              have h := h g37
              have K := k2_tr K hp.2
              exact ⟨h, K⟩
          · intro c38
            have h := h.2 c38
            refine cm_X11_readWalker (kf_X11_readWalker h) h (fun x39 hp h g40 => ?_)
            have h := h g40
            have K := k2_tr K hp.2
            exact ⟨h, K⟩
        · intro c41
          have h := h.2 c41
          refine cm_X11_readRoad (kf_X11_readRoad h) h (fun x42 hp h g43 => ?_)
          have h := h g43
          have K := k2_tr K hp.2
          exact ⟨h, K⟩
      · intro c44
        have h := h.2 c44
        refine cm_X11_readPlace (kf_X11_readPlace h) h (fun x45 hp h g46 => ?_)
        have h := h g46
        have K := k2_tr K hp.2
        exact ⟨h, K⟩
    · intro c47
      have h := h.2 c47
      refine cm_X11_readRain (kf_X11_readRain h) h (fun x48 hp h g49 => ?_)
      have h := h g49
      have K := k2_tr K hp.2
      exact ⟨h, K⟩
  · intro c50
    have h := h.2 c50
    refine cm_X11_readWorld (kf_X11_readWorld h) h (fun x51 hp h g52 => ?_)
    have h := h g52
    have K := k2_tr K hp.2
    exact ⟨h, K⟩
theorem kf_X11_readLine {Q : HS → Prop} {v0 : Nat} {S : HS} (h : P_X11_readLine v0 Q S) : P_X11_readLine v0 (fun T => Q T ∧ K2 S T) S := kf_X11_readLine_0 h (k2_rf S)
set_option maxRecDepth 20000 in
set_option maxHeartbeats 1000000 in
theorem kf_X11_readAll_63 {Q : HS → Prop} {v0 : Nat} {S0 S : HS} (h : P_X11_readAll_63 Q v0 S) (K : K2 S0 S) : P_X11_readAll_63 (fun T => Q T ∧ K2 S0 T) v0 S := by
  delta P_X11_readAll_63 at h ⊢
  obtain ⟨c1, h⟩ := h
  refine ⟨c1, ?_⟩
  have n2 := k2_ne K c1 (by decide)
  refine cm_X11_flaw (kf_X11_flaw h) h (fun x3 hp h g4 => ?_)
  have h := h g4
  have K := k2_tr K hp.2
  exact ⟨h, K⟩
set_option maxRecDepth 20000 in
set_option maxHeartbeats 1000000 in
theorem kf_X11_readAll_33 {Q : HS → Prop} {v0 : Nat} {S0 S : HS} (h : P_X11_readAll_33 Q v0 S) (K : K2 S0 S) : P_X11_readAll_33 (fun T => Q T ∧ K2 S0 T) v0 S := by
  delta P_X11_readAll_33 at h ⊢
  obtain ⟨c1, h⟩ := h
  refine ⟨c1, ?_⟩
  have n2 := k2_ne K c1 (by decide)
  obtain ⟨b3, e4, h⟩ := h
  refine ⟨b3, e4, ?_⟩
  obtain ⟨c5, h⟩ := h
  refine ⟨c5, ?_⟩
  have n6 := k2_ne K c5 (by decide)
  intro x8 e7
  have h := h x8 e7
  refine ⟨?_, ?_⟩
  · intro c9
    have h := h.1 c9
    exact kf_X11_readAll_63 h K
  · intro c10
    have h := h.2 c10
    obtain ⟨b11, e12, h⟩ := h
    refine ⟨b11, e12, ?_⟩
    obtain ⟨c13, h⟩ := h
    refine ⟨c13, ?_⟩
    have n14 := k2_ne K c13 (by decide)
    intro x16 e15
    have h := h x16 e15
    refine ⟨?_, ?_⟩
    · intro c17
      have h := h.1 c17
      exact kf_X11_readAll_63 h K
    · intro c18
      have h := h.2 c18
      obtain ⟨b19, e20, h⟩ := h
      refine ⟨b19, e20, ?_⟩
      obtain ⟨c21, h⟩ := h
      refine ⟨c21, ?_⟩
      have n22 := k2_ne K c21 (by decide)
      intro x24 e23
      have h := h x24 e23
      refine ⟨?_, ?_⟩
      · intro c25
        have h := h.1 c25
        exact ⟨h, K⟩
      · intro c26
        have h := h.2 c26
        exact kf_X11_readAll_63 h K
set_option maxRecDepth 20000 in
set_option maxHeartbeats 1000000 in
theorem kfB_X11_readAll_2 {Q : HS → Prop} {X2 X2_2 : Nat → Int32 → HS → Prop} {v0 : Nat} {v1 : Int32} {S0 S : HS} (h : B_X11_readAll_2 Q X2 v0 v1 S) (K : K2 S0 S) (hX2 : ∀ (u0 : Nat) (u1 : Int32) (u2 : HS), X2 u0 u1 u2 → K2 S0 u2 → X2_2 u0 u1 u2) : B_X11_readAll_2 (fun T => Q T ∧ K2 S0 T) X2_2 v0 v1 S := by
  delta B_X11_readAll_2 at h ⊢
  refine ⟨?_, ?_⟩
  · intro c1
    have h := h.1 c1
    obtain ⟨c2, h⟩ := h
    refine ⟨c2, ?_⟩
    have n3 := k2_ne K c2 (by decide)
    intro x5 e4
    have h := h x5 e4
    refine ⟨?_, ?_⟩
    · intro c6
      have h := h.1 c6
      exact kf_X11_readAll_33 h K
    · intro c7
      have h := h.2 c7
      refine cm_X11_flaw (kf_X11_flaw h) h (fun x8 hp h g9 => ?_)
      have h := h g9
      have K := k2_tr K hp.2
      exact kf_X11_readAll_33 h K
  · intro c10
    have h := h.2 c10
    obtain ⟨c11, h⟩ := h
    refine ⟨c11, ?_⟩
    have n12 := k2_ne K c11 (by decide)
    refine cm_X11_readLine (kf_X11_readLine h) h (fun x13 hp h g14 => ?_)
    have h := h g14
    have K := k2_tr K hp.2
    refine cm_X11_eatsSign (kf_X11_eatsSign h) h (fun x15 x16 hp h g17 g18 => ?_)
    have h := h g17 g18
    have K := k2_tr K hp.2
    exact hX2 _ _ _ h K
theorem kf_X11_readAll_2 {Q : HS → Prop} {v0 : Nat} {v1 : Int32} {S0 S : HS} (h : P_X11_readAll_2 Q v0 v1 S) (K : K2 S0 S) : P_X11_readAll_2 (fun T => Q T ∧ K2 S0 T) v0 v1 S := h (fun v0 v1 S => K2 S0 S → P_X11_readAll_2 (fun T => Q T ∧ K2 S0 T) v0 v1 S) (fun v0 v1 S hB K => fd_X11_readAll_2 (kfB_X11_readAll_2 hB K (fun _ _ _ hx K => hx K))) K
set_option maxRecDepth 20000 in
set_option maxHeartbeats 1000000 in
theorem kf_X11_readAll_0 {Q : HS → Prop} {v0 : Nat} {S0 S : HS} (h : P_X11_readAll_0 Q v0 S) (K : K2 S0 S) : P_X11_readAll_0 (fun T => Q T ∧ K2 S0 T) v0 S := by
  delta P_X11_readAll_0 at h ⊢
  exact kf_X11_readAll_2 h K
theorem kf_X11_readAll {Q : HS → Prop} {v0 : Nat} {S : HS} (h : P_X11_readAll v0 Q S) : P_X11_readAll v0 (fun T => Q T ∧ K2 S T) S := kf_X11_readAll_0 h (k2_rf S)
set_option maxRecDepth 20000 in
set_option maxHeartbeats 1000000 in
theorem kf_X11_road_22 {Q : Int32 → HS → Prop} {v0 : Nat} {S0 S : HS} (h : P_X11_road_22 Q v0 S) (K : K2 S0 S) : P_X11_road_22 (fun r T => Q r T ∧ K2 S0 T) v0 S := by
  delta P_X11_road_22 at h ⊢
  obtain ⟨c1, h⟩ := h
  refine ⟨c1, ?_⟩
  have n2 := k2_ne K c1 (by decide)
  refine cm_X11_refused (kf_X11_refused h) h (fun x3 x4 hp h g5 => ?_)
  have h := h g5
  have K := k2_tr K hp.2
  exact ⟨h, K⟩
set_option maxRecDepth 20000 in
set_option maxHeartbeats 1000000 in
theorem kf_X11_road_0 {Q : Int32 → HS → Prop} {v0 : Nat} {v1 : Int32} {v2 : Int32} {S0 S : HS} (h : P_X11_road_0 Q v0 v1 v2 S) (K : K2 S0 S) : P_X11_road_0 (fun r T => Q r T ∧ K2 S0 T) v0 v1 v2 S := by
  delta P_X11_road_0 at h ⊢
  obtain ⟨c1, h⟩ := h
  refine ⟨c1, ?_⟩
  have n2 := k2_ne K c1 (by decide)
  intro x4 e3
  have h := h x4 e3
  have K := k2_I K e3 n2
  refine cm_X11_isRoad (kf_X11_isRoad h) h (fun x5 x6 hp h g7 g8 => ?_)
  have h := h g7 g8
  have K := k2_tr K hp.2
  refine ⟨?_, ?_⟩
  · intro c9
    have h := h.1 c9
    exact kf_X11_road_22 h K
  · intro c10
    have h := h.2 c10
    refine cm_X11_in (kf_X11_in h) h (fun x11 x12 hp h g13 g14 => ?_)
    have h := h g13 g14
    have K := k2_tr K hp.2
    refine ⟨?_, ?_⟩
    · intro c15
      have h := h.1 c15
      refine ⟨?_, ?_, ?_, ?_, ?_⟩
      · intro c16
        have h := h.1 c16
        obtain ⟨b17, e18, h⟩ := h
        refine ⟨b17, e18, ?_⟩
        obtain ⟨c19, h⟩ := h
        refine ⟨c19, ?_⟩
        have n20 := k2_ne K c19 (by decide)
        obtain ⟨b21, e22, h⟩ := h
        refine ⟨b21, e22, ?_⟩
        obtain ⟨c23, h⟩ := h
        refine ⟨c23, ?_⟩
        have n24 := k2_ne K c23 (by decide)
        obtain ⟨c25, h⟩ := h
        refine ⟨c25, ?_⟩
        intro x27 e26
        have h := h x27 e26
        refine cm_X11_good (kf_X11_good h) h (fun x28 x29 hp h g30 => ?_)
        have h := h g30
        have K := k2_tr K hp.2
        exact ⟨h, K⟩
      · intro c31
        have h := h.2.1 c31
        obtain ⟨b32, e33, h⟩ := h
        refine ⟨b32, e33, ?_⟩
        obtain ⟨c34, h⟩ := h
        refine ⟨c34, ?_⟩
        have n35 := k2_ne K c34 (by decide)
        obtain ⟨b36, e37, h⟩ := h
        refine ⟨b36, e37, ?_⟩
        obtain ⟨c38, h⟩ := h
        refine ⟨c38, ?_⟩
        have n39 := k2_ne K c38 (by decide)
        obtain ⟨c40, h⟩ := h
        refine ⟨c40, ?_⟩
        intro x42 e41
        have h := h x42 e41
        refine cm_X11_good (kf_X11_good h) h (fun x43 x44 hp h g45 => ?_)
        have h := h g45
        have K := k2_tr K hp.2
        exact ⟨h, K⟩
      · intro c46
        have h := h.2.2.1 c46
        obtain ⟨b47, e48, h⟩ := h
        refine ⟨b47, e48, ?_⟩
        obtain ⟨c49, h⟩ := h
        refine ⟨c49, ?_⟩
        have n50 := k2_ne K c49 (by decide)
        obtain ⟨b51, e52, h⟩ := h
        refine ⟨b51, e52, ?_⟩
        obtain ⟨c53, h⟩ := h
        refine ⟨c53, ?_⟩
        have n54 := k2_ne K c53 (by decide)
        obtain ⟨c55, h⟩ := h
        refine ⟨c55, ?_⟩
        intro x57 e56
        have h := h x57 e56
        refine cm_X11_good (kf_X11_good h) h (fun x58 x59 hp h g60 => ?_)
        have h := h g60
        have K := k2_tr K hp.2
        exact ⟨h, K⟩
      · intro c61
        have h := h.2.2.2.1 c61
        obtain ⟨b62, e63, h⟩ := h
        refine ⟨b62, e63, ?_⟩
        obtain ⟨c64, h⟩ := h
        refine ⟨c64, ?_⟩
        have n65 := k2_ne K c64 (by decide)
        obtain ⟨b66, e67, h⟩ := h
        refine ⟨b66, e67, ?_⟩
        obtain ⟨c68, h⟩ := h
        refine ⟨c68, ?_⟩
        have n69 := k2_ne K c68 (by decide)
        obtain ⟨c70, h⟩ := h
        refine ⟨c70, ?_⟩
        intro x72 e71
        have h := h x72 e71
        refine cm_X11_good (kf_X11_good h) h (fun x73 x74 hp h g75 => ?_)
        have h := h g75
        have K := k2_tr K hp.2
        exact ⟨h, K⟩
      · intro c76
        have h := h.2.2.2.2 c76
        obtain ⟨b77, e78, h⟩ := h
        refine ⟨b77, e78, ?_⟩
        obtain ⟨c79, h⟩ := h
        refine ⟨c79, ?_⟩
        have n80 := k2_ne K c79 (by decide)
        obtain ⟨b81, e82, h⟩ := h
        refine ⟨b81, e82, ?_⟩
        obtain ⟨c83, h⟩ := h
        refine ⟨c83, ?_⟩
        have n84 := k2_ne K c83 (by decide)
        obtain ⟨c85, h⟩ := h
        refine ⟨c85, ?_⟩
        intro x87 e86
        have h := h x87 e86
        refine cm_X11_good (kf_X11_good h) h (fun x88 x89 hp h g90 => ?_)
        have h := h g90
        have K := k2_tr K hp.2
        exact ⟨h, K⟩
    · intro c91
      have h := h.2 c91
      exact kf_X11_road_22 h K
theorem kf_X11_road {Q : Int32 → HS → Prop} {v0 : Nat} {v1 : Int32} {v2 : Int32} {S : HS} (h : P_X11_road v0 v1 v2 Q S) : P_X11_road v0 v1 v2 (fun r T => Q r T ∧ K2 S T) S := kf_X11_road_0 h (k2_rf S)
set_option maxRecDepth 20000 in
set_option maxHeartbeats 1000000 in
theorem kf_X11_round_29 {Q : Int64 → HS → Prop} {v0 : Nat} {S0 S : HS} (h : P_X11_round_29 Q v0 S) (K : K2 S0 S) : P_X11_round_29 (fun r T => Q r T ∧ K2 S0 T) v0 S := by
  delta P_X11_round_29 at h ⊢
  obtain ⟨c1, h⟩ := h
  refine ⟨c1, ?_⟩
  have n2 := k2_ne K c1 (by decide)
  refine cm_X11_refused (kf_X11_refused h) h (fun x3 x4 hp h g5 => ?_)
  have h := h g5
  have K := k2_tr K hp.2
  exact ⟨h, K⟩
set_option maxRecDepth 20000 in
set_option maxHeartbeats 1000000 in
theorem kf_X11_round_0 {Q : Int64 → HS → Prop} {v0 : Nat} {v1 : Int32} {v2 : Int32} {v3 : Int32} {v4 : Int32} {S0 S : HS} (h : P_X11_round_0 Q v0 v1 v2 v3 v4 S) (K : K2 S0 S) : P_X11_round_0 (fun r T => Q r T ∧ K2 S0 T) v0 v1 v2 v3 v4 S := by
  delta P_X11_round_0 at h ⊢
  obtain ⟨c1, h⟩ := h
  refine ⟨c1, ?_⟩
  have n2 := k2_ne K c1 (by decide)
  intro x4 e3
  have h := h x4 e3
  have K := k2_I K e3 n2
  refine cm_X11_isWalker (kf_X11_isWalker h) h (fun x5 x6 hp h g7 g8 => ?_)
  have h := h g7 g8
  have K := k2_tr K hp.2
  refine ⟨?_, ?_⟩
  · intro c9
    have h := h.1 c9
    exact kf_X11_round_29 h K
  · intro c10
    have h := h.2 c10
    refine cm_X11_isRoad (kf_X11_isRoad h) h (fun x11 x12 hp h g13 g14 => ?_)
    have h := h g13 g14
    have K := k2_tr K hp.2
    refine ⟨?_, ?_⟩
    · intro c15
      have h := h.1 c15
      exact kf_X11_round_29 h K
    · intro c16
      have h := h.2 c16
      refine cm_X11_isHour (kf_X11_isHour h) h (fun x17 x18 hp h g19 g20 => ?_)
      have h := h g19 g20
      have K := k2_tr K hp.2
      refine ⟨?_, ?_⟩
      · intro c21
        have h := h.1 c21
        refine cm_X11_wetAtBest (kf_X11_wetAtBest h) h (fun x22 x23 hp h g24 => ?_)
        have h := h g24
        have K := k2_tr K hp.2
        refine cm_X11_wetAtBest (kf_X11_wetAtBest h) h (fun x25 x26 hp h g27 => ?_)
        have h := h g27
        have K := k2_tr K hp.2
        refine cm_X11_told (kf_X11_told h) h (fun x28 x29 hp h g30 => ?_)
        have h := h g30
        have K := k2_tr K hp.2
        exact ⟨h, K⟩
      · intro c31
        have h := h.2 c31
        exact kf_X11_round_29 h K
theorem kf_X11_round {Q : Int64 → HS → Prop} {v0 : Nat} {v1 : Int32} {v2 : Int32} {v3 : Int32} {v4 : Int32} {S : HS} (h : P_X11_round v0 v1 v2 v3 v4 Q S) : P_X11_round v0 v1 v2 v3 v4 (fun r T => Q r T ∧ K2 S T) S := kf_X11_round_0 h (k2_rf S)
set_option maxRecDepth 20000 in
set_option maxHeartbeats 1000000 in
theorem kf_X11_saves_39 {Q : Int64 → HS → Prop} {v0 : Nat} {S0 S : HS} (h : P_X11_saves_39 Q v0 S) (K : K2 S0 S) : P_X11_saves_39 (fun r T => Q r T ∧ K2 S0 T) v0 S := by
  delta P_X11_saves_39 at h ⊢
  obtain ⟨c1, h⟩ := h
  refine ⟨c1, ?_⟩
  have n2 := k2_ne K c1 (by decide)
  refine cm_X11_refused (kf_X11_refused h) h (fun x3 x4 hp h g5 => ?_)
  have h := h g5
  have K := k2_tr K hp.2
  exact ⟨h, K⟩
set_option maxRecDepth 20000 in
set_option maxHeartbeats 1000000 in
theorem kf_X11_saves_0 {Q : Int64 → HS → Prop} {v0 : Nat} {v1 : Int32} {v2 : Int32} {v3 : Int32} {v4 : Int32} {v5 : Int32} {S0 S : HS} (h : P_X11_saves_0 Q v0 v1 v2 v3 v4 v5 S) (K : K2 S0 S) : P_X11_saves_0 (fun r T => Q r T ∧ K2 S0 T) v0 v1 v2 v3 v4 v5 S := by
  delta P_X11_saves_0 at h ⊢
  obtain ⟨c1, h⟩ := h
  refine ⟨c1, ?_⟩
  have n2 := k2_ne K c1 (by decide)
  intro x4 e3
  have h := h x4 e3
  have K := k2_I K e3 n2
  refine cm_X11_isWalker (kf_X11_isWalker h) h (fun x5 x6 hp h g7 g8 => ?_)
  have h := h g7 g8
  have K := k2_tr K hp.2
  refine ⟨?_, ?_⟩
  · intro c9
    have h := h.1 c9
    exact kf_X11_saves_39 h K
  · intro c10
    have h := h.2 c10
    refine cm_X11_isRoad (kf_X11_isRoad h) h (fun x11 x12 hp h g13 g14 => ?_)
    have h := h g13 g14
    have K := k2_tr K hp.2
    refine ⟨?_, ?_⟩
    · intro c15
      have h := h.1 c15
      exact kf_X11_saves_39 h K
    · intro c16
      have h := h.2 c16
      refine cm_X11_in (kf_X11_in h) h (fun x17 x18 hp h g19 g20 => ?_)
      have h := h g19 g20
      have K := k2_tr K hp.2
      refine ⟨?_, ?_⟩
      · intro c21
        have h := h.1 c21
        exact kf_X11_saves_39 h K
      · intro c22
        have h := h.2 c22
        refine cm_X11_isHour (kf_X11_isHour h) h (fun x23 x24 hp h g25 g26 => ?_)
        have h := h g25 g26
        have K := k2_tr K hp.2
        refine ⟨?_, ?_⟩
        · intro c27
          have h := h.1 c27
          obtain ⟨b28, e29, h⟩ := h
          refine ⟨b28, e29, ?_⟩
          obtain ⟨c30, h⟩ := h
          refine ⟨c30, ?_⟩
          have n31 := k2_ne K c30 (by decide)
          obtain ⟨b32, e33, h⟩ := h
          refine ⟨b32, e33, ?_⟩
          obtain ⟨c34, h⟩ := h
          refine ⟨c34, ?_⟩
          have n35 := k2_ne K c34 (by decide)
          obtain ⟨c36, h⟩ := h
          refine ⟨c36, ?_⟩
          intro x38 e37
          have h := h x38 e37
          refine cm_X11_wetOf (kf_X11_wetOf h) h (fun x39 x40 hp h g41 => ?_)
          have h := h g41
          have K := k2_tr K hp.2
          refine cm_X11_bestOf (kf_X11_bestOf h) h (fun x42 x43 hp h g44 => ?_)
          have h := h g44
          have K := k2_tr K hp.2
          refine cm_X11_wetOf (kf_X11_wetOf h) h (fun x45 x46 hp h g47 => ?_)
          have h := h g47
          have K := k2_tr K hp.2
          refine cm_X11_told (kf_X11_told h) h (fun x48 x49 hp h g50 => ?_)
          have h := h g50
          have K := k2_tr K hp.2
          exact ⟨h, K⟩
        · intro c51
          have h := h.2 c51
          exact kf_X11_saves_39 h K
theorem kf_X11_saves {Q : Int64 → HS → Prop} {v0 : Nat} {v1 : Int32} {v2 : Int32} {v3 : Int32} {v4 : Int32} {v5 : Int32} {S : HS} (h : P_X11_saves v0 v1 v2 v3 v4 v5 Q S) : P_X11_saves v0 v1 v2 v3 v4 v5 (fun r T => Q r T ∧ K2 S T) S := kf_X11_saves_0 h (k2_rf S)
